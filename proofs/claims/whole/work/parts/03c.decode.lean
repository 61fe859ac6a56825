theorem dX11_operand_116 : decode cX11_operand 116 = .ok (.iload_n 3, 1) := by decide +kernel
theorem dX11_operand_117 : decode cX11_operand 117 = .ok (.iload_n 2, 1) := by decide +kernel
theorem dX11_operand_118 : decode cX11_operand 118 = .ok (.invokevirtual 265, 3) := by decide +kernel
theorem dX11_operand_121 : decode cX11_operand 121 = .ok (.ifCond .eq 8, 3) := by decide +kernel
theorem dX11_operand_124 : decode cX11_operand 124 = .ok (.bipush 7, 2) := by decide +kernel
theorem dX11_operand_126 : decode cX11_operand 126 = .ok (.goto 5, 3) := by decide +kernel
theorem dX11_operand_129 : decode cX11_operand 129 = .ok (.bipush 8, 2) := by decide +kernel
theorem dX11_operand_131 : decode cX11_operand 131 = .ok (.invokevirtual 250, 3) := by decide +kernel
theorem dX11_operand_134 : decode cX11_operand 134 = .ok (.iconst 0, 1) := by decide +kernel
theorem dX11_operand_135 : decode cX11_operand 135 = .ok (.ireturn, 1) := by decide +kernel
theorem dX11_operand_136 : decode cX11_operand 136 = .ok (.iload_n 2, 1) := by decide +kernel
theorem dX11_operand_137 : decode cX11_operand 137 = .ok (.bipush 10, 2) := by decide +kernel
theorem dX11_operand_139 : decode cX11_operand 139 = .ok (.if_icmp .le 12, 3) := by decide +kernel
theorem dX11_operand_142 : decode cX11_operand 142 = .ok (.aload_n 0, 1) := by decide +kernel
theorem dX11_operand_143 : decode cX11_operand 143 = .ok (.iconst 1, 1) := by decide +kernel
theorem dX11_operand_144 : decode cX11_operand 144 = .ok (.iload_n 3, 1) := by decide +kernel
theorem dX11_operand_145 : decode cX11_operand 145 = .ok (.bipush 10, 2) := by decide +kernel
theorem dX11_operand_147 : decode cX11_operand 147 = .ok (.iadd, 1) := by decide +kernel
theorem dX11_operand_148 : decode cX11_operand 148 = .ok (.invokevirtual 189, 3) := by decide +kernel
theorem dX11_operand_151 : decode cX11_operand 151 = .ok (.aload_n 0, 1) := by decide +kernel
theorem dX11_operand_152 : decode cX11_operand 152 = .ok (.iload_n 3, 1) := by decide +kernel
theorem dX11_operand_153 : decode cX11_operand 153 = .ok (.iload_n 2, 1) := by decide +kernel
theorem dX11_operand_154 : decode cX11_operand 154 = .ok (.invokevirtual 271, 3) := by decide +kernel
theorem dX11_operand_157 : decode cX11_operand 157 = .ok (.istore 4, 2) := by decide +kernel
theorem dX11_operand_159 : decode cX11_operand 159 = .ok (.aload_n 0, 1) := by decide +kernel
theorem dX11_operand_160 : decode cX11_operand 160 = .ok (.iload_n 3, 1) := by decide +kernel
theorem dX11_operand_161 : decode cX11_operand 161 = .ok (.iload_n 2, 1) := by decide +kernel
theorem dX11_operand_162 : decode cX11_operand 162 = .ok (.invokevirtual 275, 3) := by decide +kernel
theorem dX11_operand_165 : decode cX11_operand 165 = .ok (.istore 5, 2) := by decide +kernel
theorem dX11_operand_167 : decode cX11_operand 167 = .ok (.iload 4, 2) := by decide +kernel
theorem dX11_operand_169 : decode cX11_operand 169 = .ok (.iconst (-1), 1) := by decide +kernel
theorem dX11_operand_170 : decode cX11_operand 170 = .ok (.if_icmp .ne 15, 3) := by decide +kernel
theorem dX11_operand_173 : decode cX11_operand 173 = .ok (.iload 5, 2) := by decide +kernel
theorem dX11_operand_175 : decode cX11_operand 175 = .ok (.iconst (-1), 1) := by decide +kernel
theorem dX11_operand_176 : decode cX11_operand 176 = .ok (.if_icmp .ne 9, 3) := by decide +kernel
theorem dX11_operand_179 : decode cX11_operand 179 = .ok (.aload_n 0, 1) := by decide +kernel
theorem dX11_operand_180 : decode cX11_operand 180 = .ok (.iconst 3, 1) := by decide +kernel
theorem dX11_operand_181 : decode cX11_operand 181 = .ok (.iload_n 3, 1) := by decide +kernel
theorem dX11_operand_182 : decode cX11_operand 182 = .ok (.invokevirtual 189, 3) := by decide +kernel
theorem dX11_operand_185 : decode cX11_operand 185 = .ok (.aload_n 0, 1) := by decide +kernel
theorem dX11_operand_186 : decode cX11_operand 186 = .ok (.iload 4, 2) := by decide +kernel
theorem dX11_operand_188 : decode cX11_operand 188 = .ok (.iconst (-1), 1) := by decide +kernel
theorem dX11_operand_189 : decode cX11_operand 189 = .ok (.if_icmp .eq 7, 3) := by decide +kernel
theorem dX11_operand_192 : decode cX11_operand 192 = .ok (.iconst 1, 1) := by decide +kernel
theorem dX11_operand_193 : decode cX11_operand 193 = .ok (.goto 4, 3) := by decide +kernel
theorem dX11_operand_196 : decode cX11_operand 196 = .ok (.iconst 2, 1) := by decide +kernel
theorem dX11_operand_197 : decode cX11_operand 197 = .ok (.iload 4, 2) := by decide +kernel
theorem dX11_operand_199 : decode cX11_operand 199 = .ok (.iconst (-1), 1) := by decide +kernel
theorem dX11_operand_200 : decode cX11_operand 200 = .ok (.if_icmp .eq 8, 3) := by decide +kernel
theorem dX11_operand_203 : decode cX11_operand 203 = .ok (.iload 4, 2) := by decide +kernel
theorem dX11_operand_205 : decode cX11_operand 205 = .ok (.goto 5, 3) := by decide +kernel
theorem dX11_operand_208 : decode cX11_operand 208 = .ok (.iload 5, 2) := by decide +kernel
theorem dX11_operand_210 : decode cX11_operand 210 = .ok (.invokevirtual 244, 3) := by decide +kernel
theorem dX11_operand_213 : decode cX11_operand 213 = .ok (.aload_n 0, 1) := by decide +kernel
theorem dX11_operand_214 : decode cX11_operand 214 = .ok (.dup, 1) := by decide +kernel
theorem dX11_operand_215 : decode cX11_operand 215 = .ok (.getfield 86, 3) := by decide +kernel
theorem dX11_operand_218 : decode cX11_operand 218 = .ok (.iload_n 2, 1) := by decide +kernel
theorem dX11_operand_219 : decode cX11_operand 219 = .ok (.iadd, 1) := by decide +kernel
theorem dX11_operand_220 : decode cX11_operand 220 = .ok (.putfield 86, 3) := by decide +kernel
theorem dX11_operand_223 : decode cX11_operand 223 = .ok (.iconst 1, 1) := by decide +kernel
theorem dX11_operand_224 : decode cX11_operand 224 = .ok (.ireturn, 1) := by decide +kernel
theorem dX11_closes_0 : decode cX11_closes 0 = .ok (.aload_n 0, 1) := by decide +kernel
theorem dX11_closes_1 : decode cX11_closes 1 = .ok (.iconst 1, 1) := by decide +kernel
theorem dX11_closes_2 : decode cX11_closes 2 = .ok (.invokevirtual 278, 3) := by decide +kernel
theorem dX11_closes_5 : decode cX11_closes 5 = .ok (.aload_n 0, 1) := by decide +kernel
theorem dX11_closes_6 : decode cX11_closes 6 = .ok (.getfield 122, 3) := by decide +kernel
theorem dX11_closes_9 : decode cX11_closes 9 = .ok (.aload_n 0, 1) := by decide +kernel
theorem dX11_closes_10 : decode cX11_closes 10 = .ok (.getfield 129, 3) := by decide +kernel
theorem dX11_closes_13 : decode cX11_closes 13 = .ok (.iconst 1, 1) := by decide +kernel
theorem dX11_closes_14 : decode cX11_closes 14 = .ok (.isub, 1) := by decide +kernel
theorem dX11_closes_15 : decode cX11_closes 15 = .ok (.iaload, 1) := by decide +kernel
theorem dX11_closes_16 : decode cX11_closes 16 = .ok (.istore_n 1, 1) := by decide +kernel
theorem dX11_closes_17 : decode cX11_closes 17 = .ok (.iload_n 1, 1) := by decide +kernel
theorem dX11_closes_18 : decode cX11_closes 18 = .ok (.bipush 12, 2) := by decide +kernel
theorem dX11_closes_20 : decode cX11_closes 20 = .ok (.if_icmp .eq 26, 3) := by decide +kernel
theorem dX11_closes_23 : decode cX11_closes 23 = .ok (.aload_n 0, 1) := by decide +kernel
theorem dX11_closes_24 : decode cX11_closes 24 = .ok (.getfield 125, 3) := by decide +kernel
theorem dX11_closes_27 : decode cX11_closes 27 = .ok (.aload_n 0, 1) := by decide +kernel
theorem dX11_closes_28 : decode cX11_closes 28 = .ok (.getfield 129, 3) := by decide +kernel
theorem dX11_closes_31 : decode cX11_closes 31 = .ok (.iconst 1, 1) := by decide +kernel
theorem dX11_closes_32 : decode cX11_closes 32 = .ok (.isub, 1) := by decide +kernel
theorem dX11_closes_33 : decode cX11_closes 33 = .ok (.baload, 1) := by decide +kernel
theorem dX11_closes_34 : decode cX11_closes 34 = .ok (.ifCond .ne 12, 3) := by decide +kernel
theorem dX11_closes_37 : decode cX11_closes 37 = .ok (.aload_n 0, 1) := by decide +kernel
theorem dX11_closes_38 : decode cX11_closes 38 = .ok (.iconst 1, 1) := by decide +kernel
theorem dX11_closes_39 : decode cX11_closes 39 = .ok (.aload_n 0, 1) := by decide +kernel
theorem dX11_closes_40 : decode cX11_closes 40 = .ok (.getfield 86, 3) := by decide +kernel
theorem dX11_closes_43 : decode cX11_closes 43 = .ok (.invokevirtual 189, 3) := by decide +kernel
theorem dX11_closes_46 : decode cX11_closes 46 = .ok (.aload_n 0, 1) := by decide +kernel
theorem dX11_closes_47 : decode cX11_closes 47 = .ok (.getfield 92, 3) := by decide +kernel
theorem dX11_closes_50 : decode cX11_closes 50 = .ok (.ifCond .le 4, 3) := by decide +kernel
theorem dX11_closes_53 : decode cX11_closes 53 = .ok (.return_, 1) := by decide +kernel
theorem dX11_closes_54 : decode cX11_closes 54 = .ok (.aload_n 0, 1) := by decide +kernel
theorem dX11_closes_55 : decode cX11_closes 55 = .ok (.dup, 1) := by decide +kernel
theorem dX11_closes_56 : decode cX11_closes 56 = .ok (.getfield 129, 3) := by decide +kernel
theorem dX11_closes_59 : decode cX11_closes 59 = .ok (.iconst 1, 1) := by decide +kernel
theorem dX11_closes_60 : decode cX11_closes 60 = .ok (.isub, 1) := by decide +kernel
theorem dX11_closes_61 : decode cX11_closes 61 = .ok (.putfield 129, 3) := by decide +kernel
theorem dX11_closes_64 : decode cX11_closes 64 = .ok (.aload_n 0, 1) := by decide +kernel
theorem dX11_closes_65 : decode cX11_closes 65 = .ok (.dup, 1) := by decide +kernel
theorem dX11_closes_66 : decode cX11_closes 66 = .ok (.getfield 132, 3) := by decide +kernel
theorem dX11_closes_69 : decode cX11_closes 69 = .ok (.iconst 1, 1) := by decide +kernel
theorem dX11_closes_70 : decode cX11_closes 70 = .ok (.isub, 1) := by decide +kernel
theorem dX11_closes_71 : decode cX11_closes 71 = .ok (.putfield 132, 3) := by decide +kernel
theorem dX11_closes_74 : decode cX11_closes 74 = .ok (.aload_n 0, 1) := by decide +kernel
theorem dX11_closes_75 : decode cX11_closes 75 = .ok (.dup, 1) := by decide +kernel
theorem dX11_closes_76 : decode cX11_closes 76 = .ok (.getfield 86, 3) := by decide +kernel
theorem dX11_closes_79 : decode cX11_closes 79 = .ok (.iconst 1, 1) := by decide +kernel
theorem dX11_closes_80 : decode cX11_closes 80 = .ok (.iadd, 1) := by decide +kernel
theorem dX11_closes_81 : decode cX11_closes 81 = .ok (.putfield 86, 3) := by decide +kernel
theorem dX11_closes_84 : decode cX11_closes 84 = .ok (.iload_n 1, 1) := by decide +kernel
theorem dX11_closes_85 : decode cX11_closes 85 = .ok (.bipush 12, 2) := by decide +kernel
theorem dX11_closes_87 : decode cX11_closes 87 = .ok (.if_icmp .eq 9, 3) := by decide +kernel
theorem dX11_closes_90 : decode cX11_closes 90 = .ok (.aload_n 0, 1) := by decide +kernel
theorem dX11_closes_91 : decode cX11_closes 91 = .ok (.iload_n 1, 1) := by decide +kernel
theorem dX11_closes_92 : decode cX11_closes 92 = .ok (.iconst 0, 1) := by decide +kernel
theorem dX11_closes_93 : decode cX11_closes 93 = .ok (.invokevirtual 244, 3) := by decide +kernel
theorem dX11_closes_96 : decode cX11_closes 96 = .ok (.return_, 1) := by decide +kernel
theorem dX11_commas_0 : decode cX11_commas 0 = .ok (.aload_n 0, 1) := by decide +kernel
theorem dX11_commas_1 : decode cX11_commas 1 = .ok (.iconst 1, 1) := by decide +kernel
theorem dX11_commas_2 : decode cX11_commas 2 = .ok (.invokevirtual 278, 3) := by decide +kernel
theorem dX11_commas_5 : decode cX11_commas 5 = .ok (.aload_n 0, 1) := by decide +kernel
theorem dX11_commas_6 : decode cX11_commas 6 = .ok (.getfield 122, 3) := by decide +kernel
theorem dX11_commas_9 : decode cX11_commas 9 = .ok (.aload_n 0, 1) := by decide +kernel
theorem dX11_commas_10 : decode cX11_commas 10 = .ok (.getfield 129, 3) := by decide +kernel
theorem dX11_commas_13 : decode cX11_commas 13 = .ok (.iconst 1, 1) := by decide +kernel
theorem dX11_commas_14 : decode cX11_commas 14 = .ok (.isub, 1) := by decide +kernel
theorem dX11_commas_15 : decode cX11_commas 15 = .ok (.iaload, 1) := by decide +kernel
theorem dX11_commas_16 : decode cX11_commas 16 = .ok (.bipush 12, 2) := by decide +kernel
theorem dX11_commas_18 : decode cX11_commas 18 = .ok (.if_icmp .eq 17, 3) := by decide +kernel
theorem dX11_commas_21 : decode cX11_commas 21 = .ok (.aload_n 0, 1) := by decide +kernel
theorem dX11_commas_22 : decode cX11_commas 22 = .ok (.getfield 125, 3) := by decide +kernel
theorem dX11_commas_25 : decode cX11_commas 25 = .ok (.aload_n 0, 1) := by decide +kernel
theorem dX11_commas_26 : decode cX11_commas 26 = .ok (.getfield 129, 3) := by decide +kernel
theorem dX11_commas_29 : decode cX11_commas 29 = .ok (.iconst 1, 1) := by decide +kernel
theorem dX11_commas_30 : decode cX11_commas 30 = .ok (.isub, 1) := by decide +kernel
theorem dX11_commas_31 : decode cX11_commas 31 = .ok (.baload, 1) := by decide +kernel
theorem dX11_commas_32 : decode cX11_commas 32 = .ok (.ifCond .eq 12, 3) := by decide +kernel
theorem dX11_commas_35 : decode cX11_commas 35 = .ok (.aload_n 0, 1) := by decide +kernel
theorem dX11_commas_36 : decode cX11_commas 36 = .ok (.iconst 1, 1) := by decide +kernel
theorem dX11_commas_37 : decode cX11_commas 37 = .ok (.aload_n 0, 1) := by decide +kernel
theorem dX11_commas_38 : decode cX11_commas 38 = .ok (.getfield 86, 3) := by decide +kernel
theorem dX11_commas_41 : decode cX11_commas 41 = .ok (.invokevirtual 189, 3) := by decide +kernel
theorem dX11_commas_44 : decode cX11_commas 44 = .ok (.aload_n 0, 1) := by decide +kernel
theorem dX11_commas_45 : decode cX11_commas 45 = .ok (.getfield 92, 3) := by decide +kernel
theorem dX11_commas_48 : decode cX11_commas 48 = .ok (.ifCond .le 4, 3) := by decide +kernel
theorem dX11_commas_51 : decode cX11_commas 51 = .ok (.return_, 1) := by decide +kernel
theorem dX11_commas_52 : decode cX11_commas 52 = .ok (.aload_n 0, 1) := by decide +kernel
theorem dX11_commas_53 : decode cX11_commas 53 = .ok (.getfield 125, 3) := by decide +kernel
theorem dX11_commas_56 : decode cX11_commas 56 = .ok (.aload_n 0, 1) := by decide +kernel
theorem dX11_commas_57 : decode cX11_commas 57 = .ok (.getfield 129, 3) := by decide +kernel
theorem dX11_commas_60 : decode cX11_commas 60 = .ok (.iconst 1, 1) := by decide +kernel
theorem dX11_commas_61 : decode cX11_commas 61 = .ok (.isub, 1) := by decide +kernel
theorem dX11_commas_62 : decode cX11_commas 62 = .ok (.iconst 1, 1) := by decide +kernel
theorem dX11_commas_63 : decode cX11_commas 63 = .ok (.bastore, 1) := by decide +kernel
theorem dX11_commas_64 : decode cX11_commas 64 = .ok (.aload_n 0, 1) := by decide +kernel
theorem dX11_commas_65 : decode cX11_commas 65 = .ok (.dup, 1) := by decide +kernel
theorem dX11_commas_66 : decode cX11_commas 66 = .ok (.getfield 86, 3) := by decide +kernel
theorem dX11_commas_69 : decode cX11_commas 69 = .ok (.iconst 1, 1) := by decide +kernel
theorem dX11_commas_70 : decode cX11_commas 70 = .ok (.iadd, 1) := by decide +kernel
theorem dX11_commas_71 : decode cX11_commas 71 = .ok (.putfield 86, 3) := by decide +kernel
theorem dX11_commas_74 : decode cX11_commas 74 = .ok (.return_, 1) := by decide +kernel
theorem dX11_sum_0 : decode cX11_sum 0 = .ok (.aload_n 0, 1) := by decide +kernel
theorem dX11_sum_1 : decode cX11_sum 1 = .ok (.iconst 0, 1) := by decide +kernel
theorem dX11_sum_2 : decode cX11_sum 2 = .ok (.putfield 129, 3) := by decide +kernel
theorem dX11_sum_5 : decode cX11_sum 5 = .ok (.aload_n 0, 1) := by decide +kernel
theorem dX11_sum_6 : decode cX11_sum 6 = .ok (.iconst 0, 1) := by decide +kernel
theorem dX11_sum_7 : decode cX11_sum 7 = .ok (.putfield 132, 3) := by decide +kernel
theorem dX11_sum_10 : decode cX11_sum 10 = .ok (.iconst 0, 1) := by decide +kernel
theorem dX11_sum_11 : decode cX11_sum 11 = .ok (.istore_n 1, 1) := by decide +kernel
theorem dX11_sum_12 : decode cX11_sum 12 = .ok (.iconst 1, 1) := by decide +kernel
theorem dX11_sum_13 : decode cX11_sum 13 = .ok (.istore_n 2, 1) := by decide +kernel
theorem dX11_sum_14 : decode cX11_sum 14 = .ok (.iload_n 2, 1) := by decide +kernel
theorem dX11_sum_15 : decode cX11_sum 15 = .ok (.ifCond .eq 246, 3) := by decide +kernel
theorem dX11_sum_18 : decode cX11_sum 18 = .ok (.aload_n 0, 1) := by decide +kernel
theorem dX11_sum_19 : decode cX11_sum 19 = .ok (.getfield 92, 3) := by decide +kernel
theorem dX11_sum_22 : decode cX11_sum 22 = .ok (.ifCond .ne 239, 3) := by decide +kernel
theorem dX11_sum_25 : decode cX11_sum 25 = .ok (.iload_n 1, 1) := by decide +kernel
theorem dX11_sum_26 : decode cX11_sum 26 = .ok (.ifCond .ne 11, 3) := by decide +kernel
theorem dX11_sum_29 : decode cX11_sum 29 = .ok (.aload_n 0, 1) := by decide +kernel
theorem dX11_sum_30 : decode cX11_sum 30 = .ok (.invokevirtual 282, 3) := by decide +kernel
theorem dX11_sum_33 : decode cX11_sum 33 = .ok (.istore_n 1, 1) := by decide +kernel
theorem dX11_sum_34 : decode cX11_sum 34 = .ok (.goto (-20), 3) := by decide +kernel
theorem dX11_sum_37 : decode cX11_sum 37 = .ok (.aload_n 0, 1) := by decide +kernel
theorem dX11_sum_38 : decode cX11_sum 38 = .ok (.invokevirtual 186, 3) := by decide +kernel
theorem dX11_sum_41 : decode cX11_sum 41 = .ok (.istore_n 3, 1) := by decide +kernel
theorem dX11_sum_42 : decode cX11_sum 42 = .ok (.iload_n 3, 1) := by decide +kernel
theorem dX11_sum_43 : decode cX11_sum 43 = .ok (.bipush 43, 2) := by decide +kernel
theorem dX11_sum_45 : decode cX11_sum 45 = .ok (.if_icmp .eq 15, 3) := by decide +kernel
theorem dX11_sum_48 : decode cX11_sum 48 = .ok (.iload_n 3, 1) := by decide +kernel
theorem dX11_sum_49 : decode cX11_sum 49 = .ok (.bipush 45, 2) := by decide +kernel
theorem dX11_sum_51 : decode cX11_sum 51 = .ok (.if_icmp .eq 9, 3) := by decide +kernel
theorem dX11_sum_54 : decode cX11_sum 54 = .ok (.iload_n 3, 1) := by decide +kernel
theorem dX11_sum_55 : decode cX11_sum 55 = .ok (.bipush 42, 2) := by decide +kernel
theorem dX11_sum_57 : decode cX11_sum 57 = .ok (.if_icmp .ne 73, 3) := by decide +kernel
theorem dX11_sum_60 : decode cX11_sum 60 = .ok (.aload_n 0, 1) := by decide +kernel
theorem dX11_sum_61 : decode cX11_sum 61 = .ok (.iload_n 3, 1) := by decide +kernel
theorem dX11_sum_62 : decode cX11_sum 62 = .ok (.bipush 42, 2) := by decide +kernel
theorem dX11_sum_64 : decode cX11_sum 64 = .ok (.if_icmp .eq 7, 3) := by decide +kernel
theorem dX11_sum_67 : decode cX11_sum 67 = .ok (.iconst 1, 1) := by decide +kernel
theorem dX11_sum_68 : decode cX11_sum 68 = .ok (.goto 4, 3) := by decide +kernel
theorem dX11_sum_71 : decode cX11_sum 71 = .ok (.iconst 0, 1) := by decide +kernel
theorem dX11_sum_72 : decode cX11_sum 72 = .ok (.invokevirtual 278, 3) := by decide +kernel
theorem dX11_sum_75 : decode cX11_sum 75 = .ok (.aload_n 0, 1) := by decide +kernel
theorem dX11_sum_76 : decode cX11_sum 76 = .ok (.getfield 122, 3) := by decide +kernel
theorem dX11_sum_79 : decode cX11_sum 79 = .ok (.aload_n 0, 1) := by decide +kernel
theorem dX11_sum_80 : decode cX11_sum 80 = .ok (.getfield 129, 3) := by decide +kernel
theorem dX11_sum_83 : decode cX11_sum 83 = .ok (.iload_n 3, 1) := by decide +kernel
theorem dX11_sum_84 : decode cX11_sum 84 = .ok (.bipush 43, 2) := by decide +kernel
theorem dX11_sum_86 : decode cX11_sum 86 = .ok (.if_icmp .ne 7, 3) := by decide +kernel
theorem dX11_sum_89 : decode cX11_sum 89 = .ok (.iconst 3, 1) := by decide +kernel
theorem dX11_sum_90 : decode cX11_sum 90 = .ok (.goto 14, 3) := by decide +kernel
theorem dX11_sum_93 : decode cX11_sum 93 = .ok (.iload_n 3, 1) := by decide +kernel
theorem dX11_sum_94 : decode cX11_sum 94 = .ok (.bipush 45, 2) := by decide +kernel
theorem dX11_sum_96 : decode cX11_sum 96 = .ok (.if_icmp .ne 7, 3) := by decide +kernel
theorem dX11_sum_99 : decode cX11_sum 99 = .ok (.iconst 4, 1) := by decide +kernel
theorem dX11_sum_100 : decode cX11_sum 100 = .ok (.goto 4, 3) := by decide +kernel
theorem dX11_sum_103 : decode cX11_sum 103 = .ok (.iconst 5, 1) := by decide +kernel
theorem dX11_sum_104 : decode cX11_sum 104 = .ok (.iastore, 1) := by decide +kernel
theorem dX11_sum_105 : decode cX11_sum 105 = .ok (.aload_n 0, 1) := by decide +kernel
theorem dX11_sum_106 : decode cX11_sum 106 = .ok (.dup, 1) := by decide +kernel
theorem dX11_sum_107 : decode cX11_sum 107 = .ok (.getfield 129, 3) := by decide +kernel
theorem dX11_sum_110 : decode cX11_sum 110 = .ok (.iconst 1, 1) := by decide +kernel
theorem dX11_sum_111 : decode cX11_sum 111 = .ok (.iadd, 1) := by decide +kernel
theorem dX11_sum_112 : decode cX11_sum 112 = .ok (.putfield 129, 3) := by decide +kernel
theorem dX11_sum_115 : decode cX11_sum 115 = .ok (.aload_n 0, 1) := by decide +kernel
theorem dX11_sum_116 : decode cX11_sum 116 = .ok (.dup, 1) := by decide +kernel
theorem dX11_sum_117 : decode cX11_sum 117 = .ok (.getfield 86, 3) := by decide +kernel
theorem dX11_sum_120 : decode cX11_sum 120 = .ok (.iconst 1, 1) := by decide +kernel
theorem dX11_sum_121 : decode cX11_sum 121 = .ok (.iadd, 1) := by decide +kernel
theorem dX11_sum_122 : decode cX11_sum 122 = .ok (.putfield 86, 3) := by decide +kernel
theorem dX11_sum_125 : decode cX11_sum 125 = .ok (.iconst 0, 1) := by decide +kernel
theorem dX11_sum_126 : decode cX11_sum 126 = .ok (.istore_n 1, 1) := by decide +kernel
theorem dX11_sum_127 : decode cX11_sum 127 = .ok (.goto 131, 3) := by decide +kernel
theorem dX11_sum_130 : decode cX11_sum 130 = .ok (.iload_n 3, 1) := by decide +kernel
theorem dX11_sum_131 : decode cX11_sum 131 = .ok (.bipush 47, 2) := by decide +kernel
theorem dX11_sum_133 : decode cX11_sum 133 = .ok (.if_icmp .ne 65, 3) := by decide +kernel
theorem dX11_sum_136 : decode cX11_sum 136 = .ok (.aload_n 0, 1) := by decide +kernel
theorem dX11_sum_137 : decode cX11_sum 137 = .ok (.iconst 0, 1) := by decide +kernel
theorem dX11_sum_138 : decode cX11_sum 138 = .ok (.invokevirtual 278, 3) := by decide +kernel
theorem dX11_sum_141 : decode cX11_sum 141 = .ok (.aload_n 0, 1) := by decide +kernel
theorem dX11_sum_142 : decode cX11_sum 142 = .ok (.dup, 1) := by decide +kernel
theorem dX11_sum_143 : decode cX11_sum 143 = .ok (.getfield 86, 3) := by decide +kernel
theorem dX11_sum_146 : decode cX11_sum 146 = .ok (.iconst 1, 1) := by decide +kernel
theorem dX11_sum_147 : decode cX11_sum 147 = .ok (.iadd, 1) := by decide +kernel
theorem dX11_sum_148 : decode cX11_sum 148 = .ok (.putfield 86, 3) := by decide +kernel
theorem dX11_sum_151 : decode cX11_sum 151 = .ok (.aload_n 0, 1) := by decide +kernel
theorem dX11_sum_152 : decode cX11_sum 152 = .ok (.invokevirtual 186, 3) := by decide +kernel
theorem dX11_sum_155 : decode cX11_sum 155 = .ok (.pop, 1) := by decide +kernel
theorem dX11_sum_156 : decode cX11_sum 156 = .ok (.aload_n 0, 1) := by decide +kernel
theorem dX11_sum_157 : decode cX11_sum 157 = .ok (.getfield 86, 3) := by decide +kernel
theorem dX11_sum_160 : decode cX11_sum 160 = .ok (.istore 4, 2) := by decide +kernel
theorem dX11_sum_162 : decode cX11_sum 162 = .ok (.aload_n 0, 1) := by decide +kernel
theorem dX11_sum_163 : decode cX11_sum 163 = .ok (.invokevirtual 247, 3) := by decide +kernel
theorem dX11_sum_166 : decode cX11_sum 166 = .ok (.istore 5, 2) := by decide +kernel
theorem dX11_sum_168 : decode cX11_sum 168 = .ok (.aload_n 0, 1) := by decide +kernel
theorem dX11_sum_169 : decode cX11_sum 169 = .ok (.getfield 92, 3) := by decide +kernel
theorem dX11_sum_172 : decode cX11_sum 172 = .ok (.ifCond .ne 15, 3) := by decide +kernel
theorem dX11_sum_175 : decode cX11_sum 175 = .ok (.iload 5, 2) := by decide +kernel
theorem dX11_sum_177 : decode cX11_sum 177 = .ok (.ifCond .ne 10, 3) := by decide +kernel
theorem dX11_sum_180 : decode cX11_sum 180 = .ok (.aload_n 0, 1) := by decide +kernel
theorem dX11_sum_181 : decode cX11_sum 181 = .ok (.iconst 2, 1) := by decide +kernel
theorem dX11_sum_182 : decode cX11_sum 182 = .ok (.iload 4, 2) := by decide +kernel
theorem dX11_sum_184 : decode cX11_sum 184 = .ok (.invokevirtual 189, 3) := by decide +kernel
theorem dX11_sum_187 : decode cX11_sum 187 = .ok (.aload_n 0, 1) := by decide +kernel
theorem dX11_sum_188 : decode cX11_sum 188 = .ok (.bipush 6, 2) := by decide +kernel
theorem dX11_sum_190 : decode cX11_sum 190 = .ok (.iload 5, 2) := by decide +kernel
theorem dX11_sum_192 : decode cX11_sum 192 = .ok (.invokevirtual 244, 3) := by decide +kernel
theorem dX11_sum_195 : decode cX11_sum 195 = .ok (.goto 63, 3) := by decide +kernel
theorem dX11_sum_198 : decode cX11_sum 198 = .ok (.iload_n 3, 1) := by decide +kernel
theorem dX11_sum_199 : decode cX11_sum 199 = .ok (.bipush 41, 2) := by decide +kernel
theorem dX11_sum_201 : decode cX11_sum 201 = .ok (.if_icmp .ne 17, 3) := by decide +kernel
theorem dX11_sum_204 : decode cX11_sum 204 = .ok (.aload_n 0, 1) := by decide +kernel
theorem dX11_sum_205 : decode cX11_sum 205 = .ok (.getfield 132, 3) := by decide +kernel
theorem dX11_sum_208 : decode cX11_sum 208 = .ok (.ifCond .le 10, 3) := by decide +kernel
theorem dX11_sum_211 : decode cX11_sum 211 = .ok (.aload_n 0, 1) := by decide +kernel
theorem dX11_sum_212 : decode cX11_sum 212 = .ok (.invokevirtual 286, 3) := by decide +kernel
theorem dX11_sum_215 : decode cX11_sum 215 = .ok (.goto 43, 3) := by decide +kernel
theorem dX11_sum_218 : decode cX11_sum 218 = .ok (.iload_n 3, 1) := by decide +kernel
theorem dX11_sum_219 : decode cX11_sum 219 = .ok (.bipush 44, 2) := by decide +kernel
theorem dX11_sum_221 : decode cX11_sum 221 = .ok (.if_icmp .ne 19, 3) := by decide +kernel
theorem dX11_sum_224 : decode cX11_sum 224 = .ok (.aload_n 0, 1) := by decide +kernel
theorem dX11_sum_225 : decode cX11_sum 225 = .ok (.getfield 132, 3) := by decide +kernel
theorem dX11_sum_228 : decode cX11_sum 228 = .ok (.ifCond .le 12, 3) := by decide +kernel
theorem dX11_sum_231 : decode cX11_sum 231 = .ok (.aload_n 0, 1) := by decide +kernel
theorem dX11_sum_232 : decode cX11_sum 232 = .ok (.invokevirtual 289, 3) := by decide +kernel
theorem dX11_sum_235 : decode cX11_sum 235 = .ok (.iconst 0, 1) := by decide +kernel
theorem dX11_sum_236 : decode cX11_sum 236 = .ok (.istore_n 1, 1) := by decide +kernel
theorem dX11_sum_237 : decode cX11_sum 237 = .ok (.goto 21, 3) := by decide +kernel
theorem dX11_sum_240 : decode cX11_sum 240 = .ok (.iconst 0, 1) := by decide +kernel
theorem dX11_sum_241 : decode cX11_sum 241 = .ok (.istore_n 2, 1) := by decide +kernel
theorem dX11_sum_242 : decode cX11_sum 242 = .ok (.aload_n 0, 1) := by decide +kernel
theorem dX11_sum_243 : decode cX11_sum 243 = .ok (.getfield 132, 3) := by decide +kernel
theorem dX11_sum_246 : decode cX11_sum 246 = .ok (.ifCond .le 12, 3) := by decide +kernel
theorem dX11_sum_249 : decode cX11_sum 249 = .ok (.aload_n 0, 1) := by decide +kernel
theorem dX11_sum_250 : decode cX11_sum 250 = .ok (.iconst 1, 1) := by decide +kernel
theorem dX11_sum_251 : decode cX11_sum 251 = .ok (.aload_n 0, 1) := by decide +kernel
theorem dX11_sum_252 : decode cX11_sum 252 = .ok (.getfield 86, 3) := by decide +kernel
theorem dX11_sum_255 : decode cX11_sum 255 = .ok (.invokevirtual 189, 3) := by decide +kernel
theorem dX11_sum_258 : decode cX11_sum 258 = .ok (.goto (-244), 3) := by decide +kernel
theorem dX11_sum_261 : decode cX11_sum 261 = .ok (.aload_n 0, 1) := by decide +kernel
theorem dX11_sum_262 : decode cX11_sum 262 = .ok (.getfield 92, 3) := by decide +kernel
theorem dX11_sum_265 : decode cX11_sum 265 = .ok (.ifCond .ne 8, 3) := by decide +kernel
theorem dX11_sum_268 : decode cX11_sum 268 = .ok (.aload_n 0, 1) := by decide +kernel
theorem dX11_sum_269 : decode cX11_sum 269 = .ok (.iconst 1, 1) := by decide +kernel
theorem dX11_sum_270 : decode cX11_sum 270 = .ok (.invokevirtual 278, 3) := by decide +kernel
theorem dX11_sum_273 : decode cX11_sum 273 = .ok (.return_, 1) := by decide +kernel
theorem dX11_statement_0 : decode cX11_statement 0 = .ok (.aload_n 0, 1) := by decide +kernel
theorem dX11_statement_1 : decode cX11_statement 1 = .ok (.invokevirtual 253, 3) := by decide +kernel
theorem dX11_statement_4 : decode cX11_statement 4 = .ok (.istore_n 1, 1) := by decide +kernel
theorem dX11_statement_5 : decode cX11_statement 5 = .ok (.aload_n 0, 1) := by decide +kernel
theorem dX11_statement_6 : decode cX11_statement 6 = .ok (.getfield 86, 3) := by decide +kernel
theorem dX11_statement_9 : decode cX11_statement 9 = .ok (.istore_n 2, 1) := by decide +kernel
theorem dX11_statement_10 : decode cX11_statement 10 = .ok (.iload_n 1, 1) := by decide +kernel
theorem dX11_statement_11 : decode cX11_statement 11 = .ok (.ifCond .eq 12, 3) := by decide +kernel
theorem dX11_statement_14 : decode cX11_statement 14 = .ok (.aload_n 0, 1) := by decide +kernel
theorem dX11_statement_15 : decode cX11_statement 15 = .ok (.getfield 98, 3) := by decide +kernel
theorem dX11_statement_18 : decode cX11_statement 18 = .ok (.bipush 24, 2) := by decide +kernel
theorem dX11_statement_20 : decode cX11_statement 20 = .ok (.if_icmp .ne 9, 3) := by decide +kernel
theorem dX11_statement_23 : decode cX11_statement 23 = .ok (.aload_n 0, 1) := by decide +kernel
theorem dX11_statement_24 : decode cX11_statement 24 = .ok (.iconst 1, 1) := by decide +kernel
theorem dX11_statement_25 : decode cX11_statement 25 = .ok (.iload_n 2, 1) := by decide +kernel
theorem dX11_statement_26 : decode cX11_statement 26 = .ok (.invokevirtual 189, 3) := by decide +kernel
theorem dX11_statement_29 : decode cX11_statement 29 = .ok (.aload_n 0, 1) := by decide +kernel
theorem dX11_statement_30 : decode cX11_statement 30 = .ok (.iload_n 2, 1) := by decide +kernel
theorem dX11_statement_31 : decode cX11_statement 31 = .ok (.iload_n 1, 1) := by decide +kernel
theorem dX11_statement_32 : decode cX11_statement 32 = .ok (.invokevirtual 259, 3) := by decide +kernel
theorem dX11_statement_35 : decode cX11_statement 35 = .ok (.ifCond .ne 21, 3) := by decide +kernel
theorem dX11_statement_38 : decode cX11_statement 38 = .ok (.aload_n 0, 1) := by decide +kernel
theorem dX11_statement_39 : decode cX11_statement 39 = .ok (.iload_n 2, 1) := by decide +kernel
theorem dX11_statement_40 : decode cX11_statement 40 = .ok (.iload_n 1, 1) := by decide +kernel
theorem dX11_statement_41 : decode cX11_statement 41 = .ok (.invokevirtual 265, 3) := by decide +kernel
theorem dX11_statement_44 : decode cX11_statement 44 = .ok (.ifCond .ne 12, 3) := by decide +kernel
theorem dX11_statement_47 : decode cX11_statement 47 = .ok (.aload_n 0, 1) := by decide +kernel
theorem dX11_statement_48 : decode cX11_statement 48 = .ok (.iload_n 2, 1) := by decide +kernel
theorem dX11_statement_49 : decode cX11_statement 49 = .ok (.iload_n 1, 1) := by decide +kernel
theorem dX11_statement_50 : decode cX11_statement 50 = .ok (.invokevirtual 268, 3) := by decide +kernel
theorem dX11_statement_53 : decode cX11_statement 53 = .ok (.ifCond .eq 9, 3) := by decide +kernel
theorem dX11_statement_56 : decode cX11_statement 56 = .ok (.aload_n 0, 1) := by decide +kernel
theorem dX11_statement_57 : decode cX11_statement 57 = .ok (.iconst 1, 1) := by decide +kernel
theorem dX11_statement_58 : decode cX11_statement 58 = .ok (.iload_n 2, 1) := by decide +kernel
theorem dX11_statement_59 : decode cX11_statement 59 = .ok (.invokevirtual 189, 3) := by decide +kernel
theorem dX11_statement_62 : decode cX11_statement 62 = .ok (.iload_n 1, 1) := by decide +kernel
theorem dX11_statement_63 : decode cX11_statement 63 = .ok (.bipush 10, 2) := by decide +kernel
theorem dX11_statement_65 : decode cX11_statement 65 = .ok (.if_icmp .le 12, 3) := by decide +kernel
theorem dX11_statement_68 : decode cX11_statement 68 = .ok (.aload_n 0, 1) := by decide +kernel
theorem dX11_statement_69 : decode cX11_statement 69 = .ok (.iconst 1, 1) := by decide +kernel
theorem dX11_statement_70 : decode cX11_statement 70 = .ok (.iload_n 2, 1) := by decide +kernel
theorem dX11_statement_71 : decode cX11_statement 71 = .ok (.bipush 10, 2) := by decide +kernel
theorem dX11_statement_73 : decode cX11_statement 73 = .ok (.iadd, 1) := by decide +kernel
theorem dX11_statement_74 : decode cX11_statement 74 = .ok (.invokevirtual 189, 3) := by decide +kernel
theorem dX11_statement_77 : decode cX11_statement 77 = .ok (.aload_n 0, 1) := by decide +kernel
theorem dX11_statement_78 : decode cX11_statement 78 = .ok (.getfield 92, 3) := by decide +kernel
theorem dX11_statement_81 : decode cX11_statement 81 = .ok (.ifCond .le 4, 3) := by decide +kernel
theorem dX11_statement_84 : decode cX11_statement 84 = .ok (.return_, 1) := by decide +kernel
theorem dX11_statement_85 : decode cX11_statement 85 = .ok (.aload_n 0, 1) := by decide +kernel
theorem dX11_statement_86 : decode cX11_statement 86 = .ok (.getfield 110, 3) := by decide +kernel
theorem dX11_statement_89 : decode cX11_statement 89 = .ok (.aload_n 0, 1) := by decide +kernel
theorem dX11_statement_90 : decode cX11_statement 90 = .ok (.getfield 98, 3) := by decide +kernel
theorem dX11_statement_93 : decode cX11_statement 93 = .ok (.aload_n 0, 1) := by decide +kernel
theorem dX11_statement_94 : decode cX11_statement 94 = .ok (.getfield 101, 3) := by decide +kernel
theorem dX11_statement_97 : decode cX11_statement 97 = .ok (.iastore, 1) := by decide +kernel
theorem dX11_statement_98 : decode cX11_statement 98 = .ok (.aload_n 0, 1) := by decide +kernel
theorem dX11_statement_99 : decode cX11_statement 99 = .ok (.dup, 1) := by decide +kernel
theorem dX11_statement_100 : decode cX11_statement 100 = .ok (.getfield 86, 3) := by decide +kernel
theorem dX11_statement_103 : decode cX11_statement 103 = .ok (.iload_n 1, 1) := by decide +kernel
theorem dX11_statement_104 : decode cX11_statement 104 = .ok (.iadd, 1) := by decide +kernel
theorem dX11_statement_105 : decode cX11_statement 105 = .ok (.putfield 86, 3) := by decide +kernel
theorem dX11_statement_108 : decode cX11_statement 108 = .ok (.aload_n 0, 1) := by decide +kernel
theorem dX11_statement_109 : decode cX11_statement 109 = .ok (.iload_n 2, 1) := by decide +kernel
theorem dX11_statement_110 : decode cX11_statement 110 = .ok (.iload_n 1, 1) := by decide +kernel
theorem dX11_statement_111 : decode cX11_statement 111 = .ok (.invokevirtual 256, 3) := by decide +kernel
theorem dX11_statement_114 : decode cX11_statement 114 = .ok (.ifCond .eq 160, 3) := by decide +kernel
theorem dX11_statement_117 : decode cX11_statement 117 = .ok (.aload_n 0, 1) := by decide +kernel
theorem dX11_statement_118 : decode cX11_statement 118 = .ok (.getfield 107, 3) := by decide +kernel
theorem dX11_statement_121 : decode cX11_statement 121 = .ok (.aload_n 0, 1) := by decide +kernel
theorem dX11_statement_122 : decode cX11_statement 122 = .ok (.getfield 98, 3) := by decide +kernel
theorem dX11_statement_125 : decode cX11_statement 125 = .ok (.iconst 1, 1) := by decide +kernel
theorem dX11_statement_126 : decode cX11_statement 126 = .ok (.iastore, 1) := by decide +kernel
theorem dX11_statement_127 : decode cX11_statement 127 = .ok (.aload_n 0, 1) := by decide +kernel
theorem dX11_statement_128 : decode cX11_statement 128 = .ok (.invokevirtual 253, 3) := by decide +kernel
theorem dX11_statement_131 : decode cX11_statement 131 = .ok (.istore_n 3, 1) := by decide +kernel
theorem dX11_statement_132 : decode cX11_statement 132 = .ok (.aload_n 0, 1) := by decide +kernel
theorem dX11_statement_133 : decode cX11_statement 133 = .ok (.aload_n 0, 1) := by decide +kernel
theorem dX11_statement_134 : decode cX11_statement 134 = .ok (.getfield 86, 3) := by decide +kernel
theorem dX11_statement_137 : decode cX11_statement 137 = .ok (.iload_n 3, 1) := by decide +kernel
theorem dX11_statement_138 : decode cX11_statement 138 = .ok (.invokevirtual 259, 3) := by decide +kernel
theorem dX11_statement_141 : decode cX11_statement 141 = .ok (.ifCond .ne 12, 3) := by decide +kernel
theorem dX11_statement_144 : decode cX11_statement 144 = .ok (.aload_n 0, 1) := by decide +kernel
theorem dX11_statement_145 : decode cX11_statement 145 = .ok (.iconst 1, 1) := by decide +kernel
theorem dX11_statement_146 : decode cX11_statement 146 = .ok (.aload_n 0, 1) := by decide +kernel
theorem dX11_statement_147 : decode cX11_statement 147 = .ok (.getfield 86, 3) := by decide +kernel
theorem dX11_statement_150 : decode cX11_statement 150 = .ok (.invokevirtual 189, 3) := by decide +kernel
theorem dX11_statement_153 : decode cX11_statement 153 = .ok (.aload_n 0, 1) := by decide +kernel
theorem dX11_statement_154 : decode cX11_statement 154 = .ok (.getfield 92, 3) := by decide +kernel
theorem dX11_statement_157 : decode cX11_statement 157 = .ok (.ifCond .le 4, 3) := by decide +kernel
theorem dX11_statement_160 : decode cX11_statement 160 = .ok (.return_, 1) := by decide +kernel
theorem dX11_statement_161 : decode cX11_statement 161 = .ok (.aload_n 0, 1) := by decide +kernel
theorem dX11_statement_162 : decode cX11_statement 162 = .ok (.dup, 1) := by decide +kernel
theorem dX11_statement_163 : decode cX11_statement 163 = .ok (.getfield 86, 3) := by decide +kernel
theorem dX11_statement_166 : decode cX11_statement 166 = .ok (.iload_n 3, 1) := by decide +kernel
theorem dX11_statement_167 : decode cX11_statement 167 = .ok (.iadd, 1) := by decide +kernel
theorem dX11_statement_168 : decode cX11_statement 168 = .ok (.putfield 86, 3) := by decide +kernel
theorem dX11_statement_171 : decode cX11_statement 171 = .ok (.aload_n 0, 1) := by decide +kernel
theorem dX11_statement_172 : decode cX11_statement 172 = .ok (.invokevirtual 292, 3) := by decide +kernel
theorem dX11_statement_175 : decode cX11_statement 175 = .ok (.aload_n 0, 1) := by decide +kernel
theorem dX11_statement_176 : decode cX11_statement 176 = .ok (.getfield 92, 3) := by decide +kernel
theorem dX11_statement_179 : decode cX11_statement 179 = .ok (.ifCond .le 4, 3) := by decide +kernel
theorem dX11_statement_182 : decode cX11_statement 182 = .ok (.return_, 1) := by decide +kernel
theorem dX11_statement_183 : decode cX11_statement 183 = .ok (.aload_n 0, 1) := by decide +kernel
theorem dX11_statement_184 : decode cX11_statement 184 = .ok (.invokevirtual 186, 3) := by decide +kernel
theorem dX11_statement_187 : decode cX11_statement 187 = .ok (.istore 4, 2) := by decide +kernel
theorem dX11_statement_189 : decode cX11_statement 189 = .ok (.iload 4, 2) := by decide +kernel
theorem dX11_statement_191 : decode cX11_statement 191 = .ok (.bipush 60, 2) := by decide +kernel
theorem dX11_statement_193 : decode cX11_statement 193 = .ok (.if_icmp .eq 26, 3) := by decide +kernel
theorem dX11_statement_196 : decode cX11_statement 196 = .ok (.iload 4, 2) := by decide +kernel
theorem dX11_statement_198 : decode cX11_statement 198 = .ok (.bipush 62, 2) := by decide +kernel
theorem dX11_statement_200 : decode cX11_statement 200 = .ok (.if_icmp .eq 19, 3) := by decide +kernel
theorem dX11_statement_203 : decode cX11_statement 203 = .ok (.iload 4, 2) := by decide +kernel
theorem dX11_statement_205 : decode cX11_statement 205 = .ok (.bipush 61, 2) := by decide +kernel
theorem dX11_statement_207 : decode cX11_statement 207 = .ok (.if_icmp .eq 12, 3) := by decide +kernel
theorem dX11_statement_210 : decode cX11_statement 210 = .ok (.aload_n 0, 1) := by decide +kernel
theorem dX11_statement_211 : decode cX11_statement 211 = .ok (.iconst 1, 1) := by decide +kernel
theorem dX11_statement_212 : decode cX11_statement 212 = .ok (.aload_n 0, 1) := by decide +kernel
theorem dX11_statement_213 : decode cX11_statement 213 = .ok (.getfield 86, 3) := by decide +kernel
theorem dX11_statement_216 : decode cX11_statement 216 = .ok (.invokevirtual 189, 3) := by decide +kernel
theorem dX11_statement_219 : decode cX11_statement 219 = .ok (.aload_n 0, 1) := by decide +kernel
theorem dX11_statement_220 : decode cX11_statement 220 = .ok (.dup, 1) := by decide +kernel
theorem dX11_statement_221 : decode cX11_statement 221 = .ok (.getfield 86, 3) := by decide +kernel
theorem dX11_statement_224 : decode cX11_statement 224 = .ok (.iconst 1, 1) := by decide +kernel
theorem dX11_statement_225 : decode cX11_statement 225 = .ok (.iadd, 1) := by decide +kernel
theorem dX11_statement_226 : decode cX11_statement 226 = .ok (.putfield 86, 3) := by decide +kernel
theorem dX11_statement_229 : decode cX11_statement 229 = .ok (.aload_n 0, 1) := by decide +kernel
theorem dX11_statement_230 : decode cX11_statement 230 = .ok (.getfield 92, 3) := by decide +kernel
theorem dX11_statement_233 : decode cX11_statement 233 = .ok (.ifCond .ne 7, 3) := by decide +kernel
theorem dX11_statement_236 : decode cX11_statement 236 = .ok (.aload_n 0, 1) := by decide +kernel
theorem dX11_statement_237 : decode cX11_statement 237 = .ok (.invokevirtual 292, 3) := by decide +kernel
theorem dX11_statement_240 : decode cX11_statement 240 = .ok (.aload_n 0, 1) := by decide +kernel
theorem dX11_statement_241 : decode cX11_statement 241 = .ok (.iload 4, 2) := by decide +kernel
theorem dX11_statement_243 : decode cX11_statement 243 = .ok (.bipush 60, 2) := by decide +kernel
theorem dX11_statement_245 : decode cX11_statement 245 = .ok (.if_icmp .ne 8, 3) := by decide +kernel
theorem dX11_statement_248 : decode cX11_statement 248 = .ok (.bipush 9, 2) := by decide +kernel
theorem dX11_statement_250 : decode cX11_statement 250 = .ok (.goto 17, 3) := by decide +kernel
theorem dX11_statement_253 : decode cX11_statement 253 = .ok (.iload 4, 2) := by decide +kernel
theorem dX11_statement_255 : decode cX11_statement 255 = .ok (.bipush 62, 2) := by decide +kernel
theorem dX11_statement_257 : decode cX11_statement 257 = .ok (.if_icmp .ne 8, 3) := by decide +kernel
theorem dX11_statement_260 : decode cX11_statement 260 = .ok (.bipush 10, 2) := by decide +kernel
theorem dX11_statement_262 : decode cX11_statement 262 = .ok (.goto 5, 3) := by decide +kernel
theorem dX11_statement_265 : decode cX11_statement 265 = .ok (.bipush 11, 2) := by decide +kernel
theorem dX11_statement_267 : decode cX11_statement 267 = .ok (.iconst 0, 1) := by decide +kernel
theorem dX11_statement_268 : decode cX11_statement 268 = .ok (.invokevirtual 244, 3) := by decide +kernel
theorem dX11_statement_271 : decode cX11_statement 271 = .ok (.goto 156, 3) := by decide +kernel
theorem dX11_statement_274 : decode cX11_statement 274 = .ok (.aload_n 0, 1) := by decide +kernel
theorem dX11_statement_275 : decode cX11_statement 275 = .ok (.iload_n 2, 1) := by decide +kernel
theorem dX11_statement_276 : decode cX11_statement 276 = .ok (.iload_n 1, 1) := by decide +kernel
theorem dX11_statement_277 : decode cX11_statement 277 = .ok (.invokevirtual 262, 3) := by decide +kernel
theorem dX11_statement_280 : decode cX11_statement 280 = .ok (.ifCond .eq 20, 3) := by decide +kernel
theorem dX11_statement_283 : decode cX11_statement 283 = .ok (.aload_n 0, 1) := by decide +kernel
theorem dX11_statement_284 : decode cX11_statement 284 = .ok (.getfield 107, 3) := by decide +kernel
theorem dX11_statement_287 : decode cX11_statement 287 = .ok (.aload_n 0, 1) := by decide +kernel
theorem dX11_statement_288 : decode cX11_statement 288 = .ok (.getfield 98, 3) := by decide +kernel
theorem dX11_statement_291 : decode cX11_statement 291 = .ok (.iconst 2, 1) := by decide +kernel
theorem dX11_statement_292 : decode cX11_statement 292 = .ok (.iastore, 1) := by decide +kernel
theorem dX11_statement_293 : decode cX11_statement 293 = .ok (.aload_n 0, 1) := by decide +kernel
theorem dX11_statement_294 : decode cX11_statement 294 = .ok (.invokevirtual 292, 3) := by decide +kernel
theorem dX11_statement_297 : decode cX11_statement 297 = .ok (.goto 130, 3) := by decide +kernel
theorem dX11_statement_300 : decode cX11_statement 300 = .ok (.aload_n 0, 1) := by decide +kernel
theorem dX11_statement_301 : decode cX11_statement 301 = .ok (.iload_n 2, 1) := by decide +kernel
theorem dX11_statement_302 : decode cX11_statement 302 = .ok (.iload_n 1, 1) := by decide +kernel
theorem dX11_statement_303 : decode cX11_statement 303 = .ok (.invokevirtual 271, 3) := by decide +kernel
theorem dX11_statement_306 : decode cX11_statement 306 = .ok (.iconst (-1), 1) := by decide +kernel
theorem dX11_statement_307 : decode cX11_statement 307 = .ok (.if_icmp .ne 13, 3) := by decide +kernel
theorem dX11_statement_310 : decode cX11_statement 310 = .ok (.aload_n 0, 1) := by decide +kernel
theorem dX11_statement_311 : decode cX11_statement 311 = .ok (.iload_n 2, 1) := by decide +kernel
theorem dX11_statement_312 : decode cX11_statement 312 = .ok (.iload_n 1, 1) := by decide +kernel
theorem dX11_statement_313 : decode cX11_statement 313 = .ok (.invokevirtual 275, 3) := by decide +kernel
theorem dX11_statement_316 : decode cX11_statement 316 = .ok (.iconst (-1), 1) := by decide +kernel
theorem dX11_statement_317 : decode cX11_statement 317 = .ok (.if_icmp .eq 9, 3) := by decide +kernel
theorem dX11_statement_320 : decode cX11_statement 320 = .ok (.aload_n 0, 1) := by decide +kernel
theorem dX11_statement_321 : decode cX11_statement 321 = .ok (.iconst 3, 1) := by decide +kernel
theorem dX11_statement_322 : decode cX11_statement 322 = .ok (.iload_n 2, 1) := by decide +kernel
theorem dX11_statement_323 : decode cX11_statement 323 = .ok (.invokevirtual 189, 3) := by decide +kernel
theorem dX11_statement_326 : decode cX11_statement 326 = .ok (.aload_n 0, 1) := by decide +kernel
theorem dX11_statement_327 : decode cX11_statement 327 = .ok (.getfield 92, 3) := by decide +kernel
theorem dX11_statement_330 : decode cX11_statement 330 = .ok (.ifCond .le 4, 3) := by decide +kernel
theorem dX11_statement_333 : decode cX11_statement 333 = .ok (.return_, 1) := by decide +kernel
theorem dX11_statement_334 : decode cX11_statement 334 = .ok (.aload_n 0, 1) := by decide +kernel
theorem dX11_statement_335 : decode cX11_statement 335 = .ok (.getfield 107, 3) := by decide +kernel
theorem dX11_statement_338 : decode cX11_statement 338 = .ok (.aload_n 0, 1) := by decide +kernel
theorem dX11_statement_339 : decode cX11_statement 339 = .ok (.getfield 98, 3) := by decide +kernel
theorem dX11_statement_342 : decode cX11_statement 342 = .ok (.iconst 0, 1) := by decide +kernel
theorem dX11_statement_343 : decode cX11_statement 343 = .ok (.iastore, 1) := by decide +kernel
theorem dX11_statement_344 : decode cX11_statement 344 = .ok (.aload_n 0, 1) := by decide +kernel
theorem dX11_statement_345 : decode cX11_statement 345 = .ok (.getfield 119, 3) := by decide +kernel
theorem dX11_statement_348 : decode cX11_statement 348 = .ok (.aload_n 0, 1) := by decide +kernel
theorem dX11_statement_349 : decode cX11_statement 349 = .ok (.getfield 98, 3) := by decide +kernel
theorem dX11_statement_352 : decode cX11_statement 352 = .ok (.iload_n 1, 1) := by decide +kernel
theorem dX11_statement_353 : decode cX11_statement 353 = .ok (.iastore, 1) := by decide +kernel
theorem dX11_statement_354 : decode cX11_statement 354 = .ok (.iconst 0, 1) := by decide +kernel
theorem dX11_statement_355 : decode cX11_statement 355 = .ok (.istore_n 3, 1) := by decide +kernel
theorem dX11_statement_356 : decode cX11_statement 356 = .ok (.iload_n 3, 1) := by decide +kernel
theorem dX11_statement_357 : decode cX11_statement 357 = .ok (.iload_n 1, 1) := by decide +kernel
theorem dX11_statement_358 : decode cX11_statement 358 = .ok (.if_icmp .ge 31, 3) := by decide +kernel
theorem dX11_statement_361 : decode cX11_statement 361 = .ok (.aload_n 0, 1) := by decide +kernel
theorem dX11_statement_362 : decode cX11_statement 362 = .ok (.getfield 116, 3) := by decide +kernel
theorem dX11_statement_365 : decode cX11_statement 365 = .ok (.bipush 10, 2) := by decide +kernel
theorem dX11_statement_367 : decode cX11_statement 367 = .ok (.aload_n 0, 1) := by decide +kernel
theorem dX11_statement_368 : decode cX11_statement 368 = .ok (.getfield 98, 3) := by decide +kernel
theorem dX11_statement_371 : decode cX11_statement 371 = .ok (.imul, 1) := by decide +kernel
theorem dX11_statement_372 : decode cX11_statement 372 = .ok (.iload_n 3, 1) := by decide +kernel
theorem dX11_statement_373 : decode cX11_statement 373 = .ok (.iadd, 1) := by decide +kernel
theorem dX11_statement_374 : decode cX11_statement 374 = .ok (.aload_n 0, 1) := by decide +kernel
theorem dX11_statement_375 : decode cX11_statement 375 = .ok (.getfield 7, 3) := by decide +kernel
theorem dX11_statement_378 : decode cX11_statement 378 = .ok (.iload_n 2, 1) := by decide +kernel
theorem dX11_statement_379 : decode cX11_statement 379 = .ok (.iload_n 3, 1) := by decide +kernel
theorem dX11_statement_380 : decode cX11_statement 380 = .ok (.iadd, 1) := by decide +kernel
theorem dX11_statement_381 : decode cX11_statement 381 = .ok (.iaload, 1) := by decide +kernel
theorem dX11_statement_382 : decode cX11_statement 382 = .ok (.iastore, 1) := by decide +kernel
theorem dX11_statement_383 : decode cX11_statement 383 = .ok (.iinc 3 1, 3) := by decide +kernel
theorem dX11_statement_386 : decode cX11_statement 386 = .ok (.goto (-30), 3) := by decide +kernel
theorem dX11_statement_389 : decode cX11_statement 389 = .ok (.aload_n 0, 1) := by decide +kernel
theorem dX11_statement_390 : decode cX11_statement 390 = .ok (.bipush 61, 2) := by decide +kernel
theorem dX11_statement_392 : decode cX11_statement 392 = .ok (.invokevirtual 295, 3) := by decide +kernel
theorem dX11_statement_395 : decode cX11_statement 395 = .ok (.aload_n 0, 1) := by decide +kernel
theorem dX11_statement_396 : decode cX11_statement 396 = .ok (.getfield 92, 3) := by decide +kernel
theorem dX11_statement_399 : decode cX11_statement 399 = .ok (.ifCond .ne 7, 3) := by decide +kernel
theorem dX11_statement_402 : decode cX11_statement 402 = .ok (.aload_n 0, 1) := by decide +kernel
theorem dX11_statement_403 : decode cX11_statement 403 = .ok (.invokevirtual 292, 3) := by decide +kernel
theorem dX11_statement_406 : decode cX11_statement 406 = .ok (.aload_n 0, 1) := by decide +kernel
theorem dX11_statement_407 : decode cX11_statement 407 = .ok (.iload_n 2, 1) := by decide +kernel
theorem dX11_statement_408 : decode cX11_statement 408 = .ok (.iload_n 1, 1) := by decide +kernel
theorem dX11_statement_409 : decode cX11_statement 409 = .ok (.ldc2_w 298, 3) := by decide +kernel
theorem dX11_statement_412 : decode cX11_statement 412 = .ok (.iconst 5, 1) := by decide +kernel
theorem dX11_statement_413 : decode cX11_statement 413 = .ok (.invokevirtual 199, 3) := by decide +kernel
theorem dX11_statement_416 : decode cX11_statement 416 = .ok (.ifCond .eq 11, 3) := by decide +kernel
theorem dX11_statement_419 : decode cX11_statement 419 = .ok (.aload_n 0, 1) := by decide +kernel
theorem dX11_statement_420 : decode cX11_statement 420 = .ok (.aload_n 0, 1) := by decide +kernel
theorem dX11_statement_421 : decode cX11_statement 421 = .ok (.getfield 98, 3) := by decide +kernel
theorem dX11_statement_424 : decode cX11_statement 424 = .ok (.putfield 104, 3) := by decide +kernel
theorem dX11_statement_427 : decode cX11_statement 427 = .ok (.aload_n 0, 1) := by decide +kernel
theorem dX11_statement_428 : decode cX11_statement 428 = .ok (.getfield 92, 3) := by decide +kernel
theorem dX11_statement_431 : decode cX11_statement 431 = .ok (.ifCond .ne 9, 3) := by decide +kernel
theorem dX11_statement_434 : decode cX11_statement 434 = .ok (.aload_n 0, 1) := by decide +kernel
theorem dX11_statement_435 : decode cX11_statement 435 = .ok (.bipush 59, 2) := by decide +kernel
theorem dX11_statement_437 : decode cX11_statement 437 = .ok (.invokevirtual 295, 3) := by decide +kernel
theorem dX11_statement_440 : decode cX11_statement 440 = .ok (.aload_n 0, 1) := by decide +kernel
theorem dX11_statement_441 : decode cX11_statement 441 = .ok (.dup, 1) := by decide +kernel
theorem dX11_statement_442 : decode cX11_statement 442 = .ok (.getfield 98, 3) := by decide +kernel
theorem dX11_statement_445 : decode cX11_statement 445 = .ok (.iconst 1, 1) := by decide +kernel
theorem dX11_statement_446 : decode cX11_statement 446 = .ok (.iadd, 1) := by decide +kernel
theorem dX11_statement_447 : decode cX11_statement 447 = .ok (.putfield 98, 3) := by decide +kernel
theorem dX11_statement_450 : decode cX11_statement 450 = .ok (.return_, 1) := by decide +kernel
theorem dX11_rules_0 : decode cX11_rules 0 = .ok (.aload_n 0, 1) := by decide +kernel
theorem dX11_rules_1 : decode cX11_rules 1 = .ok (.aload_n 0, 1) := by decide +kernel
theorem dX11_rules_2 : decode cX11_rules 2 = .ok (.getfield 13, 3) := by decide +kernel
theorem dX11_rules_5 : decode cX11_rules 5 = .ok (.putfield 89, 3) := by decide +kernel
theorem dX11_rules_8 : decode cX11_rules 8 = .ok (.aload_n 0, 1) := by decide +kernel
theorem dX11_rules_9 : decode cX11_rules 9 = .ok (.iconst 0, 1) := by decide +kernel
theorem dX11_rules_10 : decode cX11_rules 10 = .ok (.putfield 13, 3) := by decide +kernel
theorem dX11_rules_13 : decode cX11_rules 13 = .ok (.aload_n 0, 1) := by decide +kernel
theorem dX11_rules_14 : decode cX11_rules 14 = .ok (.iconst 0, 1) := by decide +kernel
theorem dX11_rules_15 : decode cX11_rules 15 = .ok (.putfield 86, 3) := by decide +kernel
theorem dX11_rules_18 : decode cX11_rules 18 = .ok (.aload_n 0, 1) := by decide +kernel
theorem dX11_rules_19 : decode cX11_rules 19 = .ok (.iconst 0, 1) := by decide +kernel
theorem dX11_rules_20 : decode cX11_rules 20 = .ok (.putfield 92, 3) := by decide +kernel
theorem dX11_rules_23 : decode cX11_rules 23 = .ok (.aload_n 0, 1) := by decide +kernel
theorem dX11_rules_24 : decode cX11_rules 24 = .ok (.iconst (-1), 1) := by decide +kernel
theorem dX11_rules_25 : decode cX11_rules 25 = .ok (.putfield 95, 3) := by decide +kernel
theorem dX11_rules_28 : decode cX11_rules 28 = .ok (.aload_n 0, 1) := by decide +kernel
theorem dX11_rules_29 : decode cX11_rules 29 = .ok (.iconst 0, 1) := by decide +kernel
theorem dX11_rules_30 : decode cX11_rules 30 = .ok (.putfield 98, 3) := by decide +kernel
theorem dX11_rules_33 : decode cX11_rules 33 = .ok (.aload_n 0, 1) := by decide +kernel
theorem dX11_rules_34 : decode cX11_rules 34 = .ok (.iconst 0, 1) := by decide +kernel
theorem dX11_rules_35 : decode cX11_rules 35 = .ok (.putfield 101, 3) := by decide +kernel
theorem dX11_rules_38 : decode cX11_rules 38 = .ok (.aload_n 0, 1) := by decide +kernel
theorem dX11_rules_39 : decode cX11_rules 39 = .ok (.iconst (-1), 1) := by decide +kernel
theorem dX11_rules_40 : decode cX11_rules 40 = .ok (.putfield 104, 3) := by decide +kernel
theorem dX11_rules_43 : decode cX11_rules 43 = .ok (.aload_n 0, 1) := by decide +kernel
theorem dX11_rules_44 : decode cX11_rules 44 = .ok (.invokevirtual 186, 3) := by decide +kernel
theorem dX11_rules_47 : decode cX11_rules 47 = .ok (.iconst (-1), 1) := by decide +kernel
theorem dX11_rules_48 : decode cX11_rules 48 = .ok (.if_icmp .eq 17, 3) := by decide +kernel
theorem dX11_rules_51 : decode cX11_rules 51 = .ok (.aload_n 0, 1) := by decide +kernel
theorem dX11_rules_52 : decode cX11_rules 52 = .ok (.getfield 92, 3) := by decide +kernel
theorem dX11_rules_55 : decode cX11_rules 55 = .ok (.ifCond .ne 10, 3) := by decide +kernel
theorem dX11_rules_58 : decode cX11_rules 58 = .ok (.aload_n 0, 1) := by decide +kernel
theorem dX11_rules_59 : decode cX11_rules 59 = .ok (.invokevirtual 300, 3) := by decide +kernel
theorem dX11_rules_62 : decode cX11_rules 62 = .ok (.goto (-19), 3) := by decide +kernel
theorem dX11_rules_65 : decode cX11_rules 65 = .ok (.aload_n 0, 1) := by decide +kernel
theorem dX11_rules_66 : decode cX11_rules 66 = .ok (.getfield 104, 3) := by decide +kernel
theorem dX11_rules_69 : decode cX11_rules 69 = .ok (.iconst (-1), 1) := by decide +kernel
theorem dX11_rules_70 : decode cX11_rules 70 = .ok (.if_icmp .ne 12, 3) := by decide +kernel
theorem dX11_rules_73 : decode cX11_rules 73 = .ok (.aload_n 0, 1) := by decide +kernel
theorem dX11_rules_74 : decode cX11_rules 74 = .ok (.iconst 4, 1) := by decide +kernel
theorem dX11_rules_75 : decode cX11_rules 75 = .ok (.aload_n 0, 1) := by decide +kernel
theorem dX11_rules_76 : decode cX11_rules 76 = .ok (.getfield 89, 3) := by decide +kernel
theorem dX11_rules_79 : decode cX11_rules 79 = .ok (.invokevirtual 189, 3) := by decide +kernel
theorem dX11_rules_82 : decode cX11_rules 82 = .ok (.aload_n 0, 1) := by decide +kernel
theorem dX11_rules_83 : decode cX11_rules 83 = .ok (.getfield 92, 3) := by decide +kernel
theorem dX11_rules_86 : decode cX11_rules 86 = .ok (.ifCond .le 5, 3) := by decide +kernel
theorem dX11_rules_89 : decode cX11_rules 89 = .ok (.iconst (-1), 1) := by decide +kernel
theorem dX11_rules_90 : decode cX11_rules 90 = .ok (.ireturn, 1) := by decide +kernel
theorem dX11_rules_91 : decode cX11_rules 91 = .ok (.aload_n 0, 1) := by decide +kernel
theorem dX11_rules_92 : decode cX11_rules 92 = .ok (.aload_n 0, 1) := by decide +kernel
theorem dX11_rules_93 : decode cX11_rules 93 = .ok (.getfield 98, 3) := by decide +kernel
theorem dX11_rules_96 : decode cX11_rules 96 = .ok (.putfield 71, 3) := by decide +kernel
theorem dX11_rules_99 : decode cX11_rules 99 = .ok (.aload_n 0, 1) := by decide +kernel
theorem dX11_rules_100 : decode cX11_rules 100 = .ok (.aload_n 0, 1) := by decide +kernel
theorem dX11_rules_101 : decode cX11_rules 101 = .ok (.getfield 104, 3) := by decide +kernel
theorem dX11_rules_104 : decode cX11_rules 104 = .ok (.putfield 83, 3) := by decide +kernel
theorem dX11_rules_107 : decode cX11_rules 107 = .ok (.aload_n 0, 1) := by decide +kernel
theorem dX11_rules_108 : decode cX11_rules 108 = .ok (.getfield 110, 3) := by decide +kernel
theorem dX11_rules_111 : decode cX11_rules 111 = .ok (.aload_n 0, 1) := by decide +kernel
theorem dX11_rules_112 : decode cX11_rules 112 = .ok (.getfield 98, 3) := by decide +kernel
theorem dX11_rules_115 : decode cX11_rules 115 = .ok (.aload_n 0, 1) := by decide +kernel
theorem dX11_rules_116 : decode cX11_rules 116 = .ok (.getfield 101, 3) := by decide +kernel
theorem dX11_rules_119 : decode cX11_rules 119 = .ok (.iastore, 1) := by decide +kernel
theorem dX11_rules_120 : decode cX11_rules 120 = .ok (.iconst 0, 1) := by decide +kernel
theorem dX11_rules_121 : decode cX11_rules 121 = .ok (.istore_n 1, 1) := by decide +kernel
theorem dX11_rules_122 : decode cX11_rules 122 = .ok (.iload_n 1, 1) := by decide +kernel
theorem dX11_rules_123 : decode cX11_rules 123 = .ok (.aload_n 0, 1) := by decide +kernel
theorem dX11_rules_124 : decode cX11_rules 124 = .ok (.getfield 98, 3) := by decide +kernel
theorem dX11_rules_127 : decode cX11_rules 127 = .ok (.if_icmp .gt 21, 3) := by decide +kernel
theorem dX11_rules_130 : decode cX11_rules 130 = .ok (.aload_n 0, 1) := by decide +kernel
theorem dX11_rules_131 : decode cX11_rules 131 = .ok (.getfield 77, 3) := by decide +kernel
theorem dX11_rules_134 : decode cX11_rules 134 = .ok (.iload_n 1, 1) := by decide +kernel
theorem dX11_rules_135 : decode cX11_rules 135 = .ok (.aload_n 0, 1) := by decide +kernel
theorem dX11_rules_136 : decode cX11_rules 136 = .ok (.getfield 110, 3) := by decide +kernel
theorem dX11_rules_139 : decode cX11_rules 139 = .ok (.iload_n 1, 1) := by decide +kernel
theorem dX11_rules_140 : decode cX11_rules 140 = .ok (.iaload, 1) := by decide +kernel
theorem dX11_rules_141 : decode cX11_rules 141 = .ok (.iastore, 1) := by decide +kernel
theorem dX11_rules_142 : decode cX11_rules 142 = .ok (.iinc 1 1, 3) := by decide +kernel
theorem dX11_rules_145 : decode cX11_rules 145 = .ok (.goto (-23), 3) := by decide +kernel
theorem dX11_rules_148 : decode cX11_rules 148 = .ok (.iconst 0, 1) := by decide +kernel
theorem dX11_rules_149 : decode cX11_rules 149 = .ok (.istore_n 1, 1) := by decide +kernel
theorem dX11_rules_150 : decode cX11_rules 150 = .ok (.iload_n 1, 1) := by decide +kernel
theorem dX11_rules_151 : decode cX11_rules 151 = .ok (.aload_n 0, 1) := by decide +kernel
theorem dX11_rules_152 : decode cX11_rules 152 = .ok (.getfield 98, 3) := by decide +kernel
theorem dX11_rules_155 : decode cX11_rules 155 = .ok (.if_icmp .ge 21, 3) := by decide +kernel
theorem dX11_rules_158 : decode cX11_rules 158 = .ok (.aload_n 0, 1) := by decide +kernel
theorem dX11_rules_159 : decode cX11_rules 159 = .ok (.getfield 74, 3) := by decide +kernel
theorem dX11_rules_162 : decode cX11_rules 162 = .ok (.iload_n 1, 1) := by decide +kernel
theorem dX11_rules_163 : decode cX11_rules 163 = .ok (.aload_n 0, 1) := by decide +kernel
theorem dX11_rules_164 : decode cX11_rules 164 = .ok (.getfield 107, 3) := by decide +kernel
theorem dX11_rules_167 : decode cX11_rules 167 = .ok (.iload_n 1, 1) := by decide +kernel
theorem dX11_rules_168 : decode cX11_rules 168 = .ok (.iaload, 1) := by decide +kernel
theorem dX11_rules_169 : decode cX11_rules 169 = .ok (.iastore, 1) := by decide +kernel
theorem dX11_rules_170 : decode cX11_rules 170 = .ok (.iinc 1 1, 3) := by decide +kernel
theorem dX11_rules_173 : decode cX11_rules 173 = .ok (.goto (-23), 3) := by decide +kernel
theorem dX11_rules_176 : decode cX11_rules 176 = .ok (.iconst 0, 1) := by decide +kernel
theorem dX11_rules_177 : decode cX11_rules 177 = .ok (.istore_n 1, 1) := by decide +kernel
theorem dX11_rules_178 : decode cX11_rules 178 = .ok (.iload_n 1, 1) := by decide +kernel
theorem dX11_rules_179 : decode cX11_rules 179 = .ok (.iconst 2, 1) := by decide +kernel
theorem dX11_rules_180 : decode cX11_rules 180 = .ok (.aload_n 0, 1) := by decide +kernel
theorem dX11_rules_181 : decode cX11_rules 181 = .ok (.getfield 101, 3) := by decide +kernel
theorem dX11_rules_184 : decode cX11_rules 184 = .ok (.imul, 1) := by decide +kernel
theorem dX11_rules_185 : decode cX11_rules 185 = .ok (.if_icmp .ge 21, 3) := by decide +kernel
theorem dX11_rules_188 : decode cX11_rules 188 = .ok (.aload_n 0, 1) := by decide +kernel
theorem dX11_rules_189 : decode cX11_rules 189 = .ok (.getfield 80, 3) := by decide +kernel
theorem dX11_rules_192 : decode cX11_rules 192 = .ok (.iload_n 1, 1) := by decide +kernel
theorem dX11_rules_193 : decode cX11_rules 193 = .ok (.aload_n 0, 1) := by decide +kernel
theorem dX11_rules_194 : decode cX11_rules 194 = .ok (.getfield 113, 3) := by decide +kernel
theorem dX11_rules_197 : decode cX11_rules 197 = .ok (.iload_n 1, 1) := by decide +kernel
theorem dX11_rules_198 : decode cX11_rules 198 = .ok (.iaload, 1) := by decide +kernel
theorem dX11_rules_199 : decode cX11_rules 199 = .ok (.iastore, 1) := by decide +kernel
theorem dX11_rules_200 : decode cX11_rules 200 = .ok (.iinc 1 1, 3) := by decide +kernel
theorem dX11_rules_203 : decode cX11_rules 203 = .ok (.goto (-25), 3) := by decide +kernel
theorem dX11_rules_206 : decode cX11_rules 206 = .ok (.aload_n 0, 1) := by decide +kernel
theorem dX11_rules_207 : decode cX11_rules 207 = .ok (.getfield 71, 3) := by decide +kernel
theorem dX11_rules_210 : decode cX11_rules 210 = .ok (.ireturn, 1) := by decide +kernel
theorem dX11_fault_0 : decode cX11_fault 0 = .ok (.iload_n 1, 1) := by decide +kernel
theorem dX11_fault_1 : decode cX11_fault 1 = .ok (.ifCond .ne 10, 3) := by decide +kernel
theorem dX11_fault_4 : decode cX11_fault 4 = .ok (.aload_n 0, 1) := by decide +kernel
theorem dX11_fault_5 : decode cX11_fault 5 = .ok (.getfield 92, 3) := by decide +kernel
theorem dX11_fault_8 : decode cX11_fault 8 = .ok (.goto 16, 3) := by decide +kernel
theorem dX11_fault_11 : decode cX11_fault 11 = .ok (.iload_n 1, 1) := by decide +kernel
theorem dX11_fault_12 : decode cX11_fault 12 = .ok (.iconst 1, 1) := by decide +kernel
theorem dX11_fault_13 : decode cX11_fault 13 = .ok (.if_icmp .ne 10, 3) := by decide +kernel
theorem dX11_fault_16 : decode cX11_fault 16 = .ok (.aload_n 0, 1) := by decide +kernel
theorem dX11_fault_17 : decode cX11_fault 17 = .ok (.getfield 95, 3) := by decide +kernel
theorem dX11_fault_20 : decode cX11_fault 20 = .ok (.goto 4, 3) := by decide +kernel
theorem dX11_fault_23 : decode cX11_fault 23 = .ok (.iconst (-1), 1) := by decide +kernel
theorem dX11_fault_24 : decode cX11_fault 24 = .ok (.ireturn, 1) := by decide +kernel
theorem dX11_held_0 : decode cX11_held 0 = .ok (.lload_n 0, 1) := by decide +kernel
theorem dX11_held_1 : decode cX11_held 1 = .ok (.ldc2_w 303, 3) := by decide +kernel
theorem dX11_held_4 : decode cX11_held 4 = .ok (.lcmp, 1) := by decide +kernel
theorem dX11_held_5 : decode cX11_held 5 = .ok (.ifCond .le 9, 3) := by decide +kernel
theorem dX11_held_8 : decode cX11_held 8 = .ok (.ldc2_w 303, 3) := by decide +kernel
theorem dX11_held_11 : decode cX11_held 11 = .ok (.goto 18, 3) := by decide +kernel
theorem dX11_held_14 : decode cX11_held 14 = .ok (.lload_n 0, 1) := by decide +kernel
theorem dX11_held_15 : decode cX11_held 15 = .ok (.ldc2_w 305, 3) := by decide +kernel
theorem dX11_held_18 : decode cX11_held 18 = .ok (.lcmp, 1) := by decide +kernel
theorem dX11_held_19 : decode cX11_held 19 = .ok (.ifCond .ge 9, 3) := by decide +kernel
theorem dX11_held_22 : decode cX11_held 22 = .ok (.ldc2_w 305, 3) := by decide +kernel
theorem dX11_held_25 : decode cX11_held 25 = .ok (.goto 4, 3) := by decide +kernel
theorem dX11_held_28 : decode cX11_held 28 = .ok (.lload_n 0, 1) := by decide +kernel
theorem dX11_held_29 : decode cX11_held 29 = .ok (.lreturn, 1) := by decide +kernel
theorem dX11_times_0 : decode cX11_times 0 = .ok (.lload_n 0, 1) := by decide +kernel
theorem dX11_times_1 : decode cX11_times 1 = .ok (.lconst 0, 1) := by decide +kernel
theorem dX11_times_2 : decode cX11_times 2 = .ok (.lcmp, 1) := by decide +kernel
theorem dX11_times_3 : decode cX11_times 3 = .ok (.ifCond .eq 9, 3) := by decide +kernel
theorem dX11_times_6 : decode cX11_times 6 = .ok (.lload_n 2, 1) := by decide +kernel
theorem dX11_times_7 : decode cX11_times 7 = .ok (.lconst 0, 1) := by decide +kernel
theorem dX11_times_8 : decode cX11_times 8 = .ok (.lcmp, 1) := by decide +kernel
theorem dX11_times_9 : decode cX11_times 9 = .ok (.ifCond .ne 5, 3) := by decide +kernel
theorem dX11_times_12 : decode cX11_times 12 = .ok (.lconst 0, 1) := by decide +kernel
theorem dX11_times_13 : decode cX11_times 13 = .ok (.lreturn, 1) := by decide +kernel
theorem dX11_times_14 : decode cX11_times 14 = .ok (.lload_n 0, 1) := by decide +kernel
theorem dX11_times_15 : decode cX11_times 15 = .ok (.lconst 0, 1) := by decide +kernel
theorem dX11_times_16 : decode cX11_times 16 = .ok (.lcmp, 1) := by decide +kernel
theorem dX11_times_17 : decode cX11_times 17 = .ok (.ifCond .ge 8, 3) := by decide +kernel
theorem dX11_times_20 : decode cX11_times 20 = .ok (.lload_n 0, 1) := by decide +kernel
theorem dX11_times_21 : decode cX11_times 21 = .ok (.lneg, 1) := by decide +kernel
theorem dX11_times_22 : decode cX11_times 22 = .ok (.goto 4, 3) := by decide +kernel
theorem dX11_times_25 : decode cX11_times 25 = .ok (.lload_n 0, 1) := by decide +kernel
theorem dX11_times_26 : decode cX11_times 26 = .ok (.lstore 4, 2) := by decide +kernel
theorem dX11_times_28 : decode cX11_times 28 = .ok (.lload_n 2, 1) := by decide +kernel
theorem dX11_times_29 : decode cX11_times 29 = .ok (.lconst 0, 1) := by decide +kernel
theorem dX11_times_30 : decode cX11_times 30 = .ok (.lcmp, 1) := by decide +kernel
theorem dX11_times_31 : decode cX11_times 31 = .ok (.ifCond .ge 8, 3) := by decide +kernel
theorem dX11_times_34 : decode cX11_times 34 = .ok (.lload_n 2, 1) := by decide +kernel
theorem dX11_times_35 : decode cX11_times 35 = .ok (.lneg, 1) := by decide +kernel
theorem dX11_times_36 : decode cX11_times 36 = .ok (.goto 4, 3) := by decide +kernel
theorem dX11_times_39 : decode cX11_times 39 = .ok (.lload_n 2, 1) := by decide +kernel
theorem dX11_times_40 : decode cX11_times 40 = .ok (.lstore 6, 2) := by decide +kernel
theorem dX11_times_42 : decode cX11_times 42 = .ok (.lload 6, 2) := by decide +kernel
theorem dX11_times_44 : decode cX11_times 44 = .ok (.ldc2_w 303, 3) := by decide +kernel
theorem dX11_times_47 : decode cX11_times 47 = .ok (.lload 4, 2) := by decide +kernel
theorem dX11_times_49 : decode cX11_times 49 = .ok (.ldiv, 1) := by decide +kernel
theorem dX11_times_50 : decode cX11_times 50 = .ok (.lcmp, 1) := by decide +kernel
theorem dX11_times_51 : decode cX11_times 51 = .ok (.ifCond .le 38, 3) := by decide +kernel
theorem dX11_times_54 : decode cX11_times 54 = .ok (.lload_n 0, 1) := by decide +kernel
theorem dX11_times_55 : decode cX11_times 55 = .ok (.lconst 0, 1) := by decide +kernel
theorem dX11_times_56 : decode cX11_times 56 = .ok (.lcmp, 1) := by decide +kernel
theorem dX11_times_57 : decode cX11_times 57 = .ok (.ifCond .ge 7, 3) := by decide +kernel
theorem dX11_times_60 : decode cX11_times 60 = .ok (.iconst 1, 1) := by decide +kernel
theorem dX11_times_61 : decode cX11_times 61 = .ok (.goto 4, 3) := by decide +kernel
theorem dX11_times_64 : decode cX11_times 64 = .ok (.iconst 0, 1) := by decide +kernel
theorem dX11_times_65 : decode cX11_times 65 = .ok (.lload_n 2, 1) := by decide +kernel
theorem dX11_times_66 : decode cX11_times 66 = .ok (.lconst 0, 1) := by decide +kernel
theorem dX11_times_67 : decode cX11_times 67 = .ok (.lcmp, 1) := by decide +kernel
theorem dX11_times_68 : decode cX11_times 68 = .ok (.ifCond .ge 7, 3) := by decide +kernel
theorem dX11_times_71 : decode cX11_times 71 = .ok (.iconst 1, 1) := by decide +kernel
theorem dX11_times_72 : decode cX11_times 72 = .ok (.goto 4, 3) := by decide +kernel
theorem dX11_times_75 : decode cX11_times 75 = .ok (.iconst 0, 1) := by decide +kernel
theorem dX11_times_76 : decode cX11_times 76 = .ok (.if_icmp .ne 9, 3) := by decide +kernel
theorem dX11_times_79 : decode cX11_times 79 = .ok (.ldc2_w 303, 3) := by decide +kernel
theorem dX11_times_82 : decode cX11_times 82 = .ok (.goto 6, 3) := by decide +kernel
theorem dX11_times_85 : decode cX11_times 85 = .ok (.ldc2_w 305, 3) := by decide +kernel
theorem dX11_times_88 : decode cX11_times 88 = .ok (.lreturn, 1) := by decide +kernel
theorem dX11_times_89 : decode cX11_times 89 = .ok (.lload_n 0, 1) := by decide +kernel
theorem dX11_times_90 : decode cX11_times 90 = .ok (.lload_n 2, 1) := by decide +kernel
theorem dX11_times_91 : decode cX11_times 91 = .ok (.lmul, 1) := by decide +kernel
theorem dX11_times_92 : decode cX11_times 92 = .ok (.lreturn, 1) := by decide +kernel
theorem dX11_over_0 : decode cX11_over 0 = .ok (.lload_n 0, 1) := by decide +kernel
theorem dX11_over_1 : decode cX11_over 1 = .ok (.lload_n 2, 1) := by decide +kernel
theorem dX11_over_2 : decode cX11_over 2 = .ok (.ldiv, 1) := by decide +kernel
theorem dX11_over_3 : decode cX11_over 3 = .ok (.lstore 4, 2) := by decide +kernel
theorem dX11_over_5 : decode cX11_over 5 = .ok (.lload_n 0, 1) := by decide +kernel
theorem dX11_over_6 : decode cX11_over 6 = .ok (.lconst 0, 1) := by decide +kernel
theorem dX11_over_7 : decode cX11_over 7 = .ok (.lcmp, 1) := by decide +kernel
theorem dX11_over_8 : decode cX11_over 8 = .ok (.ifCond .ge 19, 3) := by decide +kernel
theorem dX11_over_11 : decode cX11_over 11 = .ok (.lload 4, 2) := by decide +kernel
theorem dX11_over_13 : decode cX11_over 13 = .ok (.lload_n 2, 1) := by decide +kernel
theorem dX11_over_14 : decode cX11_over 14 = .ok (.lmul, 1) := by decide +kernel
theorem dX11_over_15 : decode cX11_over 15 = .ok (.lload_n 0, 1) := by decide +kernel
theorem dX11_over_16 : decode cX11_over 16 = .ok (.lcmp, 1) := by decide +kernel
theorem dX11_over_17 : decode cX11_over 17 = .ok (.ifCond .eq 10, 3) := by decide +kernel
theorem dX11_over_20 : decode cX11_over 20 = .ok (.lload 4, 2) := by decide +kernel
theorem dX11_over_22 : decode cX11_over 22 = .ok (.lconst 1, 1) := by decide +kernel
theorem dX11_over_23 : decode cX11_over 23 = .ok (.lsub, 1) := by decide +kernel
theorem dX11_over_24 : decode cX11_over 24 = .ok (.goto 5, 3) := by decide +kernel
theorem dX11_over_27 : decode cX11_over 27 = .ok (.lload 4, 2) := by decide +kernel
theorem dX11_over_29 : decode cX11_over 29 = .ok (.lreturn, 1) := by decide +kernel
theorem dX11_works_0 : decode cX11_works 0 = .ok (.iconst 0, 1) := by decide +kernel
theorem dX11_works_1 : decode cX11_works 1 = .ok (.istore_n 3, 1) := by decide +kernel
theorem dX11_works_2 : decode cX11_works 2 = .ok (.aload_n 0, 1) := by decide +kernel
theorem dX11_works_3 : decode cX11_works 3 = .ok (.getfield 77, 3) := by decide +kernel
theorem dX11_works_6 : decode cX11_works 6 = .ok (.iload_n 2, 1) := by decide +kernel
theorem dX11_works_7 : decode cX11_works 7 = .ok (.iaload, 1) := by decide +kernel
theorem dX11_works_8 : decode cX11_works 8 = .ok (.istore 4, 2) := by decide +kernel
theorem dX11_works_10 : decode cX11_works 10 = .ok (.iload 4, 2) := by decide +kernel
theorem dX11_works_12 : decode cX11_works 12 = .ok (.aload_n 0, 1) := by decide +kernel
theorem dX11_works_13 : decode cX11_works 13 = .ok (.getfield 77, 3) := by decide +kernel
theorem dX11_works_16 : decode cX11_works 16 = .ok (.iload_n 2, 1) := by decide +kernel
theorem dX11_works_17 : decode cX11_works 17 = .ok (.iconst 1, 1) := by decide +kernel
theorem dX11_works_18 : decode cX11_works 18 = .ok (.iadd, 1) := by decide +kernel
theorem dX11_works_19 : decode cX11_works 19 = .ok (.iaload, 1) := by decide +kernel
theorem dX11_works_20 : decode cX11_works 20 = .ok (.if_icmp .ge 164, 3) := by decide +kernel
theorem dX11_works_23 : decode cX11_works 23 = .ok (.aload_n 0, 1) := by decide +kernel
theorem dX11_works_24 : decode cX11_works 24 = .ok (.getfield 80, 3) := by decide +kernel
theorem dX11_works_27 : decode cX11_works 27 = .ok (.iconst 2, 1) := by decide +kernel
theorem dX11_works_28 : decode cX11_works 28 = .ok (.iload 4, 2) := by decide +kernel
theorem dX11_works_30 : decode cX11_works 30 = .ok (.imul, 1) := by decide +kernel
theorem dX11_works_31 : decode cX11_works 31 = .ok (.iaload, 1) := by decide +kernel
theorem dX11_works_32 : decode cX11_works 32 = .ok (.istore 5, 2) := by decide +kernel
theorem dX11_works_34 : decode cX11_works 34 = .ok (.aload_n 0, 1) := by decide +kernel
theorem dX11_works_35 : decode cX11_works 35 = .ok (.getfield 80, 3) := by decide +kernel
theorem dX11_works_38 : decode cX11_works 38 = .ok (.iconst 2, 1) := by decide +kernel
theorem dX11_works_39 : decode cX11_works 39 = .ok (.iload 4, 2) := by decide +kernel
theorem dX11_works_41 : decode cX11_works 41 = .ok (.imul, 1) := by decide +kernel
theorem dX11_works_42 : decode cX11_works 42 = .ok (.iconst 1, 1) := by decide +kernel
theorem dX11_works_43 : decode cX11_works 43 = .ok (.iadd, 1) := by decide +kernel
theorem dX11_works_44 : decode cX11_works 44 = .ok (.iaload, 1) := by decide +kernel
theorem dX11_works_45 : decode cX11_works 45 = .ok (.istore 6, 2) := by decide +kernel
theorem dX11_works_47 : decode cX11_works 47 = .ok (.iload 5, 2) := by decide +kernel
theorem dX11_works_49 : decode cX11_works 49 = .ok (.ifCond .eq 15, 3) := by decide +kernel
theorem dX11_works_52 : decode cX11_works 52 = .ok (.iload 5, 2) := by decide +kernel
theorem dX11_works_54 : decode cX11_works 54 = .ok (.iconst 1, 1) := by decide +kernel
theorem dX11_works_55 : decode cX11_works 55 = .ok (.if_icmp .eq 9, 3) := by decide +kernel
theorem dX11_works_58 : decode cX11_works 58 = .ok (.iload 5, 2) := by decide +kernel
theorem dX11_works_60 : decode cX11_works 60 = .ok (.iconst 2, 1) := by decide +kernel
theorem dX11_works_61 : decode cX11_works 61 = .ok (.if_icmp .ne 55, 3) := by decide +kernel
theorem dX11_works_64 : decode cX11_works 64 = .ok (.aload_n 0, 1) := by decide +kernel
theorem dX11_works_65 : decode cX11_works 65 = .ok (.getfield 135, 3) := by decide +kernel
theorem dX11_works_68 : decode cX11_works 68 = .ok (.iload_n 3, 1) := by decide +kernel
theorem dX11_works_69 : decode cX11_works 69 = .ok (.iload 5, 2) := by decide +kernel
theorem dX11_works_71 : decode cX11_works 71 = .ok (.ifCond .ne 9, 3) := by decide +kernel
theorem dX11_works_74 : decode cX11_works 74 = .ok (.iload 6, 2) := by decide +kernel
theorem dX11_works_76 : decode cX11_works 76 = .ok (.i2l, 1) := by decide +kernel
theorem dX11_works_77 : decode cX11_works 77 = .ok (.goto 32, 3) := by decide +kernel
theorem dX11_works_80 : decode cX11_works 80 = .ok (.iload 5, 2) := by decide +kernel
theorem dX11_works_82 : decode cX11_works 82 = .ok (.iconst 1, 1) := by decide +kernel
theorem dX11_works_83 : decode cX11_works 83 = .ok (.if_icmp .ne 14, 3) := by decide +kernel
theorem dX11_works_86 : decode cX11_works 86 = .ok (.aload_n 0, 1) := by decide +kernel
theorem dX11_works_87 : decode cX11_works 87 = .ok (.getfield 65, 3) := by decide +kernel
theorem dX11_works_90 : decode cX11_works 90 = .ok (.iload 6, 2) := by decide +kernel
theorem dX11_works_92 : decode cX11_works 92 = .ok (.iaload, 1) := by decide +kernel
theorem dX11_works_93 : decode cX11_works 93 = .ok (.i2l, 1) := by decide +kernel
theorem dX11_works_94 : decode cX11_works 94 = .ok (.goto 15, 3) := by decide +kernel
theorem dX11_works_97 : decode cX11_works 97 = .ok (.aload_n 0, 1) := by decide +kernel
theorem dX11_works_98 : decode cX11_works 98 = .ok (.getfield 139, 3) := by decide +kernel
theorem dX11_works_101 : decode cX11_works 101 = .ok (.bipush 24, 2) := by decide +kernel
theorem dX11_works_103 : decode cX11_works 103 = .ok (.iload_n 1, 1) := by decide +kernel
theorem dX11_works_104 : decode cX11_works 104 = .ok (.imul, 1) := by decide +kernel
theorem dX11_works_105 : decode cX11_works 105 = .ok (.iload 6, 2) := by decide +kernel
theorem dX11_works_107 : decode cX11_works 107 = .ok (.iadd, 1) := by decide +kernel
theorem dX11_works_108 : decode cX11_works 108 = .ok (.laload, 1) := by decide +kernel
theorem dX11_works_109 : decode cX11_works 109 = .ok (.lastore, 1) := by decide +kernel
theorem dX11_works_110 : decode cX11_works 110 = .ok (.iinc 3 1, 3) := by decide +kernel
theorem dX11_works_113 : decode cX11_works 113 = .ok (.goto 65, 3) := by decide +kernel
theorem dX11_works_116 : decode cX11_works 116 = .ok (.iload 5, 2) := by decide +kernel
theorem dX11_works_118 : decode cX11_works 118 = .ok (.bipush 6, 2) := by decide +kernel
theorem dX11_works_120 : decode cX11_works 120 = .ok (.if_icmp .ne 28, 3) := by decide +kernel
theorem dX11_works_123 : decode cX11_works 123 = .ok (.aload_n 0, 1) := by decide +kernel
theorem dX11_works_124 : decode cX11_works 124 = .ok (.getfield 135, 3) := by decide +kernel
theorem dX11_works_127 : decode cX11_works 127 = .ok (.iload_n 3, 1) := by decide +kernel
theorem dX11_works_128 : decode cX11_works 128 = .ok (.iconst 1, 1) := by decide +kernel
theorem dX11_works_129 : decode cX11_works 129 = .ok (.isub, 1) := by decide +kernel
theorem dX11_works_130 : decode cX11_works 130 = .ok (.aload_n 0, 1) := by decide +kernel
theorem dX11_works_131 : decode cX11_works 131 = .ok (.getfield 135, 3) := by decide +kernel
theorem dX11_works_134 : decode cX11_works 134 = .ok (.iload_n 3, 1) := by decide +kernel
theorem dX11_works_135 : decode cX11_works 135 = .ok (.iconst 1, 1) := by decide +kernel
theorem dX11_works_136 : decode cX11_works 136 = .ok (.isub, 1) := by decide +kernel
theorem dX11_works_137 : decode cX11_works 137 = .ok (.laload, 1) := by decide +kernel
theorem dX11_works_138 : decode cX11_works 138 = .ok (.iload 6, 2) := by decide +kernel
theorem dX11_works_140 : decode cX11_works 140 = .ok (.i2l, 1) := by decide +kernel
theorem dX11_works_141 : decode cX11_works 141 = .ok (.invokestatic 307, 3) := by decide +kernel
theorem dX11_works_144 : decode cX11_works 144 = .ok (.lastore, 1) := by decide +kernel
theorem dX11_works_145 : decode cX11_works 145 = .ok (.goto 33, 3) := by decide +kernel
theorem dX11_works_148 : decode cX11_works 148 = .ok (.iinc 3 (-1), 3) := by decide +kernel
theorem dX11_works_151 : decode cX11_works 151 = .ok (.aload_n 0, 1) := by decide +kernel
theorem dX11_works_152 : decode cX11_works 152 = .ok (.getfield 135, 3) := by decide +kernel
theorem dX11_works_155 : decode cX11_works 155 = .ok (.iload_n 3, 1) := by decide +kernel
theorem dX11_works_156 : decode cX11_works 156 = .ok (.iconst 1, 1) := by decide +kernel
theorem dX11_works_157 : decode cX11_works 157 = .ok (.isub, 1) := by decide +kernel
theorem dX11_works_158 : decode cX11_works 158 = .ok (.iload 5, 2) := by decide +kernel
theorem dX11_works_160 : decode cX11_works 160 = .ok (.aload_n 0, 1) := by decide +kernel
theorem dX11_works_161 : decode cX11_works 161 = .ok (.getfield 135, 3) := by decide +kernel
theorem dX11_works_164 : decode cX11_works 164 = .ok (.iload_n 3, 1) := by decide +kernel
theorem dX11_works_165 : decode cX11_works 165 = .ok (.iconst 1, 1) := by decide +kernel
theorem dX11_works_166 : decode cX11_works 166 = .ok (.isub, 1) := by decide +kernel
theorem dX11_works_167 : decode cX11_works 167 = .ok (.laload, 1) := by decide +kernel
theorem dX11_works_168 : decode cX11_works 168 = .ok (.aload_n 0, 1) := by decide +kernel
theorem dX11_works_169 : decode cX11_works 169 = .ok (.getfield 135, 3) := by decide +kernel
theorem dX11_works_172 : decode cX11_works 172 = .ok (.iload_n 3, 1) := by decide +kernel
theorem dX11_works_173 : decode cX11_works 173 = .ok (.laload, 1) := by decide +kernel
theorem dX11_works_174 : decode cX11_works 174 = .ok (.invokestatic 311, 3) := by decide +kernel
theorem dX11_works_177 : decode cX11_works 177 = .ok (.lastore, 1) := by decide +kernel
theorem dX11_works_178 : decode cX11_works 178 = .ok (.iinc 4 1, 3) := by decide +kernel
theorem dX11_works_181 : decode cX11_works 181 = .ok (.goto (-171), 3) := by decide +kernel
theorem dX11_works_184 : decode cX11_works 184 = .ok (.aload_n 0, 1) := by decide +kernel
theorem dX11_works_185 : decode cX11_works 185 = .ok (.getfield 135, 3) := by decide +kernel
theorem dX11_works_188 : decode cX11_works 188 = .ok (.iconst 0, 1) := by decide +kernel
theorem dX11_works_189 : decode cX11_works 189 = .ok (.laload, 1) := by decide +kernel
theorem dX11_works_190 : decode cX11_works 190 = .ok (.lreturn, 1) := by decide +kernel
theorem dX11_two_0 : decode cX11_two 0 = .ok (.iload_n 0, 1) := by decide +kernel
theorem dX11_two_1 : decode cX11_two 1 = .ok (.tableswitch 115 3 10 #[47, 54, 61, 115, 67, 79, 91, 103], 47) := by decide +kernel
theorem dX11_two_48 : decode cX11_two 48 = .ok (.lload_n 1, 1) := by decide +kernel
theorem dX11_two_49 : decode cX11_two 49 = .ok (.lload_n 3, 1) := by decide +kernel
theorem dX11_two_50 : decode cX11_two 50 = .ok (.ladd, 1) := by decide +kernel
theorem dX11_two_51 : decode cX11_two 51 = .ok (.invokestatic 315, 3) := by decide +kernel
theorem dX11_two_54 : decode cX11_two 54 = .ok (.lreturn, 1) := by decide +kernel
theorem dX11_two_55 : decode cX11_two 55 = .ok (.lload_n 1, 1) := by decide +kernel
theorem dX11_two_56 : decode cX11_two 56 = .ok (.lload_n 3, 1) := by decide +kernel
theorem dX11_two_57 : decode cX11_two 57 = .ok (.lsub, 1) := by decide +kernel
theorem dX11_two_58 : decode cX11_two 58 = .ok (.invokestatic 315, 3) := by decide +kernel
theorem dX11_two_61 : decode cX11_two 61 = .ok (.lreturn, 1) := by decide +kernel
theorem dX11_two_62 : decode cX11_two 62 = .ok (.lload_n 1, 1) := by decide +kernel
theorem dX11_two_63 : decode cX11_two 63 = .ok (.lload_n 3, 1) := by decide +kernel
theorem dX11_two_64 : decode cX11_two 64 = .ok (.invokestatic 319, 3) := by decide +kernel
theorem dX11_two_67 : decode cX11_two 67 = .ok (.lreturn, 1) := by decide +kernel
theorem dX11_two_68 : decode cX11_two 68 = .ok (.lload_n 1, 1) := by decide +kernel
theorem dX11_two_69 : decode cX11_two 69 = .ok (.lload_n 3, 1) := by decide +kernel
theorem dX11_two_70 : decode cX11_two 70 = .ok (.lcmp, 1) := by decide +kernel
theorem dX11_two_71 : decode cX11_two 71 = .ok (.ifCond .le 7, 3) := by decide +kernel
theorem dX11_two_74 : decode cX11_two 74 = .ok (.lload_n 1, 1) := by decide +kernel
theorem dX11_two_75 : decode cX11_two 75 = .ok (.goto 4, 3) := by decide +kernel
theorem dX11_two_78 : decode cX11_two 78 = .ok (.lload_n 3, 1) := by decide +kernel
theorem dX11_two_79 : decode cX11_two 79 = .ok (.lreturn, 1) := by decide +kernel
theorem dX11_two_80 : decode cX11_two 80 = .ok (.lload_n 1, 1) := by decide +kernel
theorem dX11_two_81 : decode cX11_two 81 = .ok (.lload_n 3, 1) := by decide +kernel
theorem dX11_two_82 : decode cX11_two 82 = .ok (.lcmp, 1) := by decide +kernel
theorem dX11_two_83 : decode cX11_two 83 = .ok (.ifCond .ge 7, 3) := by decide +kernel
theorem dX11_two_86 : decode cX11_two 86 = .ok (.lload_n 1, 1) := by decide +kernel
theorem dX11_two_87 : decode cX11_two 87 = .ok (.goto 4, 3) := by decide +kernel
theorem dX11_two_90 : decode cX11_two 90 = .ok (.lload_n 3, 1) := by decide +kernel
theorem dX11_two_91 : decode cX11_two 91 = .ok (.lreturn, 1) := by decide +kernel
theorem dX11_two_92 : decode cX11_two 92 = .ok (.lload_n 1, 1) := by decide +kernel
theorem dX11_two_93 : decode cX11_two 93 = .ok (.lload_n 3, 1) := by decide +kernel
theorem dX11_two_94 : decode cX11_two 94 = .ok (.lcmp, 1) := by decide +kernel
theorem dX11_two_95 : decode cX11_two 95 = .ok (.ifCond .ge 7, 3) := by decide +kernel
theorem dX11_two_98 : decode cX11_two 98 = .ok (.lconst 1, 1) := by decide +kernel
theorem dX11_two_99 : decode cX11_two 99 = .ok (.goto 4, 3) := by decide +kernel
theorem dX11_two_102 : decode cX11_two 102 = .ok (.lconst 0, 1) := by decide +kernel
theorem dX11_two_103 : decode cX11_two 103 = .ok (.lreturn, 1) := by decide +kernel
theorem dX11_two_104 : decode cX11_two 104 = .ok (.lload_n 1, 1) := by decide +kernel
theorem dX11_two_105 : decode cX11_two 105 = .ok (.lload_n 3, 1) := by decide +kernel
theorem dX11_two_106 : decode cX11_two 106 = .ok (.lcmp, 1) := by decide +kernel
theorem dX11_two_107 : decode cX11_two 107 = .ok (.ifCond .le 7, 3) := by decide +kernel
theorem dX11_two_110 : decode cX11_two 110 = .ok (.lconst 1, 1) := by decide +kernel
theorem dX11_two_111 : decode cX11_two 111 = .ok (.goto 4, 3) := by decide +kernel
theorem dX11_two_114 : decode cX11_two 114 = .ok (.lconst 0, 1) := by decide +kernel
theorem dX11_two_115 : decode cX11_two 115 = .ok (.lreturn, 1) := by decide +kernel
theorem dX11_two_116 : decode cX11_two 116 = .ok (.lload_n 1, 1) := by decide +kernel
theorem dX11_two_117 : decode cX11_two 117 = .ok (.lload_n 3, 1) := by decide +kernel
theorem dX11_two_118 : decode cX11_two 118 = .ok (.lcmp, 1) := by decide +kernel
theorem dX11_two_119 : decode cX11_two 119 = .ok (.ifCond .ne 7, 3) := by decide +kernel
theorem dX11_two_122 : decode cX11_two 122 = .ok (.lconst 1, 1) := by decide +kernel
theorem dX11_two_123 : decode cX11_two 123 = .ok (.goto 4, 3) := by decide +kernel
theorem dX11_two_126 : decode cX11_two 126 = .ok (.lconst 0, 1) := by decide +kernel
theorem dX11_two_127 : decode cX11_two 127 = .ok (.lreturn, 1) := by decide +kernel
theorem dX11_worksAll_0 : decode cX11_worksAll 0 = .ok (.aload_n 0, 1) := by decide +kernel
theorem dX11_worksAll_1 : decode cX11_worksAll 1 = .ok (.getfield 142, 3) := by decide +kernel
theorem dX11_worksAll_4 : decode cX11_worksAll 4 = .ok (.iload_n 1, 1) := by decide +kernel
theorem dX11_worksAll_5 : decode cX11_worksAll 5 = .ok (.iconst 0, 1) := by decide +kernel
theorem dX11_worksAll_6 : decode cX11_worksAll 6 = .ok (.bastore, 1) := by decide +kernel
theorem dX11_worksAll_7 : decode cX11_worksAll 7 = .ok (.aload_n 0, 1) := by decide +kernel
theorem dX11_worksAll_8 : decode cX11_worksAll 8 = .ok (.iload_n 1, 1) := by decide +kernel
theorem dX11_worksAll_9 : decode cX11_worksAll 9 = .ok (.iload_n 2, 1) := by decide +kernel
theorem dX11_worksAll_10 : decode cX11_worksAll 10 = .ok (.invokevirtual 182, 3) := by decide +kernel
theorem dX11_worksAll_13 : decode cX11_worksAll 13 = .ok (.iconst 0, 1) := by decide +kernel
theorem dX11_worksAll_14 : decode cX11_worksAll 14 = .ok (.istore_n 3, 1) := by decide +kernel
theorem dX11_worksAll_15 : decode cX11_worksAll 15 = .ok (.iload_n 3, 1) := by decide +kernel
theorem dX11_worksAll_16 : decode cX11_worksAll 16 = .ok (.aload_n 0, 1) := by decide +kernel
theorem dX11_worksAll_17 : decode cX11_worksAll 17 = .ok (.getfield 71, 3) := by decide +kernel
theorem dX11_worksAll_20 : decode cX11_worksAll 20 = .ok (.if_icmp .ge 59, 3) := by decide +kernel
theorem dX11_worksAll_23 : decode cX11_worksAll 23 = .ok (.aload_n 0, 1) := by decide +kernel
theorem dX11_worksAll_24 : decode cX11_worksAll 24 = .ok (.getfield 139, 3) := by decide +kernel
theorem dX11_worksAll_27 : decode cX11_worksAll 27 = .ok (.bipush 24, 2) := by decide +kernel
theorem dX11_worksAll_29 : decode cX11_worksAll 29 = .ok (.iload_n 1, 1) := by decide +kernel
theorem dX11_worksAll_30 : decode cX11_worksAll 30 = .ok (.imul, 1) := by decide +kernel
theorem dX11_worksAll_31 : decode cX11_worksAll 31 = .ok (.iload_n 3, 1) := by decide +kernel
theorem dX11_worksAll_32 : decode cX11_worksAll 32 = .ok (.iadd, 1) := by decide +kernel
theorem dX11_worksAll_33 : decode cX11_worksAll 33 = .ok (.aload_n 0, 1) := by decide +kernel
theorem dX11_worksAll_34 : decode cX11_worksAll 34 = .ok (.iload_n 1, 1) := by decide +kernel
theorem dX11_worksAll_35 : decode cX11_worksAll 35 = .ok (.iload_n 3, 1) := by decide +kernel
theorem dX11_worksAll_36 : decode cX11_worksAll 36 = .ok (.invokevirtual 322, 3) := by decide +kernel
theorem dX11_worksAll_39 : decode cX11_worksAll 39 = .ok (.lastore, 1) := by decide +kernel
theorem dX11_worksAll_40 : decode cX11_worksAll 40 = .ok (.aload_n 0, 1) := by decide +kernel
theorem dX11_worksAll_41 : decode cX11_worksAll 41 = .ok (.getfield 74, 3) := by decide +kernel
theorem dX11_worksAll_44 : decode cX11_worksAll 44 = .ok (.iload_n 3, 1) := by decide +kernel
theorem dX11_worksAll_45 : decode cX11_worksAll 45 = .ok (.iaload, 1) := by decide +kernel
theorem dX11_worksAll_46 : decode cX11_worksAll 46 = .ok (.iconst 1, 1) := by decide +kernel
theorem dX11_worksAll_47 : decode cX11_worksAll 47 = .ok (.if_icmp .ne 26, 3) := by decide +kernel
theorem dX11_worksAll_50 : decode cX11_worksAll 50 = .ok (.aload_n 0, 1) := by decide +kernel
theorem dX11_worksAll_51 : decode cX11_worksAll 51 = .ok (.getfield 139, 3) := by decide +kernel
theorem dX11_worksAll_54 : decode cX11_worksAll 54 = .ok (.bipush 24, 2) := by decide +kernel
theorem dX11_worksAll_56 : decode cX11_worksAll 56 = .ok (.iload_n 1, 1) := by decide +kernel
theorem dX11_worksAll_57 : decode cX11_worksAll 57 = .ok (.imul, 1) := by decide +kernel
theorem dX11_worksAll_58 : decode cX11_worksAll 58 = .ok (.iload_n 3, 1) := by decide +kernel
theorem dX11_worksAll_59 : decode cX11_worksAll 59 = .ok (.iadd, 1) := by decide +kernel
theorem dX11_worksAll_60 : decode cX11_worksAll 60 = .ok (.laload, 1) := by decide +kernel
theorem dX11_worksAll_61 : decode cX11_worksAll 61 = .ok (.lconst 1, 1) := by decide +kernel
theorem dX11_worksAll_62 : decode cX11_worksAll 62 = .ok (.lcmp, 1) := by decide +kernel
theorem dX11_worksAll_63 : decode cX11_worksAll 63 = .ok (.ifCond .ne 10, 3) := by decide +kernel
theorem dX11_worksAll_66 : decode cX11_worksAll 66 = .ok (.aload_n 0, 1) := by decide +kernel
theorem dX11_worksAll_67 : decode cX11_worksAll 67 = .ok (.getfield 142, 3) := by decide +kernel
theorem dX11_worksAll_70 : decode cX11_worksAll 70 = .ok (.iload_n 1, 1) := by decide +kernel
theorem dX11_worksAll_71 : decode cX11_worksAll 71 = .ok (.iconst 1, 1) := by decide +kernel
theorem dX11_worksAll_72 : decode cX11_worksAll 72 = .ok (.bastore, 1) := by decide +kernel
theorem dX11_worksAll_73 : decode cX11_worksAll 73 = .ok (.iinc 3 1, 3) := by decide +kernel
theorem dX11_worksAll_76 : decode cX11_worksAll 76 = .ok (.goto (-61), 3) := by decide +kernel
theorem dX11_worksAll_79 : decode cX11_worksAll 79 = .ok (.return_, 1) := by decide +kernel
theorem dX11_reckons_0 : decode cX11_reckons 0 = .ok (.iconst 0, 1) := by decide +kernel
theorem dX11_reckons_1 : decode cX11_reckons 1 = .ok (.istore_n 2, 1) := by decide +kernel
theorem dX11_reckons_2 : decode cX11_reckons 2 = .ok (.iload_n 2, 1) := by decide +kernel
theorem dX11_reckons_3 : decode cX11_reckons 3 = .ok (.aload_n 0, 1) := by decide +kernel
theorem dX11_reckons_4 : decode cX11_reckons 4 = .ok (.getfield 17, 3) := by decide +kernel
theorem dX11_reckons_7 : decode cX11_reckons 7 = .ok (.if_icmp .ge 15, 3) := by decide +kernel
theorem dX11_reckons_10 : decode cX11_reckons 10 = .ok (.aload_n 0, 1) := by decide +kernel
theorem dX11_reckons_11 : decode cX11_reckons 11 = .ok (.iload_n 2, 1) := by decide +kernel
theorem dX11_reckons_12 : decode cX11_reckons 12 = .ok (.iload_n 1, 1) := by decide +kernel
theorem dX11_reckons_13 : decode cX11_reckons 13 = .ok (.invokevirtual 326, 3) := by decide +kernel
theorem dX11_reckons_16 : decode cX11_reckons 16 = .ok (.iinc 2 1, 3) := by decide +kernel
theorem dX11_reckons_19 : decode cX11_reckons 19 = .ok (.goto (-17), 3) := by decide +kernel
theorem dX11_reckons_22 : decode cX11_reckons 22 = .ok (.return_, 1) := by decide +kernel
theorem dX11_given_0 : decode cX11_given 0 = .ok (.aload_n 0, 1) := by decide +kernel
theorem dX11_given_1 : decode cX11_given 1 = .ok (.iload_n 1, 1) := by decide +kernel
theorem dX11_given_2 : decode cX11_given 2 = .ok (.invokevirtual 175, 3) := by decide +kernel
theorem dX11_given_5 : decode cX11_given 5 = .ok (.ifCond .eq 15, 3) := by decide +kernel
theorem dX11_given_8 : decode cX11_given 8 = .ok (.iload_n 2, 1) := by decide +kernel
theorem dX11_given_9 : decode cX11_given 9 = .ok (.ifCond .lt 11, 3) := by decide +kernel
theorem dX11_given_12 : decode cX11_given 12 = .ok (.iload_n 2, 1) := by decide +kernel
theorem dX11_given_13 : decode cX11_given 13 = .ok (.aload_n 0, 1) := by decide +kernel
theorem dX11_given_14 : decode cX11_given 14 = .ok (.getfield 71, 3) := by decide +kernel
theorem dX11_given_17 : decode cX11_given 17 = .ok (.if_icmp .lt 7, 3) := by decide +kernel
theorem dX11_given_20 : decode cX11_given 20 = .ok (.ldc2_w 329, 3) := by decide +kernel
theorem dX11_given_23 : decode cX11_given 23 = .ok (.lreturn, 1) := by decide +kernel
theorem dX11_given_24 : decode cX11_given 24 = .ok (.aload_n 0, 1) := by decide +kernel
theorem dX11_given_25 : decode cX11_given 25 = .ok (.iload_n 1, 1) := by decide +kernel
theorem dX11_given_26 : decode cX11_given 26 = .ok (.aload_n 0, 1) := by decide +kernel
theorem dX11_given_27 : decode cX11_given 27 = .ok (.invokevirtual 179, 3) := by decide +kernel
theorem dX11_given_30 : decode cX11_given 30 = .ok (.invokevirtual 326, 3) := by decide +kernel
theorem dX11_given_33 : decode cX11_given 33 = .ok (.aload_n 0, 1) := by decide +kernel
theorem dX11_given_34 : decode cX11_given 34 = .ok (.getfield 139, 3) := by decide +kernel
theorem dX11_given_37 : decode cX11_given 37 = .ok (.bipush 24, 2) := by decide +kernel
theorem dX11_given_39 : decode cX11_given 39 = .ok (.iload_n 1, 1) := by decide +kernel
theorem dX11_given_40 : decode cX11_given 40 = .ok (.imul, 1) := by decide +kernel
theorem dX11_given_41 : decode cX11_given 41 = .ok (.iload_n 2, 1) := by decide +kernel
theorem dX11_given_42 : decode cX11_given 42 = .ok (.iadd, 1) := by decide +kernel
theorem dX11_given_43 : decode cX11_given 43 = .ok (.laload, 1) := by decide +kernel
theorem dX11_given_44 : decode cX11_given 44 = .ok (.lreturn, 1) := by decide +kernel
theorem dX11_totalOf_0 : decode cX11_totalOf 0 = .ok (.aload_n 0, 1) := by decide +kernel
theorem dX11_totalOf_1 : decode cX11_totalOf 1 = .ok (.getfield 83, 3) := by decide +kernel
theorem dX11_totalOf_4 : decode cX11_totalOf 4 = .ok (.iconst (-1), 1) := by decide +kernel
theorem dX11_totalOf_5 : decode cX11_totalOf 5 = .ok (.if_icmp .ne 7, 3) := by decide +kernel
theorem dX11_totalOf_8 : decode cX11_totalOf 8 = .ok (.lconst 0, 1) := by decide +kernel
theorem dX11_totalOf_9 : decode cX11_totalOf 9 = .ok (.goto 17, 3) := by decide +kernel
theorem dX11_totalOf_12 : decode cX11_totalOf 12 = .ok (.aload_n 0, 1) := by decide +kernel
theorem dX11_totalOf_13 : decode cX11_totalOf 13 = .ok (.getfield 139, 3) := by decide +kernel
theorem dX11_totalOf_16 : decode cX11_totalOf 16 = .ok (.bipush 24, 2) := by decide +kernel
theorem dX11_totalOf_18 : decode cX11_totalOf 18 = .ok (.iload_n 1, 1) := by decide +kernel
theorem dX11_totalOf_19 : decode cX11_totalOf 19 = .ok (.imul, 1) := by decide +kernel
theorem dX11_totalOf_20 : decode cX11_totalOf 20 = .ok (.aload_n 0, 1) := by decide +kernel
theorem dX11_totalOf_21 : decode cX11_totalOf 21 = .ok (.getfield 83, 3) := by decide +kernel
theorem dX11_totalOf_24 : decode cX11_totalOf 24 = .ok (.iadd, 1) := by decide +kernel
theorem dX11_totalOf_25 : decode cX11_totalOf 25 = .ok (.laload, 1) := by decide +kernel
theorem dX11_totalOf_26 : decode cX11_totalOf 26 = .ok (.lreturn, 1) := by decide +kernel
theorem dX11_total_0 : decode cX11_total 0 = .ok (.aload_n 0, 1) := by decide +kernel
theorem dX11_total_1 : decode cX11_total 1 = .ok (.iload_n 1, 1) := by decide +kernel
theorem dX11_total_2 : decode cX11_total 2 = .ok (.invokevirtual 175, 3) := by decide +kernel
theorem dX11_total_5 : decode cX11_total 5 = .ok (.ifCond .ne 7, 3) := by decide +kernel
theorem dX11_total_8 : decode cX11_total 8 = .ok (.ldc2_w 329, 3) := by decide +kernel
theorem dX11_total_11 : decode cX11_total 11 = .ok (.lreturn, 1) := by decide +kernel
theorem dX11_total_12 : decode cX11_total 12 = .ok (.aload_n 0, 1) := by decide +kernel
theorem dX11_total_13 : decode cX11_total 13 = .ok (.iload_n 1, 1) := by decide +kernel
theorem dX11_total_14 : decode cX11_total 14 = .ok (.aload_n 0, 1) := by decide +kernel
theorem dX11_total_15 : decode cX11_total 15 = .ok (.invokevirtual 179, 3) := by decide +kernel
theorem dX11_total_18 : decode cX11_total 18 = .ok (.invokevirtual 326, 3) := by decide +kernel
theorem dX11_total_21 : decode cX11_total 21 = .ok (.aload_n 0, 1) := by decide +kernel
theorem dX11_total_22 : decode cX11_total 22 = .ok (.iload_n 1, 1) := by decide +kernel
theorem dX11_total_23 : decode cX11_total 23 = .ok (.invokevirtual 331, 3) := by decide +kernel
theorem dX11_total_26 : decode cX11_total 26 = .ok (.lreturn, 1) := by decide +kernel
theorem dX11_isOut__0 : decode cX11_isOut_ 0 = .ok (.aload_n 0, 1) := by decide +kernel
theorem dX11_isOut__1 : decode cX11_isOut_ 1 = .ok (.iload_n 1, 1) := by decide +kernel
theorem dX11_isOut__2 : decode cX11_isOut_ 2 = .ok (.invokevirtual 175, 3) := by decide +kernel
theorem dX11_isOut__5 : decode cX11_isOut_ 5 = .ok (.ifCond .ne 5, 3) := by decide +kernel
theorem dX11_isOut__8 : decode cX11_isOut_ 8 = .ok (.iconst (-1), 1) := by decide +kernel
theorem dX11_isOut__9 : decode cX11_isOut_ 9 = .ok (.ireturn, 1) := by decide +kernel
theorem dX11_isOut__10 : decode cX11_isOut_ 10 = .ok (.aload_n 0, 1) := by decide +kernel
theorem dX11_isOut__11 : decode cX11_isOut_ 11 = .ok (.iload_n 1, 1) := by decide +kernel
theorem dX11_isOut__12 : decode cX11_isOut_ 12 = .ok (.aload_n 0, 1) := by decide +kernel
theorem dX11_isOut__13 : decode cX11_isOut_ 13 = .ok (.invokevirtual 179, 3) := by decide +kernel
theorem dX11_isOut__16 : decode cX11_isOut_ 16 = .ok (.invokevirtual 326, 3) := by decide +kernel
theorem dX11_isOut__19 : decode cX11_isOut_ 19 = .ok (.aload_n 0, 1) := by decide +kernel
theorem dX11_isOut__20 : decode cX11_isOut_ 20 = .ok (.getfield 142, 3) := by decide +kernel
theorem dX11_isOut__23 : decode cX11_isOut_ 23 = .ok (.iload_n 1, 1) := by decide +kernel
theorem dX11_isOut__24 : decode cX11_isOut_ 24 = .ok (.baload, 1) := by decide +kernel
theorem dX11_isOut__25 : decode cX11_isOut_ 25 = .ok (.ifCond .eq 7, 3) := by decide +kernel
theorem dX11_isOut__28 : decode cX11_isOut_ 28 = .ok (.iconst 1, 1) := by decide +kernel
theorem dX11_isOut__29 : decode cX11_isOut_ 29 = .ok (.goto 4, 3) := by decide +kernel
theorem dX11_isOut__32 : decode cX11_isOut_ 32 = .ok (.iconst 0, 1) := by decide +kernel
theorem dX11_isOut__33 : decode cX11_isOut_ 33 = .ok (.ireturn, 1) := by decide +kernel
theorem dX11_stand_0 : decode cX11_stand 0 = .ok (.aload_n 0, 1) := by decide +kernel
theorem dX11_stand_1 : decode cX11_stand 1 = .ok (.iload_n 1, 1) := by decide +kernel
theorem dX11_stand_2 : decode cX11_stand 2 = .ok (.invokevirtual 331, 3) := by decide +kernel
theorem dX11_stand_5 : decode cX11_stand 5 = .ok (.aload_n 0, 1) := by decide +kernel
theorem dX11_stand_6 : decode cX11_stand 6 = .ok (.iload_n 2, 1) := by decide +kernel
theorem dX11_stand_7 : decode cX11_stand 7 = .ok (.invokevirtual 331, 3) := by decide +kernel
theorem dX11_stand_10 : decode cX11_stand 10 = .ok (.lcmp, 1) := by decide +kernel
theorem dX11_stand_11 : decode cX11_stand 11 = .ok (.ifCond .eq 23, 3) := by decide +kernel
theorem dX11_stand_14 : decode cX11_stand 14 = .ok (.aload_n 0, 1) := by decide +kernel
theorem dX11_stand_15 : decode cX11_stand 15 = .ok (.iload_n 1, 1) := by decide +kernel
theorem dX11_stand_16 : decode cX11_stand 16 = .ok (.invokevirtual 331, 3) := by decide +kernel
theorem dX11_stand_19 : decode cX11_stand 19 = .ok (.aload_n 0, 1) := by decide +kernel
theorem dX11_stand_20 : decode cX11_stand 20 = .ok (.iload_n 2, 1) := by decide +kernel
theorem dX11_stand_21 : decode cX11_stand 21 = .ok (.invokevirtual 331, 3) := by decide +kernel
theorem dX11_stand_24 : decode cX11_stand 24 = .ok (.lcmp, 1) := by decide +kernel
theorem dX11_stand_25 : decode cX11_stand 25 = .ok (.ifCond .ge 7, 3) := by decide +kernel
theorem dX11_stand_28 : decode cX11_stand 28 = .ok (.iconst (-1), 1) := by decide +kernel
theorem dX11_stand_29 : decode cX11_stand 29 = .ok (.goto 4, 3) := by decide +kernel
theorem dX11_stand_32 : decode cX11_stand 32 = .ok (.iconst 1, 1) := by decide +kernel
theorem dX11_stand_33 : decode cX11_stand 33 = .ok (.ireturn, 1) := by decide +kernel
theorem dX11_stand_34 : decode cX11_stand 34 = .ok (.iconst 0, 1) := by decide +kernel
theorem dX11_stand_35 : decode cX11_stand 35 = .ok (.istore_n 3, 1) := by decide +kernel
theorem dX11_stand_36 : decode cX11_stand 36 = .ok (.iload_n 3, 1) := by decide +kernel
theorem dX11_stand_37 : decode cX11_stand 37 = .ok (.aload_n 0, 1) := by decide +kernel
theorem dX11_stand_38 : decode cX11_stand 38 = .ok (.getfield 71, 3) := by decide +kernel
theorem dX11_stand_41 : decode cX11_stand 41 = .ok (.if_icmp .ge 80, 3) := by decide +kernel
theorem dX11_stand_44 : decode cX11_stand 44 = .ok (.aload_n 0, 1) := by decide +kernel
theorem dX11_stand_45 : decode cX11_stand 45 = .ok (.getfield 74, 3) := by decide +kernel
theorem dX11_stand_48 : decode cX11_stand 48 = .ok (.iload_n 3, 1) := by decide +kernel
theorem dX11_stand_49 : decode cX11_stand 49 = .ok (.iaload, 1) := by decide +kernel
theorem dX11_stand_50 : decode cX11_stand 50 = .ok (.iconst 2, 1) := by decide +kernel
theorem dX11_stand_51 : decode cX11_stand 51 = .ok (.if_icmp .ne 64, 3) := by decide +kernel
theorem dX11_stand_54 : decode cX11_stand 54 = .ok (.aload_n 0, 1) := by decide +kernel
theorem dX11_stand_55 : decode cX11_stand 55 = .ok (.getfield 139, 3) := by decide +kernel
theorem dX11_stand_58 : decode cX11_stand 58 = .ok (.bipush 24, 2) := by decide +kernel
theorem dX11_stand_60 : decode cX11_stand 60 = .ok (.iload_n 1, 1) := by decide +kernel
theorem dX11_stand_61 : decode cX11_stand 61 = .ok (.imul, 1) := by decide +kernel
theorem dX11_stand_62 : decode cX11_stand 62 = .ok (.iload_n 3, 1) := by decide +kernel
theorem dX11_stand_63 : decode cX11_stand 63 = .ok (.iadd, 1) := by decide +kernel
theorem dX11_stand_64 : decode cX11_stand 64 = .ok (.laload, 1) := by decide +kernel
theorem dX11_stand_65 : decode cX11_stand 65 = .ok (.aload_n 0, 1) := by decide +kernel
theorem dX11_stand_66 : decode cX11_stand 66 = .ok (.getfield 139, 3) := by decide +kernel
theorem dX11_stand_69 : decode cX11_stand 69 = .ok (.bipush 24, 2) := by decide +kernel
theorem dX11_stand_71 : decode cX11_stand 71 = .ok (.iload_n 2, 1) := by decide +kernel
theorem dX11_stand_72 : decode cX11_stand 72 = .ok (.imul, 1) := by decide +kernel
theorem dX11_stand_73 : decode cX11_stand 73 = .ok (.iload_n 3, 1) := by decide +kernel
theorem dX11_stand_74 : decode cX11_stand 74 = .ok (.iadd, 1) := by decide +kernel
theorem dX11_stand_75 : decode cX11_stand 75 = .ok (.laload, 1) := by decide +kernel
theorem dX11_stand_76 : decode cX11_stand 76 = .ok (.lcmp, 1) := by decide +kernel
theorem dX11_stand_77 : decode cX11_stand 77 = .ok (.ifCond .ne 6, 3) := by decide +kernel
theorem dX11_stand_80 : decode cX11_stand 80 = .ok (.goto 35, 3) := by decide +kernel
theorem dX11_stand_83 : decode cX11_stand 83 = .ok (.aload_n 0, 1) := by decide +kernel
theorem dX11_stand_84 : decode cX11_stand 84 = .ok (.getfield 139, 3) := by decide +kernel
theorem dX11_stand_87 : decode cX11_stand 87 = .ok (.bipush 24, 2) := by decide +kernel
theorem dX11_stand_89 : decode cX11_stand 89 = .ok (.iload_n 1, 1) := by decide +kernel
theorem dX11_stand_90 : decode cX11_stand 90 = .ok (.imul, 1) := by decide +kernel
theorem dX11_stand_91 : decode cX11_stand 91 = .ok (.iload_n 3, 1) := by decide +kernel
theorem dX11_stand_92 : decode cX11_stand 92 = .ok (.iadd, 1) := by decide +kernel
theorem dX11_stand_93 : decode cX11_stand 93 = .ok (.laload, 1) := by decide +kernel
theorem dX11_stand_94 : decode cX11_stand 94 = .ok (.aload_n 0, 1) := by decide +kernel
theorem dX11_stand_95 : decode cX11_stand 95 = .ok (.getfield 139, 3) := by decide +kernel
theorem dX11_stand_98 : decode cX11_stand 98 = .ok (.bipush 24, 2) := by decide +kernel
theorem dX11_stand_100 : decode cX11_stand 100 = .ok (.iload_n 2, 1) := by decide +kernel
theorem dX11_stand_101 : decode cX11_stand 101 = .ok (.imul, 1) := by decide +kernel
theorem dX11_stand_102 : decode cX11_stand 102 = .ok (.iload_n 3, 1) := by decide +kernel
theorem dX11_stand_103 : decode cX11_stand 103 = .ok (.iadd, 1) := by decide +kernel
theorem dX11_stand_104 : decode cX11_stand 104 = .ok (.laload, 1) := by decide +kernel
theorem dX11_stand_105 : decode cX11_stand 105 = .ok (.lcmp, 1) := by decide +kernel
theorem dX11_stand_106 : decode cX11_stand 106 = .ok (.ifCond .ge 7, 3) := by decide +kernel
theorem dX11_stand_109 : decode cX11_stand 109 = .ok (.iconst (-1), 1) := by decide +kernel
theorem dX11_stand_110 : decode cX11_stand 110 = .ok (.goto 4, 3) := by decide +kernel
theorem dX11_stand_113 : decode cX11_stand 113 = .ok (.iconst 1, 1) := by decide +kernel
theorem dX11_stand_114 : decode cX11_stand 114 = .ok (.ireturn, 1) := by decide +kernel
theorem dX11_stand_115 : decode cX11_stand 115 = .ok (.iinc 3 1, 3) := by decide +kernel
theorem dX11_stand_118 : decode cX11_stand 118 = .ok (.goto (-82), 3) := by decide +kernel
theorem dX11_stand_121 : decode cX11_stand 121 = .ok (.iconst 0, 1) := by decide +kernel
theorem dX11_stand_122 : decode cX11_stand 122 = .ok (.ireturn, 1) := by decide +kernel
theorem dX11_against_0 : decode cX11_against 0 = .ok (.aload_n 0, 1) := by decide +kernel
theorem dX11_against_1 : decode cX11_against 1 = .ok (.iload_n 1, 1) := by decide +kernel
theorem dX11_against_2 : decode cX11_against 2 = .ok (.invokevirtual 175, 3) := by decide +kernel
theorem dX11_against_5 : decode cX11_against 5 = .ok (.ifCond .eq 11, 3) := by decide +kernel
theorem dX11_against_8 : decode cX11_against 8 = .ok (.aload_n 0, 1) := by decide +kernel
theorem dX11_against_9 : decode cX11_against 9 = .ok (.iload_n 2, 1) := by decide +kernel
theorem dX11_against_10 : decode cX11_against 10 = .ok (.invokevirtual 175, 3) := by decide +kernel
theorem dX11_against_13 : decode cX11_against 13 = .ok (.ifCond .ne 6, 3) := by decide +kernel
theorem dX11_against_16 : decode cX11_against 16 = .ok (.bipush (-2), 2) := by decide +kernel
theorem dX11_against_18 : decode cX11_against 18 = .ok (.ireturn, 1) := by decide +kernel
theorem dX11_against_19 : decode cX11_against 19 = .ok (.aload_n 0, 1) := by decide +kernel
theorem dX11_against_20 : decode cX11_against 20 = .ok (.aload_n 0, 1) := by decide +kernel
theorem dX11_against_21 : decode cX11_against 21 = .ok (.invokevirtual 179, 3) := by decide +kernel
theorem dX11_against_24 : decode cX11_against 24 = .ok (.invokevirtual 335, 3) := by decide +kernel
theorem dX11_against_27 : decode cX11_against 27 = .ok (.aload_n 0, 1) := by decide +kernel
theorem dX11_against_28 : decode cX11_against 28 = .ok (.getfield 142, 3) := by decide +kernel
theorem dX11_against_31 : decode cX11_against 31 = .ok (.iload_n 1, 1) := by decide +kernel
theorem dX11_against_32 : decode cX11_against 32 = .ok (.baload, 1) := by decide +kernel
theorem dX11_against_33 : decode cX11_against 33 = .ok (.ifCond .ne 12, 3) := by decide +kernel
theorem dX11_against_36 : decode cX11_against 36 = .ok (.aload_n 0, 1) := by decide +kernel
theorem dX11_against_37 : decode cX11_against 37 = .ok (.getfield 142, 3) := by decide +kernel
theorem dX11_against_40 : decode cX11_against 40 = .ok (.iload_n 2, 1) := by decide +kernel
theorem dX11_against_41 : decode cX11_against 41 = .ok (.baload, 1) := by decide +kernel
theorem dX11_against_42 : decode cX11_against 42 = .ok (.ifCond .eq 8, 3) := by decide +kernel
theorem dX11_against_45 : decode cX11_against 45 = .ok (.bipush (-2), 2) := by decide +kernel
theorem dX11_against_47 : decode cX11_against 47 = .ok (.goto 9, 3) := by decide +kernel
theorem dX11_against_50 : decode cX11_against 50 = .ok (.aload_n 0, 1) := by decide +kernel
theorem dX11_against_51 : decode cX11_against 51 = .ok (.iload_n 1, 1) := by decide +kernel
theorem dX11_against_52 : decode cX11_against 52 = .ok (.iload_n 2, 1) := by decide +kernel
theorem dX11_against_53 : decode cX11_against 53 = .ok (.invokevirtual 338, 3) := by decide +kernel
theorem dX11_against_56 : decode cX11_against 56 = .ok (.ireturn, 1) := by decide +kernel
theorem dX11_placeOf_0 : decode cX11_placeOf 0 = .ok (.aload_n 0, 1) := by decide +kernel
theorem dX11_placeOf_1 : decode cX11_placeOf 1 = .ok (.getfield 142, 3) := by decide +kernel
theorem dX11_placeOf_4 : decode cX11_placeOf 4 = .ok (.iload_n 1, 1) := by decide +kernel
theorem dX11_placeOf_5 : decode cX11_placeOf 5 = .ok (.baload, 1) := by decide +kernel
theorem dX11_placeOf_6 : decode cX11_placeOf 6 = .ok (.ifCond .eq 5, 3) := by decide +kernel
theorem dX11_placeOf_9 : decode cX11_placeOf 9 = .ok (.iconst 0, 1) := by decide +kernel
theorem dX11_placeOf_10 : decode cX11_placeOf 10 = .ok (.ireturn, 1) := by decide +kernel
theorem dX11_placeOf_11 : decode cX11_placeOf 11 = .ok (.iconst 1, 1) := by decide +kernel
theorem dX11_placeOf_12 : decode cX11_placeOf 12 = .ok (.istore_n 2, 1) := by decide +kernel
theorem dX11_placeOf_13 : decode cX11_placeOf 13 = .ok (.iconst 0, 1) := by decide +kernel
theorem dX11_placeOf_14 : decode cX11_placeOf 14 = .ok (.istore_n 3, 1) := by decide +kernel
theorem dX11_placeOf_15 : decode cX11_placeOf 15 = .ok (.iload_n 3, 1) := by decide +kernel
theorem dX11_placeOf_16 : decode cX11_placeOf 16 = .ok (.aload_n 0, 1) := by decide +kernel
theorem dX11_placeOf_17 : decode cX11_placeOf 17 = .ok (.getfield 17, 3) := by decide +kernel
theorem dX11_placeOf_20 : decode cX11_placeOf 20 = .ok (.if_icmp .ge 35, 3) := by decide +kernel
theorem dX11_placeOf_23 : decode cX11_placeOf 23 = .ok (.iload_n 2, 1) := by decide +kernel
theorem dX11_placeOf_24 : decode cX11_placeOf 24 = .ok (.aload_n 0, 1) := by decide +kernel
theorem dX11_placeOf_25 : decode cX11_placeOf 25 = .ok (.getfield 142, 3) := by decide +kernel
theorem dX11_placeOf_28 : decode cX11_placeOf 28 = .ok (.iload_n 3, 1) := by decide +kernel
theorem dX11_placeOf_29 : decode cX11_placeOf 29 = .ok (.baload, 1) := by decide +kernel
theorem dX11_placeOf_30 : decode cX11_placeOf 30 = .ok (.ifCond .ne 16, 3) := by decide +kernel
theorem dX11_placeOf_33 : decode cX11_placeOf 33 = .ok (.aload_n 0, 1) := by decide +kernel
theorem dX11_placeOf_34 : decode cX11_placeOf 34 = .ok (.iload_n 3, 1) := by decide +kernel
theorem dX11_placeOf_35 : decode cX11_placeOf 35 = .ok (.iload_n 1, 1) := by decide +kernel
theorem dX11_placeOf_36 : decode cX11_placeOf 36 = .ok (.invokevirtual 338, 3) := by decide +kernel
theorem dX11_placeOf_39 : decode cX11_placeOf 39 = .ok (.ifCond .ge 7, 3) := by decide +kernel
theorem dX11_placeOf_42 : decode cX11_placeOf 42 = .ok (.iconst 1, 1) := by decide +kernel
theorem dX11_placeOf_43 : decode cX11_placeOf 43 = .ok (.goto 4, 3) := by decide +kernel
theorem dX11_placeOf_46 : decode cX11_placeOf 46 = .ok (.iconst 0, 1) := by decide +kernel
theorem dX11_placeOf_47 : decode cX11_placeOf 47 = .ok (.iadd, 1) := by decide +kernel
theorem dX11_placeOf_48 : decode cX11_placeOf 48 = .ok (.istore_n 2, 1) := by decide +kernel
theorem dX11_placeOf_49 : decode cX11_placeOf 49 = .ok (.iinc 3 1, 3) := by decide +kernel
theorem dX11_placeOf_52 : decode cX11_placeOf 52 = .ok (.goto (-37), 3) := by decide +kernel
theorem dX11_placeOf_55 : decode cX11_placeOf 55 = .ok (.iload_n 2, 1) := by decide +kernel
theorem dX11_placeOf_56 : decode cX11_placeOf 56 = .ok (.ireturn, 1) := by decide +kernel
theorem dX11_place_0 : decode cX11_place 0 = .ok (.aload_n 0, 1) := by decide +kernel
theorem dX11_place_1 : decode cX11_place 1 = .ok (.iload_n 1, 1) := by decide +kernel
theorem dX11_place_2 : decode cX11_place 2 = .ok (.invokevirtual 175, 3) := by decide +kernel
theorem dX11_place_5 : decode cX11_place 5 = .ok (.ifCond .ne 5, 3) := by decide +kernel
theorem dX11_place_8 : decode cX11_place 8 = .ok (.iconst (-1), 1) := by decide +kernel
theorem dX11_place_9 : decode cX11_place 9 = .ok (.ireturn, 1) := by decide +kernel
theorem dX11_place_10 : decode cX11_place 10 = .ok (.aload_n 0, 1) := by decide +kernel
theorem dX11_place_11 : decode cX11_place 11 = .ok (.aload_n 0, 1) := by decide +kernel
theorem dX11_place_12 : decode cX11_place 12 = .ok (.invokevirtual 179, 3) := by decide +kernel
theorem dX11_place_15 : decode cX11_place 15 = .ok (.invokevirtual 335, 3) := by decide +kernel
theorem dX11_place_18 : decode cX11_place 18 = .ok (.aload_n 0, 1) := by decide +kernel
theorem dX11_place_19 : decode cX11_place 19 = .ok (.iload_n 1, 1) := by decide +kernel
theorem dX11_place_20 : decode cX11_place 20 = .ok (.invokevirtual 341, 3) := by decide +kernel
theorem dX11_place_23 : decode cX11_place 23 = .ok (.ireturn, 1) := by decide +kernel
theorem dX11_hasRiders_0 : decode cX11_hasRiders 0 = .ok (.iconst 0, 1) := by decide +kernel
theorem dX11_hasRiders_1 : decode cX11_hasRiders 1 = .ok (.istore_n 2, 1) := by decide +kernel
theorem dX11_hasRiders_2 : decode cX11_hasRiders 2 = .ok (.iconst 0, 1) := by decide +kernel
theorem dX11_hasRiders_3 : decode cX11_hasRiders 3 = .ok (.istore_n 3, 1) := by decide +kernel
theorem dX11_hasRiders_4 : decode cX11_hasRiders 4 = .ok (.iload_n 3, 1) := by decide +kernel
theorem dX11_hasRiders_5 : decode cX11_hasRiders 5 = .ok (.aload_n 0, 1) := by decide +kernel
theorem dX11_hasRiders_6 : decode cX11_hasRiders 6 = .ok (.getfield 17, 3) := by decide +kernel
theorem dX11_hasRiders_9 : decode cX11_hasRiders 9 = .ok (.if_icmp .ge 29, 3) := by decide +kernel
theorem dX11_hasRiders_12 : decode cX11_hasRiders 12 = .ok (.iload_n 2, 1) := by decide +kernel
theorem dX11_hasRiders_13 : decode cX11_hasRiders 13 = .ok (.ifCond .ne 13, 3) := by decide +kernel
theorem dX11_hasRiders_16 : decode cX11_hasRiders 16 = .ok (.aload_n 0, 1) := by decide +kernel
theorem dX11_hasRiders_17 : decode cX11_hasRiders 17 = .ok (.getfield 20, 3) := by decide +kernel
theorem dX11_hasRiders_20 : decode cX11_hasRiders 20 = .ok (.iload_n 3, 1) := by decide +kernel
theorem dX11_hasRiders_21 : decode cX11_hasRiders 21 = .ok (.iaload, 1) := by decide +kernel
theorem dX11_hasRiders_22 : decode cX11_hasRiders 22 = .ok (.iload_n 1, 1) := by decide +kernel
theorem dX11_hasRiders_23 : decode cX11_hasRiders 23 = .ok (.if_icmp .ne 7, 3) := by decide +kernel
theorem dX11_hasRiders_26 : decode cX11_hasRiders 26 = .ok (.iconst 1, 1) := by decide +kernel
theorem dX11_hasRiders_27 : decode cX11_hasRiders 27 = .ok (.goto 4, 3) := by decide +kernel
theorem dX11_hasRiders_30 : decode cX11_hasRiders 30 = .ok (.iconst 0, 1) := by decide +kernel
theorem dX11_hasRiders_31 : decode cX11_hasRiders 31 = .ok (.istore_n 2, 1) := by decide +kernel
theorem dX11_hasRiders_32 : decode cX11_hasRiders 32 = .ok (.iinc 3 1, 3) := by decide +kernel
theorem dX11_hasRiders_35 : decode cX11_hasRiders 35 = .ok (.goto (-31), 3) := by decide +kernel
theorem dX11_hasRiders_38 : decode cX11_hasRiders 38 = .ok (.iload_n 2, 1) := by decide +kernel
theorem dX11_hasRiders_39 : decode cX11_hasRiders 39 = .ok (.ifCond .eq 11, 3) := by decide +kernel
theorem dX11_hasRiders_42 : decode cX11_hasRiders 42 = .ok (.iload_n 1, 1) := by decide +kernel
theorem dX11_hasRiders_43 : decode cX11_hasRiders 43 = .ok (.ifCond .lt 7, 3) := by decide +kernel
theorem dX11_hasRiders_46 : decode cX11_hasRiders 46 = .ok (.iconst 1, 1) := by decide +kernel
theorem dX11_hasRiders_47 : decode cX11_hasRiders 47 = .ok (.goto 4, 3) := by decide +kernel
theorem dX11_hasRiders_50 : decode cX11_hasRiders 50 = .ok (.iconst 0, 1) := by decide +kernel
theorem dX11_hasRiders_51 : decode cX11_hasRiders 51 = .ok (.ireturn, 1) := by decide +kernel
theorem dX11_least_0 : decode cX11_least 0 = .ok (.iconst 0, 1) := by decide +kernel
theorem dX11_least_1 : decode cX11_least 1 = .ok (.istore_n 3, 1) := by decide +kernel
theorem dX11_least_2 : decode cX11_least 2 = .ok (.iload_n 3, 1) := by decide +kernel
theorem dX11_least_3 : decode cX11_least 3 = .ok (.aload_n 0, 1) := by decide +kernel
theorem dX11_least_4 : decode cX11_least 4 = .ok (.getfield 17, 3) := by decide +kernel
theorem dX11_least_7 : decode cX11_least 7 = .ok (.if_icmp .ge 131, 3) := by decide +kernel
theorem dX11_least_10 : decode cX11_least 10 = .ok (.aload_n 0, 1) := by decide +kernel
theorem dX11_least_11 : decode cX11_least 11 = .ok (.getfield 20, 3) := by decide +kernel
theorem dX11_least_14 : decode cX11_least 14 = .ok (.iload_n 3, 1) := by decide +kernel
theorem dX11_least_15 : decode cX11_least 15 = .ok (.iaload, 1) := by decide +kernel
theorem dX11_least_16 : decode cX11_least 16 = .ok (.iload_n 1, 1) := by decide +kernel
theorem dX11_least_17 : decode cX11_least 17 = .ok (.if_icmp .ne 115, 3) := by decide +kernel
theorem dX11_least_20 : decode cX11_least 20 = .ok (.aload_n 0, 1) := by decide +kernel
theorem dX11_least_21 : decode cX11_least 21 = .ok (.getfield 142, 3) := by decide +kernel
theorem dX11_least_24 : decode cX11_least 24 = .ok (.iload_n 3, 1) := by decide +kernel
theorem dX11_least_25 : decode cX11_least 25 = .ok (.baload, 1) := by decide +kernel
theorem dX11_least_26 : decode cX11_least 26 = .ok (.ifCond .eq 6, 3) := by decide +kernel
theorem dX11_least_29 : decode cX11_least 29 = .ok (.goto 103, 3) := by decide +kernel
theorem dX11_least_32 : decode cX11_least 32 = .ok (.iconst 0, 1) := by decide +kernel
theorem dX11_least_33 : decode cX11_least 33 = .ok (.istore 4, 2) := by decide +kernel
theorem dX11_least_35 : decode cX11_least 35 = .ok (.iconst 0, 1) := by decide +kernel
theorem dX11_least_36 : decode cX11_least 36 = .ok (.istore 5, 2) := by decide +kernel
theorem dX11_least_38 : decode cX11_least 38 = .ok (.iload 5, 2) := by decide +kernel
theorem dX11_least_40 : decode cX11_least 40 = .ok (.aload_n 0, 1) := by decide +kernel
theorem dX11_least_41 : decode cX11_least 41 = .ok (.getfield 17, 3) := by decide +kernel
theorem dX11_least_44 : decode cX11_least 44 = .ok (.if_icmp .ge 76, 3) := by decide +kernel
theorem dX11_least_47 : decode cX11_least 47 = .ok (.iload 4, 2) := by decide +kernel
theorem dX11_least_49 : decode cX11_least 49 = .ok (.aload_n 0, 1) := by decide +kernel
theorem dX11_least_50 : decode cX11_least 50 = .ok (.getfield 20, 3) := by decide +kernel
theorem dX11_least_53 : decode cX11_least 53 = .ok (.iload 5, 2) := by decide +kernel
theorem dX11_least_55 : decode cX11_least 55 = .ok (.iaload, 1) := by decide +kernel
theorem dX11_least_56 : decode cX11_least 56 = .ok (.iload_n 1, 1) := by decide +kernel
theorem dX11_least_57 : decode cX11_least 57 = .ok (.if_icmp .ne 53, 3) := by decide +kernel
theorem dX11_least_60 : decode cX11_least 60 = .ok (.aload_n 0, 1) := by decide +kernel
theorem dX11_least_61 : decode cX11_least 61 = .ok (.getfield 142, 3) := by decide +kernel
theorem dX11_least_64 : decode cX11_least 64 = .ok (.iload 5, 2) := by decide +kernel
theorem dX11_least_66 : decode cX11_least 66 = .ok (.baload, 1) := by decide +kernel
theorem dX11_least_67 : decode cX11_least 67 = .ok (.ifCond .ne 43, 3) := by decide +kernel
theorem dX11_least_70 : decode cX11_least 70 = .ok (.aload_n 0, 1) := by decide +kernel
theorem dX11_least_71 : decode cX11_least 71 = .ok (.iload 5, 2) := by decide +kernel
theorem dX11_least_73 : decode cX11_least 73 = .ok (.invokevirtual 331, 3) := by decide +kernel
theorem dX11_least_76 : decode cX11_least 76 = .ok (.aload_n 0, 1) := by decide +kernel
theorem dX11_least_77 : decode cX11_least 77 = .ok (.iload_n 3, 1) := by decide +kernel
theorem dX11_least_78 : decode cX11_least 78 = .ok (.invokevirtual 331, 3) := by decide +kernel
theorem dX11_least_81 : decode cX11_least 81 = .ok (.lcmp, 1) := by decide +kernel
theorem dX11_least_82 : decode cX11_least 82 = .ok (.ifCond .lt 24, 3) := by decide +kernel
theorem dX11_least_85 : decode cX11_least 85 = .ok (.aload_n 0, 1) := by decide +kernel
theorem dX11_least_86 : decode cX11_least 86 = .ok (.iload 5, 2) := by decide +kernel
theorem dX11_least_88 : decode cX11_least 88 = .ok (.invokevirtual 331, 3) := by decide +kernel
theorem dX11_least_91 : decode cX11_least 91 = .ok (.aload_n 0, 1) := by decide +kernel
theorem dX11_least_92 : decode cX11_least 92 = .ok (.iload_n 3, 1) := by decide +kernel
theorem dX11_least_93 : decode cX11_least 93 = .ok (.invokevirtual 331, 3) := by decide +kernel
theorem dX11_least_96 : decode cX11_least 96 = .ok (.lcmp, 1) := by decide +kernel
theorem dX11_least_97 : decode cX11_least 97 = .ok (.ifCond .ne 13, 3) := by decide +kernel
theorem dX11_least_100 : decode cX11_least 100 = .ok (.iload 5, 2) := by decide +kernel
theorem dX11_least_102 : decode cX11_least 102 = .ok (.iload_n 3, 1) := by decide +kernel
theorem dX11_least_103 : decode cX11_least 103 = .ok (.if_icmp .ge 7, 3) := by decide +kernel
theorem dX11_least_106 : decode cX11_least 106 = .ok (.iconst 1, 1) := by decide +kernel
theorem dX11_least_107 : decode cX11_least 107 = .ok (.goto 4, 3) := by decide +kernel
theorem dX11_least_110 : decode cX11_least 110 = .ok (.iconst 0, 1) := by decide +kernel
theorem dX11_least_111 : decode cX11_least 111 = .ok (.iadd, 1) := by decide +kernel
theorem dX11_least_112 : decode cX11_least 112 = .ok (.istore 4, 2) := by decide +kernel
theorem dX11_least_114 : decode cX11_least 114 = .ok (.iinc 5 1, 3) := by decide +kernel
theorem dX11_least_117 : decode cX11_least 117 = .ok (.goto (-79), 3) := by decide +kernel
theorem dX11_least_120 : decode cX11_least 120 = .ok (.iload 4, 2) := by decide +kernel
theorem dX11_least_122 : decode cX11_least 122 = .ok (.iload_n 2, 1) := by decide +kernel
theorem dX11_least_123 : decode cX11_least 123 = .ok (.if_icmp .ne 9, 3) := by decide +kernel
theorem dX11_least_126 : decode cX11_least 126 = .ok (.aload_n 0, 1) := by decide +kernel
theorem dX11_least_127 : decode cX11_least 127 = .ok (.iload_n 3, 1) := by decide +kernel
theorem dX11_least_128 : decode cX11_least 128 = .ok (.invokevirtual 331, 3) := by decide +kernel
theorem dX11_least_131 : decode cX11_least 131 = .ok (.lreturn, 1) := by decide +kernel
theorem dX11_least_132 : decode cX11_least 132 = .ok (.iinc 3 1, 3) := by decide +kernel
theorem dX11_least_135 : decode cX11_least 135 = .ok (.goto (-133), 3) := by decide +kernel
theorem dX11_least_138 : decode cX11_least 138 = .ok (.ldc2_w 345, 3) := by decide +kernel
theorem dX11_least_141 : decode cX11_least 141 = .ok (.lreturn, 1) := by decide +kernel
theorem dX11_teamOf_0 : decode cX11_teamOf 0 = .ok (.aload_n 0, 1) := by decide +kernel
theorem dX11_teamOf_1 : decode cX11_teamOf 1 = .ok (.iload_n 1, 1) := by decide +kernel
theorem dX11_teamOf_2 : decode cX11_teamOf 2 = .ok (.iconst 0, 1) := by decide +kernel
theorem dX11_teamOf_3 : decode cX11_teamOf 3 = .ok (.invokevirtual 347, 3) := by decide +kernel
theorem dX11_teamOf_6 : decode cX11_teamOf 6 = .ok (.aload_n 0, 1) := by decide +kernel
theorem dX11_teamOf_7 : decode cX11_teamOf 7 = .ok (.iload_n 1, 1) := by decide +kernel
theorem dX11_teamOf_8 : decode cX11_teamOf 8 = .ok (.iconst 1, 1) := by decide +kernel
theorem dX11_teamOf_9 : decode cX11_teamOf 9 = .ok (.invokevirtual 347, 3) := by decide +kernel
theorem dX11_teamOf_12 : decode cX11_teamOf 12 = .ok (.ladd, 1) := by decide +kernel
theorem dX11_teamOf_13 : decode cX11_teamOf 13 = .ok (.aload_n 0, 1) := by decide +kernel
theorem dX11_teamOf_14 : decode cX11_teamOf 14 = .ok (.iload_n 1, 1) := by decide +kernel
theorem dX11_teamOf_15 : decode cX11_teamOf 15 = .ok (.iconst 2, 1) := by decide +kernel
theorem dX11_teamOf_16 : decode cX11_teamOf 16 = .ok (.invokevirtual 347, 3) := by decide +kernel
theorem dX11_teamOf_19 : decode cX11_teamOf 19 = .ok (.ladd, 1) := by decide +kernel
theorem dX11_teamOf_20 : decode cX11_teamOf 20 = .ok (.lreturn, 1) := by decide +kernel
theorem dX11_team_0 : decode cX11_team 0 = .ok (.iload_n 1, 1) := by decide +kernel
theorem dX11_team_1 : decode cX11_team 1 = .ok (.iconst 0, 1) := by decide +kernel
theorem dX11_team_2 : decode cX11_team 2 = .ok (.iconst 5, 1) := by decide +kernel
theorem dX11_team_3 : decode cX11_team 3 = .ok (.invokestatic 149, 3) := by decide +kernel
theorem dX11_team_6 : decode cX11_team 6 = .ok (.ifCond .eq 11, 3) := by decide +kernel
theorem dX11_team_9 : decode cX11_team 9 = .ok (.aload_n 0, 1) := by decide +kernel
theorem dX11_team_10 : decode cX11_team 10 = .ok (.iload_n 1, 1) := by decide +kernel
theorem dX11_team_11 : decode cX11_team 11 = .ok (.invokevirtual 350, 3) := by decide +kernel
theorem dX11_team_14 : decode cX11_team 14 = .ok (.ifCond .ne 7, 3) := by decide +kernel
theorem dX11_team_17 : decode cX11_team 17 = .ok (.ldc2_w 353, 3) := by decide +kernel
theorem dX11_team_20 : decode cX11_team 20 = .ok (.lreturn, 1) := by decide +kernel
theorem dX11_team_21 : decode cX11_team 21 = .ok (.aload_n 0, 1) := by decide +kernel
theorem dX11_team_22 : decode cX11_team 22 = .ok (.aload_n 0, 1) := by decide +kernel
theorem dX11_team_23 : decode cX11_team 23 = .ok (.invokevirtual 179, 3) := by decide +kernel
theorem dX11_team_26 : decode cX11_team 26 = .ok (.invokevirtual 335, 3) := by decide +kernel
theorem dX11_team_29 : decode cX11_team 29 = .ok (.aload_n 0, 1) := by decide +kernel
theorem dX11_team_30 : decode cX11_team 30 = .ok (.iload_n 1, 1) := by decide +kernel
theorem dX11_team_31 : decode cX11_team 31 = .ok (.invokevirtual 355, 3) := by decide +kernel
theorem dX11_team_34 : decode cX11_team 34 = .ok (.lreturn, 1) := by decide +kernel
theorem dX11_teamPlace_0 : decode cX11_teamPlace 0 = .ok (.iload_n 1, 1) := by decide +kernel
theorem dX11_teamPlace_1 : decode cX11_teamPlace 1 = .ok (.iconst 0, 1) := by decide +kernel
theorem dX11_teamPlace_2 : decode cX11_teamPlace 2 = .ok (.iconst 5, 1) := by decide +kernel
theorem dX11_teamPlace_3 : decode cX11_teamPlace 3 = .ok (.invokestatic 149, 3) := by decide +kernel
theorem dX11_teamPlace_6 : decode cX11_teamPlace 6 = .ok (.ifCond .eq 11, 3) := by decide +kernel
theorem dX11_teamPlace_9 : decode cX11_teamPlace 9 = .ok (.aload_n 0, 1) := by decide +kernel
theorem dX11_teamPlace_10 : decode cX11_teamPlace 10 = .ok (.iload_n 1, 1) := by decide +kernel
theorem dX11_teamPlace_11 : decode cX11_teamPlace 11 = .ok (.invokevirtual 350, 3) := by decide +kernel
theorem dX11_teamPlace_14 : decode cX11_teamPlace 14 = .ok (.ifCond .ne 5, 3) := by decide +kernel
theorem dX11_teamPlace_17 : decode cX11_teamPlace 17 = .ok (.iconst (-1), 1) := by decide +kernel
theorem dX11_teamPlace_18 : decode cX11_teamPlace 18 = .ok (.ireturn, 1) := by decide +kernel
theorem dX11_teamPlace_19 : decode cX11_teamPlace 19 = .ok (.aload_n 0, 1) := by decide +kernel
theorem dX11_teamPlace_20 : decode cX11_teamPlace 20 = .ok (.aload_n 0, 1) := by decide +kernel
theorem dX11_teamPlace_21 : decode cX11_teamPlace 21 = .ok (.invokevirtual 179, 3) := by decide +kernel
theorem dX11_teamPlace_24 : decode cX11_teamPlace 24 = .ok (.invokevirtual 335, 3) := by decide +kernel
theorem dX11_teamPlace_27 : decode cX11_teamPlace 27 = .ok (.iconst 1, 1) := by decide +kernel
theorem dX11_teamPlace_28 : decode cX11_teamPlace 28 = .ok (.istore_n 2, 1) := by decide +kernel
theorem dX11_teamPlace_29 : decode cX11_teamPlace 29 = .ok (.iconst 0, 1) := by decide +kernel
theorem dX11_teamPlace_30 : decode cX11_teamPlace 30 = .ok (.istore_n 3, 1) := by decide +kernel
theorem dX11_teamPlace_31 : decode cX11_teamPlace 31 = .ok (.iload_n 3, 1) := by decide +kernel
theorem dX11_teamPlace_32 : decode cX11_teamPlace 32 = .ok (.bipush 6, 2) := by decide +kernel
theorem dX11_teamPlace_34 : decode cX11_teamPlace 34 = .ok (.if_icmp .ge 81, 3) := by decide +kernel
theorem dX11_teamPlace_37 : decode cX11_teamPlace 37 = .ok (.aload_n 0, 1) := by decide +kernel
theorem dX11_teamPlace_38 : decode cX11_teamPlace 38 = .ok (.iload_n 3, 1) := by decide +kernel
theorem dX11_teamPlace_39 : decode cX11_teamPlace 39 = .ok (.invokevirtual 350, 3) := by decide +kernel
theorem dX11_teamPlace_42 : decode cX11_teamPlace 42 = .ok (.ifCond .eq 51, 3) := by decide +kernel
theorem dX11_teamPlace_45 : decode cX11_teamPlace 45 = .ok (.aload_n 0, 1) := by decide +kernel
theorem dX11_teamPlace_46 : decode cX11_teamPlace 46 = .ok (.iload_n 3, 1) := by decide +kernel
theorem dX11_teamPlace_47 : decode cX11_teamPlace 47 = .ok (.invokevirtual 355, 3) := by decide +kernel
theorem dX11_teamPlace_50 : decode cX11_teamPlace 50 = .ok (.aload_n 0, 1) := by decide +kernel
theorem dX11_teamPlace_51 : decode cX11_teamPlace 51 = .ok (.iload_n 1, 1) := by decide +kernel
theorem dX11_teamPlace_52 : decode cX11_teamPlace 52 = .ok (.invokevirtual 355, 3) := by decide +kernel
theorem dX11_teamPlace_55 : decode cX11_teamPlace 55 = .ok (.lcmp, 1) := by decide +kernel
theorem dX11_teamPlace_56 : decode cX11_teamPlace 56 = .ok (.ifCond .lt 33, 3) := by decide +kernel
theorem dX11_teamPlace_59 : decode cX11_teamPlace 59 = .ok (.aload_n 0, 1) := by decide +kernel
theorem dX11_teamPlace_60 : decode cX11_teamPlace 60 = .ok (.iload_n 3, 1) := by decide +kernel
theorem dX11_teamPlace_61 : decode cX11_teamPlace 61 = .ok (.invokevirtual 355, 3) := by decide +kernel
theorem dX11_teamPlace_64 : decode cX11_teamPlace 64 = .ok (.aload_n 0, 1) := by decide +kernel
theorem dX11_teamPlace_65 : decode cX11_teamPlace 65 = .ok (.iload_n 1, 1) := by decide +kernel
theorem dX11_teamPlace_66 : decode cX11_teamPlace 66 = .ok (.invokevirtual 355, 3) := by decide +kernel
theorem dX11_teamPlace_69 : decode cX11_teamPlace 69 = .ok (.lcmp, 1) := by decide +kernel
theorem dX11_teamPlace_70 : decode cX11_teamPlace 70 = .ok (.ifCond .ne 23, 3) := by decide +kernel
theorem dX11_teamPlace_73 : decode cX11_teamPlace 73 = .ok (.aload_n 0, 1) := by decide +kernel
theorem dX11_teamPlace_74 : decode cX11_teamPlace 74 = .ok (.iload_n 3, 1) := by decide +kernel
theorem dX11_teamPlace_75 : decode cX11_teamPlace 75 = .ok (.iconst 0, 1) := by decide +kernel
theorem dX11_teamPlace_76 : decode cX11_teamPlace 76 = .ok (.invokevirtual 347, 3) := by decide +kernel
theorem dX11_teamPlace_79 : decode cX11_teamPlace 79 = .ok (.aload_n 0, 1) := by decide +kernel
theorem dX11_teamPlace_80 : decode cX11_teamPlace 80 = .ok (.iload_n 1, 1) := by decide +kernel
theorem dX11_teamPlace_81 : decode cX11_teamPlace 81 = .ok (.iconst 0, 1) := by decide +kernel
theorem dX11_teamPlace_82 : decode cX11_teamPlace 82 = .ok (.invokevirtual 347, 3) := by decide +kernel
theorem dX11_teamPlace_85 : decode cX11_teamPlace 85 = .ok (.lcmp, 1) := by decide +kernel
theorem dX11_teamPlace_86 : decode cX11_teamPlace 86 = .ok (.ifCond .ge 7, 3) := by decide +kernel
theorem dX11_teamPlace_89 : decode cX11_teamPlace 89 = .ok (.iconst 1, 1) := by decide +kernel
theorem dX11_teamPlace_90 : decode cX11_teamPlace 90 = .ok (.goto 4, 3) := by decide +kernel
theorem dX11_teamPlace_93 : decode cX11_teamPlace 93 = .ok (.iconst 0, 1) := by decide +kernel
theorem dX11_teamPlace_94 : decode cX11_teamPlace 94 = .ok (.istore 4, 2) := by decide +kernel
theorem dX11_teamPlace_96 : decode cX11_teamPlace 96 = .ok (.iload_n 2, 1) := by decide +kernel
theorem dX11_teamPlace_97 : decode cX11_teamPlace 97 = .ok (.iload 4, 2) := by decide +kernel
theorem dX11_teamPlace_99 : decode cX11_teamPlace 99 = .ok (.ifCond .eq 7, 3) := by decide +kernel
theorem dX11_teamPlace_102 : decode cX11_teamPlace 102 = .ok (.iconst 1, 1) := by decide +kernel
theorem dX11_teamPlace_103 : decode cX11_teamPlace 103 = .ok (.goto 4, 3) := by decide +kernel
theorem dX11_teamPlace_106 : decode cX11_teamPlace 106 = .ok (.iconst 0, 1) := by decide +kernel
theorem dX11_teamPlace_107 : decode cX11_teamPlace 107 = .ok (.iadd, 1) := by decide +kernel
theorem dX11_teamPlace_108 : decode cX11_teamPlace 108 = .ok (.istore_n 2, 1) := by decide +kernel
theorem dX11_teamPlace_109 : decode cX11_teamPlace 109 = .ok (.iinc 3 1, 3) := by decide +kernel
theorem dX11_teamPlace_112 : decode cX11_teamPlace 112 = .ok (.goto (-81), 3) := by decide +kernel
theorem dX11_teamPlace_115 : decode cX11_teamPlace 115 = .ok (.iload_n 2, 1) := by decide +kernel
theorem dX11_teamPlace_116 : decode cX11_teamPlace 116 = .ok (.ireturn, 1) := by decide +kernel
theorem dX11_ring_0 : decode cX11_ring 0 = .ok (.aload_n 0, 1) := by decide +kernel
theorem dX11_ring_1 : decode cX11_ring 1 = .ok (.aload_n 0, 1) := by decide +kernel
theorem dX11_ring_2 : decode cX11_ring 2 = .ok (.invokevirtual 179, 3) := by decide +kernel
theorem dX11_ring_5 : decode cX11_ring 5 = .ok (.invokevirtual 335, 3) := by decide +kernel
theorem dX11_ring_8 : decode cX11_ring 8 = .ok (.iconst 0, 1) := by decide +kernel
theorem dX11_ring_9 : decode cX11_ring 9 = .ok (.istore_n 2, 1) := by decide +kernel
theorem dX11_ring_10 : decode cX11_ring 10 = .ok (.iload_n 2, 1) := by decide +kernel
theorem dX11_ring_11 : decode cX11_ring 11 = .ok (.aload_n 0, 1) := by decide +kernel
theorem dX11_ring_12 : decode cX11_ring 12 = .ok (.getfield 17, 3) := by decide +kernel
theorem dX11_ring_15 : decode cX11_ring 15 = .ok (.if_icmp .ge 100, 3) := by decide +kernel
theorem dX11_ring_18 : decode cX11_ring 18 = .ok (.aload_n 0, 1) := by decide +kernel
theorem dX11_ring_19 : decode cX11_ring 19 = .ok (.getfield 142, 3) := by decide +kernel
theorem dX11_ring_22 : decode cX11_ring 22 = .ok (.iload_n 2, 1) := by decide +kernel
theorem dX11_ring_23 : decode cX11_ring 23 = .ok (.baload, 1) := by decide +kernel
theorem dX11_ring_24 : decode cX11_ring 24 = .ok (.ifCond .eq 6, 3) := by decide +kernel
theorem dX11_ring_27 : decode cX11_ring 27 = .ok (.goto 82, 3) := by decide +kernel
theorem dX11_ring_30 : decode cX11_ring 30 = .ok (.iconst 0, 1) := by decide +kernel
theorem dX11_ring_31 : decode cX11_ring 31 = .ok (.istore_n 3, 1) := by decide +kernel
theorem dX11_ring_32 : decode cX11_ring 32 = .ok (.iconst 0, 1) := by decide +kernel
theorem dX11_ring_33 : decode cX11_ring 33 = .ok (.istore 4, 2) := by decide +kernel
theorem dX11_ring_35 : decode cX11_ring 35 = .ok (.iload 4, 2) := by decide +kernel
theorem dX11_ring_37 : decode cX11_ring 37 = .ok (.aload_n 0, 1) := by decide +kernel
theorem dX11_ring_38 : decode cX11_ring 38 = .ok (.getfield 17, 3) := by decide +kernel
theorem dX11_ring_41 : decode cX11_ring 41 = .ok (.if_icmp .ge 61, 3) := by decide +kernel
theorem dX11_ring_44 : decode cX11_ring 44 = .ok (.iload_n 3, 1) := by decide +kernel
theorem dX11_ring_45 : decode cX11_ring 45 = .ok (.aload_n 0, 1) := by decide +kernel
theorem dX11_ring_46 : decode cX11_ring 46 = .ok (.getfield 142, 3) := by decide +kernel
theorem dX11_ring_49 : decode cX11_ring 49 = .ok (.iload 4, 2) := by decide +kernel
theorem dX11_ring_51 : decode cX11_ring 51 = .ok (.baload, 1) := by decide +kernel
theorem dX11_ring_52 : decode cX11_ring 52 = .ok (.ifCond .ne 41, 3) := by decide +kernel
theorem dX11_ring_55 : decode cX11_ring 55 = .ok (.aload_n 0, 1) := by decide +kernel
theorem dX11_ring_56 : decode cX11_ring 56 = .ok (.iload 4, 2) := by decide +kernel
theorem dX11_ring_58 : decode cX11_ring 58 = .ok (.invokevirtual 341, 3) := by decide +kernel
theorem dX11_ring_61 : decode cX11_ring 61 = .ok (.aload_n 0, 1) := by decide +kernel
theorem dX11_ring_62 : decode cX11_ring 62 = .ok (.iload_n 2, 1) := by decide +kernel
theorem dX11_ring_63 : decode cX11_ring 63 = .ok (.invokevirtual 341, 3) := by decide +kernel
theorem dX11_ring_66 : decode cX11_ring 66 = .ok (.if_icmp .gt 23, 3) := by decide +kernel
theorem dX11_ring_69 : decode cX11_ring 69 = .ok (.aload_n 0, 1) := by decide +kernel
theorem dX11_ring_70 : decode cX11_ring 70 = .ok (.iload 4, 2) := by decide +kernel
theorem dX11_ring_72 : decode cX11_ring 72 = .ok (.invokevirtual 341, 3) := by decide +kernel
theorem dX11_ring_75 : decode cX11_ring 75 = .ok (.aload_n 0, 1) := by decide +kernel
theorem dX11_ring_76 : decode cX11_ring 76 = .ok (.iload_n 2, 1) := by decide +kernel
theorem dX11_ring_77 : decode cX11_ring 77 = .ok (.invokevirtual 341, 3) := by decide +kernel
theorem dX11_ring_80 : decode cX11_ring 80 = .ok (.if_icmp .ne 13, 3) := by decide +kernel
theorem dX11_ring_83 : decode cX11_ring 83 = .ok (.iload 4, 2) := by decide +kernel
theorem dX11_ring_85 : decode cX11_ring 85 = .ok (.iload_n 2, 1) := by decide +kernel
theorem dX11_ring_86 : decode cX11_ring 86 = .ok (.if_icmp .le 7, 3) := by decide +kernel
theorem dX11_ring_89 : decode cX11_ring 89 = .ok (.iconst 1, 1) := by decide +kernel
theorem dX11_ring_90 : decode cX11_ring 90 = .ok (.goto 4, 3) := by decide +kernel
theorem dX11_ring_93 : decode cX11_ring 93 = .ok (.iconst 0, 1) := by decide +kernel
theorem dX11_ring_94 : decode cX11_ring 94 = .ok (.iadd, 1) := by decide +kernel
theorem dX11_ring_95 : decode cX11_ring 95 = .ok (.istore_n 3, 1) := by decide +kernel
theorem dX11_ring_96 : decode cX11_ring 96 = .ok (.iinc 4 1, 3) := by decide +kernel
theorem dX11_ring_99 : decode cX11_ring 99 = .ok (.goto (-64), 3) := by decide +kernel
theorem dX11_ring_102 : decode cX11_ring 102 = .ok (.iload_n 3, 1) := by decide +kernel
theorem dX11_ring_103 : decode cX11_ring 103 = .ok (.iload_n 1, 1) := by decide +kernel
theorem dX11_ring_104 : decode cX11_ring 104 = .ok (.if_icmp .ne 5, 3) := by decide +kernel
theorem dX11_ring_107 : decode cX11_ring 107 = .ok (.iload_n 2, 1) := by decide +kernel
theorem dX11_ring_108 : decode cX11_ring 108 = .ok (.ireturn, 1) := by decide +kernel
theorem dX11_ring_109 : decode cX11_ring 109 = .ok (.iinc 2 1, 3) := by decide +kernel
theorem dX11_ring_112 : decode cX11_ring 112 = .ok (.goto (-102), 3) := by decide +kernel
theorem dX11_ring_115 : decode cX11_ring 115 = .ok (.iconst (-1), 1) := by decide +kernel
theorem dX11_ring_116 : decode cX11_ring 116 = .ok (.ireturn, 1) := by decide +kernel
theorem dX11_since_0 : decode cX11_since 0 = .ok (.aload_n 0, 1) := by decide +kernel
theorem dX11_since_1 : decode cX11_since 1 = .ok (.iload_n 1, 1) := by decide +kernel
theorem dX11_since_2 : decode cX11_since 2 = .ok (.invokevirtual 175, 3) := by decide +kernel
theorem dX11_since_5 : decode cX11_since 5 = .ok (.ifCond .ne 5, 3) := by decide +kernel
theorem dX11_since_8 : decode cX11_since 8 = .ok (.iconst (-1), 1) := by decide +kernel
theorem dX11_since_9 : decode cX11_since 9 = .ok (.ireturn, 1) := by decide +kernel
theorem dX11_since_10 : decode cX11_since 10 = .ok (.aload_n 0, 1) := by decide +kernel
theorem dX11_since_11 : decode cX11_since 11 = .ok (.aload_n 0, 1) := by decide +kernel
theorem dX11_since_12 : decode cX11_since 12 = .ok (.invokevirtual 179, 3) := by decide +kernel
theorem dX11_since_15 : decode cX11_since 15 = .ok (.invokevirtual 335, 3) := by decide +kernel
theorem dX11_since_18 : decode cX11_since 18 = .ok (.aload_n 0, 1) := by decide +kernel
theorem dX11_since_19 : decode cX11_since 19 = .ok (.iload_n 1, 1) := by decide +kernel
theorem dX11_since_20 : decode cX11_since 20 = .ok (.invokevirtual 341, 3) := by decide +kernel
theorem dX11_since_23 : decode cX11_since 23 = .ok (.istore_n 2, 1) := by decide +kernel
theorem dX11_since_24 : decode cX11_since 24 = .ok (.aload_n 0, 1) := by decide +kernel
theorem dX11_since_25 : decode cX11_since 25 = .ok (.invokevirtual 179, 3) := by decide +kernel
theorem dX11_since_28 : decode cX11_since 28 = .ok (.iconst 1, 1) := by decide +kernel
theorem dX11_since_29 : decode cX11_since 29 = .ok (.isub, 1) := by decide +kernel
theorem dX11_since_30 : decode cX11_since 30 = .ok (.istore_n 3, 1) := by decide +kernel
theorem dX11_since_31 : decode cX11_since 31 = .ok (.iload_n 3, 1) := by decide +kernel
theorem dX11_since_32 : decode cX11_since 32 = .ok (.ifCond .lt 25, 3) := by decide +kernel
theorem dX11_since_35 : decode cX11_since 35 = .ok (.aload_n 0, 1) := by decide +kernel
theorem dX11_since_36 : decode cX11_since 36 = .ok (.iload_n 3, 1) := by decide +kernel
theorem dX11_since_37 : decode cX11_since 37 = .ok (.invokevirtual 335, 3) := by decide +kernel
theorem dX11_since_40 : decode cX11_since 40 = .ok (.aload_n 0, 1) := by decide +kernel
theorem dX11_since_41 : decode cX11_since 41 = .ok (.iload_n 1, 1) := by decide +kernel
theorem dX11_since_42 : decode cX11_since 42 = .ok (.invokevirtual 341, 3) := by decide +kernel
theorem dX11_since_45 : decode cX11_since 45 = .ok (.iload_n 2, 1) := by decide +kernel
theorem dX11_since_46 : decode cX11_since 46 = .ok (.if_icmp .eq 5, 3) := by decide +kernel
theorem dX11_since_49 : decode cX11_since 49 = .ok (.iload_n 3, 1) := by decide +kernel
theorem dX11_since_50 : decode cX11_since 50 = .ok (.ireturn, 1) := by decide +kernel
theorem dX11_since_51 : decode cX11_since 51 = .ok (.iinc 3 (-1), 3) := by decide +kernel
theorem dX11_since_54 : decode cX11_since 54 = .ok (.goto (-23), 3) := by decide +kernel
theorem dX11_since_57 : decode cX11_since 57 = .ok (.iconst (-1), 1) := by decide +kernel
theorem dX11_since_58 : decode cX11_since 58 = .ok (.ireturn, 1) := by decide +kernel
theorem dX11_all_0 : decode cX11_all 0 = .ok (.iload_n 1, 1) := by decide +kernel
theorem dX11_all_1 : decode cX11_all 1 = .ok (.tableswitch 69 0 5 #[39, 44, 49, 54, 59, 64], 39) := by decide +kernel
theorem dX11_all_40 : decode cX11_all 40 = .ok (.aload_n 0, 1) := by decide +kernel
theorem dX11_all_41 : decode cX11_all 41 = .ok (.getfield 17, 3) := by decide +kernel
theorem dX11_all_44 : decode cX11_all 44 = .ok (.ireturn, 1) := by decide +kernel
theorem dX11_all_45 : decode cX11_all 45 = .ok (.aload_n 0, 1) := by decide +kernel
theorem dX11_all_46 : decode cX11_all 46 = .ok (.getfield 23, 3) := by decide +kernel
theorem dX11_all_49 : decode cX11_all 49 = .ok (.ireturn, 1) := by decide +kernel
theorem dX11_all_50 : decode cX11_all 50 = .ok (.aload_n 0, 1) := by decide +kernel
theorem dX11_all_51 : decode cX11_all 51 = .ok (.getfield 41, 3) := by decide +kernel
theorem dX11_all_54 : decode cX11_all 54 = .ok (.ireturn, 1) := by decide +kernel
theorem dX11_all_55 : decode cX11_all 55 = .ok (.aload_n 0, 1) := by decide +kernel
theorem dX11_all_56 : decode cX11_all 56 = .ok (.invokevirtual 153, 3) := by decide +kernel
theorem dX11_all_59 : decode cX11_all 59 = .ok (.ireturn, 1) := by decide +kernel
theorem dX11_all_60 : decode cX11_all 60 = .ok (.aload_n 0, 1) := by decide +kernel
theorem dX11_all_61 : decode cX11_all 61 = .ok (.getfield 71, 3) := by decide +kernel
theorem dX11_all_64 : decode cX11_all 64 = .ok (.ireturn, 1) := by decide +kernel
theorem dX11_all_65 : decode cX11_all 65 = .ok (.aload_n 0, 1) := by decide +kernel
theorem dX11_all_66 : decode cX11_all 66 = .ok (.invokevirtual 179, 3) := by decide +kernel
theorem dX11_all_69 : decode cX11_all 69 = .ok (.ireturn, 1) := by decide +kernel
theorem dX11_all_70 : decode cX11_all 70 = .ok (.iconst (-1), 1) := by decide +kernel
theorem dX11_all_71 : decode cX11_all 71 = .ok (.ireturn, 1) := by decide +kernel
theorem dJ9_floorDiv_f86c9_0 : decode cJ9_floorDiv_f86c9 0 = .ok (.lload_n 0, 1) := by decide +kernel
theorem dJ9_floorDiv_f86c9_1 : decode cJ9_floorDiv_f86c9 1 = .ok (.lload_n 2, 1) := by decide +kernel
theorem dJ9_floorDiv_f86c9_2 : decode cJ9_floorDiv_f86c9 2 = .ok (.ldiv, 1) := by decide +kernel
theorem dJ9_floorDiv_f86c9_3 : decode cJ9_floorDiv_f86c9 3 = .ok (.lstore 4, 2) := by decide +kernel
theorem dJ9_floorDiv_f86c9_5 : decode cJ9_floorDiv_f86c9 5 = .ok (.lload_n 0, 1) := by decide +kernel
theorem dJ9_floorDiv_f86c9_6 : decode cJ9_floorDiv_f86c9 6 = .ok (.lload_n 2, 1) := by decide +kernel
theorem dJ9_floorDiv_f86c9_7 : decode cJ9_floorDiv_f86c9 7 = .ok (.lxor, 1) := by decide +kernel
theorem dJ9_floorDiv_f86c9_8 : decode cJ9_floorDiv_f86c9 8 = .ok (.lconst 0, 1) := by decide +kernel
theorem dJ9_floorDiv_f86c9_9 : decode cJ9_floorDiv_f86c9 9 = .ok (.lcmp, 1) := by decide +kernel
theorem dJ9_floorDiv_f86c9_10 : decode cJ9_floorDiv_f86c9 10 = .ok (.ifCond .ge 17, 3) := by decide +kernel
theorem dJ9_floorDiv_f86c9_13 : decode cJ9_floorDiv_f86c9 13 = .ok (.lload 4, 2) := by decide +kernel
theorem dJ9_floorDiv_f86c9_15 : decode cJ9_floorDiv_f86c9 15 = .ok (.lload_n 2, 1) := by decide +kernel
theorem dJ9_floorDiv_f86c9_16 : decode cJ9_floorDiv_f86c9 16 = .ok (.lmul, 1) := by decide +kernel
theorem dJ9_floorDiv_f86c9_17 : decode cJ9_floorDiv_f86c9 17 = .ok (.lload_n 0, 1) := by decide +kernel
theorem dJ9_floorDiv_f86c9_18 : decode cJ9_floorDiv_f86c9 18 = .ok (.lcmp, 1) := by decide +kernel
theorem dJ9_floorDiv_f86c9_19 : decode cJ9_floorDiv_f86c9 19 = .ok (.ifCond .eq 8, 3) := by decide +kernel
theorem dJ9_floorDiv_f86c9_22 : decode cJ9_floorDiv_f86c9 22 = .ok (.lload 4, 2) := by decide +kernel
theorem dJ9_floorDiv_f86c9_24 : decode cJ9_floorDiv_f86c9 24 = .ok (.lconst 1, 1) := by decide +kernel
theorem dJ9_floorDiv_f86c9_25 : decode cJ9_floorDiv_f86c9 25 = .ok (.lsub, 1) := by decide +kernel
theorem dJ9_floorDiv_f86c9_26 : decode cJ9_floorDiv_f86c9 26 = .ok (.lreturn, 1) := by decide +kernel
theorem dJ9_floorDiv_f86c9_27 : decode cJ9_floorDiv_f86c9 27 = .ok (.lload 4, 2) := by decide +kernel
theorem dJ9_floorDiv_f86c9_29 : decode cJ9_floorDiv_f86c9 29 = .ok (.lreturn, 1) := by decide +kernel
theorem dJ9_abs_067f4_0 : decode cJ9_abs_067f4 0 = .ok (.lload_n 0, 1) := by decide +kernel
theorem dJ9_abs_067f4_1 : decode cJ9_abs_067f4 1 = .ok (.lconst 0, 1) := by decide +kernel
theorem dJ9_abs_067f4_2 : decode cJ9_abs_067f4 2 = .ok (.lcmp, 1) := by decide +kernel
theorem dJ9_abs_067f4_3 : decode cJ9_abs_067f4 3 = .ok (.ifCond .ge 8, 3) := by decide +kernel
theorem dJ9_abs_067f4_6 : decode cJ9_abs_067f4 6 = .ok (.lload_n 0, 1) := by decide +kernel
theorem dJ9_abs_067f4_7 : decode cJ9_abs_067f4 7 = .ok (.lneg, 1) := by decide +kernel
theorem dJ9_abs_067f4_8 : decode cJ9_abs_067f4 8 = .ok (.goto 4, 3) := by decide +kernel
theorem dJ9_abs_067f4_11 : decode cJ9_abs_067f4 11 = .ok (.lload_n 0, 1) := by decide +kernel
theorem dJ9_abs_067f4_12 : decode cJ9_abs_067f4 12 = .ok (.lreturn, 1) := by decide +kernel
theorem dJ9_max_7cf53_0 : decode cJ9_max_7cf53 0 = .ok (.iload_n 0, 1) := by decide +kernel
theorem dJ9_max_7cf53_1 : decode cJ9_max_7cf53 1 = .ok (.iload_n 1, 1) := by decide +kernel
theorem dJ9_max_7cf53_2 : decode cJ9_max_7cf53 2 = .ok (.if_icmp .lt 7, 3) := by decide +kernel
theorem dJ9_max_7cf53_5 : decode cJ9_max_7cf53 5 = .ok (.iload_n 0, 1) := by decide +kernel
theorem dJ9_max_7cf53_6 : decode cJ9_max_7cf53 6 = .ok (.goto 4, 3) := by decide +kernel
theorem dJ9_max_7cf53_9 : decode cJ9_max_7cf53 9 = .ok (.iload_n 1, 1) := by decide +kernel
theorem dJ9_max_7cf53_10 : decode cJ9_max_7cf53 10 = .ok (.ireturn, 1) := by decide +kernel
theorem dJ9_max_f86c9_0 : decode cJ9_max_f86c9 0 = .ok (.lload_n 0, 1) := by decide +kernel
theorem dJ9_max_f86c9_1 : decode cJ9_max_f86c9 1 = .ok (.lload_n 2, 1) := by decide +kernel
theorem dJ9_max_f86c9_2 : decode cJ9_max_f86c9 2 = .ok (.lcmp, 1) := by decide +kernel
theorem dJ9_max_f86c9_3 : decode cJ9_max_f86c9 3 = .ok (.ifCond .lt 7, 3) := by decide +kernel
theorem dJ9_max_f86c9_6 : decode cJ9_max_f86c9 6 = .ok (.lload_n 0, 1) := by decide +kernel
theorem dJ9_max_f86c9_7 : decode cJ9_max_f86c9 7 = .ok (.goto 4, 3) := by decide +kernel
theorem dJ9_max_f86c9_10 : decode cJ9_max_f86c9 10 = .ok (.lload_n 2, 1) := by decide +kernel
theorem dJ9_max_f86c9_11 : decode cJ9_max_f86c9 11 = .ok (.lreturn, 1) := by decide +kernel
theorem dJ9_min_7cf53_0 : decode cJ9_min_7cf53 0 = .ok (.iload_n 0, 1) := by decide +kernel
theorem dJ9_min_7cf53_1 : decode cJ9_min_7cf53 1 = .ok (.iload_n 1, 1) := by decide +kernel
theorem dJ9_min_7cf53_2 : decode cJ9_min_7cf53 2 = .ok (.if_icmp .gt 7, 3) := by decide +kernel
theorem dJ9_min_7cf53_5 : decode cJ9_min_7cf53 5 = .ok (.iload_n 0, 1) := by decide +kernel
theorem dJ9_min_7cf53_6 : decode cJ9_min_7cf53 6 = .ok (.goto 4, 3) := by decide +kernel
theorem dJ9_min_7cf53_9 : decode cJ9_min_7cf53 9 = .ok (.iload_n 1, 1) := by decide +kernel
theorem dJ9_min_7cf53_10 : decode cJ9_min_7cf53 10 = .ok (.ireturn, 1) := by decide +kernel
theorem dJ9_min_f86c9_0 : decode cJ9_min_f86c9 0 = .ok (.lload_n 0, 1) := by decide +kernel
theorem dJ9_min_f86c9_1 : decode cJ9_min_f86c9 1 = .ok (.lload_n 2, 1) := by decide +kernel
theorem dJ9_min_f86c9_2 : decode cJ9_min_f86c9 2 = .ok (.lcmp, 1) := by decide +kernel
theorem dJ9_min_f86c9_3 : decode cJ9_min_f86c9 3 = .ok (.ifCond .gt 7, 3) := by decide +kernel
theorem dJ9_min_f86c9_6 : decode cJ9_min_f86c9 6 = .ok (.lload_n 0, 1) := by decide +kernel
theorem dJ9_min_f86c9_7 : decode cJ9_min_f86c9 7 = .ok (.goto 4, 3) := by decide +kernel
theorem dJ9_min_f86c9_10 : decode cJ9_min_f86c9 10 = .ok (.lload_n 2, 1) := by decide +kernel
theorem dJ9_min_f86c9_11 : decode cJ9_min_f86c9 11 = .ok (.lreturn, 1) := by decide +kernel
theorem dJ0_length_8abf5_0 : decode cJ0_length_8abf5 0 = .ok (.aload_n 0, 1) := by decide +kernel
theorem dJ0_length_8abf5_1 : decode cJ0_length_8abf5 1 = .ok (.getfield 9, 3) := by decide +kernel
theorem dJ0_length_8abf5_4 : decode cJ0_length_8abf5 4 = .ok (.arraylength, 1) := by decide +kernel
theorem dJ0_length_8abf5_5 : decode cJ0_length_8abf5 5 = .ok (.aload_n 0, 1) := by decide +kernel
theorem dJ0_length_8abf5_6 : decode cJ0_length_8abf5 6 = .ok (.invokevirtual 335, 3) := by decide +kernel
theorem dJ0_length_8abf5_9 : decode cJ0_length_8abf5 9 = .ok (.ishr, 1) := by decide +kernel
theorem dJ0_length_8abf5_10 : decode cJ0_length_8abf5 10 = .ok (.ireturn, 1) := by decide +kernel
theorem dJ0_charAt_5068e_0 : decode cJ0_charAt_5068e 0 = .ok (.aload_n 0, 1) := by decide +kernel
theorem dJ0_charAt_5068e_1 : decode cJ0_charAt_5068e 1 = .ok (.invokevirtual 492, 3) := by decide +kernel
theorem dJ0_charAt_5068e_4 : decode cJ0_charAt_5068e 4 = .ok (.ifCond .eq 12, 3) := by decide +kernel
theorem dJ0_charAt_5068e_7 : decode cJ0_charAt_5068e 7 = .ok (.aload_n 0, 1) := by decide +kernel
theorem dJ0_charAt_5068e_8 : decode cJ0_charAt_5068e 8 = .ok (.getfield 9, 3) := by decide +kernel
theorem dJ0_charAt_5068e_11 : decode cJ0_charAt_5068e 11 = .ok (.iload_n 1, 1) := by decide +kernel
theorem dJ0_charAt_5068e_12 : decode cJ0_charAt_5068e 12 = .ok (.invokestatic 495, 3) := by decide +kernel
theorem dJ0_charAt_5068e_15 : decode cJ0_charAt_5068e 15 = .ok (.ireturn, 1) := by decide +kernel
theorem dJ0_charAt_5068e_16 : decode cJ0_charAt_5068e 16 = .ok (.aload_n 0, 1) := by decide +kernel
theorem dJ0_charAt_5068e_17 : decode cJ0_charAt_5068e 17 = .ok (.getfield 9, 3) := by decide +kernel
theorem dJ0_charAt_5068e_20 : decode cJ0_charAt_5068e 20 = .ok (.iload_n 1, 1) := by decide +kernel
theorem dJ0_charAt_5068e_21 : decode cJ0_charAt_5068e 21 = .ok (.invokestatic 498, 3) := by decide +kernel
theorem dJ0_charAt_5068e_24 : decode cJ0_charAt_5068e 24 = .ok (.ireturn, 1) := by decide +kernel
theorem dJ0_coder_7d493_0 : decode cJ0_coder_7d493 0 = .ok (.getstatic 38, 3) := by decide +kernel
theorem dJ0_coder_7d493_3 : decode cJ0_coder_7d493 3 = .ok (.ifCond .eq 10, 3) := by decide +kernel
theorem dJ0_coder_7d493_6 : decode cJ0_coder_7d493 6 = .ok (.aload_n 0, 1) := by decide +kernel
theorem dJ0_coder_7d493_7 : decode cJ0_coder_7d493 7 = .ok (.getfield 15, 3) := by decide +kernel
theorem dJ0_coder_7d493_10 : decode cJ0_coder_7d493 10 = .ok (.goto 4, 3) := by decide +kernel
theorem dJ0_coder_7d493_13 : decode cJ0_coder_7d493 13 = .ok (.iconst 1, 1) := by decide +kernel
theorem dJ0_coder_7d493_14 : decode cJ0_coder_7d493 14 = .ok (.ireturn, 1) := by decide +kernel
theorem dJ0_isLatin1_aae02_0 : decode cJ0_isLatin1_aae02 0 = .ok (.getstatic 38, 3) := by decide +kernel
theorem dJ0_isLatin1_aae02_3 : decode cJ0_isLatin1_aae02 3 = .ok (.ifCond .eq 14, 3) := by decide +kernel
theorem dJ0_isLatin1_aae02_6 : decode cJ0_isLatin1_aae02 6 = .ok (.aload_n 0, 1) := by decide +kernel
theorem dJ0_isLatin1_aae02_7 : decode cJ0_isLatin1_aae02 7 = .ok (.getfield 15, 3) := by decide +kernel
theorem dJ0_isLatin1_aae02_10 : decode cJ0_isLatin1_aae02 10 = .ok (.ifCond .ne 7, 3) := by decide +kernel
theorem dJ0_isLatin1_aae02_13 : decode cJ0_isLatin1_aae02 13 = .ok (.iconst 1, 1) := by decide +kernel
theorem dJ0_isLatin1_aae02_14 : decode cJ0_isLatin1_aae02 14 = .ok (.goto 4, 3) := by decide +kernel
theorem dJ0_isLatin1_aae02_17 : decode cJ0_isLatin1_aae02 17 = .ok (.iconst 0, 1) := by decide +kernel
theorem dJ0_isLatin1_aae02_18 : decode cJ0_isLatin1_aae02 18 = .ok (.ireturn, 1) := by decide +kernel
theorem dJ0_checkIndex_df160_0 : decode cJ0_checkIndex_df160 0 = .ok (.iload_n 0, 1) := by decide +kernel
theorem dJ0_checkIndex_df160_1 : decode cJ0_checkIndex_df160 1 = .ok (.iload_n 1, 1) := by decide +kernel
theorem dJ0_checkIndex_df160_2 : decode cJ0_checkIndex_df160 2 = .ok (.getstatic 1053, 3) := by decide +kernel
theorem dJ0_checkIndex_df160_5 : decode cJ0_checkIndex_df160 5 = .ok (.invokestatic 1059, 3) := by decide +kernel
theorem dJ0_checkIndex_df160_8 : decode cJ0_checkIndex_df160 8 = .ok (.pop, 1) := by decide +kernel
theorem dJ0_checkIndex_df160_9 : decode cJ0_checkIndex_df160 9 = .ok (.return_, 1) := by decide +kernel
theorem dJ1_charAt_3b067_0 : decode cJ1_charAt_3b067 0 = .ok (.iload_n 1, 1) := by decide +kernel
theorem dJ1_charAt_3b067_1 : decode cJ1_charAt_3b067 1 = .ok (.aload_n 0, 1) := by decide +kernel
theorem dJ1_charAt_3b067_2 : decode cJ1_charAt_3b067 2 = .ok (.arraylength, 1) := by decide +kernel
theorem dJ1_charAt_3b067_3 : decode cJ1_charAt_3b067 3 = .ok (.invokestatic 9, 3) := by decide +kernel
theorem dJ1_charAt_3b067_6 : decode cJ1_charAt_3b067 6 = .ok (.aload_n 0, 1) := by decide +kernel
theorem dJ1_charAt_3b067_7 : decode cJ1_charAt_3b067 7 = .ok (.iload_n 1, 1) := by decide +kernel
theorem dJ1_charAt_3b067_8 : decode cJ1_charAt_3b067 8 = .ok (.baload, 1) := by decide +kernel
theorem dJ1_charAt_3b067_9 : decode cJ1_charAt_3b067 9 = .ok (.sipush 255, 3) := by decide +kernel
theorem dJ1_charAt_3b067_12 : decode cJ1_charAt_3b067 12 = .ok (.iand, 1) := by decide +kernel
theorem dJ1_charAt_3b067_13 : decode cJ1_charAt_3b067 13 = .ok (.i2c, 1) := by decide +kernel
theorem dJ1_charAt_3b067_14 : decode cJ1_charAt_3b067 14 = .ok (.ireturn, 1) := by decide +kernel
theorem dJ2_getChar_3b067_0 : decode cJ2_getChar_3b067 0 = .ok (.getstatic 44, 3) := by decide +kernel
theorem dJ2_getChar_3b067_3 : decode cJ2_getChar_3b067 3 = .ok (.ifCond .ne 25, 3) := by decide +kernel
theorem dJ2_getChar_3b067_6 : decode cJ2_getChar_3b067 6 = .ok (.iload_n 1, 1) := by decide +kernel
theorem dJ2_getChar_3b067_7 : decode cJ2_getChar_3b067 7 = .ok (.ifCond .lt 11, 3) := by decide +kernel
theorem dJ2_getChar_3b067_10 : decode cJ2_getChar_3b067 10 = .ok (.iload_n 1, 1) := by decide +kernel
theorem dJ2_getChar_3b067_11 : decode cJ2_getChar_3b067 11 = .ok (.aload_n 0, 1) := by decide +kernel
theorem dJ2_getChar_3b067_12 : decode cJ2_getChar_3b067 12 = .ok (.invokestatic 48, 3) := by decide +kernel
theorem dJ2_getChar_3b067_15 : decode cJ2_getChar_3b067 15 = .ok (.if_icmp .lt 13, 3) := by decide +kernel
theorem dJ2_getChar_3b067_18 : decode cJ2_getChar_3b067 18 = .ok (.new 52, 3) := by decide +kernel
theorem dJ2_getChar_3b067_21 : decode cJ2_getChar_3b067 21 = .ok (.dup, 1) := by decide +kernel
theorem dJ2_getChar_3b067_22 : decode cJ2_getChar_3b067 22 = .ok (.ldc 54, 2) := by decide +kernel
theorem dJ2_getChar_3b067_24 : decode cJ2_getChar_3b067 24 = .ok (.invokespecial 56, 3) := by decide +kernel
theorem dJ2_getChar_3b067_27 : decode cJ2_getChar_3b067 27 = .ok (.athrow, 1) := by decide +kernel
theorem dJ2_getChar_3b067_28 : decode cJ2_getChar_3b067 28 = .ok (.iload_n 1, 1) := by decide +kernel
theorem dJ2_getChar_3b067_29 : decode cJ2_getChar_3b067 29 = .ok (.iconst 1, 1) := by decide +kernel
theorem dJ2_getChar_3b067_30 : decode cJ2_getChar_3b067 30 = .ok (.ishl, 1) := by decide +kernel
theorem dJ2_getChar_3b067_31 : decode cJ2_getChar_3b067 31 = .ok (.istore_n 1, 1) := by decide +kernel
theorem dJ2_getChar_3b067_32 : decode cJ2_getChar_3b067 32 = .ok (.aload_n 0, 1) := by decide +kernel
theorem dJ2_getChar_3b067_33 : decode cJ2_getChar_3b067 33 = .ok (.iload_n 1, 1) := by decide +kernel
theorem dJ2_getChar_3b067_34 : decode cJ2_getChar_3b067 34 = .ok (.iinc 1 1, 3) := by decide +kernel
theorem dJ2_getChar_3b067_37 : decode cJ2_getChar_3b067 37 = .ok (.baload, 1) := by decide +kernel
theorem dJ2_getChar_3b067_38 : decode cJ2_getChar_3b067 38 = .ok (.sipush 255, 3) := by decide +kernel
theorem dJ2_getChar_3b067_41 : decode cJ2_getChar_3b067 41 = .ok (.iand, 1) := by decide +kernel
theorem dJ2_getChar_3b067_42 : decode cJ2_getChar_3b067 42 = .ok (.getstatic 59, 3) := by decide +kernel
theorem dJ2_getChar_3b067_45 : decode cJ2_getChar_3b067 45 = .ok (.ishl, 1) := by decide +kernel
theorem dJ2_getChar_3b067_46 : decode cJ2_getChar_3b067 46 = .ok (.aload_n 0, 1) := by decide +kernel
theorem dJ2_getChar_3b067_47 : decode cJ2_getChar_3b067 47 = .ok (.iload_n 1, 1) := by decide +kernel
theorem dJ2_getChar_3b067_48 : decode cJ2_getChar_3b067 48 = .ok (.baload, 1) := by decide +kernel
theorem dJ2_getChar_3b067_49 : decode cJ2_getChar_3b067 49 = .ok (.sipush 255, 3) := by decide +kernel
theorem dJ2_getChar_3b067_52 : decode cJ2_getChar_3b067 52 = .ok (.iand, 1) := by decide +kernel
theorem dJ2_getChar_3b067_53 : decode cJ2_getChar_3b067 53 = .ok (.getstatic 63, 3) := by decide +kernel
theorem dJ2_getChar_3b067_56 : decode cJ2_getChar_3b067 56 = .ok (.ishl, 1) := by decide +kernel
theorem dJ2_getChar_3b067_57 : decode cJ2_getChar_3b067 57 = .ok (.ior, 1) := by decide +kernel
theorem dJ2_getChar_3b067_58 : decode cJ2_getChar_3b067 58 = .ok (.i2c, 1) := by decide +kernel
theorem dJ2_getChar_3b067_59 : decode cJ2_getChar_3b067 59 = .ok (.ireturn, 1) := by decide +kernel
theorem dJ2_length_9d52b_0 : decode cJ2_length_9d52b 0 = .ok (.aload_n 0, 1) := by decide +kernel
theorem dJ2_length_9d52b_1 : decode cJ2_length_9d52b 1 = .ok (.arraylength, 1) := by decide +kernel
theorem dJ2_length_9d52b_2 : decode cJ2_length_9d52b 2 = .ok (.iconst 1, 1) := by decide +kernel
theorem dJ2_length_9d52b_3 : decode cJ2_length_9d52b 3 = .ok (.ishr, 1) := by decide +kernel
theorem dJ2_length_9d52b_4 : decode cJ2_length_9d52b 4 = .ok (.ireturn, 1) := by decide +kernel
theorem dJ2_charAt_3b067_0 : decode cJ2_charAt_3b067 0 = .ok (.iload_n 1, 1) := by decide +kernel
theorem dJ2_charAt_3b067_1 : decode cJ2_charAt_3b067 1 = .ok (.aload_n 0, 1) := by decide +kernel
theorem dJ2_charAt_3b067_2 : decode cJ2_charAt_3b067 2 = .ok (.invokestatic 67, 3) := by decide +kernel
theorem dJ2_charAt_3b067_5 : decode cJ2_charAt_3b067 5 = .ok (.aload_n 0, 1) := by decide +kernel
theorem dJ2_charAt_3b067_6 : decode cJ2_charAt_3b067 6 = .ok (.iload_n 1, 1) := by decide +kernel
theorem dJ2_charAt_3b067_7 : decode cJ2_charAt_3b067 7 = .ok (.invokestatic 71, 3) := by decide +kernel
theorem dJ2_charAt_3b067_10 : decode cJ2_charAt_3b067 10 = .ok (.ireturn, 1) := by decide +kernel
theorem dJ2_checkIndex_2214a_0 : decode cJ2_checkIndex_2214a 0 = .ok (.iload_n 0, 1) := by decide +kernel
theorem dJ2_checkIndex_2214a_1 : decode cJ2_checkIndex_2214a 1 = .ok (.aload_n 1, 1) := by decide +kernel
theorem dJ2_checkIndex_2214a_2 : decode cJ2_checkIndex_2214a 2 = .ok (.invokestatic 48, 3) := by decide +kernel
theorem dJ2_checkIndex_2214a_5 : decode cJ2_checkIndex_2214a 5 = .ok (.invokestatic 414, 3) := by decide +kernel
theorem dJ2_checkIndex_2214a_8 : decode cJ2_checkIndex_2214a 8 = .ok (.return_, 1) := by decide +kernel
theorem dJ3_checkIndex_8e157_0 : decode cJ3_checkIndex_8e157 0 = .ok (.iload_n 0, 1) := by decide +kernel
theorem dJ3_checkIndex_8e157_1 : decode cJ3_checkIndex_8e157 1 = .ok (.ifCond .lt 8, 3) := by decide +kernel
theorem dJ3_checkIndex_8e157_4 : decode cJ3_checkIndex_8e157 4 = .ok (.iload_n 0, 1) := by decide +kernel
theorem dJ3_checkIndex_8e157_5 : decode cJ3_checkIndex_8e157 5 = .ok (.iload_n 1, 1) := by decide +kernel
theorem dJ3_checkIndex_8e157_6 : decode cJ3_checkIndex_8e157 6 = .ok (.if_icmp .lt 10, 3) := by decide +kernel
theorem dJ3_checkIndex_8e157_9 : decode cJ3_checkIndex_8e157 9 = .ok (.aload_n 2, 1) := by decide +kernel
theorem dJ3_checkIndex_8e157_10 : decode cJ3_checkIndex_8e157 10 = .ok (.iload_n 0, 1) := by decide +kernel
theorem dJ3_checkIndex_8e157_11 : decode cJ3_checkIndex_8e157 11 = .ok (.iload_n 1, 1) := by decide +kernel
theorem dJ3_checkIndex_8e157_12 : decode cJ3_checkIndex_8e157 12 = .ok (.invokestatic 95, 3) := by decide +kernel
theorem dJ3_checkIndex_8e157_15 : decode cJ3_checkIndex_8e157 15 = .ok (.athrow, 1) := by decide +kernel
theorem dJ3_checkIndex_8e157_16 : decode cJ3_checkIndex_8e157 16 = .ok (.iload_n 0, 1) := by decide +kernel
theorem dJ3_checkIndex_8e157_17 : decode cJ3_checkIndex_8e157 17 = .ok (.ireturn, 1) := by decide +kernel
theorem dL_law_0 : decode cL_law 0 = .ok (.new 7, 3) := by decide +kernel
theorem dL_law_3 : decode cL_law 3 = .ok (.dup, 1) := by decide +kernel
theorem dL_law_4 : decode cL_law 4 = .ok (.invokespecial 9, 3) := by decide +kernel
theorem dL_law_7 : decode cL_law 7 = .ok (.astore_n 1, 1) := by decide +kernel
theorem dL_law_8 : decode cL_law 8 = .ok (.new 10, 3) := by decide +kernel
theorem dL_law_11 : decode cL_law 11 = .ok (.dup, 1) := by decide +kernel
theorem dL_law_12 : decode cL_law 12 = .ok (.invokespecial 12, 3) := by decide +kernel
theorem dL_law_15 : decode cL_law 15 = .ok (.astore_n 2, 1) := by decide +kernel
theorem dL_law_16 : decode cL_law 16 = .ok (.iconst 0, 1) := by decide +kernel
theorem dL_law_17 : decode cL_law 17 = .ok (.istore_n 3, 1) := by decide +kernel
theorem dL_law_18 : decode cL_law 18 = .ok (.iload_n 3, 1) := by decide +kernel
theorem dL_law_19 : decode cL_law 19 = .ok (.aload_n 0, 1) := by decide +kernel
theorem dL_law_20 : decode cL_law 20 = .ok (.arraylength, 1) := by decide +kernel
theorem dL_law_21 : decode cL_law 21 = .ok (.bipush 6, 2) := by decide +kernel
theorem dL_law_23 : decode cL_law 23 = .ok (.isub, 1) := by decide +kernel
theorem dL_law_24 : decode cL_law 24 = .ok (.if_icmp .gt 784, 3) := by decide +kernel
theorem dL_law_27 : decode cL_law 27 = .ok (.aload_n 0, 1) := by decide +kernel
theorem dL_law_28 : decode cL_law 28 = .ok (.iload_n 3, 1) := by decide +kernel
theorem dL_law_29 : decode cL_law 29 = .ok (.iaload, 1) := by decide +kernel
theorem dL_law_30 : decode cL_law 30 = .ok (.bipush 31, 2) := by decide +kernel
theorem dL_law_32 : decode cL_law 32 = .ok (.iand, 1) := by decide +kernel
theorem dL_law_33 : decode cL_law 33 = .ok (.tableswitch 769 0 22 #[107, 170, 193, 216, 239, 272, 305, 338, 401, 424, 447, 460, 483, 516, 550, 574, 597, 630, 653, 677, 700, 723, 746], 107) := by decide +kernel
theorem dL_law_140 : decode cL_law 140 = .ok (.aload_n 1, 1) := by decide +kernel
theorem dL_law_141 : decode cL_law 141 = .ok (.aload_n 0, 1) := by decide +kernel
theorem dL_law_142 : decode cL_law 142 = .ok (.iload_n 3, 1) := by decide +kernel
theorem dL_law_143 : decode cL_law 143 = .ok (.iconst 1, 1) := by decide +kernel
theorem dL_law_144 : decode cL_law 144 = .ok (.iadd, 1) := by decide +kernel
theorem dL_law_145 : decode cL_law 145 = .ok (.iaload, 1) := by decide +kernel
theorem dL_law_146 : decode cL_law 146 = .ok (.aload_n 0, 1) := by decide +kernel
theorem dL_law_147 : decode cL_law 147 = .ok (.iload_n 3, 1) := by decide +kernel
theorem dL_law_148 : decode cL_law 148 = .ok (.iconst 2, 1) := by decide +kernel
theorem dL_law_149 : decode cL_law 149 = .ok (.iadd, 1) := by decide +kernel
theorem dL_law_150 : decode cL_law 150 = .ok (.iaload, 1) := by decide +kernel
theorem dL_law_151 : decode cL_law 151 = .ok (.aload_n 0, 1) := by decide +kernel
theorem dL_law_152 : decode cL_law 152 = .ok (.iload_n 3, 1) := by decide +kernel
theorem dL_law_153 : decode cL_law 153 = .ok (.iconst 3, 1) := by decide +kernel
theorem dL_law_154 : decode cL_law 154 = .ok (.iadd, 1) := by decide +kernel
theorem dL_law_155 : decode cL_law 155 = .ok (.iaload, 1) := by decide +kernel
theorem dL_law_156 : decode cL_law 156 = .ok (.aload_n 0, 1) := by decide +kernel
theorem dL_law_157 : decode cL_law 157 = .ok (.iload_n 3, 1) := by decide +kernel
theorem dL_law_158 : decode cL_law 158 = .ok (.iconst 4, 1) := by decide +kernel
theorem dL_law_159 : decode cL_law 159 = .ok (.iadd, 1) := by decide +kernel
theorem dL_law_160 : decode cL_law 160 = .ok (.iaload, 1) := by decide +kernel
theorem dL_law_161 : decode cL_law 161 = .ok (.aload_n 0, 1) := by decide +kernel
theorem dL_law_162 : decode cL_law 162 = .ok (.iload_n 3, 1) := by decide +kernel
theorem dL_law_163 : decode cL_law 163 = .ok (.iconst 5, 1) := by decide +kernel
theorem dL_law_164 : decode cL_law 164 = .ok (.iadd, 1) := by decide +kernel
theorem dL_law_165 : decode cL_law 165 = .ok (.iaload, 1) := by decide +kernel
theorem dL_law_166 : decode cL_law 166 = .ok (.invokevirtual 13, 3) := by decide +kernel
theorem dL_law_169 : decode cL_law 169 = .ok (.aload_n 2, 1) := by decide +kernel
theorem dL_law_170 : decode cL_law 170 = .ok (.aload_n 0, 1) := by decide +kernel
theorem dL_law_171 : decode cL_law 171 = .ok (.iload_n 3, 1) := by decide +kernel
theorem dL_law_172 : decode cL_law 172 = .ok (.iconst 1, 1) := by decide +kernel
theorem dL_law_173 : decode cL_law 173 = .ok (.iadd, 1) := by decide +kernel
theorem dL_law_174 : decode cL_law 174 = .ok (.iaload, 1) := by decide +kernel
theorem dL_law_175 : decode cL_law 175 = .ok (.aload_n 0, 1) := by decide +kernel
theorem dL_law_176 : decode cL_law 176 = .ok (.iload_n 3, 1) := by decide +kernel
theorem dL_law_177 : decode cL_law 177 = .ok (.iconst 2, 1) := by decide +kernel
theorem dL_law_178 : decode cL_law 178 = .ok (.iadd, 1) := by decide +kernel
theorem dL_law_179 : decode cL_law 179 = .ok (.iaload, 1) := by decide +kernel
theorem dL_law_180 : decode cL_law 180 = .ok (.aload_n 0, 1) := by decide +kernel
theorem dL_law_181 : decode cL_law 181 = .ok (.iload_n 3, 1) := by decide +kernel
theorem dL_law_182 : decode cL_law 182 = .ok (.iconst 3, 1) := by decide +kernel
theorem dL_law_183 : decode cL_law 183 = .ok (.iadd, 1) := by decide +kernel
theorem dL_law_184 : decode cL_law 184 = .ok (.iaload, 1) := by decide +kernel
theorem dL_law_185 : decode cL_law 185 = .ok (.aload_n 0, 1) := by decide +kernel
theorem dL_law_186 : decode cL_law 186 = .ok (.iload_n 3, 1) := by decide +kernel
theorem dL_law_187 : decode cL_law 187 = .ok (.iconst 4, 1) := by decide +kernel
theorem dL_law_188 : decode cL_law 188 = .ok (.iadd, 1) := by decide +kernel
theorem dL_law_189 : decode cL_law 189 = .ok (.iaload, 1) := by decide +kernel
theorem dL_law_190 : decode cL_law 190 = .ok (.aload_n 0, 1) := by decide +kernel
theorem dL_law_191 : decode cL_law 191 = .ok (.iload_n 3, 1) := by decide +kernel
theorem dL_law_192 : decode cL_law 192 = .ok (.iconst 5, 1) := by decide +kernel
theorem dL_law_193 : decode cL_law 193 = .ok (.iadd, 1) := by decide +kernel
theorem dL_law_194 : decode cL_law 194 = .ok (.iaload, 1) := by decide +kernel
theorem dL_law_195 : decode cL_law 195 = .ok (.invokevirtual 17, 3) := by decide +kernel
theorem dL_law_198 : decode cL_law 198 = .ok (.if_icmp .eq 604, 3) := by decide +kernel
theorem dL_law_201 : decode cL_law 201 = .ok (.iconst 0, 1) := by decide +kernel
theorem dL_law_202 : decode cL_law 202 = .ok (.ireturn, 1) := by decide +kernel
theorem dL_law_203 : decode cL_law 203 = .ok (.aload_n 1, 1) := by decide +kernel
theorem dL_law_204 : decode cL_law 204 = .ok (.aload_n 0, 1) := by decide +kernel
theorem dL_law_205 : decode cL_law 205 = .ok (.iload_n 3, 1) := by decide +kernel
theorem dL_law_206 : decode cL_law 206 = .ok (.iconst 1, 1) := by decide +kernel
theorem dL_law_207 : decode cL_law 207 = .ok (.iadd, 1) := by decide +kernel
theorem dL_law_208 : decode cL_law 208 = .ok (.iaload, 1) := by decide +kernel
theorem dL_law_209 : decode cL_law 209 = .ok (.invokevirtual 18, 3) := by decide +kernel
theorem dL_law_212 : decode cL_law 212 = .ok (.aload_n 2, 1) := by decide +kernel
theorem dL_law_213 : decode cL_law 213 = .ok (.aload_n 0, 1) := by decide +kernel
theorem dL_law_214 : decode cL_law 214 = .ok (.iload_n 3, 1) := by decide +kernel
theorem dL_law_215 : decode cL_law 215 = .ok (.iconst 1, 1) := by decide +kernel
theorem dL_law_216 : decode cL_law 216 = .ok (.iadd, 1) := by decide +kernel
theorem dL_law_217 : decode cL_law 217 = .ok (.iaload, 1) := by decide +kernel
theorem dL_law_218 : decode cL_law 218 = .ok (.invokevirtual 22, 3) := by decide +kernel
theorem dL_law_221 : decode cL_law 221 = .ok (.if_icmp .eq 581, 3) := by decide +kernel
theorem dL_law_224 : decode cL_law 224 = .ok (.iconst 0, 1) := by decide +kernel
theorem dL_law_225 : decode cL_law 225 = .ok (.ireturn, 1) := by decide +kernel
theorem dL_law_226 : decode cL_law 226 = .ok (.aload_n 1, 1) := by decide +kernel
theorem dL_law_227 : decode cL_law 227 = .ok (.aload_n 0, 1) := by decide +kernel
theorem dL_law_228 : decode cL_law 228 = .ok (.iload_n 3, 1) := by decide +kernel
theorem dL_law_229 : decode cL_law 229 = .ok (.iconst 1, 1) := by decide +kernel
theorem dL_law_230 : decode cL_law 230 = .ok (.iadd, 1) := by decide +kernel
theorem dL_law_231 : decode cL_law 231 = .ok (.iaload, 1) := by decide +kernel
theorem dL_law_232 : decode cL_law 232 = .ok (.invokevirtual 23, 3) := by decide +kernel
theorem dL_law_235 : decode cL_law 235 = .ok (.aload_n 2, 1) := by decide +kernel
theorem dL_law_236 : decode cL_law 236 = .ok (.aload_n 0, 1) := by decide +kernel
theorem dL_law_237 : decode cL_law 237 = .ok (.iload_n 3, 1) := by decide +kernel
theorem dL_law_238 : decode cL_law 238 = .ok (.iconst 1, 1) := by decide +kernel
theorem dL_law_239 : decode cL_law 239 = .ok (.iadd, 1) := by decide +kernel
theorem dL_law_240 : decode cL_law 240 = .ok (.iaload, 1) := by decide +kernel
theorem dL_law_241 : decode cL_law 241 = .ok (.invokevirtual 27, 3) := by decide +kernel
theorem dL_law_244 : decode cL_law 244 = .ok (.if_icmp .eq 558, 3) := by decide +kernel
theorem dL_law_247 : decode cL_law 247 = .ok (.iconst 0, 1) := by decide +kernel
theorem dL_law_248 : decode cL_law 248 = .ok (.ireturn, 1) := by decide +kernel
theorem dL_law_249 : decode cL_law 249 = .ok (.aload_n 1, 1) := by decide +kernel
theorem dL_law_250 : decode cL_law 250 = .ok (.aload_n 0, 1) := by decide +kernel
theorem dL_law_251 : decode cL_law 251 = .ok (.iload_n 3, 1) := by decide +kernel
theorem dL_law_252 : decode cL_law 252 = .ok (.iconst 1, 1) := by decide +kernel
theorem dL_law_253 : decode cL_law 253 = .ok (.iadd, 1) := by decide +kernel
theorem dL_law_254 : decode cL_law 254 = .ok (.iaload, 1) := by decide +kernel
theorem dL_law_255 : decode cL_law 255 = .ok (.invokevirtual 28, 3) := by decide +kernel
theorem dL_law_258 : decode cL_law 258 = .ok (.aload_n 2, 1) := by decide +kernel
theorem dL_law_259 : decode cL_law 259 = .ok (.aload_n 0, 1) := by decide +kernel
theorem dL_law_260 : decode cL_law 260 = .ok (.iload_n 3, 1) := by decide +kernel
theorem dL_law_261 : decode cL_law 261 = .ok (.iconst 1, 1) := by decide +kernel
theorem dL_law_262 : decode cL_law 262 = .ok (.iadd, 1) := by decide +kernel
theorem dL_law_263 : decode cL_law 263 = .ok (.iaload, 1) := by decide +kernel
theorem dL_law_264 : decode cL_law 264 = .ok (.invokevirtual 31, 3) := by decide +kernel
theorem dL_law_267 : decode cL_law 267 = .ok (.if_icmp .eq 535, 3) := by decide +kernel
theorem dL_law_270 : decode cL_law 270 = .ok (.iconst 0, 1) := by decide +kernel
theorem dL_law_271 : decode cL_law 271 = .ok (.ireturn, 1) := by decide +kernel
theorem dL_law_272 : decode cL_law 272 = .ok (.aload_n 1, 1) := by decide +kernel
theorem dL_law_273 : decode cL_law 273 = .ok (.aload_n 0, 1) := by decide +kernel
theorem dL_law_274 : decode cL_law 274 = .ok (.iload_n 3, 1) := by decide +kernel
theorem dL_law_275 : decode cL_law 275 = .ok (.iconst 1, 1) := by decide +kernel
theorem dL_law_276 : decode cL_law 276 = .ok (.iadd, 1) := by decide +kernel
theorem dL_law_277 : decode cL_law 277 = .ok (.iaload, 1) := by decide +kernel
theorem dL_law_278 : decode cL_law 278 = .ok (.aload_n 0, 1) := by decide +kernel
theorem dL_law_279 : decode cL_law 279 = .ok (.iload_n 3, 1) := by decide +kernel
theorem dL_law_280 : decode cL_law 280 = .ok (.iconst 2, 1) := by decide +kernel
theorem dL_law_281 : decode cL_law 281 = .ok (.iadd, 1) := by decide +kernel
theorem dL_law_282 : decode cL_law 282 = .ok (.iaload, 1) := by decide +kernel
theorem dL_law_283 : decode cL_law 283 = .ok (.invokevirtual 32, 3) := by decide +kernel
theorem dL_law_286 : decode cL_law 286 = .ok (.aload_n 2, 1) := by decide +kernel
theorem dL_law_287 : decode cL_law 287 = .ok (.aload_n 0, 1) := by decide +kernel
theorem dL_law_288 : decode cL_law 288 = .ok (.iload_n 3, 1) := by decide +kernel
theorem dL_law_289 : decode cL_law 289 = .ok (.iconst 1, 1) := by decide +kernel
theorem dL_law_290 : decode cL_law 290 = .ok (.iadd, 1) := by decide +kernel
theorem dL_law_291 : decode cL_law 291 = .ok (.iaload, 1) := by decide +kernel
theorem dL_law_292 : decode cL_law 292 = .ok (.aload_n 0, 1) := by decide +kernel
theorem dL_law_293 : decode cL_law 293 = .ok (.iload_n 3, 1) := by decide +kernel
theorem dL_law_294 : decode cL_law 294 = .ok (.iconst 2, 1) := by decide +kernel
theorem dL_law_295 : decode cL_law 295 = .ok (.iadd, 1) := by decide +kernel
theorem dL_law_296 : decode cL_law 296 = .ok (.iaload, 1) := by decide +kernel
theorem dL_law_297 : decode cL_law 297 = .ok (.invokevirtual 36, 3) := by decide +kernel
theorem dL_law_300 : decode cL_law 300 = .ok (.if_icmp .eq 502, 3) := by decide +kernel
theorem dL_law_303 : decode cL_law 303 = .ok (.iconst 0, 1) := by decide +kernel
theorem dL_law_304 : decode cL_law 304 = .ok (.ireturn, 1) := by decide +kernel
theorem dL_law_305 : decode cL_law 305 = .ok (.aload_n 1, 1) := by decide +kernel
theorem dL_law_306 : decode cL_law 306 = .ok (.aload_n 0, 1) := by decide +kernel
theorem dL_law_307 : decode cL_law 307 = .ok (.iload_n 3, 1) := by decide +kernel
theorem dL_law_308 : decode cL_law 308 = .ok (.iconst 1, 1) := by decide +kernel
theorem dL_law_309 : decode cL_law 309 = .ok (.iadd, 1) := by decide +kernel
theorem dL_law_310 : decode cL_law 310 = .ok (.iaload, 1) := by decide +kernel
theorem dL_law_311 : decode cL_law 311 = .ok (.aload_n 0, 1) := by decide +kernel
theorem dL_law_312 : decode cL_law 312 = .ok (.iload_n 3, 1) := by decide +kernel
theorem dL_law_313 : decode cL_law 313 = .ok (.iconst 2, 1) := by decide +kernel
theorem dL_law_314 : decode cL_law 314 = .ok (.iadd, 1) := by decide +kernel
theorem dL_law_315 : decode cL_law 315 = .ok (.iaload, 1) := by decide +kernel
theorem dL_law_316 : decode cL_law 316 = .ok (.invokevirtual 37, 3) := by decide +kernel
theorem dL_law_319 : decode cL_law 319 = .ok (.aload_n 2, 1) := by decide +kernel
theorem dL_law_320 : decode cL_law 320 = .ok (.aload_n 0, 1) := by decide +kernel
theorem dL_law_321 : decode cL_law 321 = .ok (.iload_n 3, 1) := by decide +kernel
theorem dL_law_322 : decode cL_law 322 = .ok (.iconst 1, 1) := by decide +kernel
theorem dL_law_323 : decode cL_law 323 = .ok (.iadd, 1) := by decide +kernel
theorem dL_law_324 : decode cL_law 324 = .ok (.iaload, 1) := by decide +kernel
theorem dL_law_325 : decode cL_law 325 = .ok (.aload_n 0, 1) := by decide +kernel
theorem dL_law_326 : decode cL_law 326 = .ok (.iload_n 3, 1) := by decide +kernel
theorem dL_law_327 : decode cL_law 327 = .ok (.iconst 2, 1) := by decide +kernel
theorem dL_law_328 : decode cL_law 328 = .ok (.iadd, 1) := by decide +kernel
theorem dL_law_329 : decode cL_law 329 = .ok (.iaload, 1) := by decide +kernel
theorem dL_law_330 : decode cL_law 330 = .ok (.invokevirtual 41, 3) := by decide +kernel
theorem dL_law_333 : decode cL_law 333 = .ok (.if_icmp .eq 469, 3) := by decide +kernel
theorem dL_law_336 : decode cL_law 336 = .ok (.iconst 0, 1) := by decide +kernel
theorem dL_law_337 : decode cL_law 337 = .ok (.ireturn, 1) := by decide +kernel
theorem dL_law_338 : decode cL_law 338 = .ok (.aload_n 1, 1) := by decide +kernel
theorem dL_law_339 : decode cL_law 339 = .ok (.aload_n 0, 1) := by decide +kernel
theorem dL_law_340 : decode cL_law 340 = .ok (.iload_n 3, 1) := by decide +kernel
theorem dL_law_341 : decode cL_law 341 = .ok (.iconst 1, 1) := by decide +kernel
theorem dL_law_342 : decode cL_law 342 = .ok (.iadd, 1) := by decide +kernel
theorem dL_law_343 : decode cL_law 343 = .ok (.iaload, 1) := by decide +kernel
theorem dL_law_344 : decode cL_law 344 = .ok (.aload_n 0, 1) := by decide +kernel
theorem dL_law_345 : decode cL_law 345 = .ok (.iload_n 3, 1) := by decide +kernel
theorem dL_law_346 : decode cL_law 346 = .ok (.iconst 2, 1) := by decide +kernel
theorem dL_law_347 : decode cL_law 347 = .ok (.iadd, 1) := by decide +kernel
theorem dL_law_348 : decode cL_law 348 = .ok (.iaload, 1) := by decide +kernel
theorem dL_law_349 : decode cL_law 349 = .ok (.invokevirtual 42, 3) := by decide +kernel
theorem dL_law_352 : decode cL_law 352 = .ok (.aload_n 2, 1) := by decide +kernel
theorem dL_law_353 : decode cL_law 353 = .ok (.aload_n 0, 1) := by decide +kernel
theorem dL_law_354 : decode cL_law 354 = .ok (.iload_n 3, 1) := by decide +kernel
theorem dL_law_355 : decode cL_law 355 = .ok (.iconst 1, 1) := by decide +kernel
theorem dL_law_356 : decode cL_law 356 = .ok (.iadd, 1) := by decide +kernel
theorem dL_law_357 : decode cL_law 357 = .ok (.iaload, 1) := by decide +kernel
theorem dL_law_358 : decode cL_law 358 = .ok (.aload_n 0, 1) := by decide +kernel
theorem dL_law_359 : decode cL_law 359 = .ok (.iload_n 3, 1) := by decide +kernel
theorem dL_law_360 : decode cL_law 360 = .ok (.iconst 2, 1) := by decide +kernel
theorem dL_law_361 : decode cL_law 361 = .ok (.iadd, 1) := by decide +kernel
theorem dL_law_362 : decode cL_law 362 = .ok (.iaload, 1) := by decide +kernel
theorem dL_law_363 : decode cL_law 363 = .ok (.invokevirtual 45, 3) := by decide +kernel
theorem dL_law_366 : decode cL_law 366 = .ok (.if_icmp .eq 436, 3) := by decide +kernel
theorem dL_law_369 : decode cL_law 369 = .ok (.iconst 0, 1) := by decide +kernel
theorem dL_law_370 : decode cL_law 370 = .ok (.ireturn, 1) := by decide +kernel
theorem dL_law_371 : decode cL_law 371 = .ok (.aload_n 1, 1) := by decide +kernel
theorem dL_law_372 : decode cL_law 372 = .ok (.aload_n 0, 1) := by decide +kernel
theorem dL_law_373 : decode cL_law 373 = .ok (.iload_n 3, 1) := by decide +kernel
theorem dL_law_374 : decode cL_law 374 = .ok (.iconst 1, 1) := by decide +kernel
theorem dL_law_375 : decode cL_law 375 = .ok (.iadd, 1) := by decide +kernel
theorem dL_law_376 : decode cL_law 376 = .ok (.iaload, 1) := by decide +kernel
theorem dL_law_377 : decode cL_law 377 = .ok (.aload_n 0, 1) := by decide +kernel
theorem dL_law_378 : decode cL_law 378 = .ok (.iload_n 3, 1) := by decide +kernel
theorem dL_law_379 : decode cL_law 379 = .ok (.iconst 2, 1) := by decide +kernel
theorem dL_law_380 : decode cL_law 380 = .ok (.iadd, 1) := by decide +kernel
theorem dL_law_381 : decode cL_law 381 = .ok (.iaload, 1) := by decide +kernel
theorem dL_law_382 : decode cL_law 382 = .ok (.aload_n 0, 1) := by decide +kernel
theorem dL_law_383 : decode cL_law 383 = .ok (.iload_n 3, 1) := by decide +kernel
theorem dL_law_384 : decode cL_law 384 = .ok (.iconst 3, 1) := by decide +kernel
theorem dL_law_385 : decode cL_law 385 = .ok (.iadd, 1) := by decide +kernel
theorem dL_law_386 : decode cL_law 386 = .ok (.iaload, 1) := by decide +kernel
theorem dL_law_387 : decode cL_law 387 = .ok (.aload_n 0, 1) := by decide +kernel
theorem dL_law_388 : decode cL_law 388 = .ok (.iload_n 3, 1) := by decide +kernel
theorem dL_law_389 : decode cL_law 389 = .ok (.iconst 4, 1) := by decide +kernel
theorem dL_law_390 : decode cL_law 390 = .ok (.iadd, 1) := by decide +kernel
theorem dL_law_391 : decode cL_law 391 = .ok (.iaload, 1) := by decide +kernel
theorem dL_law_392 : decode cL_law 392 = .ok (.aload_n 0, 1) := by decide +kernel
theorem dL_law_393 : decode cL_law 393 = .ok (.iload_n 3, 1) := by decide +kernel
theorem dL_law_394 : decode cL_law 394 = .ok (.iconst 5, 1) := by decide +kernel
theorem dL_law_395 : decode cL_law 395 = .ok (.iadd, 1) := by decide +kernel
theorem dL_law_396 : decode cL_law 396 = .ok (.iaload, 1) := by decide +kernel
theorem dL_law_397 : decode cL_law 397 = .ok (.invokevirtual 46, 3) := by decide +kernel
theorem dL_law_400 : decode cL_law 400 = .ok (.aload_n 2, 1) := by decide +kernel
theorem dL_law_401 : decode cL_law 401 = .ok (.aload_n 0, 1) := by decide +kernel
theorem dL_law_402 : decode cL_law 402 = .ok (.iload_n 3, 1) := by decide +kernel
theorem dL_law_403 : decode cL_law 403 = .ok (.iconst 1, 1) := by decide +kernel
theorem dL_law_404 : decode cL_law 404 = .ok (.iadd, 1) := by decide +kernel
theorem dL_law_405 : decode cL_law 405 = .ok (.iaload, 1) := by decide +kernel
theorem dL_law_406 : decode cL_law 406 = .ok (.aload_n 0, 1) := by decide +kernel
theorem dL_law_407 : decode cL_law 407 = .ok (.iload_n 3, 1) := by decide +kernel
theorem dL_law_408 : decode cL_law 408 = .ok (.iconst 2, 1) := by decide +kernel
theorem dL_law_409 : decode cL_law 409 = .ok (.iadd, 1) := by decide +kernel
theorem dL_law_410 : decode cL_law 410 = .ok (.iaload, 1) := by decide +kernel
theorem dL_law_411 : decode cL_law 411 = .ok (.aload_n 0, 1) := by decide +kernel
theorem dL_law_412 : decode cL_law 412 = .ok (.iload_n 3, 1) := by decide +kernel
theorem dL_law_413 : decode cL_law 413 = .ok (.iconst 3, 1) := by decide +kernel
theorem dL_law_414 : decode cL_law 414 = .ok (.iadd, 1) := by decide +kernel
theorem dL_law_415 : decode cL_law 415 = .ok (.iaload, 1) := by decide +kernel
theorem dL_law_416 : decode cL_law 416 = .ok (.aload_n 0, 1) := by decide +kernel
theorem dL_law_417 : decode cL_law 417 = .ok (.iload_n 3, 1) := by decide +kernel
theorem dL_law_418 : decode cL_law 418 = .ok (.iconst 4, 1) := by decide +kernel
theorem dL_law_419 : decode cL_law 419 = .ok (.iadd, 1) := by decide +kernel
theorem dL_law_420 : decode cL_law 420 = .ok (.iaload, 1) := by decide +kernel
theorem dL_law_421 : decode cL_law 421 = .ok (.aload_n 0, 1) := by decide +kernel
theorem dL_law_422 : decode cL_law 422 = .ok (.iload_n 3, 1) := by decide +kernel
theorem dL_law_423 : decode cL_law 423 = .ok (.iconst 5, 1) := by decide +kernel
theorem dL_law_424 : decode cL_law 424 = .ok (.iadd, 1) := by decide +kernel
theorem dL_law_425 : decode cL_law 425 = .ok (.iaload, 1) := by decide +kernel
theorem dL_law_426 : decode cL_law 426 = .ok (.invokevirtual 49, 3) := by decide +kernel
theorem dL_law_429 : decode cL_law 429 = .ok (.if_icmp .eq 373, 3) := by decide +kernel
theorem dL_law_432 : decode cL_law 432 = .ok (.iconst 0, 1) := by decide +kernel
theorem dL_law_433 : decode cL_law 433 = .ok (.ireturn, 1) := by decide +kernel
theorem dL_law_434 : decode cL_law 434 = .ok (.aload_n 1, 1) := by decide +kernel
theorem dL_law_435 : decode cL_law 435 = .ok (.aload_n 0, 1) := by decide +kernel
theorem dL_law_436 : decode cL_law 436 = .ok (.iload_n 3, 1) := by decide +kernel
theorem dL_law_437 : decode cL_law 437 = .ok (.iconst 1, 1) := by decide +kernel
theorem dL_law_438 : decode cL_law 438 = .ok (.iadd, 1) := by decide +kernel
theorem dL_law_439 : decode cL_law 439 = .ok (.iaload, 1) := by decide +kernel
theorem dL_law_440 : decode cL_law 440 = .ok (.invokevirtual 50, 3) := by decide +kernel
theorem dL_law_443 : decode cL_law 443 = .ok (.aload_n 2, 1) := by decide +kernel
theorem dL_law_444 : decode cL_law 444 = .ok (.aload_n 0, 1) := by decide +kernel
theorem dL_law_445 : decode cL_law 445 = .ok (.iload_n 3, 1) := by decide +kernel
theorem dL_law_446 : decode cL_law 446 = .ok (.iconst 1, 1) := by decide +kernel
theorem dL_law_447 : decode cL_law 447 = .ok (.iadd, 1) := by decide +kernel
theorem dL_law_448 : decode cL_law 448 = .ok (.iaload, 1) := by decide +kernel
theorem dL_law_449 : decode cL_law 449 = .ok (.invokevirtual 53, 3) := by decide +kernel
theorem dL_law_452 : decode cL_law 452 = .ok (.if_icmp .eq 350, 3) := by decide +kernel
theorem dL_law_455 : decode cL_law 455 = .ok (.iconst 0, 1) := by decide +kernel
theorem dL_law_456 : decode cL_law 456 = .ok (.ireturn, 1) := by decide +kernel
theorem dL_law_457 : decode cL_law 457 = .ok (.aload_n 1, 1) := by decide +kernel
theorem dL_law_458 : decode cL_law 458 = .ok (.aload_n 0, 1) := by decide +kernel
theorem dL_law_459 : decode cL_law 459 = .ok (.iload_n 3, 1) := by decide +kernel
theorem dL_law_460 : decode cL_law 460 = .ok (.iconst 1, 1) := by decide +kernel
theorem dL_law_461 : decode cL_law 461 = .ok (.iadd, 1) := by decide +kernel
theorem dL_law_462 : decode cL_law 462 = .ok (.iaload, 1) := by decide +kernel
theorem dL_law_463 : decode cL_law 463 = .ok (.invokevirtual 54, 3) := by decide +kernel
theorem dL_law_466 : decode cL_law 466 = .ok (.aload_n 2, 1) := by decide +kernel
theorem dL_law_467 : decode cL_law 467 = .ok (.aload_n 0, 1) := by decide +kernel
theorem dL_law_468 : decode cL_law 468 = .ok (.iload_n 3, 1) := by decide +kernel
theorem dL_law_469 : decode cL_law 469 = .ok (.iconst 1, 1) := by decide +kernel
theorem dL_law_470 : decode cL_law 470 = .ok (.iadd, 1) := by decide +kernel
theorem dL_law_471 : decode cL_law 471 = .ok (.iaload, 1) := by decide +kernel
theorem dL_law_472 : decode cL_law 472 = .ok (.invokevirtual 57, 3) := by decide +kernel
theorem dL_law_475 : decode cL_law 475 = .ok (.if_icmp .eq 327, 3) := by decide +kernel
theorem dL_law_478 : decode cL_law 478 = .ok (.iconst 0, 1) := by decide +kernel
theorem dL_law_479 : decode cL_law 479 = .ok (.ireturn, 1) := by decide +kernel
theorem dL_law_480 : decode cL_law 480 = .ok (.aload_n 1, 1) := by decide +kernel
theorem dL_law_481 : decode cL_law 481 = .ok (.invokevirtual 58, 3) := by decide +kernel
theorem dL_law_484 : decode cL_law 484 = .ok (.aload_n 2, 1) := by decide +kernel
theorem dL_law_485 : decode cL_law 485 = .ok (.invokevirtual 62, 3) := by decide +kernel
theorem dL_law_488 : decode cL_law 488 = .ok (.if_icmp .eq 314, 3) := by decide +kernel
theorem dL_law_491 : decode cL_law 491 = .ok (.iconst 0, 1) := by decide +kernel
theorem dL_law_492 : decode cL_law 492 = .ok (.ireturn, 1) := by decide +kernel
theorem dL_law_493 : decode cL_law 493 = .ok (.aload_n 1, 1) := by decide +kernel
theorem dL_law_494 : decode cL_law 494 = .ok (.aload_n 0, 1) := by decide +kernel
theorem dL_law_495 : decode cL_law 495 = .ok (.iload_n 3, 1) := by decide +kernel
theorem dL_law_496 : decode cL_law 496 = .ok (.iconst 1, 1) := by decide +kernel
theorem dL_law_497 : decode cL_law 497 = .ok (.iadd, 1) := by decide +kernel
theorem dL_law_498 : decode cL_law 498 = .ok (.iaload, 1) := by decide +kernel
theorem dL_law_499 : decode cL_law 499 = .ok (.invokevirtual 63, 3) := by decide +kernel
theorem dL_law_502 : decode cL_law 502 = .ok (.aload_n 2, 1) := by decide +kernel
theorem dL_law_503 : decode cL_law 503 = .ok (.aload_n 0, 1) := by decide +kernel
theorem dL_law_504 : decode cL_law 504 = .ok (.iload_n 3, 1) := by decide +kernel
theorem dL_law_505 : decode cL_law 505 = .ok (.iconst 1, 1) := by decide +kernel
theorem dL_law_506 : decode cL_law 506 = .ok (.iadd, 1) := by decide +kernel
theorem dL_law_507 : decode cL_law 507 = .ok (.iaload, 1) := by decide +kernel
theorem dL_law_508 : decode cL_law 508 = .ok (.invokevirtual 66, 3) := by decide +kernel
theorem dL_law_511 : decode cL_law 511 = .ok (.if_icmp .eq 291, 3) := by decide +kernel
theorem dL_law_514 : decode cL_law 514 = .ok (.iconst 0, 1) := by decide +kernel
theorem dL_law_515 : decode cL_law 515 = .ok (.ireturn, 1) := by decide +kernel
theorem dL_law_516 : decode cL_law 516 = .ok (.aload_n 1, 1) := by decide +kernel
theorem dL_law_517 : decode cL_law 517 = .ok (.aload_n 0, 1) := by decide +kernel
theorem dL_law_518 : decode cL_law 518 = .ok (.iload_n 3, 1) := by decide +kernel
theorem dL_law_519 : decode cL_law 519 = .ok (.iconst 1, 1) := by decide +kernel
theorem dL_law_520 : decode cL_law 520 = .ok (.iadd, 1) := by decide +kernel
theorem dL_law_521 : decode cL_law 521 = .ok (.iaload, 1) := by decide +kernel
theorem dL_law_522 : decode cL_law 522 = .ok (.aload_n 0, 1) := by decide +kernel
theorem dL_law_523 : decode cL_law 523 = .ok (.iload_n 3, 1) := by decide +kernel
theorem dL_law_524 : decode cL_law 524 = .ok (.iconst 2, 1) := by decide +kernel
theorem dL_law_525 : decode cL_law 525 = .ok (.iadd, 1) := by decide +kernel
theorem dL_law_526 : decode cL_law 526 = .ok (.iaload, 1) := by decide +kernel
theorem dL_law_527 : decode cL_law 527 = .ok (.invokevirtual 67, 3) := by decide +kernel
theorem dL_law_530 : decode cL_law 530 = .ok (.aload_n 2, 1) := by decide +kernel
theorem dL_law_531 : decode cL_law 531 = .ok (.aload_n 0, 1) := by decide +kernel
theorem dL_law_532 : decode cL_law 532 = .ok (.iload_n 3, 1) := by decide +kernel
theorem dL_law_533 : decode cL_law 533 = .ok (.iconst 1, 1) := by decide +kernel
theorem dL_law_534 : decode cL_law 534 = .ok (.iadd, 1) := by decide +kernel
theorem dL_law_535 : decode cL_law 535 = .ok (.iaload, 1) := by decide +kernel
theorem dL_law_536 : decode cL_law 536 = .ok (.aload_n 0, 1) := by decide +kernel
theorem dL_law_537 : decode cL_law 537 = .ok (.iload_n 3, 1) := by decide +kernel
theorem dL_law_538 : decode cL_law 538 = .ok (.iconst 2, 1) := by decide +kernel
theorem dL_law_539 : decode cL_law 539 = .ok (.iadd, 1) := by decide +kernel
theorem dL_law_540 : decode cL_law 540 = .ok (.iaload, 1) := by decide +kernel
theorem dL_law_541 : decode cL_law 541 = .ok (.invokevirtual 70, 3) := by decide +kernel
theorem dL_law_544 : decode cL_law 544 = .ok (.if_icmp .eq 258, 3) := by decide +kernel
theorem dL_law_547 : decode cL_law 547 = .ok (.iconst 0, 1) := by decide +kernel
theorem dL_law_548 : decode cL_law 548 = .ok (.ireturn, 1) := by decide +kernel
theorem dL_law_549 : decode cL_law 549 = .ok (.aload_n 1, 1) := by decide +kernel
theorem dL_law_550 : decode cL_law 550 = .ok (.aload_n 0, 1) := by decide +kernel
theorem dL_law_551 : decode cL_law 551 = .ok (.iload_n 3, 1) := by decide +kernel
theorem dL_law_552 : decode cL_law 552 = .ok (.iconst 1, 1) := by decide +kernel
theorem dL_law_553 : decode cL_law 553 = .ok (.iadd, 1) := by decide +kernel
theorem dL_law_554 : decode cL_law 554 = .ok (.iaload, 1) := by decide +kernel
theorem dL_law_555 : decode cL_law 555 = .ok (.aload_n 0, 1) := by decide +kernel
theorem dL_law_556 : decode cL_law 556 = .ok (.iload_n 3, 1) := by decide +kernel
theorem dL_law_557 : decode cL_law 557 = .ok (.iconst 2, 1) := by decide +kernel
theorem dL_law_558 : decode cL_law 558 = .ok (.iadd, 1) := by decide +kernel
theorem dL_law_559 : decode cL_law 559 = .ok (.iaload, 1) := by decide +kernel
theorem dL_law_560 : decode cL_law 560 = .ok (.invokevirtual 71, 3) := by decide +kernel
theorem dL_law_563 : decode cL_law 563 = .ok (.aload_n 2, 1) := by decide +kernel
theorem dL_law_564 : decode cL_law 564 = .ok (.aload_n 0, 1) := by decide +kernel
theorem dL_law_565 : decode cL_law 565 = .ok (.iload_n 3, 1) := by decide +kernel
theorem dL_law_566 : decode cL_law 566 = .ok (.iconst 1, 1) := by decide +kernel
theorem dL_law_567 : decode cL_law 567 = .ok (.iadd, 1) := by decide +kernel
theorem dL_law_568 : decode cL_law 568 = .ok (.iaload, 1) := by decide +kernel
theorem dL_law_569 : decode cL_law 569 = .ok (.aload_n 0, 1) := by decide +kernel
theorem dL_law_570 : decode cL_law 570 = .ok (.iload_n 3, 1) := by decide +kernel
theorem dL_law_571 : decode cL_law 571 = .ok (.iconst 2, 1) := by decide +kernel
theorem dL_law_572 : decode cL_law 572 = .ok (.iadd, 1) := by decide +kernel
theorem dL_law_573 : decode cL_law 573 = .ok (.iaload, 1) := by decide +kernel
theorem dL_law_574 : decode cL_law 574 = .ok (.invokevirtual 75, 3) := by decide +kernel
theorem dL_law_577 : decode cL_law 577 = .ok (.lcmp, 1) := by decide +kernel
theorem dL_law_578 : decode cL_law 578 = .ok (.ifCond .eq 224, 3) := by decide +kernel
theorem dL_law_581 : decode cL_law 581 = .ok (.iconst 0, 1) := by decide +kernel
theorem dL_law_582 : decode cL_law 582 = .ok (.ireturn, 1) := by decide +kernel
theorem dL_law_583 : decode cL_law 583 = .ok (.aload_n 1, 1) := by decide +kernel
theorem dL_law_584 : decode cL_law 584 = .ok (.aload_n 0, 1) := by decide +kernel
theorem dL_law_585 : decode cL_law 585 = .ok (.iload_n 3, 1) := by decide +kernel
theorem dL_law_586 : decode cL_law 586 = .ok (.iconst 1, 1) := by decide +kernel
theorem dL_law_587 : decode cL_law 587 = .ok (.iadd, 1) := by decide +kernel
theorem dL_law_588 : decode cL_law 588 = .ok (.iaload, 1) := by decide +kernel
theorem dL_law_589 : decode cL_law 589 = .ok (.invokevirtual 76, 3) := by decide +kernel
theorem dL_law_592 : decode cL_law 592 = .ok (.aload_n 2, 1) := by decide +kernel
theorem dL_law_593 : decode cL_law 593 = .ok (.aload_n 0, 1) := by decide +kernel
theorem dL_law_594 : decode cL_law 594 = .ok (.iload_n 3, 1) := by decide +kernel
theorem dL_law_595 : decode cL_law 595 = .ok (.iconst 1, 1) := by decide +kernel
theorem dL_law_596 : decode cL_law 596 = .ok (.iadd, 1) := by decide +kernel
theorem dL_law_597 : decode cL_law 597 = .ok (.iaload, 1) := by decide +kernel
theorem dL_law_598 : decode cL_law 598 = .ok (.invokevirtual 80, 3) := by decide +kernel
theorem dL_law_601 : decode cL_law 601 = .ok (.lcmp, 1) := by decide +kernel
theorem dL_law_602 : decode cL_law 602 = .ok (.ifCond .eq 200, 3) := by decide +kernel
theorem dL_law_605 : decode cL_law 605 = .ok (.iconst 0, 1) := by decide +kernel
theorem dL_law_606 : decode cL_law 606 = .ok (.ireturn, 1) := by decide +kernel
theorem dL_law_607 : decode cL_law 607 = .ok (.aload_n 1, 1) := by decide +kernel
theorem dL_law_608 : decode cL_law 608 = .ok (.aload_n 0, 1) := by decide +kernel
theorem dL_law_609 : decode cL_law 609 = .ok (.iload_n 3, 1) := by decide +kernel
theorem dL_law_610 : decode cL_law 610 = .ok (.iconst 1, 1) := by decide +kernel
theorem dL_law_611 : decode cL_law 611 = .ok (.iadd, 1) := by decide +kernel
theorem dL_law_612 : decode cL_law 612 = .ok (.iaload, 1) := by decide +kernel
theorem dL_law_613 : decode cL_law 613 = .ok (.invokevirtual 81, 3) := by decide +kernel
theorem dL_law_616 : decode cL_law 616 = .ok (.aload_n 2, 1) := by decide +kernel
theorem dL_law_617 : decode cL_law 617 = .ok (.aload_n 0, 1) := by decide +kernel
theorem dL_law_618 : decode cL_law 618 = .ok (.iload_n 3, 1) := by decide +kernel
theorem dL_law_619 : decode cL_law 619 = .ok (.iconst 1, 1) := by decide +kernel
theorem dL_law_620 : decode cL_law 620 = .ok (.iadd, 1) := by decide +kernel
theorem dL_law_621 : decode cL_law 621 = .ok (.iaload, 1) := by decide +kernel
theorem dL_law_622 : decode cL_law 622 = .ok (.invokevirtual 84, 3) := by decide +kernel
theorem dL_law_625 : decode cL_law 625 = .ok (.if_icmp .eq 177, 3) := by decide +kernel
theorem dL_law_628 : decode cL_law 628 = .ok (.iconst 0, 1) := by decide +kernel
theorem dL_law_629 : decode cL_law 629 = .ok (.ireturn, 1) := by decide +kernel
theorem dL_law_630 : decode cL_law 630 = .ok (.aload_n 1, 1) := by decide +kernel
theorem dL_law_631 : decode cL_law 631 = .ok (.aload_n 0, 1) := by decide +kernel
theorem dL_law_632 : decode cL_law 632 = .ok (.iload_n 3, 1) := by decide +kernel
theorem dL_law_633 : decode cL_law 633 = .ok (.iconst 1, 1) := by decide +kernel
theorem dL_law_634 : decode cL_law 634 = .ok (.iadd, 1) := by decide +kernel
theorem dL_law_635 : decode cL_law 635 = .ok (.iaload, 1) := by decide +kernel
theorem dL_law_636 : decode cL_law 636 = .ok (.aload_n 0, 1) := by decide +kernel
theorem dL_law_637 : decode cL_law 637 = .ok (.iload_n 3, 1) := by decide +kernel
theorem dL_law_638 : decode cL_law 638 = .ok (.iconst 2, 1) := by decide +kernel
theorem dL_law_639 : decode cL_law 639 = .ok (.iadd, 1) := by decide +kernel
theorem dL_law_640 : decode cL_law 640 = .ok (.iaload, 1) := by decide +kernel
theorem dL_law_641 : decode cL_law 641 = .ok (.invokevirtual 85, 3) := by decide +kernel
theorem dL_law_644 : decode cL_law 644 = .ok (.aload_n 2, 1) := by decide +kernel
theorem dL_law_645 : decode cL_law 645 = .ok (.aload_n 0, 1) := by decide +kernel
theorem dL_law_646 : decode cL_law 646 = .ok (.iload_n 3, 1) := by decide +kernel
theorem dL_law_647 : decode cL_law 647 = .ok (.iconst 1, 1) := by decide +kernel
theorem dL_law_648 : decode cL_law 648 = .ok (.iadd, 1) := by decide +kernel
theorem dL_law_649 : decode cL_law 649 = .ok (.iaload, 1) := by decide +kernel
theorem dL_law_650 : decode cL_law 650 = .ok (.aload_n 0, 1) := by decide +kernel
theorem dL_law_651 : decode cL_law 651 = .ok (.iload_n 3, 1) := by decide +kernel
theorem dL_law_652 : decode cL_law 652 = .ok (.iconst 2, 1) := by decide +kernel
theorem dL_law_653 : decode cL_law 653 = .ok (.iadd, 1) := by decide +kernel
theorem dL_law_654 : decode cL_law 654 = .ok (.iaload, 1) := by decide +kernel
theorem dL_law_655 : decode cL_law 655 = .ok (.invokevirtual 88, 3) := by decide +kernel
theorem dL_law_658 : decode cL_law 658 = .ok (.if_icmp .eq 144, 3) := by decide +kernel
theorem dL_law_661 : decode cL_law 661 = .ok (.iconst 0, 1) := by decide +kernel
theorem dL_law_662 : decode cL_law 662 = .ok (.ireturn, 1) := by decide +kernel
theorem dL_law_663 : decode cL_law 663 = .ok (.aload_n 1, 1) := by decide +kernel
theorem dL_law_664 : decode cL_law 664 = .ok (.aload_n 0, 1) := by decide +kernel
theorem dL_law_665 : decode cL_law 665 = .ok (.iload_n 3, 1) := by decide +kernel
theorem dL_law_666 : decode cL_law 666 = .ok (.iconst 1, 1) := by decide +kernel
theorem dL_law_667 : decode cL_law 667 = .ok (.iadd, 1) := by decide +kernel
theorem dL_law_668 : decode cL_law 668 = .ok (.iaload, 1) := by decide +kernel
theorem dL_law_669 : decode cL_law 669 = .ok (.invokevirtual 89, 3) := by decide +kernel
theorem dL_law_672 : decode cL_law 672 = .ok (.aload_n 2, 1) := by decide +kernel
theorem dL_law_673 : decode cL_law 673 = .ok (.aload_n 0, 1) := by decide +kernel
theorem dL_law_674 : decode cL_law 674 = .ok (.iload_n 3, 1) := by decide +kernel
theorem dL_law_675 : decode cL_law 675 = .ok (.iconst 1, 1) := by decide +kernel
theorem dL_law_676 : decode cL_law 676 = .ok (.iadd, 1) := by decide +kernel
theorem dL_law_677 : decode cL_law 677 = .ok (.iaload, 1) := by decide +kernel
theorem dL_law_678 : decode cL_law 678 = .ok (.invokevirtual 92, 3) := by decide +kernel
theorem dL_law_681 : decode cL_law 681 = .ok (.if_icmp .eq 121, 3) := by decide +kernel
theorem dL_law_684 : decode cL_law 684 = .ok (.iconst 0, 1) := by decide +kernel
theorem dL_law_685 : decode cL_law 685 = .ok (.ireturn, 1) := by decide +kernel
theorem dL_law_686 : decode cL_law 686 = .ok (.aload_n 1, 1) := by decide +kernel
theorem dL_law_687 : decode cL_law 687 = .ok (.aload_n 0, 1) := by decide +kernel
theorem dL_law_688 : decode cL_law 688 = .ok (.iload_n 3, 1) := by decide +kernel
theorem dL_law_689 : decode cL_law 689 = .ok (.iconst 1, 1) := by decide +kernel
theorem dL_law_690 : decode cL_law 690 = .ok (.iadd, 1) := by decide +kernel
theorem dL_law_691 : decode cL_law 691 = .ok (.iaload, 1) := by decide +kernel
theorem dL_law_692 : decode cL_law 692 = .ok (.invokevirtual 93, 3) := by decide +kernel
theorem dL_law_695 : decode cL_law 695 = .ok (.aload_n 2, 1) := by decide +kernel
theorem dL_law_696 : decode cL_law 696 = .ok (.aload_n 0, 1) := by decide +kernel
theorem dL_law_697 : decode cL_law 697 = .ok (.iload_n 3, 1) := by decide +kernel
theorem dL_law_698 : decode cL_law 698 = .ok (.iconst 1, 1) := by decide +kernel
theorem dL_law_699 : decode cL_law 699 = .ok (.iadd, 1) := by decide +kernel
theorem dL_law_700 : decode cL_law 700 = .ok (.iaload, 1) := by decide +kernel
theorem dL_law_701 : decode cL_law 701 = .ok (.invokevirtual 96, 3) := by decide +kernel
theorem dL_law_704 : decode cL_law 704 = .ok (.lcmp, 1) := by decide +kernel
theorem dL_law_705 : decode cL_law 705 = .ok (.ifCond .eq 97, 3) := by decide +kernel
theorem dL_law_708 : decode cL_law 708 = .ok (.iconst 0, 1) := by decide +kernel
theorem dL_law_709 : decode cL_law 709 = .ok (.ireturn, 1) := by decide +kernel
theorem dL_law_710 : decode cL_law 710 = .ok (.aload_n 1, 1) := by decide +kernel
theorem dL_law_711 : decode cL_law 711 = .ok (.aload_n 0, 1) := by decide +kernel
theorem dL_law_712 : decode cL_law 712 = .ok (.iload_n 3, 1) := by decide +kernel
theorem dL_law_713 : decode cL_law 713 = .ok (.iconst 1, 1) := by decide +kernel
theorem dL_law_714 : decode cL_law 714 = .ok (.iadd, 1) := by decide +kernel
theorem dL_law_715 : decode cL_law 715 = .ok (.iaload, 1) := by decide +kernel
theorem dL_law_716 : decode cL_law 716 = .ok (.invokevirtual 97, 3) := by decide +kernel
theorem dL_law_719 : decode cL_law 719 = .ok (.aload_n 2, 1) := by decide +kernel
theorem dL_law_720 : decode cL_law 720 = .ok (.aload_n 0, 1) := by decide +kernel
theorem dL_law_721 : decode cL_law 721 = .ok (.iload_n 3, 1) := by decide +kernel
theorem dL_law_722 : decode cL_law 722 = .ok (.iconst 1, 1) := by decide +kernel
theorem dL_law_723 : decode cL_law 723 = .ok (.iadd, 1) := by decide +kernel
theorem dL_law_724 : decode cL_law 724 = .ok (.iaload, 1) := by decide +kernel
theorem dL_law_725 : decode cL_law 725 = .ok (.invokevirtual 100, 3) := by decide +kernel
theorem dL_law_728 : decode cL_law 728 = .ok (.if_icmp .eq 74, 3) := by decide +kernel
theorem dL_law_731 : decode cL_law 731 = .ok (.iconst 0, 1) := by decide +kernel
theorem dL_law_732 : decode cL_law 732 = .ok (.ireturn, 1) := by decide +kernel
theorem dL_law_733 : decode cL_law 733 = .ok (.aload_n 1, 1) := by decide +kernel
theorem dL_law_734 : decode cL_law 734 = .ok (.aload_n 0, 1) := by decide +kernel
theorem dL_law_735 : decode cL_law 735 = .ok (.iload_n 3, 1) := by decide +kernel
theorem dL_law_736 : decode cL_law 736 = .ok (.iconst 1, 1) := by decide +kernel
theorem dL_law_737 : decode cL_law 737 = .ok (.iadd, 1) := by decide +kernel
theorem dL_law_738 : decode cL_law 738 = .ok (.iaload, 1) := by decide +kernel
theorem dL_law_739 : decode cL_law 739 = .ok (.invokevirtual 101, 3) := by decide +kernel
theorem dL_law_742 : decode cL_law 742 = .ok (.aload_n 2, 1) := by decide +kernel
theorem dL_law_743 : decode cL_law 743 = .ok (.aload_n 0, 1) := by decide +kernel
theorem dL_law_744 : decode cL_law 744 = .ok (.iload_n 3, 1) := by decide +kernel
theorem dL_law_745 : decode cL_law 745 = .ok (.iconst 1, 1) := by decide +kernel
theorem dL_law_746 : decode cL_law 746 = .ok (.iadd, 1) := by decide +kernel
theorem dL_law_747 : decode cL_law 747 = .ok (.iaload, 1) := by decide +kernel
theorem dL_law_748 : decode cL_law 748 = .ok (.invokevirtual 104, 3) := by decide +kernel
theorem dL_law_751 : decode cL_law 751 = .ok (.if_icmp .eq 51, 3) := by decide +kernel
theorem dL_law_754 : decode cL_law 754 = .ok (.iconst 0, 1) := by decide +kernel
theorem dL_law_755 : decode cL_law 755 = .ok (.ireturn, 1) := by decide +kernel
theorem dL_law_756 : decode cL_law 756 = .ok (.aload_n 1, 1) := by decide +kernel
theorem dL_law_757 : decode cL_law 757 = .ok (.aload_n 0, 1) := by decide +kernel
theorem dL_law_758 : decode cL_law 758 = .ok (.iload_n 3, 1) := by decide +kernel
theorem dL_law_759 : decode cL_law 759 = .ok (.iconst 1, 1) := by decide +kernel
theorem dL_law_760 : decode cL_law 760 = .ok (.iadd, 1) := by decide +kernel
theorem dL_law_761 : decode cL_law 761 = .ok (.iaload, 1) := by decide +kernel
theorem dL_law_762 : decode cL_law 762 = .ok (.invokevirtual 105, 3) := by decide +kernel
theorem dL_law_765 : decode cL_law 765 = .ok (.aload_n 2, 1) := by decide +kernel
theorem dL_law_766 : decode cL_law 766 = .ok (.aload_n 0, 1) := by decide +kernel
theorem dL_law_767 : decode cL_law 767 = .ok (.iload_n 3, 1) := by decide +kernel
theorem dL_law_768 : decode cL_law 768 = .ok (.iconst 1, 1) := by decide +kernel
theorem dL_law_769 : decode cL_law 769 = .ok (.iadd, 1) := by decide +kernel
theorem dL_law_770 : decode cL_law 770 = .ok (.iaload, 1) := by decide +kernel
theorem dL_law_771 : decode cL_law 771 = .ok (.invokevirtual 108, 3) := by decide +kernel
theorem dL_law_774 : decode cL_law 774 = .ok (.if_icmp .eq 28, 3) := by decide +kernel
theorem dL_law_777 : decode cL_law 777 = .ok (.iconst 0, 1) := by decide +kernel
theorem dL_law_778 : decode cL_law 778 = .ok (.ireturn, 1) := by decide +kernel
theorem dL_law_779 : decode cL_law 779 = .ok (.aload_n 1, 1) := by decide +kernel
theorem dL_law_780 : decode cL_law 780 = .ok (.aload_n 0, 1) := by decide +kernel
theorem dL_law_781 : decode cL_law 781 = .ok (.iload_n 3, 1) := by decide +kernel
theorem dL_law_782 : decode cL_law 782 = .ok (.iconst 1, 1) := by decide +kernel
theorem dL_law_783 : decode cL_law 783 = .ok (.iadd, 1) := by decide +kernel
theorem dL_law_784 : decode cL_law 784 = .ok (.iaload, 1) := by decide +kernel
theorem dL_law_785 : decode cL_law 785 = .ok (.invokevirtual 109, 3) := by decide +kernel
theorem dL_law_788 : decode cL_law 788 = .ok (.aload_n 2, 1) := by decide +kernel
theorem dL_law_789 : decode cL_law 789 = .ok (.aload_n 0, 1) := by decide +kernel
theorem dL_law_790 : decode cL_law 790 = .ok (.iload_n 3, 1) := by decide +kernel
theorem dL_law_791 : decode cL_law 791 = .ok (.iconst 1, 1) := by decide +kernel
theorem dL_law_792 : decode cL_law 792 = .ok (.iadd, 1) := by decide +kernel
theorem dL_law_793 : decode cL_law 793 = .ok (.iaload, 1) := by decide +kernel
theorem dL_law_794 : decode cL_law 794 = .ok (.invokevirtual 112, 3) := by decide +kernel
theorem dL_law_797 : decode cL_law 797 = .ok (.if_icmp .eq 5, 3) := by decide +kernel
theorem dL_law_800 : decode cL_law 800 = .ok (.iconst 0, 1) := by decide +kernel
theorem dL_law_801 : decode cL_law 801 = .ok (.ireturn, 1) := by decide +kernel
theorem dL_law_802 : decode cL_law 802 = .ok (.iinc 3 6, 3) := by decide +kernel
theorem dL_law_805 : decode cL_law 805 = .ok (.goto (-787), 3) := by decide +kernel
theorem dL_law_808 : decode cL_law 808 = .ok (.iconst 1, 1) := by decide +kernel
theorem dL_law_809 : decode cL_law 809 = .ok (.ireturn, 1) := by decide +kernel
