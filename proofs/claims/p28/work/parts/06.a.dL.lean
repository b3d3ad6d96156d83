theorem dL_low_0 : decode cL_low 0 = .ok (.iload_n 0, 1) := by decide +kernel
theorem dL_low_1 : decode cL_low 1 = .ok (.ldc 7, 2) := by decide +kernel
theorem dL_low_3 : decode cL_low 3 = .ok (.iand, 1) := by decide +kernel
theorem dL_low_4 : decode cL_low 4 = .ok (.iload_n 1, 1) := by decide +kernel
theorem dL_low_5 : decode cL_low 5 = .ok (.irem, 1) := by decide +kernel
theorem dL_low_6 : decode cL_low 6 = .ok (.ireturn, 1) := by decide +kernel
theorem dL_cell_0 : decode cL_cell 0 = .ok (.iload_n 1, 1) := by decide +kernel
theorem dL_cell_1 : decode cL_cell 1 = .ok (.aload_n 0, 1) := by decide +kernel
theorem dL_cell_2 : decode cL_cell 2 = .ok (.arraylength, 1) := by decide +kernel
theorem dL_cell_3 : decode cL_cell 3 = .ok (.if_icmp .ge 9, 3) := by decide +kernel
theorem dL_cell_6 : decode cL_cell 6 = .ok (.aload_n 0, 1) := by decide +kernel
theorem dL_cell_7 : decode cL_cell 7 = .ok (.iload_n 1, 1) := by decide +kernel
theorem dL_cell_8 : decode cL_cell 8 = .ok (.iaload, 1) := by decide +kernel
theorem dL_cell_9 : decode cL_cell 9 = .ok (.goto 11, 3) := by decide +kernel
theorem dL_cell_12 : decode cL_cell 12 = .ok (.ldc 8, 2) := by decide +kernel
theorem dL_cell_14 : decode cL_cell 14 = .ok (.iload_n 1, 1) := by decide +kernel
theorem dL_cell_15 : decode cL_cell 15 = .ok (.imul, 1) := by decide +kernel
theorem dL_cell_16 : decode cL_cell 16 = .ok (.sipush 977, 3) := by decide +kernel
theorem dL_cell_19 : decode cL_cell 19 = .ok (.iadd, 1) := by decide +kernel
theorem dL_cell_20 : decode cL_cell 20 = .ok (.ireturn, 1) := by decide +kernel
theorem dL_least_0 : decode cL_least 0 = .ok (.iload_n 0, 1) := by decide +kernel
theorem dL_least_1 : decode cL_least 1 = .ok (.iconst 2, 1) := by decide +kernel
theorem dL_least_2 : decode cL_least 2 = .ok (.if_icmp .ne 9, 3) := by decide +kernel
theorem dL_least_5 : decode cL_least 5 = .ok (.sipush (-9999), 3) := by decide +kernel
theorem dL_least_8 : decode cL_least 8 = .ok (.goto 4, 3) := by decide +kernel
theorem dL_least_11 : decode cL_least 11 = .ok (.iconst 0, 1) := by decide +kernel
theorem dL_least_12 : decode cL_least 12 = .ok (.ireturn, 1) := by decide +kernel
theorem dL_most_0 : decode cL_most 0 = .ok (.iload_n 0, 1) := by decide +kernel
theorem dL_most_1 : decode cL_most 1 = .ok (.ifCond .ne 7, 3) := by decide +kernel
theorem dL_most_4 : decode cL_most 4 = .ok (.iconst 1, 1) := by decide +kernel
theorem dL_most_5 : decode cL_most 5 = .ok (.goto 16, 3) := by decide +kernel
theorem dL_most_8 : decode cL_most 8 = .ok (.iload_n 0, 1) := by decide +kernel
theorem dL_most_9 : decode cL_most 9 = .ok (.iconst 1, 1) := by decide +kernel
theorem dL_most_10 : decode cL_most 10 = .ok (.if_icmp .ne 8, 3) := by decide +kernel
theorem dL_most_13 : decode cL_most 13 = .ok (.bipush 9, 2) := by decide +kernel
theorem dL_most_15 : decode cL_most 15 = .ok (.goto 6, 3) := by decide +kernel
theorem dL_most_18 : decode cL_most 18 = .ok (.sipush 9999, 3) := by decide +kernel
theorem dL_most_21 : decode cL_most 21 = .ok (.ireturn, 1) := by decide +kernel
theorem dL_valued_0 : decode cL_valued 0 = .ok (.iload_n 0, 1) := by decide +kernel
theorem dL_valued_1 : decode cL_valued 1 = .ok (.bipush 13, 2) := by decide +kernel
theorem dL_valued_3 : decode cL_valued 3 = .ok (.invokestatic 9, 3) := by decide +kernel
theorem dL_valued_6 : decode cL_valued 6 = .ok (.iconst 1, 1) := by decide +kernel
theorem dL_valued_7 : decode cL_valued 7 = .ok (.isub, 1) := by decide +kernel
theorem dL_valued_8 : decode cL_valued 8 = .ok (.istore_n 2, 1) := by decide +kernel
theorem dL_valued_9 : decode cL_valued 9 = .ok (.iload_n 0, 1) := by decide +kernel
theorem dL_valued_10 : decode cL_valued 10 = .ok (.iconst 4, 1) := by decide +kernel
theorem dL_valued_11 : decode cL_valued 11 = .ok (.ishr, 1) := by decide +kernel
theorem dL_valued_12 : decode cL_valued 12 = .ok (.iconst 3, 1) := by decide +kernel
theorem dL_valued_13 : decode cL_valued 13 = .ok (.invokestatic 9, 3) := by decide +kernel
theorem dL_valued_16 : decode cL_valued 16 = .ok (.ifCond .le 7, 3) := by decide +kernel
theorem dL_valued_19 : decode cL_valued 19 = .ok (.iload_n 2, 1) := by decide +kernel
theorem dL_valued_20 : decode cL_valued 20 = .ok (.goto 17, 3) := by decide +kernel
theorem dL_valued_23 : decode cL_valued 23 = .ok (.iload_n 0, 1) := by decide +kernel
theorem dL_valued_24 : decode cL_valued 24 = .ok (.bipush 6, 2) := by decide +kernel
theorem dL_valued_26 : decode cL_valued 26 = .ok (.ishr, 1) := by decide +kernel
theorem dL_valued_27 : decode cL_valued 27 = .ok (.sipush 19999, 3) := by decide +kernel
theorem dL_valued_30 : decode cL_valued 30 = .ok (.invokestatic 9, 3) := by decide +kernel
theorem dL_valued_33 : decode cL_valued 33 = .ok (.sipush 9999, 3) := by decide +kernel
theorem dL_valued_36 : decode cL_valued 36 = .ok (.isub, 1) := by decide +kernel
theorem dL_valued_37 : decode cL_valued 37 = .ok (.istore_n 3, 1) := by decide +kernel
theorem dL_valued_38 : decode cL_valued 38 = .ok (.iload_n 3, 1) := by decide +kernel
theorem dL_valued_39 : decode cL_valued 39 = .ok (.iload_n 1, 1) := by decide +kernel
theorem dL_valued_40 : decode cL_valued 40 = .ok (.invokestatic 15, 3) := by decide +kernel
theorem dL_valued_43 : decode cL_valued 43 = .ok (.if_icmp .ge 10, 3) := by decide +kernel
theorem dL_valued_46 : decode cL_valued 46 = .ok (.iload_n 1, 1) := by decide +kernel
theorem dL_valued_47 : decode cL_valued 47 = .ok (.invokestatic 15, 3) := by decide +kernel
theorem dL_valued_50 : decode cL_valued 50 = .ok (.goto 19, 3) := by decide +kernel
theorem dL_valued_53 : decode cL_valued 53 = .ok (.iload_n 3, 1) := by decide +kernel
theorem dL_valued_54 : decode cL_valued 54 = .ok (.iload_n 1, 1) := by decide +kernel
theorem dL_valued_55 : decode cL_valued 55 = .ok (.invokestatic 19, 3) := by decide +kernel
theorem dL_valued_58 : decode cL_valued 58 = .ok (.if_icmp .le 10, 3) := by decide +kernel
theorem dL_valued_61 : decode cL_valued 61 = .ok (.iload_n 1, 1) := by decide +kernel
theorem dL_valued_62 : decode cL_valued 62 = .ok (.invokestatic 19, 3) := by decide +kernel
theorem dL_valued_65 : decode cL_valued 65 = .ok (.goto 4, 3) := by decide +kernel
theorem dL_valued_68 : decode cL_valued 68 = .ok (.iload_n 3, 1) := by decide +kernel
theorem dL_valued_69 : decode cL_valued 69 = .ok (.ireturn, 1) := by decide +kernel
theorem dL_cast_0 : decode cL_cast 0 = .ok (.iload_n 1, 1) := by decide +kernel
theorem dL_cast_1 : decode cL_cast 1 = .ok (.iconst 2, 1) := by decide +kernel
theorem dL_cast_2 : decode cL_cast 2 = .ok (.if_icmp .ne 7, 3) := by decide +kernel
theorem dL_cast_5 : decode cL_cast 5 = .ok (.iload_n 0, 1) := by decide +kernel
theorem dL_cast_6 : decode cL_cast 6 = .ok (.goto 39, 3) := by decide +kernel
theorem dL_cast_9 : decode cL_cast 9 = .ok (.iload_n 1, 1) := by decide +kernel
theorem dL_cast_10 : decode cL_cast 10 = .ok (.ifCond .ne 15, 3) := by decide +kernel
theorem dL_cast_13 : decode cL_cast 13 = .ok (.iload_n 0, 1) := by decide +kernel
theorem dL_cast_14 : decode cL_cast 14 = .ok (.ifCond .ne 7, 3) := by decide +kernel
theorem dL_cast_17 : decode cL_cast 17 = .ok (.iconst 0, 1) := by decide +kernel
theorem dL_cast_18 : decode cL_cast 18 = .ok (.goto 27, 3) := by decide +kernel
theorem dL_cast_21 : decode cL_cast 21 = .ok (.iconst 1, 1) := by decide +kernel
theorem dL_cast_22 : decode cL_cast 22 = .ok (.goto 23, 3) := by decide +kernel
theorem dL_cast_25 : decode cL_cast 25 = .ok (.iload_n 0, 1) := by decide +kernel
theorem dL_cast_26 : decode cL_cast 26 = .ok (.ifCond .ge 7, 3) := by decide +kernel
theorem dL_cast_29 : decode cL_cast 29 = .ok (.iconst 0, 1) := by decide +kernel
theorem dL_cast_30 : decode cL_cast 30 = .ok (.goto 15, 3) := by decide +kernel
theorem dL_cast_33 : decode cL_cast 33 = .ok (.iload_n 0, 1) := by decide +kernel
theorem dL_cast_34 : decode cL_cast 34 = .ok (.bipush 9, 2) := by decide +kernel
theorem dL_cast_36 : decode cL_cast 36 = .ok (.if_icmp .le 8, 3) := by decide +kernel
theorem dL_cast_39 : decode cL_cast 39 = .ok (.bipush 9, 2) := by decide +kernel
theorem dL_cast_41 : decode cL_cast 41 = .ok (.goto 4, 3) := by decide +kernel
theorem dL_cast_44 : decode cL_cast 44 = .ok (.iload_n 0, 1) := by decide +kernel
theorem dL_cast_45 : decode cL_cast 45 = .ok (.ireturn, 1) := by decide +kernel
theorem dL_table_0 : decode cL_table 0 = .ok (.aload_n 0, 1) := by decide +kernel
theorem dL_table_1 : decode cL_table 1 = .ok (.iconst 0, 1) := by decide +kernel
theorem dL_table_2 : decode cL_table 2 = .ok (.invokevirtual 22, 3) := by decide +kernel
theorem dL_table_5 : decode cL_table 5 = .ok (.istore_n 3, 1) := by decide +kernel
theorem dL_table_6 : decode cL_table 6 = .ok (.aload_n 0, 1) := by decide +kernel
theorem dL_table_7 : decode cL_table 7 = .ok (.iconst 2, 1) := by decide +kernel
theorem dL_table_8 : decode cL_table 8 = .ok (.invokevirtual 22, 3) := by decide +kernel
theorem dL_table_11 : decode cL_table 11 = .ok (.istore 4, 2) := by decide +kernel
theorem dL_table_13 : decode cL_table 13 = .ok (.iload_n 3, 1) := by decide +kernel
theorem dL_table_14 : decode cL_table 14 = .ok (.ifCond .lt 55, 3) := by decide +kernel
theorem dL_table_17 : decode cL_table 17 = .ok (.iload_n 3, 1) := by decide +kernel
theorem dL_table_18 : decode cL_table 18 = .ok (.bipush 30, 2) := by decide +kernel
theorem dL_table_20 : decode cL_table 20 = .ok (.if_icmp .ge 49, 3) := by decide +kernel
theorem dL_table_23 : decode cL_table 23 = .ok (.iload 4, 2) := by decide +kernel
theorem dL_table_25 : decode cL_table 25 = .ok (.bipush 24, 2) := by decide +kernel
theorem dL_table_27 : decode cL_table 27 = .ok (.if_icmp .gt 42, 3) := by decide +kernel
theorem dL_table_30 : decode cL_table 30 = .ok (.aload_n 0, 1) := by decide +kernel
theorem dL_table_31 : decode cL_table 31 = .ok (.iconst 5, 1) := by decide +kernel
theorem dL_table_32 : decode cL_table 32 = .ok (.invokevirtual 22, 3) := by decide +kernel
theorem dL_table_35 : decode cL_table 35 = .ok (.aload_n 0, 1) := by decide +kernel
theorem dL_table_36 : decode cL_table 36 = .ok (.iconst 4, 1) := by decide +kernel
theorem dL_table_37 : decode cL_table 37 = .ok (.invokevirtual 22, 3) := by decide +kernel
theorem dL_table_40 : decode cL_table 40 = .ok (.if_icmp .gt 29, 3) := by decide +kernel
theorem dL_table_43 : decode cL_table 43 = .ok (.aload_n 0, 1) := by decide +kernel
theorem dL_table_44 : decode cL_table 44 = .ok (.iconst 1, 1) := by decide +kernel
theorem dL_table_45 : decode cL_table 45 = .ok (.invokevirtual 27, 3) := by decide +kernel
theorem dL_table_48 : decode cL_table 48 = .ok (.aload_n 0, 1) := by decide +kernel
theorem dL_table_49 : decode cL_table 49 = .ok (.iconst 5, 1) := by decide +kernel
theorem dL_table_50 : decode cL_table 50 = .ok (.invokevirtual 22, 3) := by decide +kernel
theorem dL_table_53 : decode cL_table 53 = .ok (.if_icmp .gt 16, 3) := by decide +kernel
theorem dL_table_56 : decode cL_table 56 = .ok (.aload_n 0, 1) := by decide +kernel
theorem dL_table_57 : decode cL_table 57 = .ok (.iconst 0, 1) := by decide +kernel
theorem dL_table_58 : decode cL_table 58 = .ok (.invokevirtual 27, 3) := by decide +kernel
theorem dL_table_61 : decode cL_table 61 = .ok (.iload_n 3, 1) := by decide +kernel
theorem dL_table_62 : decode cL_table 62 = .ok (.if_icmp .gt 7, 3) := by decide +kernel
theorem dL_table_65 : decode cL_table 65 = .ok (.iconst 1, 1) := by decide +kernel
theorem dL_table_66 : decode cL_table 66 = .ok (.goto 4, 3) := by decide +kernel
theorem dL_table_69 : decode cL_table 69 = .ok (.iconst 0, 1) := by decide +kernel
theorem dL_table_70 : decode cL_table 70 = .ok (.istore 5, 2) := by decide +kernel
theorem dL_table_72 : decode cL_table 72 = .ok (.iconst 1, 1) := by decide +kernel
theorem dL_table_73 : decode cL_table 73 = .ok (.istore 6, 2) := by decide +kernel
theorem dL_table_75 : decode cL_table 75 = .ok (.iload 6, 2) := by decide +kernel
theorem dL_table_77 : decode cL_table 77 = .ok (.iload_n 3, 1) := by decide +kernel
theorem dL_table_78 : decode cL_table 78 = .ok (.if_icmp .gt 90, 3) := by decide +kernel
theorem dL_table_81 : decode cL_table 81 = .ok (.iload 5, 2) := by decide +kernel
theorem dL_table_83 : decode cL_table 83 = .ok (.ifCond .eq 85, 3) := by decide +kernel
theorem dL_table_86 : decode cL_table 86 = .ok (.iconst 0, 1) := by decide +kernel
theorem dL_table_87 : decode cL_table 87 = .ok (.istore 7, 2) := by decide +kernel
theorem dL_table_89 : decode cL_table 89 = .ok (.iconst 0, 1) := by decide +kernel
theorem dL_table_90 : decode cL_table 90 = .ok (.istore 8, 2) := by decide +kernel
theorem dL_table_92 : decode cL_table 92 = .ok (.iload 8, 2) := by decide +kernel
theorem dL_table_94 : decode cL_table 94 = .ok (.bipush 8, 2) := by decide +kernel
theorem dL_table_96 : decode cL_table 96 = .ok (.if_icmp .ge 42, 3) := by decide +kernel
theorem dL_table_99 : decode cL_table 99 = .ok (.iload 7, 2) := by decide +kernel
theorem dL_table_101 : decode cL_table 101 = .ok (.aload_n 0, 1) := by decide +kernel
theorem dL_table_102 : decode cL_table 102 = .ok (.iload 6, 2) := by decide +kernel
theorem dL_table_104 : decode cL_table 104 = .ok (.iload 8, 2) := by decide +kernel
theorem dL_table_106 : decode cL_table 106 = .ok (.iconst 0, 1) := by decide +kernel
theorem dL_table_107 : decode cL_table 107 = .ok (.invokevirtual 30, 3) := by decide +kernel
theorem dL_table_110 : decode cL_table 110 = .ok (.aload_n 0, 1) := by decide +kernel
theorem dL_table_111 : decode cL_table 111 = .ok (.iload 6, 2) := by decide +kernel
theorem dL_table_113 : decode cL_table 113 = .ok (.iconst 1, 1) := by decide +kernel
theorem dL_table_114 : decode cL_table 114 = .ok (.isub, 1) := by decide +kernel
theorem dL_table_115 : decode cL_table 115 = .ok (.iload 8, 2) := by decide +kernel
theorem dL_table_117 : decode cL_table 117 = .ok (.iconst 0, 1) := by decide +kernel
theorem dL_table_118 : decode cL_table 118 = .ok (.invokevirtual 30, 3) := by decide +kernel
theorem dL_table_121 : decode cL_table 121 = .ok (.if_icmp .ne 7, 3) := by decide +kernel
theorem dL_table_124 : decode cL_table 124 = .ok (.iconst 0, 1) := by decide +kernel
theorem dL_table_125 : decode cL_table 125 = .ok (.goto 4, 3) := by decide +kernel
theorem dL_table_128 : decode cL_table 128 = .ok (.iconst 1, 1) := by decide +kernel
theorem dL_table_129 : decode cL_table 129 = .ok (.iadd, 1) := by decide +kernel
theorem dL_table_130 : decode cL_table 130 = .ok (.istore 7, 2) := by decide +kernel
theorem dL_table_132 : decode cL_table 132 = .ok (.iinc 8 1, 3) := by decide +kernel
theorem dL_table_135 : decode cL_table 135 = .ok (.goto (-43), 3) := by decide +kernel
theorem dL_table_138 : decode cL_table 138 = .ok (.iload 7, 2) := by decide +kernel
theorem dL_table_140 : decode cL_table 140 = .ok (.iconst 1, 1) := by decide +kernel
theorem dL_table_141 : decode cL_table 141 = .ok (.if_icmp .ne 18, 3) := by decide +kernel
theorem dL_table_144 : decode cL_table 144 = .ok (.aload_n 0, 1) := by decide +kernel
theorem dL_table_145 : decode cL_table 145 = .ok (.iload 6, 2) := by decide +kernel
theorem dL_table_147 : decode cL_table 147 = .ok (.iconst 3, 1) := by decide +kernel
theorem dL_table_148 : decode cL_table 148 = .ok (.invokevirtual 34, 3) := by decide +kernel
theorem dL_table_151 : decode cL_table 151 = .ok (.iconst 1, 1) := by decide +kernel
theorem dL_table_152 : decode cL_table 152 = .ok (.if_icmp .gt 7, 3) := by decide +kernel
theorem dL_table_155 : decode cL_table 155 = .ok (.iconst 1, 1) := by decide +kernel
theorem dL_table_156 : decode cL_table 156 = .ok (.goto 4, 3) := by decide +kernel
theorem dL_table_159 : decode cL_table 159 = .ok (.iconst 0, 1) := by decide +kernel
theorem dL_table_160 : decode cL_table 160 = .ok (.istore 5, 2) := by decide +kernel
theorem dL_table_162 : decode cL_table 162 = .ok (.iinc 6 1, 3) := by decide +kernel
theorem dL_table_165 : decode cL_table 165 = .ok (.goto (-90), 3) := by decide +kernel
theorem dL_table_168 : decode cL_table 168 = .ok (.aload_n 0, 1) := by decide +kernel
theorem dL_table_169 : decode cL_table 169 = .ok (.iload_n 1, 1) := by decide +kernel
theorem dL_table_170 : decode cL_table 170 = .ok (.iload_n 2, 1) := by decide +kernel
theorem dL_table_171 : decode cL_table 171 = .ok (.iconst 0, 1) := by decide +kernel
theorem dL_table_172 : decode cL_table 172 = .ok (.invokevirtual 37, 3) := by decide +kernel
theorem dL_table_175 : decode cL_table 175 = .ok (.istore 6, 2) := by decide +kernel
theorem dL_table_177 : decode cL_table 177 = .ok (.iconst 0, 1) := by decide +kernel
theorem dL_table_178 : decode cL_table 178 = .ok (.istore 7, 2) := by decide +kernel
theorem dL_table_180 : decode cL_table 180 = .ok (.iload 7, 2) := by decide +kernel
theorem dL_table_182 : decode cL_table 182 = .ok (.bipush 8, 2) := by decide +kernel
theorem dL_table_184 : decode cL_table 184 = .ok (.if_icmp .ge 413, 3) := by decide +kernel
theorem dL_table_187 : decode cL_table 187 = .ok (.iload 5, 2) := by decide +kernel
theorem dL_table_189 : decode cL_table 189 = .ok (.ifCond .eq 408, 3) := by decide +kernel
theorem dL_table_192 : decode cL_table 192 = .ok (.iload 4, 2) := by decide +kernel
theorem dL_table_194 : decode cL_table 194 = .ok (.ifCond .le 403, 3) := by decide +kernel
theorem dL_table_197 : decode cL_table 197 = .ok (.iload_n 2, 1) := by decide +kernel
theorem dL_table_198 : decode cL_table 198 = .ok (.iload_n 1, 1) := by decide +kernel
theorem dL_table_199 : decode cL_table 199 = .ok (.if_icmp .lt 7, 3) := by decide +kernel
theorem dL_table_202 : decode cL_table 202 = .ok (.iconst 1, 1) := by decide +kernel
theorem dL_table_203 : decode cL_table 203 = .ok (.goto 4, 3) := by decide +kernel
theorem dL_table_206 : decode cL_table 206 = .ok (.iconst 0, 1) := by decide +kernel
theorem dL_table_207 : decode cL_table 207 = .ok (.istore 8, 2) := by decide +kernel
theorem dL_table_209 : decode cL_table 209 = .ok (.iconst 0, 1) := by decide +kernel
theorem dL_table_210 : decode cL_table 210 = .ok (.istore 9, 2) := by decide +kernel
theorem dL_table_212 : decode cL_table 212 = .ok (.iload_n 1, 1) := by decide +kernel
theorem dL_table_213 : decode cL_table 213 = .ok (.istore 10, 2) := by decide +kernel
theorem dL_table_215 : decode cL_table 215 = .ok (.iload 10, 2) := by decide +kernel
theorem dL_table_217 : decode cL_table 217 = .ok (.iload_n 2, 1) := by decide +kernel
theorem dL_table_218 : decode cL_table 218 = .ok (.if_icmp .gt 252, 3) := by decide +kernel
theorem dL_table_221 : decode cL_table 221 = .ok (.iload 5, 2) := by decide +kernel
theorem dL_table_223 : decode cL_table 223 = .ok (.ifCond .eq 247, 3) := by decide +kernel
theorem dL_table_226 : decode cL_table 226 = .ok (.aload_n 0, 1) := by decide +kernel
theorem dL_table_227 : decode cL_table 227 = .ok (.iload 10, 2) := by decide +kernel
theorem dL_table_229 : decode cL_table 229 = .ok (.iload 7, 2) := by decide +kernel
theorem dL_table_231 : decode cL_table 231 = .ok (.invokevirtual 40, 3) := by decide +kernel
theorem dL_table_234 : decode cL_table 234 = .ok (.istore 11, 2) := by decide +kernel
theorem dL_table_236 : decode cL_table 236 = .ok (.aload_n 0, 1) := by decide +kernel
theorem dL_table_237 : decode cL_table 237 = .ok (.aload_n 0, 1) := by decide +kernel
theorem dL_table_238 : decode cL_table 238 = .ok (.iload 10, 2) := by decide +kernel
theorem dL_table_240 : decode cL_table 240 = .ok (.invokevirtual 43, 3) := by decide +kernel
theorem dL_table_243 : decode cL_table 243 = .ok (.iload 7, 2) := by decide +kernel
theorem dL_table_245 : decode cL_table 245 = .ok (.iconst 0, 1) := by decide +kernel
theorem dL_table_246 : decode cL_table 246 = .ok (.invokevirtual 30, 3) := by decide +kernel
theorem dL_table_249 : decode cL_table 249 = .ok (.istore 12, 2) := by decide +kernel
theorem dL_table_251 : decode cL_table 251 = .ok (.iload 8, 2) := by decide +kernel
theorem dL_table_253 : decode cL_table 253 = .ok (.ifCond .eq 12, 3) := by decide +kernel
theorem dL_table_256 : decode cL_table 256 = .ok (.iload 12, 2) := by decide +kernel
theorem dL_table_258 : decode cL_table 258 = .ok (.ifCond .lt 7, 3) := by decide +kernel
theorem dL_table_261 : decode cL_table 261 = .ok (.iconst 1, 1) := by decide +kernel
theorem dL_table_262 : decode cL_table 262 = .ok (.goto 4, 3) := by decide +kernel
theorem dL_table_265 : decode cL_table 265 = .ok (.iconst 0, 1) := by decide +kernel
theorem dL_table_266 : decode cL_table 266 = .ok (.istore 8, 2) := by decide +kernel
theorem dL_table_268 : decode cL_table 268 = .ok (.iload 9, 2) := by decide +kernel
theorem dL_table_270 : decode cL_table 270 = .ok (.iload 11, 2) := by decide +kernel
theorem dL_table_272 : decode cL_table 272 = .ok (.iadd, 1) := by decide +kernel
theorem dL_table_273 : decode cL_table 273 = .ok (.istore 9, 2) := by decide +kernel
theorem dL_table_275 : decode cL_table 275 = .ok (.iload 12, 2) := by decide +kernel
theorem dL_table_277 : decode cL_table 277 = .ok (.ifCond .ge 19, 3) := by decide +kernel
theorem dL_table_280 : decode cL_table 280 = .ok (.iload 11, 2) := by decide +kernel
theorem dL_table_282 : decode cL_table 282 = .ok (.sipush (-10005), 3) := by decide +kernel
theorem dL_table_285 : decode cL_table 285 = .ok (.if_icmp .ne 7, 3) := by decide +kernel
theorem dL_table_288 : decode cL_table 288 = .ok (.iconst 1, 1) := by decide +kernel
theorem dL_table_289 : decode cL_table 289 = .ok (.goto 70, 3) := by decide +kernel
theorem dL_table_292 : decode cL_table 292 = .ok (.iconst 0, 1) := by decide +kernel
theorem dL_table_293 : decode cL_table 293 = .ok (.goto 66, 3) := by decide +kernel
theorem dL_table_296 : decode cL_table 296 = .ok (.iload 11, 2) := by decide +kernel
theorem dL_table_298 : decode cL_table 298 = .ok (.iload 12, 2) := by decide +kernel
theorem dL_table_300 : decode cL_table 300 = .ok (.invokestatic 15, 3) := by decide +kernel
theorem dL_table_303 : decode cL_table 303 = .ok (.if_icmp .lt 55, 3) := by decide +kernel
theorem dL_table_306 : decode cL_table 306 = .ok (.iload 11, 2) := by decide +kernel
theorem dL_table_308 : decode cL_table 308 = .ok (.iload 12, 2) := by decide +kernel
theorem dL_table_310 : decode cL_table 310 = .ok (.invokestatic 19, 3) := by decide +kernel
theorem dL_table_313 : decode cL_table 313 = .ok (.if_icmp .gt 45, 3) := by decide +kernel
theorem dL_table_316 : decode cL_table 316 = .ok (.aload_n 0, 1) := by decide +kernel
theorem dL_table_317 : decode cL_table 317 = .ok (.iload 10, 2) := by decide +kernel
theorem dL_table_319 : decode cL_table 319 = .ok (.aload_n 0, 1) := by decide +kernel
theorem dL_table_320 : decode cL_table 320 = .ok (.iload 10, 2) := by decide +kernel
theorem dL_table_322 : decode cL_table 322 = .ok (.invokevirtual 43, 3) := by decide +kernel
theorem dL_table_325 : decode cL_table 325 = .ok (.iload 7, 2) := by decide +kernel
theorem dL_table_327 : decode cL_table 327 = .ok (.iconst 0, 1) := by decide +kernel
theorem dL_table_328 : decode cL_table 328 = .ok (.invokevirtual 46, 3) := by decide +kernel
theorem dL_table_331 : decode cL_table 331 = .ok (.iload 11, 2) := by decide +kernel
theorem dL_table_333 : decode cL_table 333 = .ok (.if_icmp .ne 25, 3) := by decide +kernel
theorem dL_table_336 : decode cL_table 336 = .ok (.aload_n 0, 1) := by decide +kernel
theorem dL_table_337 : decode cL_table 337 = .ok (.iload 10, 2) := by decide +kernel
theorem dL_table_339 : decode cL_table 339 = .ok (.aload_n 0, 1) := by decide +kernel
theorem dL_table_340 : decode cL_table 340 = .ok (.iload 10, 2) := by decide +kernel
theorem dL_table_342 : decode cL_table 342 = .ok (.invokevirtual 43, 3) := by decide +kernel
theorem dL_table_345 : decode cL_table 345 = .ok (.iload 7, 2) := by decide +kernel
theorem dL_table_347 : decode cL_table 347 = .ok (.iconst 1, 1) := by decide +kernel
theorem dL_table_348 : decode cL_table 348 = .ok (.invokevirtual 46, 3) := by decide +kernel
theorem dL_table_351 : decode cL_table 351 = .ok (.ifCond .ne 7, 3) := by decide +kernel
theorem dL_table_354 : decode cL_table 354 = .ok (.iconst 1, 1) := by decide +kernel
theorem dL_table_355 : decode cL_table 355 = .ok (.goto 4, 3) := by decide +kernel
theorem dL_table_358 : decode cL_table 358 = .ok (.iconst 0, 1) := by decide +kernel
theorem dL_table_359 : decode cL_table 359 = .ok (.istore 5, 2) := by decide +kernel
theorem dL_table_361 : decode cL_table 361 = .ok (.aload_n 0, 1) := by decide +kernel
theorem dL_table_362 : decode cL_table 362 = .ok (.iload 10, 2) := by decide +kernel
theorem dL_table_364 : decode cL_table 364 = .ok (.iload_n 3, 1) := by decide +kernel
theorem dL_table_365 : decode cL_table 365 = .ok (.iload 7, 2) := by decide +kernel
theorem dL_table_367 : decode cL_table 367 = .ok (.iconst 1, 1) := by decide +kernel
theorem dL_table_368 : decode cL_table 368 = .ok (.invokevirtual 46, 3) := by decide +kernel
theorem dL_table_371 : decode cL_table 371 = .ok (.istore 13, 2) := by decide +kernel
theorem dL_table_373 : decode cL_table 373 = .ok (.iload 5, 2) := by decide +kernel
theorem dL_table_375 : decode cL_table 375 = .ok (.ifCond .eq 86, 3) := by decide +kernel
theorem dL_table_378 : decode cL_table 378 = .ok (.iload 13, 2) := by decide +kernel
theorem dL_table_380 : decode cL_table 380 = .ok (.iconst 1, 1) := by decide +kernel
theorem dL_table_381 : decode cL_table 381 = .ok (.if_icmp .ne 23, 3) := by decide +kernel
theorem dL_table_384 : decode cL_table 384 = .ok (.aload_n 0, 1) := by decide +kernel
theorem dL_table_385 : decode cL_table 385 = .ok (.iload 10, 2) := by decide +kernel
theorem dL_table_387 : decode cL_table 387 = .ok (.iload_n 3, 1) := by decide +kernel
theorem dL_table_388 : decode cL_table 388 = .ok (.iload 7, 2) := by decide +kernel
theorem dL_table_390 : decode cL_table 390 = .ok (.iconst 0, 1) := by decide +kernel
theorem dL_table_391 : decode cL_table 391 = .ok (.invokevirtual 46, 3) := by decide +kernel
theorem dL_table_394 : decode cL_table 394 = .ok (.iload 12, 2) := by decide +kernel
theorem dL_table_396 : decode cL_table 396 = .ok (.invokestatic 50, 3) := by decide +kernel
theorem dL_table_399 : decode cL_table 399 = .ok (.iload 11, 2) := by decide +kernel
theorem dL_table_401 : decode cL_table 401 = .ok (.if_icmp .ne 60, 3) := by decide +kernel
theorem dL_table_404 : decode cL_table 404 = .ok (.iload 13, 2) := by decide +kernel
theorem dL_table_406 : decode cL_table 406 = .ok (.iconst 2, 1) := by decide +kernel
theorem dL_table_407 : decode cL_table 407 = .ok (.if_icmp .ne 23, 3) := by decide +kernel
theorem dL_table_410 : decode cL_table 410 = .ok (.aload_n 0, 1) := by decide +kernel
theorem dL_table_411 : decode cL_table 411 = .ok (.iload 10, 2) := by decide +kernel
theorem dL_table_413 : decode cL_table 413 = .ok (.iload_n 3, 1) := by decide +kernel
theorem dL_table_414 : decode cL_table 414 = .ok (.iload 7, 2) := by decide +kernel
theorem dL_table_416 : decode cL_table 416 = .ok (.iconst 0, 1) := by decide +kernel
theorem dL_table_417 : decode cL_table 417 = .ok (.invokevirtual 46, 3) := by decide +kernel
theorem dL_table_420 : decode cL_table 420 = .ok (.iload 12, 2) := by decide +kernel
theorem dL_table_422 : decode cL_table 422 = .ok (.invokestatic 50, 3) := by decide +kernel
theorem dL_table_425 : decode cL_table 425 = .ok (.iload 11, 2) := by decide +kernel
theorem dL_table_427 : decode cL_table 427 = .ok (.if_icmp .eq 34, 3) := by decide +kernel
theorem dL_table_430 : decode cL_table 430 = .ok (.iload 13, 2) := by decide +kernel
theorem dL_table_432 : decode cL_table 432 = .ok (.iconst 3, 1) := by decide +kernel
theorem dL_table_433 : decode cL_table 433 = .ok (.if_icmp .ne 24, 3) := by decide +kernel
theorem dL_table_436 : decode cL_table 436 = .ok (.aload_n 0, 1) := by decide +kernel
theorem dL_table_437 : decode cL_table 437 = .ok (.iload 10, 2) := by decide +kernel
theorem dL_table_439 : decode cL_table 439 = .ok (.iload_n 3, 1) := by decide +kernel
theorem dL_table_440 : decode cL_table 440 = .ok (.iload 7, 2) := by decide +kernel
theorem dL_table_442 : decode cL_table 442 = .ok (.iconst 0, 1) := by decide +kernel
theorem dL_table_443 : decode cL_table 443 = .ok (.invokevirtual 46, 3) := by decide +kernel
theorem dL_table_446 : decode cL_table 446 = .ok (.aload_n 0, 1) := by decide +kernel
theorem dL_table_447 : decode cL_table 447 = .ok (.iload_n 3, 1) := by decide +kernel
theorem dL_table_448 : decode cL_table 448 = .ok (.iload 7, 2) := by decide +kernel
theorem dL_table_450 : decode cL_table 450 = .ok (.iconst 1, 1) := by decide +kernel
theorem dL_table_451 : decode cL_table 451 = .ok (.invokevirtual 30, 3) := by decide +kernel
theorem dL_table_454 : decode cL_table 454 = .ok (.if_icmp .ne 7, 3) := by decide +kernel
theorem dL_table_457 : decode cL_table 457 = .ok (.iconst 1, 1) := by decide +kernel
theorem dL_table_458 : decode cL_table 458 = .ok (.goto 4, 3) := by decide +kernel
theorem dL_table_461 : decode cL_table 461 = .ok (.iconst 0, 1) := by decide +kernel
theorem dL_table_462 : decode cL_table 462 = .ok (.istore 5, 2) := by decide +kernel
theorem dL_table_464 : decode cL_table 464 = .ok (.iinc 10 1, 3) := by decide +kernel
theorem dL_table_467 : decode cL_table 467 = .ok (.goto (-252), 3) := by decide +kernel
theorem dL_table_470 : decode cL_table 470 = .ok (.iload 5, 2) := by decide +kernel
theorem dL_table_472 : decode cL_table 472 = .ok (.ifCond .eq 116, 3) := by decide +kernel
theorem dL_table_475 : decode cL_table 475 = .ok (.iload 8, 2) := by decide +kernel
theorem dL_table_477 : decode cL_table 477 = .ok (.iload 6, 2) := by decide +kernel
theorem dL_table_479 : decode cL_table 479 = .ok (.iload 7, 2) := by decide +kernel
theorem dL_table_481 : decode cL_table 481 = .ok (.ishr, 1) := by decide +kernel
theorem dL_table_482 : decode cL_table 482 = .ok (.iconst 1, 1) := by decide +kernel
theorem dL_table_483 : decode cL_table 483 = .ok (.iand, 1) := by decide +kernel
theorem dL_table_484 : decode cL_table 484 = .ok (.iconst 1, 1) := by decide +kernel
theorem dL_table_485 : decode cL_table 485 = .ok (.if_icmp .ne 7, 3) := by decide +kernel
theorem dL_table_488 : decode cL_table 488 = .ok (.iconst 1, 1) := by decide +kernel
theorem dL_table_489 : decode cL_table 489 = .ok (.goto 4, 3) := by decide +kernel
theorem dL_table_492 : decode cL_table 492 = .ok (.iconst 0, 1) := by decide +kernel
theorem dL_table_493 : decode cL_table 493 = .ok (.if_icmp .ne 95, 3) := by decide +kernel
theorem dL_table_496 : decode cL_table 496 = .ok (.iload 8, 2) := by decide +kernel
theorem dL_table_498 : decode cL_table 498 = .ok (.ifCond .eq 71, 3) := by decide +kernel
theorem dL_table_501 : decode cL_table 501 = .ok (.aload_n 0, 1) := by decide +kernel
theorem dL_table_502 : decode cL_table 502 = .ok (.iload_n 1, 1) := by decide +kernel
theorem dL_table_503 : decode cL_table 503 = .ok (.iload_n 2, 1) := by decide +kernel
theorem dL_table_504 : decode cL_table 504 = .ok (.iload 7, 2) := by decide +kernel
theorem dL_table_506 : decode cL_table 506 = .ok (.iconst 1, 1) := by decide +kernel
theorem dL_table_507 : decode cL_table 507 = .ok (.invokevirtual 53, 3) := by decide +kernel
theorem dL_table_510 : decode cL_table 510 = .ok (.iload 9, 2) := by decide +kernel
theorem dL_table_512 : decode cL_table 512 = .ok (.if_icmp .ne 76, 3) := by decide +kernel
theorem dL_table_515 : decode cL_table 515 = .ok (.aload_n 0, 1) := by decide +kernel
theorem dL_table_516 : decode cL_table 516 = .ok (.iload_n 1, 1) := by decide +kernel
theorem dL_table_517 : decode cL_table 517 = .ok (.iload_n 2, 1) := by decide +kernel
theorem dL_table_518 : decode cL_table 518 = .ok (.iload 7, 2) := by decide +kernel
theorem dL_table_520 : decode cL_table 520 = .ok (.iconst 2, 1) := by decide +kernel
theorem dL_table_521 : decode cL_table 521 = .ok (.invokevirtual 53, 3) := by decide +kernel
theorem dL_table_524 : decode cL_table 524 = .ok (.aload_n 0, 1) := by decide +kernel
theorem dL_table_525 : decode cL_table 525 = .ok (.iload_n 1, 1) := by decide +kernel
theorem dL_table_526 : decode cL_table 526 = .ok (.iload_n 2, 1) := by decide +kernel
theorem dL_table_527 : decode cL_table 527 = .ok (.iload 7, 2) := by decide +kernel
theorem dL_table_529 : decode cL_table 529 = .ok (.iconst 3, 1) := by decide +kernel
theorem dL_table_530 : decode cL_table 530 = .ok (.invokevirtual 53, 3) := by decide +kernel
theorem dL_table_533 : decode cL_table 533 = .ok (.if_icmp .gt 55, 3) := by decide +kernel
theorem dL_table_536 : decode cL_table 536 = .ok (.aload_n 0, 1) := by decide +kernel
theorem dL_table_537 : decode cL_table 537 = .ok (.iload_n 1, 1) := by decide +kernel
theorem dL_table_538 : decode cL_table 538 = .ok (.iload_n 2, 1) := by decide +kernel
theorem dL_table_539 : decode cL_table 539 = .ok (.iload 7, 2) := by decide +kernel
theorem dL_table_541 : decode cL_table 541 = .ok (.iconst 4, 1) := by decide +kernel
theorem dL_table_542 : decode cL_table 542 = .ok (.invokevirtual 53, 3) := by decide +kernel
theorem dL_table_545 : decode cL_table 545 = .ok (.iconst 1, 1) := by decide +kernel
theorem dL_table_546 : decode cL_table 546 = .ok (.if_icmp .lt 42, 3) := by decide +kernel
theorem dL_table_549 : decode cL_table 549 = .ok (.aload_n 0, 1) := by decide +kernel
theorem dL_table_550 : decode cL_table 550 = .ok (.iload_n 1, 1) := by decide +kernel
theorem dL_table_551 : decode cL_table 551 = .ok (.iload_n 2, 1) := by decide +kernel
theorem dL_table_552 : decode cL_table 552 = .ok (.iload 7, 2) := by decide +kernel
theorem dL_table_554 : decode cL_table 554 = .ok (.iconst 4, 1) := by decide +kernel
theorem dL_table_555 : decode cL_table 555 = .ok (.invokevirtual 53, 3) := by decide +kernel
theorem dL_table_558 : decode cL_table 558 = .ok (.iload_n 2, 1) := by decide +kernel
theorem dL_table_559 : decode cL_table 559 = .ok (.iload_n 1, 1) := by decide +kernel
theorem dL_table_560 : decode cL_table 560 = .ok (.isub, 1) := by decide +kernel
theorem dL_table_561 : decode cL_table 561 = .ok (.iconst 1, 1) := by decide +kernel
theorem dL_table_562 : decode cL_table 562 = .ok (.iadd, 1) := by decide +kernel
theorem dL_table_563 : decode cL_table 563 = .ok (.if_icmp .gt 25, 3) := by decide +kernel
theorem dL_table_566 : decode cL_table 566 = .ok (.goto 18, 3) := by decide +kernel
theorem dL_table_569 : decode cL_table 569 = .ok (.aload_n 0, 1) := by decide +kernel
theorem dL_table_570 : decode cL_table 570 = .ok (.iload_n 1, 1) := by decide +kernel
theorem dL_table_571 : decode cL_table 571 = .ok (.iload_n 2, 1) := by decide +kernel
theorem dL_table_572 : decode cL_table 572 = .ok (.iload 7, 2) := by decide +kernel
theorem dL_table_574 : decode cL_table 574 = .ok (.iconst 0, 1) := by decide +kernel
theorem dL_table_575 : decode cL_table 575 = .ok (.invokevirtual 53, 3) := by decide +kernel
theorem dL_table_578 : decode cL_table 578 = .ok (.sipush (-10005), 3) := by decide +kernel
theorem dL_table_581 : decode cL_table 581 = .ok (.if_icmp .ne 7, 3) := by decide +kernel
theorem dL_table_584 : decode cL_table 584 = .ok (.iconst 1, 1) := by decide +kernel
theorem dL_table_585 : decode cL_table 585 = .ok (.goto 4, 3) := by decide +kernel
theorem dL_table_588 : decode cL_table 588 = .ok (.iconst 0, 1) := by decide +kernel
theorem dL_table_589 : decode cL_table 589 = .ok (.istore 5, 2) := by decide +kernel
theorem dL_table_591 : decode cL_table 591 = .ok (.iinc 7 1, 3) := by decide +kernel
theorem dL_table_594 : decode cL_table 594 = .ok (.goto (-414), 3) := by decide +kernel
theorem dL_table_597 : decode cL_table 597 = .ok (.iload 5, 2) := by decide +kernel
theorem dL_table_599 : decode cL_table 599 = .ok (.ireturn, 1) := by decide +kernel
