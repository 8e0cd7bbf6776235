theorem dX9_row_114 : decode cX9_row 114 = .ok (.aload_n 0, 1) := by decide +kernel
theorem dX9_row_115 : decode cX9_row 115 = .ok (.getfield 284, 3) := by decide +kernel
theorem dX9_row_118 : decode cX9_row 118 = .ok (.iload_n 2, 1) := by decide +kernel
theorem dX9_row_119 : decode cX9_row 119 = .ok (.iastore, 1) := by decide +kernel
theorem dX9_row_120 : decode cX9_row 120 = .ok (.aload_n 0, 1) := by decide +kernel
theorem dX9_row_121 : decode cX9_row 121 = .ok (.getfield 38, 3) := by decide +kernel
theorem dX9_row_124 : decode cX9_row 124 = .ok (.aload_n 0, 1) := by decide +kernel
theorem dX9_row_125 : decode cX9_row 125 = .ok (.getfield 284, 3) := by decide +kernel
theorem dX9_row_128 : decode cX9_row 128 = .ok (.iload_n 3, 1) := by decide +kernel
theorem dX9_row_129 : decode cX9_row 129 = .ok (.iastore, 1) := by decide +kernel
theorem dX9_row_130 : decode cX9_row 130 = .ok (.aload_n 0, 1) := by decide +kernel
theorem dX9_row_131 : decode cX9_row 131 = .ok (.dup, 1) := by decide +kernel
theorem dX9_row_132 : decode cX9_row 132 = .ok (.getfield 284, 3) := by decide +kernel
theorem dX9_row_135 : decode cX9_row 135 = .ok (.iconst 1, 1) := by decide +kernel
theorem dX9_row_136 : decode cX9_row 136 = .ok (.iadd, 1) := by decide +kernel
theorem dX9_row_137 : decode cX9_row 137 = .ok (.putfield 284, 3) := by decide +kernel
theorem dX9_row_140 : decode cX9_row 140 = .ok (.aload_n 0, 1) := by decide +kernel
theorem dX9_row_141 : decode cX9_row 141 = .ok (.getfield 284, 3) := by decide +kernel
theorem dX9_row_144 : decode cX9_row 144 = .ok (.iconst 1, 1) := by decide +kernel
theorem dX9_row_145 : decode cX9_row 145 = .ok (.isub, 1) := by decide +kernel
theorem dX9_row_146 : decode cX9_row 146 = .ok (.ireturn, 1) := by decide +kernel
theorem dX9_more_0 : decode cX9_more 0 = .ok (.aload_n 0, 1) := by decide +kernel
theorem dX9_more_1 : decode cX9_more 1 = .ok (.bipush 28, 2) := by decide +kernel
theorem dX9_more_3 : decode cX9_more 3 = .ok (.iload_n 1, 1) := by decide +kernel
theorem dX9_more_4 : decode cX9_more 4 = .ok (.imul, 1) := by decide +kernel
theorem dX9_more_5 : decode cX9_more 5 = .ok (.iload_n 2, 1) := by decide +kernel
theorem dX9_more_6 : decode cX9_more 6 = .ok (.iadd, 1) := by decide +kernel
theorem dX9_more_7 : decode cX9_more 7 = .ok (.iconst 2, 1) := by decide +kernel
theorem dX9_more_8 : decode cX9_more 8 = .ok (.invokevirtual 195, 3) := by decide +kernel
theorem dX9_more_11 : decode cX9_more 11 = .ok (.aload_n 0, 1) := by decide +kernel
theorem dX9_more_12 : decode cX9_more 12 = .ok (.iconst 2, 1) := by decide +kernel
theorem dX9_more_13 : decode cX9_more 13 = .ok (.lload_n 3, 1) := by decide +kernel
theorem dX9_more_14 : decode cX9_more 14 = .ok (.invokevirtual 129, 3) := by decide +kernel
theorem dX9_more_17 : decode cX9_more 17 = .ok (.aload_n 0, 1) := by decide +kernel
theorem dX9_more_18 : decode cX9_more 18 = .ok (.iconst 0, 1) := by decide +kernel
theorem dX9_more_19 : decode cX9_more 19 = .ok (.iconst 2, 1) := by decide +kernel
theorem dX9_more_20 : decode cX9_more 20 = .ok (.iconst 1, 1) := by decide +kernel
theorem dX9_more_21 : decode cX9_more 21 = .ok (.iconst 3, 1) := by decide +kernel
theorem dX9_more_22 : decode cX9_more 22 = .ok (.invokevirtual 201, 3) := by decide +kernel
theorem dX9_more_25 : decode cX9_more 25 = .ok (.aload_n 0, 1) := by decide +kernel
theorem dX9_more_26 : decode cX9_more 26 = .ok (.iconst 3, 1) := by decide +kernel
theorem dX9_more_27 : decode cX9_more 27 = .ok (.iconst 0, 1) := by decide +kernel
theorem dX9_more_28 : decode cX9_more 28 = .ok (.invokevirtual 107, 3) := by decide +kernel
theorem dX9_more_31 : decode cX9_more 31 = .ok (.return_, 1) := by decide +kernel
theorem dX9_whole_0 : decode cX9_whole 0 = .ok (.aload_n 0, 1) := by decide +kernel
theorem dX9_whole_1 : decode cX9_whole 1 = .ok (.bipush 10, 2) := by decide +kernel
theorem dX9_whole_3 : decode cX9_whole 3 = .ok (.iconst 2, 1) := by decide +kernel
theorem dX9_whole_4 : decode cX9_whole 4 = .ok (.invokevirtual 107, 3) := by decide +kernel
theorem dX9_whole_7 : decode cX9_whole 7 = .ok (.aload_n 0, 1) := by decide +kernel
theorem dX9_whole_8 : decode cX9_whole 8 = .ok (.iconst 2, 1) := by decide +kernel
theorem dX9_whole_9 : decode cX9_whole 9 = .ok (.lload_n 1, 1) := by decide +kernel
theorem dX9_whole_10 : decode cX9_whole 10 = .ok (.invokevirtual 129, 3) := by decide +kernel
theorem dX9_whole_13 : decode cX9_whole 13 = .ok (.aload_n 0, 1) := by decide +kernel
theorem dX9_whole_14 : decode cX9_whole 14 = .ok (.iconst 0, 1) := by decide +kernel
theorem dX9_whole_15 : decode cX9_whole 15 = .ok (.iconst 2, 1) := by decide +kernel
theorem dX9_whole_16 : decode cX9_whole 16 = .ok (.iconst 1, 1) := by decide +kernel
theorem dX9_whole_17 : decode cX9_whole 17 = .ok (.iconst 3, 1) := by decide +kernel
theorem dX9_whole_18 : decode cX9_whole 18 = .ok (.invokevirtual 201, 3) := by decide +kernel
theorem dX9_whole_21 : decode cX9_whole 21 = .ok (.aload_n 0, 1) := by decide +kernel
theorem dX9_whole_22 : decode cX9_whole 22 = .ok (.iconst 3, 1) := by decide +kernel
theorem dX9_whole_23 : decode cX9_whole 23 = .ok (.iconst 0, 1) := by decide +kernel
theorem dX9_whole_24 : decode cX9_whole 24 = .ok (.invokevirtual 107, 3) := by decide +kernel
theorem dX9_whole_27 : decode cX9_whole 27 = .ok (.return_, 1) := by decide +kernel
theorem dX9_value_0 : decode cX9_value 0 = .ok (.aload_n 0, 1) := by decide +kernel
theorem dX9_value_1 : decode cX9_value 1 = .ok (.iconst 0, 1) := by decide +kernel
theorem dX9_value_2 : decode cX9_value 2 = .ok (.lconst 0, 1) := by decide +kernel
theorem dX9_value_3 : decode cX9_value 3 = .ok (.invokevirtual 121, 3) := by decide +kernel
theorem dX9_value_6 : decode cX9_value 6 = .ok (.iload 5, 2) := by decide +kernel
theorem dX9_value_8 : decode cX9_value 8 = .ok (.ifCond .le 13, 3) := by decide +kernel
theorem dX9_value_11 : decode cX9_value 11 = .ok (.iload 5, 2) := by decide +kernel
theorem dX9_value_13 : decode cX9_value 13 = .ok (.iconst 4, 1) := by decide +kernel
theorem dX9_value_14 : decode cX9_value 14 = .ok (.if_icmp .ge 7, 3) := by decide +kernel
theorem dX9_value_17 : decode cX9_value 17 = .ok (.iconst 1, 1) := by decide +kernel
theorem dX9_value_18 : decode cX9_value 18 = .ok (.goto 4, 3) := by decide +kernel
theorem dX9_value_21 : decode cX9_value 21 = .ok (.iconst 0, 1) := by decide +kernel
theorem dX9_value_22 : decode cX9_value 22 = .ok (.istore 7, 2) := by decide +kernel
theorem dX9_value_24 : decode cX9_value 24 = .ok (.iload_n 1, 1) := by decide +kernel
theorem dX9_value_25 : decode cX9_value 25 = .ok (.iconst 3, 1) := by decide +kernel
theorem dX9_value_26 : decode cX9_value 26 = .ok (.if_icmp .ne 113, 3) := by decide +kernel
theorem dX9_value_29 : decode cX9_value 29 = .ok (.iload_n 2, 1) := by decide +kernel
theorem dX9_value_30 : decode cX9_value 30 = .ok (.aload_n 0, 1) := by decide +kernel
theorem dX9_value_31 : decode cX9_value 31 = .ok (.getfield 93, 3) := by decide +kernel
theorem dX9_value_34 : decode cX9_value 34 = .ok (.if_icmp .ge 15, 3) := by decide +kernel
theorem dX9_value_37 : decode cX9_value 37 = .ok (.aload_n 0, 1) := by decide +kernel
theorem dX9_value_38 : decode cX9_value 38 = .ok (.iconst 4, 1) := by decide +kernel
theorem dX9_value_39 : decode cX9_value 39 = .ok (.iload_n 2, 1) := by decide +kernel
theorem dX9_value_40 : decode cX9_value 40 = .ok (.imul, 1) := by decide +kernel
theorem dX9_value_41 : decode cX9_value 41 = .ok (.iconst 3, 1) := by decide +kernel
theorem dX9_value_42 : decode cX9_value 42 = .ok (.iadd, 1) := by decide +kernel
theorem dX9_value_43 : decode cX9_value 43 = .ok (.iload 6, 2) := by decide +kernel
theorem dX9_value_45 : decode cX9_value 45 = .ok (.lconst 1, 1) := by decide +kernel
theorem dX9_value_46 : decode cX9_value 46 = .ok (.invokevirtual 293, 3) := by decide +kernel
theorem dX9_value_49 : decode cX9_value 49 = .ok (.iload_n 2, 1) := by decide +kernel
theorem dX9_value_50 : decode cX9_value 50 = .ok (.ifCond .le 17, 3) := by decide +kernel
theorem dX9_value_53 : decode cX9_value 53 = .ok (.aload_n 0, 1) := by decide +kernel
theorem dX9_value_54 : decode cX9_value 54 = .ok (.iconst 4, 1) := by decide +kernel
theorem dX9_value_55 : decode cX9_value 55 = .ok (.iload_n 2, 1) := by decide +kernel
theorem dX9_value_56 : decode cX9_value 56 = .ok (.imul, 1) := by decide +kernel
theorem dX9_value_57 : decode cX9_value 57 = .ok (.iconst 1, 1) := by decide +kernel
theorem dX9_value_58 : decode cX9_value 58 = .ok (.isub, 1) := by decide +kernel
theorem dX9_value_59 : decode cX9_value 59 = .ok (.iload 6, 2) := by decide +kernel
theorem dX9_value_61 : decode cX9_value 61 = .ok (.ldc2_w 176, 3) := by decide +kernel
theorem dX9_value_64 : decode cX9_value 64 = .ok (.invokevirtual 293, 3) := by decide +kernel
theorem dX9_value_67 : decode cX9_value 67 = .ok (.iload 7, 2) := by decide +kernel
theorem dX9_value_69 : decode cX9_value 69 = .ok (.ifCond .eq 15, 3) := by decide +kernel
theorem dX9_value_72 : decode cX9_value 72 = .ok (.iload 4, 2) := by decide +kernel
theorem dX9_value_74 : decode cX9_value 74 = .ok (.iload_n 2, 1) := by decide +kernel
theorem dX9_value_75 : decode cX9_value 75 = .ok (.iconst 1, 1) := by decide +kernel
theorem dX9_value_76 : decode cX9_value 76 = .ok (.isub, 1) := by decide +kernel
theorem dX9_value_77 : decode cX9_value 77 = .ok (.if_icmp .ne 7, 3) := by decide +kernel
theorem dX9_value_80 : decode cX9_value 80 = .ok (.iconst 1, 1) := by decide +kernel
theorem dX9_value_81 : decode cX9_value 81 = .ok (.goto 4, 3) := by decide +kernel
theorem dX9_value_84 : decode cX9_value 84 = .ok (.iconst 0, 1) := by decide +kernel
theorem dX9_value_85 : decode cX9_value 85 = .ok (.istore 8, 2) := by decide +kernel
theorem dX9_value_87 : decode cX9_value 87 = .ok (.iload 5, 2) := by decide +kernel
theorem dX9_value_89 : decode cX9_value 89 = .ok (.ifCond .ne 9, 3) := by decide +kernel
theorem dX9_value_92 : decode cX9_value 92 = .ok (.iload 4, 2) := by decide +kernel
theorem dX9_value_94 : decode cX9_value 94 = .ok (.iload_n 2, 1) := by decide +kernel
theorem dX9_value_95 : decode cX9_value 95 = .ok (.if_icmp .eq 17, 3) := by decide +kernel
theorem dX9_value_98 : decode cX9_value 98 = .ok (.iload 5, 2) := by decide +kernel
theorem dX9_value_100 : decode cX9_value 100 = .ok (.iconst 4, 1) := by decide +kernel
theorem dX9_value_101 : decode cX9_value 101 = .ok (.if_icmp .ne 15, 3) := by decide +kernel
theorem dX9_value_104 : decode cX9_value 104 = .ok (.iload 4, 2) := by decide +kernel
theorem dX9_value_106 : decode cX9_value 106 = .ok (.iload_n 2, 1) := by decide +kernel
theorem dX9_value_107 : decode cX9_value 107 = .ok (.iconst 1, 1) := by decide +kernel
theorem dX9_value_108 : decode cX9_value 108 = .ok (.isub, 1) := by decide +kernel
theorem dX9_value_109 : decode cX9_value 109 = .ok (.if_icmp .ne 7, 3) := by decide +kernel
theorem dX9_value_112 : decode cX9_value 112 = .ok (.iconst 1, 1) := by decide +kernel
theorem dX9_value_113 : decode cX9_value 113 = .ok (.goto 4, 3) := by decide +kernel
theorem dX9_value_116 : decode cX9_value 116 = .ok (.iconst 0, 1) := by decide +kernel
theorem dX9_value_117 : decode cX9_value 117 = .ok (.istore 9, 2) := by decide +kernel
theorem dX9_value_119 : decode cX9_value 119 = .ok (.aload_n 0, 1) := by decide +kernel
theorem dX9_value_120 : decode cX9_value 120 = .ok (.iload 8, 2) := by decide +kernel
theorem dX9_value_122 : decode cX9_value 122 = .ok (.ifCond .ne 8, 3) := by decide +kernel
theorem dX9_value_125 : decode cX9_value 125 = .ok (.iload 9, 2) := by decide +kernel
theorem dX9_value_127 : decode cX9_value 127 = .ok (.ifCond .eq 7, 3) := by decide +kernel
theorem dX9_value_130 : decode cX9_value 130 = .ok (.lconst 1, 1) := by decide +kernel
theorem dX9_value_131 : decode cX9_value 131 = .ok (.goto 4, 3) := by decide +kernel
theorem dX9_value_134 : decode cX9_value 134 = .ok (.lconst 0, 1) := by decide +kernel
theorem dX9_value_135 : decode cX9_value 135 = .ok (.invokevirtual 296, 3) := by decide +kernel
theorem dX9_value_138 : decode cX9_value 138 = .ok (.return_, 1) := by decide +kernel
theorem dX9_value_139 : decode cX9_value 139 = .ok (.aload_n 0, 1) := by decide +kernel
theorem dX9_value_140 : decode cX9_value 140 = .ok (.getfield 13, 3) := by decide +kernel
theorem dX9_value_143 : decode cX9_value 143 = .ok (.iload_n 2, 1) := by decide +kernel
theorem dX9_value_144 : decode cX9_value 144 = .ok (.iaload, 1) := by decide +kernel
theorem dX9_value_145 : decode cX9_value 145 = .ok (.i2l, 1) := by decide +kernel
theorem dX9_value_146 : decode cX9_value 146 = .ok (.lstore 8, 2) := by decide +kernel
theorem dX9_value_148 : decode cX9_value 148 = .ok (.iload 7, 2) := by decide +kernel
theorem dX9_value_150 : decode cX9_value 150 = .ok (.ifCond .eq 26, 3) := by decide +kernel
theorem dX9_value_153 : decode cX9_value 153 = .ok (.iload 4, 2) := by decide +kernel
theorem dX9_value_155 : decode cX9_value 155 = .ok (.iload_n 2, 1) := by decide +kernel
theorem dX9_value_156 : decode cX9_value 156 = .ok (.if_icmp .ne 20, 3) := by decide +kernel
theorem dX9_value_159 : decode cX9_value 159 = .ok (.iload 5, 2) := by decide +kernel
theorem dX9_value_161 : decode cX9_value 161 = .ok (.iload_n 3, 1) := by decide +kernel
theorem dX9_value_162 : decode cX9_value 162 = .ok (.if_icmp .ge 14, 3) := by decide +kernel
theorem dX9_value_165 : decode cX9_value 165 = .ok (.lload 8, 2) := by decide +kernel
theorem dX9_value_167 : decode cX9_value 167 = .ok (.iload_n 3, 1) := by decide +kernel
theorem dX9_value_168 : decode cX9_value 168 = .ok (.iload 5, 2) := by decide +kernel
theorem dX9_value_170 : decode cX9_value 170 = .ok (.isub, 1) := by decide +kernel
theorem dX9_value_171 : decode cX9_value 171 = .ok (.i2l, 1) := by decide +kernel
theorem dX9_value_172 : decode cX9_value 172 = .ok (.lmul, 1) := by decide +kernel
theorem dX9_value_173 : decode cX9_value 173 = .ok (.goto 4, 3) := by decide +kernel
theorem dX9_value_176 : decode cX9_value 176 = .ok (.lconst 0, 1) := by decide +kernel
theorem dX9_value_177 : decode cX9_value 177 = .ok (.lstore 10, 2) := by decide +kernel
theorem dX9_value_179 : decode cX9_value 179 = .ok (.iload_n 1, 1) := by decide +kernel
theorem dX9_value_180 : decode cX9_value 180 = .ok (.ifCond .ne 43, 3) := by decide +kernel
theorem dX9_value_183 : decode cX9_value 183 = .ok (.aload_n 0, 1) := by decide +kernel
theorem dX9_value_184 : decode cX9_value 184 = .ok (.iconst 4, 1) := by decide +kernel
theorem dX9_value_185 : decode cX9_value 185 = .ok (.iload_n 2, 1) := by decide +kernel
theorem dX9_value_186 : decode cX9_value 186 = .ok (.imul, 1) := by decide +kernel
theorem dX9_value_187 : decode cX9_value 187 = .ok (.iconst 2, 1) := by decide +kernel
theorem dX9_value_188 : decode cX9_value 188 = .ok (.iadd, 1) := by decide +kernel
theorem dX9_value_189 : decode cX9_value 189 = .ok (.iload 6, 2) := by decide +kernel
theorem dX9_value_191 : decode cX9_value 191 = .ok (.ldc2_w 142, 3) := by decide +kernel
theorem dX9_value_194 : decode cX9_value 194 = .ok (.invokevirtual 293, 3) := by decide +kernel
theorem dX9_value_197 : decode cX9_value 197 = .ok (.aload_n 0, 1) := by decide +kernel
theorem dX9_value_198 : decode cX9_value 198 = .ok (.iconst 4, 1) := by decide +kernel
theorem dX9_value_199 : decode cX9_value 199 = .ok (.iload_n 2, 1) := by decide +kernel
theorem dX9_value_200 : decode cX9_value 200 = .ok (.imul, 1) := by decide +kernel
theorem dX9_value_201 : decode cX9_value 201 = .ok (.iconst 3, 1) := by decide +kernel
theorem dX9_value_202 : decode cX9_value 202 = .ok (.iadd, 1) := by decide +kernel
theorem dX9_value_203 : decode cX9_value 203 = .ok (.iload 6, 2) := by decide +kernel
theorem dX9_value_205 : decode cX9_value 205 = .ok (.lload 8, 2) := by decide +kernel
theorem dX9_value_207 : decode cX9_value 207 = .ok (.iload_n 3, 1) := by decide +kernel
theorem dX9_value_208 : decode cX9_value 208 = .ok (.i2l, 1) := by decide +kernel
theorem dX9_value_209 : decode cX9_value 209 = .ok (.lmul, 1) := by decide +kernel
theorem dX9_value_210 : decode cX9_value 210 = .ok (.invokevirtual 293, 3) := by decide +kernel
theorem dX9_value_213 : decode cX9_value 213 = .ok (.aload_n 0, 1) := by decide +kernel
theorem dX9_value_214 : decode cX9_value 214 = .ok (.lload 10, 2) := by decide +kernel
theorem dX9_value_216 : decode cX9_value 216 = .ok (.lneg, 1) := by decide +kernel
theorem dX9_value_217 : decode cX9_value 217 = .ok (.invokevirtual 296, 3) := by decide +kernel
theorem dX9_value_220 : decode cX9_value 220 = .ok (.goto 145, 3) := by decide +kernel
theorem dX9_value_223 : decode cX9_value 223 = .ok (.iload_n 1, 1) := by decide +kernel
theorem dX9_value_224 : decode cX9_value 224 = .ok (.iconst 1, 1) := by decide +kernel
theorem dX9_value_225 : decode cX9_value 225 = .ok (.if_icmp .ne 36, 3) := by decide +kernel
theorem dX9_value_228 : decode cX9_value 228 = .ok (.aload_n 0, 1) := by decide +kernel
theorem dX9_value_229 : decode cX9_value 229 = .ok (.iconst 4, 1) := by decide +kernel
theorem dX9_value_230 : decode cX9_value 230 = .ok (.iload_n 2, 1) := by decide +kernel
theorem dX9_value_231 : decode cX9_value 231 = .ok (.imul, 1) := by decide +kernel
theorem dX9_value_232 : decode cX9_value 232 = .ok (.iconst 3, 1) := by decide +kernel
theorem dX9_value_233 : decode cX9_value 233 = .ok (.iadd, 1) := by decide +kernel
theorem dX9_value_234 : decode cX9_value 234 = .ok (.iload 6, 2) := by decide +kernel
theorem dX9_value_236 : decode cX9_value 236 = .ok (.lconst 1, 1) := by decide +kernel
theorem dX9_value_237 : decode cX9_value 237 = .ok (.invokevirtual 293, 3) := by decide +kernel
theorem dX9_value_240 : decode cX9_value 240 = .ok (.aload_n 0, 1) := by decide +kernel
theorem dX9_value_241 : decode cX9_value 241 = .ok (.lload 10, 2) := by decide +kernel
theorem dX9_value_243 : decode cX9_value 243 = .ok (.lconst 0, 1) := by decide +kernel
theorem dX9_value_244 : decode cX9_value 244 = .ok (.lcmp, 1) := by decide +kernel
theorem dX9_value_245 : decode cX9_value 245 = .ok (.ifCond .le 9, 3) := by decide +kernel
theorem dX9_value_248 : decode cX9_value 248 = .ok (.ldc2_w 176, 3) := by decide +kernel
theorem dX9_value_251 : decode cX9_value 251 = .ok (.goto 4, 3) := by decide +kernel
theorem dX9_value_254 : decode cX9_value 254 = .ok (.lconst 0, 1) := by decide +kernel
theorem dX9_value_255 : decode cX9_value 255 = .ok (.invokevirtual 296, 3) := by decide +kernel
theorem dX9_value_258 : decode cX9_value 258 = .ok (.goto 107, 3) := by decide +kernel
theorem dX9_value_261 : decode cX9_value 261 = .ok (.lload 8, 2) := by decide +kernel
theorem dX9_value_263 : decode cX9_value 263 = .ok (.iload_n 3, 1) := by decide +kernel
theorem dX9_value_264 : decode cX9_value 264 = .ok (.i2l, 1) := by decide +kernel
theorem dX9_value_265 : decode cX9_value 265 = .ok (.lmul, 1) := by decide +kernel
theorem dX9_value_266 : decode cX9_value 266 = .ok (.lstore 12, 2) := by decide +kernel
theorem dX9_value_268 : decode cX9_value 268 = .ok (.aload_n 0, 1) := by decide +kernel
theorem dX9_value_269 : decode cX9_value 269 = .ok (.iconst 4, 1) := by decide +kernel
theorem dX9_value_270 : decode cX9_value 270 = .ok (.iload_n 2, 1) := by decide +kernel
theorem dX9_value_271 : decode cX9_value 271 = .ok (.imul, 1) := by decide +kernel
theorem dX9_value_272 : decode cX9_value 272 = .ok (.iload 6, 2) := by decide +kernel
theorem dX9_value_274 : decode cX9_value 274 = .ok (.ldc2_w 147, 3) := by decide +kernel
theorem dX9_value_277 : decode cX9_value 277 = .ok (.aload_n 0, 1) := by decide +kernel
theorem dX9_value_278 : decode cX9_value 278 = .ok (.getfield 16, 3) := by decide +kernel
theorem dX9_value_281 : decode cX9_value 281 = .ok (.iload_n 2, 1) := by decide +kernel
theorem dX9_value_282 : decode cX9_value 282 = .ok (.iaload, 1) := by decide +kernel
theorem dX9_value_283 : decode cX9_value 283 = .ok (.i2l, 1) := by decide +kernel
theorem dX9_value_284 : decode cX9_value 284 = .ok (.lmul, 1) := by decide +kernel
theorem dX9_value_285 : decode cX9_value 285 = .ok (.invokevirtual 293, 3) := by decide +kernel
theorem dX9_value_288 : decode cX9_value 288 = .ok (.aload_n 0, 1) := by decide +kernel
theorem dX9_value_289 : decode cX9_value 289 = .ok (.iconst 4, 1) := by decide +kernel
theorem dX9_value_290 : decode cX9_value 290 = .ok (.iload_n 2, 1) := by decide +kernel
theorem dX9_value_291 : decode cX9_value 291 = .ok (.imul, 1) := by decide +kernel
theorem dX9_value_292 : decode cX9_value 292 = .ok (.iconst 1, 1) := by decide +kernel
theorem dX9_value_293 : decode cX9_value 293 = .ok (.iadd, 1) := by decide +kernel
theorem dX9_value_294 : decode cX9_value 294 = .ok (.iload 6, 2) := by decide +kernel
theorem dX9_value_296 : decode cX9_value 296 = .ok (.ldc2_w 300, 3) := by decide +kernel
theorem dX9_value_299 : decode cX9_value 299 = .ok (.aload_n 0, 1) := by decide +kernel
theorem dX9_value_300 : decode cX9_value 300 = .ok (.getfield 16, 3) := by decide +kernel
theorem dX9_value_303 : decode cX9_value 303 = .ok (.iload_n 2, 1) := by decide +kernel
theorem dX9_value_304 : decode cX9_value 304 = .ok (.iaload, 1) := by decide +kernel
theorem dX9_value_305 : decode cX9_value 305 = .ok (.i2l, 1) := by decide +kernel
theorem dX9_value_306 : decode cX9_value 306 = .ok (.lmul, 1) := by decide +kernel
theorem dX9_value_307 : decode cX9_value 307 = .ok (.lload 12, 2) := by decide +kernel
theorem dX9_value_309 : decode cX9_value 309 = .ok (.lmul, 1) := by decide +kernel
theorem dX9_value_310 : decode cX9_value 310 = .ok (.invokevirtual 293, 3) := by decide +kernel
theorem dX9_value_313 : decode cX9_value 313 = .ok (.aload_n 0, 1) := by decide +kernel
theorem dX9_value_314 : decode cX9_value 314 = .ok (.iconst 4, 1) := by decide +kernel
theorem dX9_value_315 : decode cX9_value 315 = .ok (.iload_n 2, 1) := by decide +kernel
theorem dX9_value_316 : decode cX9_value 316 = .ok (.imul, 1) := by decide +kernel
theorem dX9_value_317 : decode cX9_value 317 = .ok (.iconst 2, 1) := by decide +kernel
theorem dX9_value_318 : decode cX9_value 318 = .ok (.iadd, 1) := by decide +kernel
theorem dX9_value_319 : decode cX9_value 319 = .ok (.iload 6, 2) := by decide +kernel
theorem dX9_value_321 : decode cX9_value 321 = .ok (.ldc2_w 302, 3) := by decide +kernel
theorem dX9_value_324 : decode cX9_value 324 = .ok (.lload 12, 2) := by decide +kernel
theorem dX9_value_326 : decode cX9_value 326 = .ok (.lmul, 1) := by decide +kernel
theorem dX9_value_327 : decode cX9_value 327 = .ok (.lload 12, 2) := by decide +kernel
theorem dX9_value_329 : decode cX9_value 329 = .ok (.lmul, 1) := by decide +kernel
theorem dX9_value_330 : decode cX9_value 330 = .ok (.invokevirtual 293, 3) := by decide +kernel
theorem dX9_value_333 : decode cX9_value 333 = .ok (.aload_n 0, 1) := by decide +kernel
theorem dX9_value_334 : decode cX9_value 334 = .ok (.iconst 4, 1) := by decide +kernel
theorem dX9_value_335 : decode cX9_value 335 = .ok (.iload_n 2, 1) := by decide +kernel
theorem dX9_value_336 : decode cX9_value 336 = .ok (.imul, 1) := by decide +kernel
theorem dX9_value_337 : decode cX9_value 337 = .ok (.iconst 3, 1) := by decide +kernel
theorem dX9_value_338 : decode cX9_value 338 = .ok (.iadd, 1) := by decide +kernel
theorem dX9_value_339 : decode cX9_value 339 = .ok (.iload 6, 2) := by decide +kernel
theorem dX9_value_341 : decode cX9_value 341 = .ok (.lload 12, 2) := by decide +kernel
theorem dX9_value_343 : decode cX9_value 343 = .ok (.lneg, 1) := by decide +kernel
theorem dX9_value_344 : decode cX9_value 344 = .ok (.lload 12, 2) := by decide +kernel
theorem dX9_value_346 : decode cX9_value 346 = .ok (.lmul, 1) := by decide +kernel
theorem dX9_value_347 : decode cX9_value 347 = .ok (.lload 12, 2) := by decide +kernel
theorem dX9_value_349 : decode cX9_value 349 = .ok (.lmul, 1) := by decide +kernel
theorem dX9_value_350 : decode cX9_value 350 = .ok (.invokevirtual 293, 3) := by decide +kernel
theorem dX9_value_353 : decode cX9_value 353 = .ok (.aload_n 0, 1) := by decide +kernel
theorem dX9_value_354 : decode cX9_value 354 = .ok (.lload 10, 2) := by decide +kernel
theorem dX9_value_356 : decode cX9_value 356 = .ok (.lload 10, 2) := by decide +kernel
theorem dX9_value_358 : decode cX9_value 358 = .ok (.lmul, 1) := by decide +kernel
theorem dX9_value_359 : decode cX9_value 359 = .ok (.lload 10, 2) := by decide +kernel
theorem dX9_value_361 : decode cX9_value 361 = .ok (.lmul, 1) := by decide +kernel
theorem dX9_value_362 : decode cX9_value 362 = .ok (.invokevirtual 296, 3) := by decide +kernel
theorem dX9_value_365 : decode cX9_value 365 = .ok (.return_, 1) := by decide +kernel
theorem dX9_over_0 : decode cX9_over 0 = .ok (.iload_n 1, 1) := by decide +kernel
theorem dX9_over_1 : decode cX9_over 1 = .ok (.ifCond .ne 9, 3) := by decide +kernel
theorem dX9_over_4 : decode cX9_over 4 = .ok (.ldc2_w 142, 3) := by decide +kernel
theorem dX9_over_7 : decode cX9_over 7 = .ok (.goto 23, 3) := by decide +kernel
theorem dX9_over_10 : decode cX9_over 10 = .ok (.iload_n 1, 1) := by decide +kernel
theorem dX9_over_11 : decode cX9_over 11 = .ok (.iconst 2, 1) := by decide +kernel
theorem dX9_over_12 : decode cX9_over 12 = .ok (.if_icmp .ne 17, 3) := by decide +kernel
theorem dX9_over_15 : decode cX9_over 15 = .ok (.ldc2_w 147, 3) := by decide +kernel
theorem dX9_over_18 : decode cX9_over 18 = .ok (.aload_n 0, 1) := by decide +kernel
theorem dX9_over_19 : decode cX9_over 19 = .ok (.getfield 16, 3) := by decide +kernel
theorem dX9_over_22 : decode cX9_over 22 = .ok (.iload_n 2, 1) := by decide +kernel
theorem dX9_over_23 : decode cX9_over 23 = .ok (.iaload, 1) := by decide +kernel
theorem dX9_over_24 : decode cX9_over 24 = .ok (.i2l, 1) := by decide +kernel
theorem dX9_over_25 : decode cX9_over 25 = .ok (.lmul, 1) := by decide +kernel
theorem dX9_over_26 : decode cX9_over 26 = .ok (.goto 4, 3) := by decide +kernel
theorem dX9_over_29 : decode cX9_over 29 = .ok (.lconst 1, 1) := by decide +kernel
theorem dX9_over_30 : decode cX9_over 30 = .ok (.lreturn, 1) := by decide +kernel
theorem dX9_isPlace_0 : decode cX9_isPlace 0 = .ok (.iload_n 1, 1) := by decide +kernel
theorem dX9_isPlace_1 : decode cX9_isPlace 1 = .ok (.ifCond .lt 24, 3) := by decide +kernel
theorem dX9_isPlace_4 : decode cX9_isPlace 4 = .ok (.iload_n 1, 1) := by decide +kernel
theorem dX9_isPlace_5 : decode cX9_isPlace 5 = .ok (.aload_n 0, 1) := by decide +kernel
theorem dX9_isPlace_6 : decode cX9_isPlace 6 = .ok (.getfield 93, 3) := by decide +kernel
theorem dX9_isPlace_9 : decode cX9_isPlace 9 = .ok (.if_icmp .ge 16, 3) := by decide +kernel
theorem dX9_isPlace_12 : decode cX9_isPlace 12 = .ok (.iload_n 2, 1) := by decide +kernel
theorem dX9_isPlace_13 : decode cX9_isPlace 13 = .ok (.ifCond .lt 12, 3) := by decide +kernel
theorem dX9_isPlace_16 : decode cX9_isPlace 16 = .ok (.iload_n 2, 1) := by decide +kernel
theorem dX9_isPlace_17 : decode cX9_isPlace 17 = .ok (.iconst 4, 1) := by decide +kernel
theorem dX9_isPlace_18 : decode cX9_isPlace 18 = .ok (.if_icmp .gt 7, 3) := by decide +kernel
theorem dX9_isPlace_21 : decode cX9_isPlace 21 = .ok (.iconst 1, 1) := by decide +kernel
theorem dX9_isPlace_22 : decode cX9_isPlace 22 = .ok (.goto 4, 3) := by decide +kernel
theorem dX9_isPlace_25 : decode cX9_isPlace 25 = .ok (.iconst 0, 1) := by decide +kernel
theorem dX9_isPlace_26 : decode cX9_isPlace 26 = .ok (.ireturn, 1) := by decide +kernel
theorem dX9_valueOf_0 : decode cX9_valueOf 0 = .ok (.aload_n 0, 1) := by decide +kernel
theorem dX9_valueOf_1 : decode cX9_valueOf 1 = .ok (.aload_n 0, 1) := by decide +kernel
theorem dX9_valueOf_2 : decode cX9_valueOf 2 = .ok (.getfield 32, 3) := by decide +kernel
theorem dX9_valueOf_5 : decode cX9_valueOf 5 = .ok (.iload_n 1, 1) := by decide +kernel
theorem dX9_valueOf_6 : decode cX9_valueOf 6 = .ok (.iaload, 1) := by decide +kernel
theorem dX9_valueOf_7 : decode cX9_valueOf 7 = .ok (.aload_n 0, 1) := by decide +kernel
theorem dX9_valueOf_8 : decode cX9_valueOf 8 = .ok (.getfield 35, 3) := by decide +kernel
theorem dX9_valueOf_11 : decode cX9_valueOf 11 = .ok (.iload_n 1, 1) := by decide +kernel
theorem dX9_valueOf_12 : decode cX9_valueOf 12 = .ok (.iaload, 1) := by decide +kernel
theorem dX9_valueOf_13 : decode cX9_valueOf 13 = .ok (.aload_n 0, 1) := by decide +kernel
theorem dX9_valueOf_14 : decode cX9_valueOf 14 = .ok (.getfield 38, 3) := by decide +kernel
theorem dX9_valueOf_17 : decode cX9_valueOf 17 = .ok (.iload_n 1, 1) := by decide +kernel
theorem dX9_valueOf_18 : decode cX9_valueOf 18 = .ok (.iaload, 1) := by decide +kernel
theorem dX9_valueOf_19 : decode cX9_valueOf 19 = .ok (.iload_n 2, 1) := by decide +kernel
theorem dX9_valueOf_20 : decode cX9_valueOf 20 = .ok (.iload_n 3, 1) := by decide +kernel
theorem dX9_valueOf_21 : decode cX9_valueOf 21 = .ok (.aload_n 0, 1) := by decide +kernel
theorem dX9_valueOf_22 : decode cX9_valueOf 22 = .ok (.iload_n 2, 1) := by decide +kernel
theorem dX9_valueOf_23 : decode cX9_valueOf 23 = .ok (.iload_n 3, 1) := by decide +kernel
theorem dX9_valueOf_24 : decode cX9_valueOf 24 = .ok (.invokevirtual 144, 3) := by decide +kernel
theorem dX9_valueOf_27 : decode cX9_valueOf 27 = .ok (.invokevirtual 304, 3) := by decide +kernel
theorem dX9_valueOf_30 : decode cX9_valueOf 30 = .ok (.return_, 1) := by decide +kernel
theorem dX9_isRow_0 : decode cX9_isRow 0 = .ok (.aload_n 0, 1) := by decide +kernel
theorem dX9_isRow_1 : decode cX9_isRow 1 = .ok (.invokevirtual 252, 3) := by decide +kernel
theorem dX9_isRow_4 : decode cX9_isRow 4 = .ok (.iload_n 1, 1) := by decide +kernel
theorem dX9_isRow_5 : decode cX9_isRow 5 = .ok (.ifCond .lt 46, 3) := by decide +kernel
theorem dX9_isRow_8 : decode cX9_isRow 8 = .ok (.iload_n 1, 1) := by decide +kernel
theorem dX9_isRow_9 : decode cX9_isRow 9 = .ok (.aload_n 0, 1) := by decide +kernel
theorem dX9_isRow_10 : decode cX9_isRow 10 = .ok (.getfield 284, 3) := by decide +kernel
theorem dX9_isRow_13 : decode cX9_isRow 13 = .ok (.if_icmp .ge 38, 3) := by decide +kernel
theorem dX9_isRow_16 : decode cX9_isRow 16 = .ok (.aload_n 0, 1) := by decide +kernel
theorem dX9_isRow_17 : decode cX9_isRow 17 = .ok (.getfield 212, 3) := by decide +kernel
theorem dX9_isRow_20 : decode cX9_isRow 20 = .ok (.ifCond .ne 31, 3) := by decide +kernel
theorem dX9_isRow_23 : decode cX9_isRow 23 = .ok (.aload_n 0, 1) := by decide +kernel
theorem dX9_isRow_24 : decode cX9_isRow 24 = .ok (.getfield 32, 3) := by decide +kernel
theorem dX9_isRow_27 : decode cX9_isRow 27 = .ok (.iload_n 1, 1) := by decide +kernel
theorem dX9_isRow_28 : decode cX9_isRow 28 = .ok (.iaload, 1) := by decide +kernel
theorem dX9_isRow_29 : decode cX9_isRow 29 = .ok (.iconst 3, 1) := by decide +kernel
theorem dX9_isRow_30 : decode cX9_isRow 30 = .ok (.if_icmp .ne 17, 3) := by decide +kernel
theorem dX9_isRow_33 : decode cX9_isRow 33 = .ok (.aload_n 0, 1) := by decide +kernel
theorem dX9_isRow_34 : decode cX9_isRow 34 = .ok (.getfield 23, 3) := by decide +kernel
theorem dX9_isRow_37 : decode cX9_isRow 37 = .ok (.aload_n 0, 1) := by decide +kernel
theorem dX9_isRow_38 : decode cX9_isRow 38 = .ok (.getfield 35, 3) := by decide +kernel
theorem dX9_isRow_41 : decode cX9_isRow 41 = .ok (.iload_n 1, 1) := by decide +kernel
theorem dX9_isRow_42 : decode cX9_isRow 42 = .ok (.iaload, 1) := by decide +kernel
theorem dX9_isRow_43 : decode cX9_isRow 43 = .ok (.baload, 1) := by decide +kernel
theorem dX9_isRow_44 : decode cX9_isRow 44 = .ok (.ifCond .eq 7, 3) := by decide +kernel
theorem dX9_isRow_47 : decode cX9_isRow 47 = .ok (.iconst 1, 1) := by decide +kernel
theorem dX9_isRow_48 : decode cX9_isRow 48 = .ok (.goto 4, 3) := by decide +kernel
theorem dX9_isRow_51 : decode cX9_isRow 51 = .ok (.iconst 0, 1) := by decide +kernel
theorem dX9_isRow_52 : decode cX9_isRow 52 = .ok (.ireturn, 1) := by decide +kernel
theorem dX9_refused_0 : decode cX9_refused 0 = .ok (.iload_n 0, 1) := by decide +kernel
theorem dX9_refused_1 : decode cX9_refused 1 = .ok (.iconst (-1), 1) := by decide +kernel
theorem dX9_refused_2 : decode cX9_refused 2 = .ok (.if_icmp .ne 9, 3) := by decide +kernel
theorem dX9_refused_5 : decode cX9_refused 5 = .ok (.ldc2_w 308, 3) := by decide +kernel
theorem dX9_refused_8 : decode cX9_refused 8 = .ok (.goto 6, 3) := by decide +kernel
theorem dX9_refused_11 : decode cX9_refused 11 = .ok (.ldc2_w 176, 3) := by decide +kernel
theorem dX9_refused_14 : decode cX9_refused 14 = .ok (.lreturn, 1) := by decide +kernel
theorem dX9_at_0 : decode cX9_at 0 = .ok (.aload_n 0, 1) := by decide +kernel
theorem dX9_at_1 : decode cX9_at 1 = .ok (.iconst 0, 1) := by decide +kernel
theorem dX9_at_2 : decode cX9_at 2 = .ok (.putfield 97, 3) := by decide +kernel
theorem dX9_at_5 : decode cX9_at 5 = .ok (.aload_n 0, 1) := by decide +kernel
theorem dX9_at_6 : decode cX9_at 6 = .ok (.iload_n 1, 1) := by decide +kernel
theorem dX9_at_7 : decode cX9_at 7 = .ok (.invokevirtual 310, 3) := by decide +kernel
theorem dX9_at_10 : decode cX9_at 10 = .ok (.ifCond .eq 18, 3) := by decide +kernel
theorem dX9_at_13 : decode cX9_at 13 = .ok (.aload_n 0, 1) := by decide +kernel
theorem dX9_at_14 : decode cX9_at 14 = .ok (.iload_n 2, 1) := by decide +kernel
theorem dX9_at_15 : decode cX9_at 15 = .ok (.iload_n 3, 1) := by decide +kernel
theorem dX9_at_16 : decode cX9_at 16 = .ok (.invokevirtual 313, 3) := by decide +kernel
theorem dX9_at_19 : decode cX9_at 19 = .ok (.ifCond .eq 9, 3) := by decide +kernel
theorem dX9_at_22 : decode cX9_at 22 = .ok (.iload 4, 2) := by decide +kernel
theorem dX9_at_24 : decode cX9_at 24 = .ok (.iconst (-1), 1) := by decide +kernel
theorem dX9_at_25 : decode cX9_at 25 = .ok (.if_icmp .ge 9, 3) := by decide +kernel
theorem dX9_at_28 : decode cX9_at 28 = .ok (.iload 4, 2) := by decide +kernel
theorem dX9_at_30 : decode cX9_at 30 = .ok (.invokestatic 317, 3) := by decide +kernel
theorem dX9_at_33 : decode cX9_at 33 = .ok (.lreturn, 1) := by decide +kernel
theorem dX9_at_34 : decode cX9_at 34 = .ok (.aload_n 0, 1) := by decide +kernel
theorem dX9_at_35 : decode cX9_at 35 = .ok (.iload_n 1, 1) := by decide +kernel
theorem dX9_at_36 : decode cX9_at 36 = .ok (.iload_n 2, 1) := by decide +kernel
theorem dX9_at_37 : decode cX9_at 37 = .ok (.iload_n 3, 1) := by decide +kernel
theorem dX9_at_38 : decode cX9_at 38 = .ok (.invokevirtual 321, 3) := by decide +kernel
theorem dX9_at_41 : decode cX9_at 41 = .ok (.aload_n 0, 1) := by decide +kernel
theorem dX9_at_42 : decode cX9_at 42 = .ok (.bipush 10, 2) := by decide +kernel
theorem dX9_at_44 : decode cX9_at 44 = .ok (.iconst 1, 1) := by decide +kernel
theorem dX9_at_45 : decode cX9_at 45 = .ok (.invokevirtual 107, 3) := by decide +kernel
theorem dX9_at_48 : decode cX9_at 48 = .ok (.aload_n 0, 1) := by decide +kernel
theorem dX9_at_49 : decode cX9_at 49 = .ok (.iconst 1, 1) := by decide +kernel
theorem dX9_at_50 : decode cX9_at 50 = .ok (.aload_n 0, 1) := by decide +kernel
theorem dX9_at_51 : decode cX9_at 51 = .ok (.aload_n 0, 1) := by decide +kernel
theorem dX9_at_52 : decode cX9_at 52 = .ok (.getfield 32, 3) := by decide +kernel
theorem dX9_at_55 : decode cX9_at 55 = .ok (.iload_n 1, 1) := by decide +kernel
theorem dX9_at_56 : decode cX9_at 56 = .ok (.iaload, 1) := by decide +kernel
theorem dX9_at_57 : decode cX9_at 57 = .ok (.aload_n 0, 1) := by decide +kernel
theorem dX9_at_58 : decode cX9_at 58 = .ok (.getfield 35, 3) := by decide +kernel
theorem dX9_at_61 : decode cX9_at 61 = .ok (.iload_n 1, 1) := by decide +kernel
theorem dX9_at_62 : decode cX9_at 62 = .ok (.iaload, 1) := by decide +kernel
theorem dX9_at_63 : decode cX9_at 63 = .ok (.invokevirtual 324, 3) := by decide +kernel
theorem dX9_at_66 : decode cX9_at 66 = .ok (.invokevirtual 129, 3) := by decide +kernel
theorem dX9_at_69 : decode cX9_at 69 = .ok (.aload_n 0, 1) := by decide +kernel
theorem dX9_at_70 : decode cX9_at 70 = .ok (.invokevirtual 327, 3) := by decide +kernel
theorem dX9_at_73 : decode cX9_at 73 = .ok (.aload_n 0, 1) := by decide +kernel
theorem dX9_at_74 : decode cX9_at 74 = .ok (.iload 4, 2) := by decide +kernel
theorem dX9_at_76 : decode cX9_at 76 = .ok (.invokevirtual 330, 3) := by decide +kernel
theorem dX9_at_79 : decode cX9_at 79 = .ok (.lreturn, 1) := by decide +kernel
theorem dX9_sum_0 : decode cX9_sum 0 = .ok (.aload_n 0, 1) := by decide +kernel
theorem dX9_sum_1 : decode cX9_sum 1 = .ok (.bipush 7, 2) := by decide +kernel
theorem dX9_sum_3 : decode cX9_sum 3 = .ok (.iconst 1, 1) := by decide +kernel
theorem dX9_sum_4 : decode cX9_sum 4 = .ok (.iconst 2, 1) := by decide +kernel
theorem dX9_sum_5 : decode cX9_sum 5 = .ok (.invokevirtual 198, 3) := by decide +kernel
theorem dX9_sum_8 : decode cX9_sum 8 = .ok (.aload_n 0, 1) := by decide +kernel
theorem dX9_sum_9 : decode cX9_sum 9 = .ok (.iconst 0, 1) := by decide +kernel
theorem dX9_sum_10 : decode cX9_sum 10 = .ok (.bipush 8, 2) := by decide +kernel
theorem dX9_sum_12 : decode cX9_sum 12 = .ok (.iconst 3, 1) := by decide +kernel
theorem dX9_sum_13 : decode cX9_sum 13 = .ok (.invokevirtual 198, 3) := by decide +kernel
theorem dX9_sum_16 : decode cX9_sum 16 = .ok (.aload_n 0, 1) := by decide +kernel
theorem dX9_sum_17 : decode cX9_sum 17 = .ok (.iconst 2, 1) := by decide +kernel
theorem dX9_sum_18 : decode cX9_sum 18 = .ok (.iconst 3, 1) := by decide +kernel
theorem dX9_sum_19 : decode cX9_sum 19 = .ok (.iconst 1, 1) := by decide +kernel
theorem dX9_sum_20 : decode cX9_sum 20 = .ok (.iconst 0, 1) := by decide +kernel
theorem dX9_sum_21 : decode cX9_sum 21 = .ok (.invokevirtual 201, 3) := by decide +kernel
theorem dX9_sum_24 : decode cX9_sum 24 = .ok (.aload_n 0, 1) := by decide +kernel
theorem dX9_sum_25 : decode cX9_sum 25 = .ok (.bipush 8, 2) := by decide +kernel
theorem dX9_sum_27 : decode cX9_sum 27 = .ok (.iconst 1, 1) := by decide +kernel
theorem dX9_sum_28 : decode cX9_sum 28 = .ok (.iconst 2, 1) := by decide +kernel
theorem dX9_sum_29 : decode cX9_sum 29 = .ok (.invokevirtual 198, 3) := by decide +kernel
theorem dX9_sum_32 : decode cX9_sum 32 = .ok (.aload_n 0, 1) := by decide +kernel
theorem dX9_sum_33 : decode cX9_sum 33 = .ok (.iconst 2, 1) := by decide +kernel
theorem dX9_sum_34 : decode cX9_sum 34 = .ok (.iconst 1, 1) := by decide +kernel
theorem dX9_sum_35 : decode cX9_sum 35 = .ok (.invokevirtual 107, 3) := by decide +kernel
theorem dX9_sum_38 : decode cX9_sum 38 = .ok (.aload_n 0, 1) := by decide +kernel
theorem dX9_sum_39 : decode cX9_sum 39 = .ok (.invokevirtual 327, 3) := by decide +kernel
theorem dX9_sum_42 : decode cX9_sum 42 = .ok (.aload_n 0, 1) := by decide +kernel
theorem dX9_sum_43 : decode cX9_sum 43 = .ok (.iconst 0, 1) := by decide +kernel
theorem dX9_sum_44 : decode cX9_sum 44 = .ok (.bipush 7, 2) := by decide +kernel
theorem dX9_sum_46 : decode cX9_sum 46 = .ok (.invokevirtual 107, 3) := by decide +kernel
theorem dX9_sum_49 : decode cX9_sum 49 = .ok (.aload_n 0, 1) := by decide +kernel
theorem dX9_sum_50 : decode cX9_sum 50 = .ok (.iconst 1, 1) := by decide +kernel
theorem dX9_sum_51 : decode cX9_sum 51 = .ok (.bipush 8, 2) := by decide +kernel
theorem dX9_sum_53 : decode cX9_sum 53 = .ok (.invokevirtual 107, 3) := by decide +kernel
theorem dX9_sum_56 : decode cX9_sum 56 = .ok (.return_, 1) := by decide +kernel
theorem dX9_piece_0 : decode cX9_piece 0 = .ok (.aload_n 0, 1) := by decide +kernel
theorem dX9_piece_1 : decode cX9_piece 1 = .ok (.getfield 47, 3) := by decide +kernel
theorem dX9_piece_4 : decode cX9_piece 4 = .ok (.iconst 5, 1) := by decide +kernel
theorem dX9_piece_5 : decode cX9_piece 5 = .ok (.iaload, 1) := by decide +kernel
theorem dX9_piece_6 : decode cX9_piece 6 = .ok (.ifCond .gt 14, 3) := by decide +kernel
theorem dX9_piece_9 : decode cX9_piece 9 = .ok (.aload_n 0, 1) := by decide +kernel
theorem dX9_piece_10 : decode cX9_piece 10 = .ok (.getfield 47, 3) := by decide +kernel
theorem dX9_piece_13 : decode cX9_piece 13 = .ok (.bipush 6, 2) := by decide +kernel
theorem dX9_piece_15 : decode cX9_piece 15 = .ok (.iaload, 1) := by decide +kernel
theorem dX9_piece_16 : decode cX9_piece 16 = .ok (.ifCond .gt 4, 3) := by decide +kernel
theorem dX9_piece_19 : decode cX9_piece 19 = .ok (.return_, 1) := by decide +kernel
theorem dX9_piece_20 : decode cX9_piece 20 = .ok (.aload_n 0, 1) := by decide +kernel
theorem dX9_piece_21 : decode cX9_piece 21 = .ok (.getfield 47, 3) := by decide +kernel
theorem dX9_piece_24 : decode cX9_piece 24 = .ok (.iconst 5, 1) := by decide +kernel
theorem dX9_piece_25 : decode cX9_piece 25 = .ok (.iaload, 1) := by decide +kernel
theorem dX9_piece_26 : decode cX9_piece 26 = .ok (.ifCond .lt 31, 3) := by decide +kernel
theorem dX9_piece_29 : decode cX9_piece 29 = .ok (.aload_n 0, 1) := by decide +kernel
theorem dX9_piece_30 : decode cX9_piece 30 = .ok (.getfield 47, 3) := by decide +kernel
theorem dX9_piece_33 : decode cX9_piece 33 = .ok (.bipush 6, 2) := by decide +kernel
theorem dX9_piece_35 : decode cX9_piece 35 = .ok (.iaload, 1) := by decide +kernel
theorem dX9_piece_36 : decode cX9_piece 36 = .ok (.ifCond .lt 21, 3) := by decide +kernel
theorem dX9_piece_39 : decode cX9_piece 39 = .ok (.aload_n 0, 1) := by decide +kernel
theorem dX9_piece_40 : decode cX9_piece 40 = .ok (.iconst 5, 1) := by decide +kernel
theorem dX9_piece_41 : decode cX9_piece 41 = .ok (.bipush 6, 2) := by decide +kernel
theorem dX9_piece_43 : decode cX9_piece 43 = .ok (.iconst 1, 1) := by decide +kernel
theorem dX9_piece_44 : decode cX9_piece 44 = .ok (.iconst 0, 1) := by decide +kernel
theorem dX9_piece_45 : decode cX9_piece 45 = .ok (.invokevirtual 201, 3) := by decide +kernel
theorem dX9_piece_48 : decode cX9_piece 48 = .ok (.aload_n 0, 1) := by decide +kernel
theorem dX9_piece_49 : decode cX9_piece 49 = .ok (.iconst 1, 1) := by decide +kernel
theorem dX9_piece_50 : decode cX9_piece 50 = .ok (.lconst 1, 1) := by decide +kernel
theorem dX9_piece_51 : decode cX9_piece 51 = .ok (.invokevirtual 121, 3) := by decide +kernel
theorem dX9_piece_54 : decode cX9_piece 54 = .ok (.goto 37, 3) := by decide +kernel
theorem dX9_piece_57 : decode cX9_piece 57 = .ok (.aload_n 0, 1) := by decide +kernel
theorem dX9_piece_58 : decode cX9_piece 58 = .ok (.getfield 47, 3) := by decide +kernel
theorem dX9_piece_61 : decode cX9_piece 61 = .ok (.iconst 5, 1) := by decide +kernel
theorem dX9_piece_62 : decode cX9_piece 62 = .ok (.iaload, 1) := by decide +kernel
theorem dX9_piece_63 : decode cX9_piece 63 = .ok (.ifCond .le 7, 3) := by decide +kernel
theorem dX9_piece_66 : decode cX9_piece 66 = .ok (.iconst 5, 1) := by decide +kernel
theorem dX9_piece_67 : decode cX9_piece 67 = .ok (.goto 5, 3) := by decide +kernel
theorem dX9_piece_70 : decode cX9_piece 70 = .ok (.bipush 6, 2) := by decide +kernel
theorem dX9_piece_72 : decode cX9_piece 72 = .ok (.istore_n 3, 1) := by decide +kernel
theorem dX9_piece_73 : decode cX9_piece 73 = .ok (.aload_n 0, 1) := by decide +kernel
theorem dX9_piece_74 : decode cX9_piece 74 = .ok (.iload_n 3, 1) := by decide +kernel
theorem dX9_piece_75 : decode cX9_piece 75 = .ok (.iload_n 3, 1) := by decide +kernel
theorem dX9_piece_76 : decode cX9_piece 76 = .ok (.iconst 0, 1) := by decide +kernel
theorem dX9_piece_77 : decode cX9_piece 77 = .ok (.invokevirtual 198, 3) := by decide +kernel
theorem dX9_piece_80 : decode cX9_piece 80 = .ok (.aload_n 0, 1) := by decide +kernel
theorem dX9_piece_81 : decode cX9_piece 81 = .ok (.iload_n 3, 1) := by decide +kernel
theorem dX9_piece_82 : decode cX9_piece 82 = .ok (.bipush 11, 2) := by decide +kernel
theorem dX9_piece_84 : decode cX9_piece 84 = .ok (.iload_n 3, 1) := by decide +kernel
theorem dX9_piece_85 : decode cX9_piece 85 = .ok (.isub, 1) := by decide +kernel
theorem dX9_piece_86 : decode cX9_piece 86 = .ok (.iconst (-1), 1) := by decide +kernel
theorem dX9_piece_87 : decode cX9_piece 87 = .ok (.iconst 1, 1) := by decide +kernel
theorem dX9_piece_88 : decode cX9_piece 88 = .ok (.invokevirtual 201, 3) := by decide +kernel
theorem dX9_piece_91 : decode cX9_piece 91 = .ok (.aload_n 0, 1) := by decide +kernel
theorem dX9_piece_92 : decode cX9_piece 92 = .ok (.iconst 0, 1) := by decide +kernel
theorem dX9_piece_93 : decode cX9_piece 93 = .ok (.lload_n 1, 1) := by decide +kernel
theorem dX9_piece_94 : decode cX9_piece 94 = .ok (.invokevirtual 129, 3) := by decide +kernel
theorem dX9_piece_97 : decode cX9_piece 97 = .ok (.aload_n 0, 1) := by decide +kernel
theorem dX9_piece_98 : decode cX9_piece 98 = .ok (.invokevirtual 333, 3) := by decide +kernel
theorem dX9_piece_101 : decode cX9_piece 101 = .ok (.return_, 1) := by decide +kernel
theorem dX9_hold_0 : decode cX9_hold 0 = .ok (.iconst 0, 1) := by decide +kernel
theorem dX9_hold_1 : decode cX9_hold 1 = .ok (.istore_n 3, 1) := by decide +kernel
theorem dX9_hold_2 : decode cX9_hold 2 = .ok (.iload_n 3, 1) := by decide +kernel
theorem dX9_hold_3 : decode cX9_hold 3 = .ok (.aload_n 0, 1) := by decide +kernel
theorem dX9_hold_4 : decode cX9_hold 4 = .ok (.getfield 44, 3) := by decide +kernel
theorem dX9_hold_7 : decode cX9_hold 7 = .ok (.iload_n 2, 1) := by decide +kernel
theorem dX9_hold_8 : decode cX9_hold 8 = .ok (.iaload, 1) := by decide +kernel
theorem dX9_hold_9 : decode cX9_hold 9 = .ok (.if_icmp .ge 32, 3) := by decide +kernel
theorem dX9_hold_12 : decode cX9_hold 12 = .ok (.aload_n 0, 1) := by decide +kernel
theorem dX9_hold_13 : decode cX9_hold 13 = .ok (.getfield 84, 3) := by decide +kernel
theorem dX9_hold_16 : decode cX9_hold 16 = .ok (.bipush 24, 2) := by decide +kernel
theorem dX9_hold_18 : decode cX9_hold 18 = .ok (.iload_n 1, 1) := by decide +kernel
theorem dX9_hold_19 : decode cX9_hold 19 = .ok (.imul, 1) := by decide +kernel
theorem dX9_hold_20 : decode cX9_hold 20 = .ok (.iload_n 3, 1) := by decide +kernel
theorem dX9_hold_21 : decode cX9_hold 21 = .ok (.iadd, 1) := by decide +kernel
theorem dX9_hold_22 : decode cX9_hold 22 = .ok (.aload_n 0, 1) := by decide +kernel
theorem dX9_hold_23 : decode cX9_hold 23 = .ok (.getfield 41, 3) := by decide +kernel
theorem dX9_hold_26 : decode cX9_hold 26 = .ok (.sipush 400, 3) := by decide +kernel
theorem dX9_hold_29 : decode cX9_hold 29 = .ok (.iload_n 2, 1) := by decide +kernel
theorem dX9_hold_30 : decode cX9_hold 30 = .ok (.imul, 1) := by decide +kernel
theorem dX9_hold_31 : decode cX9_hold 31 = .ok (.iload_n 3, 1) := by decide +kernel
theorem dX9_hold_32 : decode cX9_hold 32 = .ok (.iadd, 1) := by decide +kernel
theorem dX9_hold_33 : decode cX9_hold 33 = .ok (.iaload, 1) := by decide +kernel
theorem dX9_hold_34 : decode cX9_hold 34 = .ok (.iastore, 1) := by decide +kernel
theorem dX9_hold_35 : decode cX9_hold 35 = .ok (.iinc 3 1, 3) := by decide +kernel
theorem dX9_hold_38 : decode cX9_hold 38 = .ok (.goto (-36), 3) := by decide +kernel
theorem dX9_hold_41 : decode cX9_hold 41 = .ok (.aload_n 0, 1) := by decide +kernel
theorem dX9_hold_42 : decode cX9_hold 42 = .ok (.getfield 87, 3) := by decide +kernel
theorem dX9_hold_45 : decode cX9_hold 45 = .ok (.iload_n 1, 1) := by decide +kernel
theorem dX9_hold_46 : decode cX9_hold 46 = .ok (.aload_n 0, 1) := by decide +kernel
theorem dX9_hold_47 : decode cX9_hold 47 = .ok (.getfield 44, 3) := by decide +kernel
theorem dX9_hold_50 : decode cX9_hold 50 = .ok (.iload_n 2, 1) := by decide +kernel
theorem dX9_hold_51 : decode cX9_hold 51 = .ok (.iaload, 1) := by decide +kernel
theorem dX9_hold_52 : decode cX9_hold 52 = .ok (.iastore, 1) := by decide +kernel
theorem dX9_hold_53 : decode cX9_hold 53 = .ok (.aload_n 0, 1) := by decide +kernel
theorem dX9_hold_54 : decode cX9_hold 54 = .ok (.getfield 90, 3) := by decide +kernel
theorem dX9_hold_57 : decode cX9_hold 57 = .ok (.iload_n 1, 1) := by decide +kernel
theorem dX9_hold_58 : decode cX9_hold 58 = .ok (.aload_n 0, 1) := by decide +kernel
theorem dX9_hold_59 : decode cX9_hold 59 = .ok (.getfield 47, 3) := by decide +kernel
theorem dX9_hold_62 : decode cX9_hold 62 = .ok (.iload_n 2, 1) := by decide +kernel
theorem dX9_hold_63 : decode cX9_hold 63 = .ok (.iaload, 1) := by decide +kernel
theorem dX9_hold_64 : decode cX9_hold 64 = .ok (.iastore, 1) := by decide +kernel
theorem dX9_hold_65 : decode cX9_hold 65 = .ok (.return_, 1) := by decide +kernel
theorem dX9_take_0 : decode cX9_take 0 = .ok (.iconst 0, 1) := by decide +kernel
theorem dX9_take_1 : decode cX9_take 1 = .ok (.istore 4, 2) := by decide +kernel
theorem dX9_take_3 : decode cX9_take 3 = .ok (.iload 4, 2) := by decide +kernel
theorem dX9_take_5 : decode cX9_take 5 = .ok (.aload_n 0, 1) := by decide +kernel
theorem dX9_take_6 : decode cX9_take 6 = .ok (.getfield 87, 3) := by decide +kernel
theorem dX9_take_9 : decode cX9_take 9 = .ok (.iload_n 1, 1) := by decide +kernel
theorem dX9_take_10 : decode cX9_take 10 = .ok (.iaload, 1) := by decide +kernel
theorem dX9_take_11 : decode cX9_take 11 = .ok (.if_icmp .ge 34, 3) := by decide +kernel
theorem dX9_take_14 : decode cX9_take 14 = .ok (.aload_n 0, 1) := by decide +kernel
theorem dX9_take_15 : decode cX9_take 15 = .ok (.getfield 41, 3) := by decide +kernel
theorem dX9_take_18 : decode cX9_take 18 = .ok (.sipush 400, 3) := by decide +kernel
theorem dX9_take_21 : decode cX9_take 21 = .ok (.iload_n 2, 1) := by decide +kernel
theorem dX9_take_22 : decode cX9_take 22 = .ok (.imul, 1) := by decide +kernel
theorem dX9_take_23 : decode cX9_take 23 = .ok (.iload 4, 2) := by decide +kernel
theorem dX9_take_25 : decode cX9_take 25 = .ok (.iadd, 1) := by decide +kernel
theorem dX9_take_26 : decode cX9_take 26 = .ok (.aload_n 0, 1) := by decide +kernel
theorem dX9_take_27 : decode cX9_take 27 = .ok (.getfield 84, 3) := by decide +kernel
theorem dX9_take_30 : decode cX9_take 30 = .ok (.bipush 24, 2) := by decide +kernel
theorem dX9_take_32 : decode cX9_take 32 = .ok (.iload_n 1, 1) := by decide +kernel
theorem dX9_take_33 : decode cX9_take 33 = .ok (.imul, 1) := by decide +kernel
theorem dX9_take_34 : decode cX9_take 34 = .ok (.iload 4, 2) := by decide +kernel
theorem dX9_take_36 : decode cX9_take 36 = .ok (.iadd, 1) := by decide +kernel
theorem dX9_take_37 : decode cX9_take 37 = .ok (.iaload, 1) := by decide +kernel
theorem dX9_take_38 : decode cX9_take 38 = .ok (.iastore, 1) := by decide +kernel
theorem dX9_take_39 : decode cX9_take 39 = .ok (.iinc 4 1, 3) := by decide +kernel
theorem dX9_take_42 : decode cX9_take 42 = .ok (.goto (-39), 3) := by decide +kernel
theorem dX9_take_45 : decode cX9_take 45 = .ok (.aload_n 0, 1) := by decide +kernel
theorem dX9_take_46 : decode cX9_take 46 = .ok (.getfield 44, 3) := by decide +kernel
theorem dX9_take_49 : decode cX9_take 49 = .ok (.iload_n 2, 1) := by decide +kernel
theorem dX9_take_50 : decode cX9_take 50 = .ok (.aload_n 0, 1) := by decide +kernel
theorem dX9_take_51 : decode cX9_take 51 = .ok (.getfield 87, 3) := by decide +kernel
theorem dX9_take_54 : decode cX9_take 54 = .ok (.iload_n 1, 1) := by decide +kernel
theorem dX9_take_55 : decode cX9_take 55 = .ok (.iaload, 1) := by decide +kernel
theorem dX9_take_56 : decode cX9_take 56 = .ok (.iastore, 1) := by decide +kernel
theorem dX9_take_57 : decode cX9_take 57 = .ok (.aload_n 0, 1) := by decide +kernel
theorem dX9_take_58 : decode cX9_take 58 = .ok (.getfield 47, 3) := by decide +kernel
theorem dX9_take_61 : decode cX9_take 61 = .ok (.iload_n 2, 1) := by decide +kernel
theorem dX9_take_62 : decode cX9_take 62 = .ok (.aload_n 0, 1) := by decide +kernel
theorem dX9_take_63 : decode cX9_take 63 = .ok (.getfield 90, 3) := by decide +kernel
theorem dX9_take_66 : decode cX9_take 66 = .ok (.iload_n 1, 1) := by decide +kernel
theorem dX9_take_67 : decode cX9_take 67 = .ok (.iaload, 1) := by decide +kernel
