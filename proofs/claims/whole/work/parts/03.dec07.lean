theorem dX9_init_29 : decode cX9_init 29 = .ok (.newarray .boolean, 2) := by decide +kernel
theorem dX9_init_31 : decode cX9_init 31 = .ok (.putfield 19, 3) := by decide +kernel
theorem dX9_init_34 : decode cX9_init 34 = .ok (.aload_n 0, 1) := by decide +kernel
theorem dX9_init_35 : decode cX9_init 35 = .ok (.iconst 4, 1) := by decide +kernel
theorem dX9_init_36 : decode cX9_init 36 = .ok (.newarray .boolean, 2) := by decide +kernel
theorem dX9_init_38 : decode cX9_init 38 = .ok (.putfield 23, 3) := by decide +kernel
theorem dX9_init_41 : decode cX9_init 41 = .ok (.aload_n 0, 1) := by decide +kernel
theorem dX9_init_42 : decode cX9_init 42 = .ok (.iconst 4, 1) := by decide +kernel
theorem dX9_init_43 : decode cX9_init 43 = .ok (.newarray .boolean, 2) := by decide +kernel
theorem dX9_init_45 : decode cX9_init 45 = .ok (.putfield 26, 3) := by decide +kernel
theorem dX9_init_48 : decode cX9_init 48 = .ok (.aload_n 0, 1) := by decide +kernel
theorem dX9_init_49 : decode cX9_init 49 = .ok (.iconst 4, 1) := by decide +kernel
theorem dX9_init_50 : decode cX9_init 50 = .ok (.newarray .int, 2) := by decide +kernel
theorem dX9_init_52 : decode cX9_init 52 = .ok (.putfield 29, 3) := by decide +kernel
theorem dX9_init_55 : decode cX9_init 55 = .ok (.aload_n 0, 1) := by decide +kernel
theorem dX9_init_56 : decode cX9_init 56 = .ok (.bipush 8, 2) := by decide +kernel
theorem dX9_init_58 : decode cX9_init 58 = .ok (.newarray .int, 2) := by decide +kernel
theorem dX9_init_60 : decode cX9_init 60 = .ok (.putfield 32, 3) := by decide +kernel
theorem dX9_init_63 : decode cX9_init 63 = .ok (.aload_n 0, 1) := by decide +kernel
theorem dX9_init_64 : decode cX9_init 64 = .ok (.bipush 8, 2) := by decide +kernel
theorem dX9_init_66 : decode cX9_init 66 = .ok (.newarray .int, 2) := by decide +kernel
theorem dX9_init_68 : decode cX9_init 68 = .ok (.putfield 35, 3) := by decide +kernel
theorem dX9_init_71 : decode cX9_init 71 = .ok (.aload_n 0, 1) := by decide +kernel
theorem dX9_init_72 : decode cX9_init 72 = .ok (.bipush 8, 2) := by decide +kernel
theorem dX9_init_74 : decode cX9_init 74 = .ok (.newarray .int, 2) := by decide +kernel
theorem dX9_init_76 : decode cX9_init 76 = .ok (.putfield 38, 3) := by decide +kernel
theorem dX9_init_79 : decode cX9_init 79 = .ok (.aload_n 0, 1) := by decide +kernel
theorem dX9_init_80 : decode cX9_init 80 = .ok (.sipush 6400, 3) := by decide +kernel
theorem dX9_init_83 : decode cX9_init 83 = .ok (.newarray .int, 2) := by decide +kernel
theorem dX9_init_85 : decode cX9_init 85 = .ok (.putfield 41, 3) := by decide +kernel
theorem dX9_init_88 : decode cX9_init 88 = .ok (.aload_n 0, 1) := by decide +kernel
theorem dX9_init_89 : decode cX9_init 89 = .ok (.bipush 16, 2) := by decide +kernel
theorem dX9_init_91 : decode cX9_init 91 = .ok (.newarray .int, 2) := by decide +kernel
theorem dX9_init_93 : decode cX9_init 93 = .ok (.putfield 44, 3) := by decide +kernel
theorem dX9_init_96 : decode cX9_init 96 = .ok (.aload_n 0, 1) := by decide +kernel
theorem dX9_init_97 : decode cX9_init 97 = .ok (.bipush 16, 2) := by decide +kernel
theorem dX9_init_99 : decode cX9_init 99 = .ok (.newarray .int, 2) := by decide +kernel
theorem dX9_init_101 : decode cX9_init 101 = .ok (.putfield 47, 3) := by decide +kernel
theorem dX9_init_104 : decode cX9_init 104 = .ok (.aload_n 0, 1) := by decide +kernel
theorem dX9_init_105 : decode cX9_init 105 = .ok (.sipush 8064, 3) := by decide +kernel
theorem dX9_init_108 : decode cX9_init 108 = .ok (.newarray .int, 2) := by decide +kernel
theorem dX9_init_110 : decode cX9_init 110 = .ok (.putfield 50, 3) := by decide +kernel
theorem dX9_init_113 : decode cX9_init 113 = .ok (.aload_n 0, 1) := by decide +kernel
theorem dX9_init_114 : decode cX9_init 114 = .ok (.sipush 336, 3) := by decide +kernel
theorem dX9_init_117 : decode cX9_init 117 = .ok (.newarray .int, 2) := by decide +kernel
theorem dX9_init_119 : decode cX9_init 119 = .ok (.putfield 53, 3) := by decide +kernel
theorem dX9_init_122 : decode cX9_init 122 = .ok (.aload_n 0, 1) := by decide +kernel
theorem dX9_init_123 : decode cX9_init 123 = .ok (.sipush 336, 3) := by decide +kernel
theorem dX9_init_126 : decode cX9_init 126 = .ok (.newarray .int, 2) := by decide +kernel
theorem dX9_init_128 : decode cX9_init 128 = .ok (.putfield 56, 3) := by decide +kernel
theorem dX9_init_131 : decode cX9_init 131 = .ok (.aload_n 0, 1) := by decide +kernel
theorem dX9_init_132 : decode cX9_init 132 = .ok (.sipush 336, 3) := by decide +kernel
theorem dX9_init_135 : decode cX9_init 135 = .ok (.newarray .long, 2) := by decide +kernel
theorem dX9_init_137 : decode cX9_init 137 = .ok (.putfield 59, 3) := by decide +kernel
theorem dX9_init_140 : decode cX9_init 140 = .ok (.aload_n 0, 1) := by decide +kernel
theorem dX9_init_141 : decode cX9_init 141 = .ok (.bipush 120, 2) := by decide +kernel
theorem dX9_init_143 : decode cX9_init 143 = .ok (.newarray .long, 2) := by decide +kernel
theorem dX9_init_145 : decode cX9_init 145 = .ok (.putfield 63, 3) := by decide +kernel
theorem dX9_init_148 : decode cX9_init 148 = .ok (.aload_n 0, 1) := by decide +kernel
theorem dX9_init_149 : decode cX9_init 149 = .ok (.bipush 126, 2) := by decide +kernel
theorem dX9_init_151 : decode cX9_init 151 = .ok (.newarray .long, 2) := by decide +kernel
theorem dX9_init_153 : decode cX9_init 153 = .ok (.putfield 66, 3) := by decide +kernel
theorem dX9_init_156 : decode cX9_init 156 = .ok (.aload_n 0, 1) := by decide +kernel
theorem dX9_init_157 : decode cX9_init 157 = .ok (.iconst 4, 1) := by decide +kernel
theorem dX9_init_158 : decode cX9_init 158 = .ok (.newarray .int, 2) := by decide +kernel
theorem dX9_init_160 : decode cX9_init 160 = .ok (.putfield 69, 3) := by decide +kernel
theorem dX9_init_163 : decode cX9_init 163 = .ok (.aload_n 0, 1) := by decide +kernel
theorem dX9_init_164 : decode cX9_init 164 = .ok (.iconst 4, 1) := by decide +kernel
theorem dX9_init_165 : decode cX9_init 165 = .ok (.newarray .int, 2) := by decide +kernel
theorem dX9_init_167 : decode cX9_init 167 = .ok (.putfield 72, 3) := by decide +kernel
theorem dX9_init_170 : decode cX9_init 170 = .ok (.aload_n 0, 1) := by decide +kernel
theorem dX9_init_171 : decode cX9_init 171 = .ok (.iconst 3, 1) := by decide +kernel
theorem dX9_init_172 : decode cX9_init 172 = .ok (.newarray .int, 2) := by decide +kernel
theorem dX9_init_174 : decode cX9_init 174 = .ok (.putfield 75, 3) := by decide +kernel
theorem dX9_init_177 : decode cX9_init 177 = .ok (.aload_n 0, 1) := by decide +kernel
theorem dX9_init_178 : decode cX9_init 178 = .ok (.iconst 3, 1) := by decide +kernel
theorem dX9_init_179 : decode cX9_init 179 = .ok (.newarray .int, 2) := by decide +kernel
theorem dX9_init_181 : decode cX9_init 181 = .ok (.putfield 78, 3) := by decide +kernel
theorem dX9_init_184 : decode cX9_init 184 = .ok (.aload_n 0, 1) := by decide +kernel
theorem dX9_init_185 : decode cX9_init 185 = .ok (.bipush 6, 2) := by decide +kernel
theorem dX9_init_187 : decode cX9_init 187 = .ok (.newarray .boolean, 2) := by decide +kernel
theorem dX9_init_189 : decode cX9_init 189 = .ok (.putfield 81, 3) := by decide +kernel
theorem dX9_init_192 : decode cX9_init 192 = .ok (.aload_n 0, 1) := by decide +kernel
theorem dX9_init_193 : decode cX9_init 193 = .ok (.sipush 360, 3) := by decide +kernel
theorem dX9_init_196 : decode cX9_init 196 = .ok (.newarray .int, 2) := by decide +kernel
theorem dX9_init_198 : decode cX9_init 198 = .ok (.putfield 84, 3) := by decide +kernel
theorem dX9_init_201 : decode cX9_init 201 = .ok (.aload_n 0, 1) := by decide +kernel
theorem dX9_init_202 : decode cX9_init 202 = .ok (.bipush 15, 2) := by decide +kernel
theorem dX9_init_204 : decode cX9_init 204 = .ok (.newarray .int, 2) := by decide +kernel
theorem dX9_init_206 : decode cX9_init 206 = .ok (.putfield 87, 3) := by decide +kernel
theorem dX9_init_209 : decode cX9_init 209 = .ok (.aload_n 0, 1) := by decide +kernel
theorem dX9_init_210 : decode cX9_init 210 = .ok (.bipush 15, 2) := by decide +kernel
theorem dX9_init_212 : decode cX9_init 212 = .ok (.newarray .int, 2) := by decide +kernel
theorem dX9_init_214 : decode cX9_init 214 = .ok (.putfield 90, 3) := by decide +kernel
theorem dX9_init_217 : decode cX9_init 217 = .ok (.aload_n 0, 1) := by decide +kernel
theorem dX9_init_218 : decode cX9_init 218 = .ok (.iconst 1, 1) := by decide +kernel
theorem dX9_init_219 : decode cX9_init 219 = .ok (.putfield 93, 3) := by decide +kernel
theorem dX9_init_222 : decode cX9_init 222 = .ok (.aload_n 0, 1) := by decide +kernel
theorem dX9_init_223 : decode cX9_init 223 = .ok (.getfield 13, 3) := by decide +kernel
theorem dX9_init_226 : decode cX9_init 226 = .ok (.iconst 0, 1) := by decide +kernel
theorem dX9_init_227 : decode cX9_init 227 = .ok (.iconst 1, 1) := by decide +kernel
theorem dX9_init_228 : decode cX9_init 228 = .ok (.iastore, 1) := by decide +kernel
theorem dX9_init_229 : decode cX9_init 229 = .ok (.aload_n 0, 1) := by decide +kernel
theorem dX9_init_230 : decode cX9_init 230 = .ok (.getfield 16, 3) := by decide +kernel
theorem dX9_init_233 : decode cX9_init 233 = .ok (.iconst 0, 1) := by decide +kernel
theorem dX9_init_234 : decode cX9_init 234 = .ok (.iconst 1, 1) := by decide +kernel
theorem dX9_init_235 : decode cX9_init 235 = .ok (.iastore, 1) := by decide +kernel
theorem dX9_init_236 : decode cX9_init 236 = .ok (.aload_n 0, 1) := by decide +kernel
theorem dX9_init_237 : decode cX9_init 237 = .ok (.getfield 23, 3) := by decide +kernel
theorem dX9_init_240 : decode cX9_init 240 = .ok (.iconst 0, 1) := by decide +kernel
theorem dX9_init_241 : decode cX9_init 241 = .ok (.iconst 1, 1) := by decide +kernel
theorem dX9_init_242 : decode cX9_init 242 = .ok (.bastore, 1) := by decide +kernel
theorem dX9_init_243 : decode cX9_init 243 = .ok (.aload_n 0, 1) := by decide +kernel
theorem dX9_init_244 : decode cX9_init 244 = .ok (.getfield 26, 3) := by decide +kernel
theorem dX9_init_247 : decode cX9_init 247 = .ok (.iconst 0, 1) := by decide +kernel
theorem dX9_init_248 : decode cX9_init 248 = .ok (.iconst 1, 1) := by decide +kernel
theorem dX9_init_249 : decode cX9_init 249 = .ok (.bastore, 1) := by decide +kernel
theorem dX9_init_250 : decode cX9_init 250 = .ok (.return_, 1) := by decide +kernel
theorem dX9_thrown_0 : decode cX9_thrown 0 = .ok (.aload_n 0, 1) := by decide +kernel
theorem dX9_thrown_1 : decode cX9_thrown 1 = .ok (.getfield 97, 3) := by decide +kernel
theorem dX9_thrown_4 : decode cX9_thrown 4 = .ok (.ireturn, 1) := by decide +kernel
theorem dX9_put_0 : decode cX9_put 0 = .ok (.lload_n 2, 1) := by decide +kernel
theorem dX9_put_1 : decode cX9_put 1 = .ok (.lconst 0, 1) := by decide +kernel
theorem dX9_put_2 : decode cX9_put 2 = .ok (.lcmp, 1) := by decide +kernel
theorem dX9_put_3 : decode cX9_put 3 = .ok (.ifCond .ge 8, 3) := by decide +kernel
theorem dX9_put_6 : decode cX9_put 6 = .ok (.lload_n 2, 1) := by decide +kernel
theorem dX9_put_7 : decode cX9_put 7 = .ok (.lneg, 1) := by decide +kernel
theorem dX9_put_8 : decode cX9_put 8 = .ok (.goto 4, 3) := by decide +kernel
theorem dX9_put_11 : decode cX9_put 11 = .ok (.lload_n 2, 1) := by decide +kernel
theorem dX9_put_12 : decode cX9_put 12 = .ok (.lstore 4, 2) := by decide +kernel
theorem dX9_put_14 : decode cX9_put 14 = .ok (.aload_n 0, 1) := by decide +kernel
theorem dX9_put_15 : decode cX9_put 15 = .ok (.getfield 47, 3) := by decide +kernel
theorem dX9_put_18 : decode cX9_put 18 = .ok (.iload_n 1, 1) := by decide +kernel
theorem dX9_put_19 : decode cX9_put 19 = .ok (.lload_n 2, 1) := by decide +kernel
theorem dX9_put_20 : decode cX9_put 20 = .ok (.lconst 0, 1) := by decide +kernel
theorem dX9_put_21 : decode cX9_put 21 = .ok (.lcmp, 1) := by decide +kernel
theorem dX9_put_22 : decode cX9_put 22 = .ok (.ifCond .ge 7, 3) := by decide +kernel
theorem dX9_put_25 : decode cX9_put 25 = .ok (.iconst (-1), 1) := by decide +kernel
theorem dX9_put_26 : decode cX9_put 26 = .ok (.goto 14, 3) := by decide +kernel
theorem dX9_put_29 : decode cX9_put 29 = .ok (.lload_n 2, 1) := by decide +kernel
theorem dX9_put_30 : decode cX9_put 30 = .ok (.lconst 0, 1) := by decide +kernel
theorem dX9_put_31 : decode cX9_put 31 = .ok (.lcmp, 1) := by decide +kernel
theorem dX9_put_32 : decode cX9_put 32 = .ok (.ifCond .le 7, 3) := by decide +kernel
theorem dX9_put_35 : decode cX9_put 35 = .ok (.iconst 1, 1) := by decide +kernel
theorem dX9_put_36 : decode cX9_put 36 = .ok (.goto 4, 3) := by decide +kernel
theorem dX9_put_39 : decode cX9_put 39 = .ok (.iconst 0, 1) := by decide +kernel
theorem dX9_put_40 : decode cX9_put 40 = .ok (.iastore, 1) := by decide +kernel
theorem dX9_put_41 : decode cX9_put 41 = .ok (.iconst 0, 1) := by decide +kernel
theorem dX9_put_42 : decode cX9_put 42 = .ok (.istore 6, 2) := by decide +kernel
theorem dX9_put_44 : decode cX9_put 44 = .ok (.lload 4, 2) := by decide +kernel
theorem dX9_put_46 : decode cX9_put 46 = .ok (.lconst 0, 1) := by decide +kernel
theorem dX9_put_47 : decode cX9_put 47 = .ok (.lcmp, 1) := by decide +kernel
theorem dX9_put_48 : decode cX9_put 48 = .ok (.ifCond .le 37, 3) := by decide +kernel
theorem dX9_put_51 : decode cX9_put 51 = .ok (.aload_n 0, 1) := by decide +kernel
theorem dX9_put_52 : decode cX9_put 52 = .ok (.getfield 41, 3) := by decide +kernel
theorem dX9_put_55 : decode cX9_put 55 = .ok (.sipush 400, 3) := by decide +kernel
theorem dX9_put_58 : decode cX9_put 58 = .ok (.iload_n 1, 1) := by decide +kernel
theorem dX9_put_59 : decode cX9_put 59 = .ok (.imul, 1) := by decide +kernel
theorem dX9_put_60 : decode cX9_put 60 = .ok (.iload 6, 2) := by decide +kernel
theorem dX9_put_62 : decode cX9_put 62 = .ok (.iadd, 1) := by decide +kernel
theorem dX9_put_63 : decode cX9_put 63 = .ok (.lload 4, 2) := by decide +kernel
theorem dX9_put_65 : decode cX9_put 65 = .ok (.ldc2_w 100, 3) := by decide +kernel
theorem dX9_put_68 : decode cX9_put 68 = .ok (.lrem, 1) := by decide +kernel
theorem dX9_put_69 : decode cX9_put 69 = .ok (.l2i, 1) := by decide +kernel
theorem dX9_put_70 : decode cX9_put 70 = .ok (.iastore, 1) := by decide +kernel
theorem dX9_put_71 : decode cX9_put 71 = .ok (.lload 4, 2) := by decide +kernel
theorem dX9_put_73 : decode cX9_put 73 = .ok (.ldc2_w 100, 3) := by decide +kernel
theorem dX9_put_76 : decode cX9_put 76 = .ok (.ldiv, 1) := by decide +kernel
theorem dX9_put_77 : decode cX9_put 77 = .ok (.lstore 4, 2) := by decide +kernel
theorem dX9_put_79 : decode cX9_put 79 = .ok (.iinc 6 1, 3) := by decide +kernel
theorem dX9_put_82 : decode cX9_put 82 = .ok (.goto (-38), 3) := by decide +kernel
theorem dX9_put_85 : decode cX9_put 85 = .ok (.aload_n 0, 1) := by decide +kernel
theorem dX9_put_86 : decode cX9_put 86 = .ok (.getfield 44, 3) := by decide +kernel
theorem dX9_put_89 : decode cX9_put 89 = .ok (.iload_n 1, 1) := by decide +kernel
theorem dX9_put_90 : decode cX9_put 90 = .ok (.iload 6, 2) := by decide +kernel
theorem dX9_put_92 : decode cX9_put 92 = .ok (.iastore, 1) := by decide +kernel
theorem dX9_put_93 : decode cX9_put 93 = .ok (.return_, 1) := by decide +kernel
theorem dX9_copy_0 : decode cX9_copy 0 = .ok (.iconst 0, 1) := by decide +kernel
theorem dX9_copy_1 : decode cX9_copy 1 = .ok (.istore_n 3, 1) := by decide +kernel
theorem dX9_copy_2 : decode cX9_copy 2 = .ok (.iload_n 3, 1) := by decide +kernel
theorem dX9_copy_3 : decode cX9_copy 3 = .ok (.aload_n 0, 1) := by decide +kernel
theorem dX9_copy_4 : decode cX9_copy 4 = .ok (.getfield 44, 3) := by decide +kernel
theorem dX9_copy_7 : decode cX9_copy 7 = .ok (.iload_n 1, 1) := by decide +kernel
theorem dX9_copy_8 : decode cX9_copy 8 = .ok (.iaload, 1) := by decide +kernel
theorem dX9_copy_9 : decode cX9_copy 9 = .ok (.if_icmp .ge 33, 3) := by decide +kernel
theorem dX9_copy_12 : decode cX9_copy 12 = .ok (.aload_n 0, 1) := by decide +kernel
theorem dX9_copy_13 : decode cX9_copy 13 = .ok (.getfield 41, 3) := by decide +kernel
theorem dX9_copy_16 : decode cX9_copy 16 = .ok (.sipush 400, 3) := by decide +kernel
theorem dX9_copy_19 : decode cX9_copy 19 = .ok (.iload_n 2, 1) := by decide +kernel
theorem dX9_copy_20 : decode cX9_copy 20 = .ok (.imul, 1) := by decide +kernel
theorem dX9_copy_21 : decode cX9_copy 21 = .ok (.iload_n 3, 1) := by decide +kernel
theorem dX9_copy_22 : decode cX9_copy 22 = .ok (.iadd, 1) := by decide +kernel
theorem dX9_copy_23 : decode cX9_copy 23 = .ok (.aload_n 0, 1) := by decide +kernel
theorem dX9_copy_24 : decode cX9_copy 24 = .ok (.getfield 41, 3) := by decide +kernel
theorem dX9_copy_27 : decode cX9_copy 27 = .ok (.sipush 400, 3) := by decide +kernel
theorem dX9_copy_30 : decode cX9_copy 30 = .ok (.iload_n 1, 1) := by decide +kernel
theorem dX9_copy_31 : decode cX9_copy 31 = .ok (.imul, 1) := by decide +kernel
theorem dX9_copy_32 : decode cX9_copy 32 = .ok (.iload_n 3, 1) := by decide +kernel
theorem dX9_copy_33 : decode cX9_copy 33 = .ok (.iadd, 1) := by decide +kernel
theorem dX9_copy_34 : decode cX9_copy 34 = .ok (.iaload, 1) := by decide +kernel
theorem dX9_copy_35 : decode cX9_copy 35 = .ok (.iastore, 1) := by decide +kernel
theorem dX9_copy_36 : decode cX9_copy 36 = .ok (.iinc 3 1, 3) := by decide +kernel
theorem dX9_copy_39 : decode cX9_copy 39 = .ok (.goto (-37), 3) := by decide +kernel
theorem dX9_copy_42 : decode cX9_copy 42 = .ok (.aload_n 0, 1) := by decide +kernel
theorem dX9_copy_43 : decode cX9_copy 43 = .ok (.getfield 44, 3) := by decide +kernel
theorem dX9_copy_46 : decode cX9_copy 46 = .ok (.iload_n 2, 1) := by decide +kernel
theorem dX9_copy_47 : decode cX9_copy 47 = .ok (.aload_n 0, 1) := by decide +kernel
theorem dX9_copy_48 : decode cX9_copy 48 = .ok (.getfield 44, 3) := by decide +kernel
theorem dX9_copy_51 : decode cX9_copy 51 = .ok (.iload_n 1, 1) := by decide +kernel
theorem dX9_copy_52 : decode cX9_copy 52 = .ok (.iaload, 1) := by decide +kernel
theorem dX9_copy_53 : decode cX9_copy 53 = .ok (.iastore, 1) := by decide +kernel
theorem dX9_copy_54 : decode cX9_copy 54 = .ok (.aload_n 0, 1) := by decide +kernel
theorem dX9_copy_55 : decode cX9_copy 55 = .ok (.getfield 47, 3) := by decide +kernel
theorem dX9_copy_58 : decode cX9_copy 58 = .ok (.iload_n 2, 1) := by decide +kernel
theorem dX9_copy_59 : decode cX9_copy 59 = .ok (.aload_n 0, 1) := by decide +kernel
theorem dX9_copy_60 : decode cX9_copy 60 = .ok (.getfield 47, 3) := by decide +kernel
theorem dX9_copy_63 : decode cX9_copy 63 = .ok (.iload_n 1, 1) := by decide +kernel
theorem dX9_copy_64 : decode cX9_copy 64 = .ok (.iaload, 1) := by decide +kernel
theorem dX9_copy_65 : decode cX9_copy 65 = .ok (.iastore, 1) := by decide +kernel
theorem dX9_copy_66 : decode cX9_copy 66 = .ok (.return_, 1) := by decide +kernel
theorem dX9_trim_0 : decode cX9_trim 0 = .ok (.iload_n 2, 1) := by decide +kernel
theorem dX9_trim_1 : decode cX9_trim 1 = .ok (.istore_n 3, 1) := by decide +kernel
theorem dX9_trim_2 : decode cX9_trim 2 = .ok (.iload_n 3, 1) := by decide +kernel
theorem dX9_trim_3 : decode cX9_trim 3 = .ok (.ifCond .le 26, 3) := by decide +kernel
theorem dX9_trim_6 : decode cX9_trim 6 = .ok (.aload_n 0, 1) := by decide +kernel
theorem dX9_trim_7 : decode cX9_trim 7 = .ok (.getfield 41, 3) := by decide +kernel
theorem dX9_trim_10 : decode cX9_trim 10 = .ok (.sipush 400, 3) := by decide +kernel
theorem dX9_trim_13 : decode cX9_trim 13 = .ok (.iload_n 1, 1) := by decide +kernel
theorem dX9_trim_14 : decode cX9_trim 14 = .ok (.imul, 1) := by decide +kernel
theorem dX9_trim_15 : decode cX9_trim 15 = .ok (.iload_n 3, 1) := by decide +kernel
theorem dX9_trim_16 : decode cX9_trim 16 = .ok (.iadd, 1) := by decide +kernel
theorem dX9_trim_17 : decode cX9_trim 17 = .ok (.iconst 1, 1) := by decide +kernel
theorem dX9_trim_18 : decode cX9_trim 18 = .ok (.isub, 1) := by decide +kernel
theorem dX9_trim_19 : decode cX9_trim 19 = .ok (.iaload, 1) := by decide +kernel
theorem dX9_trim_20 : decode cX9_trim 20 = .ok (.ifCond .ne 9, 3) := by decide +kernel
theorem dX9_trim_23 : decode cX9_trim 23 = .ok (.iinc 3 (-1), 3) := by decide +kernel
theorem dX9_trim_26 : decode cX9_trim 26 = .ok (.goto (-24), 3) := by decide +kernel
theorem dX9_trim_29 : decode cX9_trim 29 = .ok (.aload_n 0, 1) := by decide +kernel
theorem dX9_trim_30 : decode cX9_trim 30 = .ok (.getfield 44, 3) := by decide +kernel
theorem dX9_trim_33 : decode cX9_trim 33 = .ok (.iload_n 1, 1) := by decide +kernel
theorem dX9_trim_34 : decode cX9_trim 34 = .ok (.iload_n 3, 1) := by decide +kernel
theorem dX9_trim_35 : decode cX9_trim 35 = .ok (.iastore, 1) := by decide +kernel
theorem dX9_trim_36 : decode cX9_trim 36 = .ok (.aload_n 0, 1) := by decide +kernel
theorem dX9_trim_37 : decode cX9_trim 37 = .ok (.getfield 47, 3) := by decide +kernel
theorem dX9_trim_40 : decode cX9_trim 40 = .ok (.iload_n 1, 1) := by decide +kernel
theorem dX9_trim_41 : decode cX9_trim 41 = .ok (.iload_n 3, 1) := by decide +kernel
theorem dX9_trim_42 : decode cX9_trim 42 = .ok (.ifCond .ne 7, 3) := by decide +kernel
theorem dX9_trim_45 : decode cX9_trim 45 = .ok (.iconst 0, 1) := by decide +kernel
theorem dX9_trim_46 : decode cX9_trim 46 = .ok (.goto 9, 3) := by decide +kernel
theorem dX9_trim_49 : decode cX9_trim 49 = .ok (.aload_n 0, 1) := by decide +kernel
theorem dX9_trim_50 : decode cX9_trim 50 = .ok (.getfield 47, 3) := by decide +kernel
theorem dX9_trim_53 : decode cX9_trim 53 = .ok (.iload_n 1, 1) := by decide +kernel
theorem dX9_trim_54 : decode cX9_trim 54 = .ok (.iaload, 1) := by decide +kernel
theorem dX9_trim_55 : decode cX9_trim 55 = .ok (.iastore, 1) := by decide +kernel
theorem dX9_trim_56 : decode cX9_trim 56 = .ok (.return_, 1) := by decide +kernel
theorem dX9_compare_0 : decode cX9_compare 0 = .ok (.aload_n 0, 1) := by decide +kernel
theorem dX9_compare_1 : decode cX9_compare 1 = .ok (.getfield 44, 3) := by decide +kernel
theorem dX9_compare_4 : decode cX9_compare 4 = .ok (.iload_n 1, 1) := by decide +kernel
theorem dX9_compare_5 : decode cX9_compare 5 = .ok (.iaload, 1) := by decide +kernel
theorem dX9_compare_6 : decode cX9_compare 6 = .ok (.aload_n 0, 1) := by decide +kernel
theorem dX9_compare_7 : decode cX9_compare 7 = .ok (.getfield 44, 3) := by decide +kernel
theorem dX9_compare_10 : decode cX9_compare 10 = .ok (.iload_n 2, 1) := by decide +kernel
theorem dX9_compare_11 : decode cX9_compare 11 = .ok (.iaload, 1) := by decide +kernel
theorem dX9_compare_12 : decode cX9_compare 12 = .ok (.if_icmp .eq 17, 3) := by decide +kernel
theorem dX9_compare_15 : decode cX9_compare 15 = .ok (.aload_n 0, 1) := by decide +kernel
theorem dX9_compare_16 : decode cX9_compare 16 = .ok (.getfield 44, 3) := by decide +kernel
theorem dX9_compare_19 : decode cX9_compare 19 = .ok (.iload_n 1, 1) := by decide +kernel
theorem dX9_compare_20 : decode cX9_compare 20 = .ok (.iaload, 1) := by decide +kernel
theorem dX9_compare_21 : decode cX9_compare 21 = .ok (.aload_n 0, 1) := by decide +kernel
theorem dX9_compare_22 : decode cX9_compare 22 = .ok (.getfield 44, 3) := by decide +kernel
theorem dX9_compare_25 : decode cX9_compare 25 = .ok (.iload_n 2, 1) := by decide +kernel
theorem dX9_compare_26 : decode cX9_compare 26 = .ok (.iaload, 1) := by decide +kernel
theorem dX9_compare_27 : decode cX9_compare 27 = .ok (.isub, 1) := by decide +kernel
theorem dX9_compare_28 : decode cX9_compare 28 = .ok (.ireturn, 1) := by decide +kernel
theorem dX9_compare_29 : decode cX9_compare 29 = .ok (.aload_n 0, 1) := by decide +kernel
theorem dX9_compare_30 : decode cX9_compare 30 = .ok (.getfield 44, 3) := by decide +kernel
theorem dX9_compare_33 : decode cX9_compare 33 = .ok (.iload_n 1, 1) := by decide +kernel
theorem dX9_compare_34 : decode cX9_compare 34 = .ok (.iaload, 1) := by decide +kernel
theorem dX9_compare_35 : decode cX9_compare 35 = .ok (.iconst 1, 1) := by decide +kernel
theorem dX9_compare_36 : decode cX9_compare 36 = .ok (.isub, 1) := by decide +kernel
theorem dX9_compare_37 : decode cX9_compare 37 = .ok (.istore_n 3, 1) := by decide +kernel
theorem dX9_compare_38 : decode cX9_compare 38 = .ok (.iload_n 3, 1) := by decide +kernel
theorem dX9_compare_39 : decode cX9_compare 39 = .ok (.ifCond .lt 44, 3) := by decide +kernel
theorem dX9_compare_42 : decode cX9_compare 42 = .ok (.aload_n 0, 1) := by decide +kernel
theorem dX9_compare_43 : decode cX9_compare 43 = .ok (.getfield 41, 3) := by decide +kernel
theorem dX9_compare_46 : decode cX9_compare 46 = .ok (.sipush 400, 3) := by decide +kernel
theorem dX9_compare_49 : decode cX9_compare 49 = .ok (.iload_n 1, 1) := by decide +kernel
theorem dX9_compare_50 : decode cX9_compare 50 = .ok (.imul, 1) := by decide +kernel
theorem dX9_compare_51 : decode cX9_compare 51 = .ok (.iload_n 3, 1) := by decide +kernel
theorem dX9_compare_52 : decode cX9_compare 52 = .ok (.iadd, 1) := by decide +kernel
theorem dX9_compare_53 : decode cX9_compare 53 = .ok (.iaload, 1) := by decide +kernel
theorem dX9_compare_54 : decode cX9_compare 54 = .ok (.aload_n 0, 1) := by decide +kernel
theorem dX9_compare_55 : decode cX9_compare 55 = .ok (.getfield 41, 3) := by decide +kernel
theorem dX9_compare_58 : decode cX9_compare 58 = .ok (.sipush 400, 3) := by decide +kernel
theorem dX9_compare_61 : decode cX9_compare 61 = .ok (.iload_n 2, 1) := by decide +kernel
theorem dX9_compare_62 : decode cX9_compare 62 = .ok (.imul, 1) := by decide +kernel
theorem dX9_compare_63 : decode cX9_compare 63 = .ok (.iload_n 3, 1) := by decide +kernel
theorem dX9_compare_64 : decode cX9_compare 64 = .ok (.iadd, 1) := by decide +kernel
theorem dX9_compare_65 : decode cX9_compare 65 = .ok (.iaload, 1) := by decide +kernel
theorem dX9_compare_66 : decode cX9_compare 66 = .ok (.isub, 1) := by decide +kernel
theorem dX9_compare_67 : decode cX9_compare 67 = .ok (.istore 4, 2) := by decide +kernel
theorem dX9_compare_69 : decode cX9_compare 69 = .ok (.iload 4, 2) := by decide +kernel
theorem dX9_compare_71 : decode cX9_compare 71 = .ok (.ifCond .eq 6, 3) := by decide +kernel
theorem dX9_compare_74 : decode cX9_compare 74 = .ok (.iload 4, 2) := by decide +kernel
theorem dX9_compare_76 : decode cX9_compare 76 = .ok (.ireturn, 1) := by decide +kernel
theorem dX9_compare_77 : decode cX9_compare 77 = .ok (.iinc 3 (-1), 3) := by decide +kernel
theorem dX9_compare_80 : decode cX9_compare 80 = .ok (.goto (-42), 3) := by decide +kernel
theorem dX9_compare_83 : decode cX9_compare 83 = .ok (.iconst 0, 1) := by decide +kernel
theorem dX9_compare_84 : decode cX9_compare 84 = .ok (.ireturn, 1) := by decide +kernel
theorem dX9_together_0 : decode cX9_together 0 = .ok (.aload_n 0, 1) := by decide +kernel
theorem dX9_together_1 : decode cX9_together 1 = .ok (.getfield 44, 3) := by decide +kernel
theorem dX9_together_4 : decode cX9_together 4 = .ok (.iload_n 1, 1) := by decide +kernel
theorem dX9_together_5 : decode cX9_together 5 = .ok (.iaload, 1) := by decide +kernel
theorem dX9_together_6 : decode cX9_together 6 = .ok (.aload_n 0, 1) := by decide +kernel
theorem dX9_together_7 : decode cX9_together 7 = .ok (.getfield 44, 3) := by decide +kernel
theorem dX9_together_10 : decode cX9_together 10 = .ok (.iload_n 2, 1) := by decide +kernel
theorem dX9_together_11 : decode cX9_together 11 = .ok (.iaload, 1) := by decide +kernel
theorem dX9_together_12 : decode cX9_together 12 = .ok (.if_icmp .le 12, 3) := by decide +kernel
theorem dX9_together_15 : decode cX9_together 15 = .ok (.aload_n 0, 1) := by decide +kernel
theorem dX9_together_16 : decode cX9_together 16 = .ok (.getfield 44, 3) := by decide +kernel
theorem dX9_together_19 : decode cX9_together 19 = .ok (.iload_n 1, 1) := by decide +kernel
theorem dX9_together_20 : decode cX9_together 20 = .ok (.iaload, 1) := by decide +kernel
theorem dX9_together_21 : decode cX9_together 21 = .ok (.goto 9, 3) := by decide +kernel
theorem dX9_together_24 : decode cX9_together 24 = .ok (.aload_n 0, 1) := by decide +kernel
theorem dX9_together_25 : decode cX9_together 25 = .ok (.getfield 44, 3) := by decide +kernel
theorem dX9_together_28 : decode cX9_together 28 = .ok (.iload_n 2, 1) := by decide +kernel
theorem dX9_together_29 : decode cX9_together 29 = .ok (.iaload, 1) := by decide +kernel
theorem dX9_together_30 : decode cX9_together 30 = .ok (.iconst 1, 1) := by decide +kernel
theorem dX9_together_31 : decode cX9_together 31 = .ok (.iadd, 1) := by decide +kernel
theorem dX9_together_32 : decode cX9_together 32 = .ok (.istore 4, 2) := by decide +kernel
theorem dX9_together_34 : decode cX9_together 34 = .ok (.iconst 0, 1) := by decide +kernel
theorem dX9_together_35 : decode cX9_together 35 = .ok (.istore 5, 2) := by decide +kernel
theorem dX9_together_37 : decode cX9_together 37 = .ok (.iconst 0, 1) := by decide +kernel
theorem dX9_together_38 : decode cX9_together 38 = .ok (.istore 6, 2) := by decide +kernel
theorem dX9_together_40 : decode cX9_together 40 = .ok (.iload 6, 2) := by decide +kernel
theorem dX9_together_42 : decode cX9_together 42 = .ok (.iload 4, 2) := by decide +kernel
theorem dX9_together_44 : decode cX9_together 44 = .ok (.if_icmp .ge 106, 3) := by decide +kernel
theorem dX9_together_47 : decode cX9_together 47 = .ok (.iload 5, 2) := by decide +kernel
theorem dX9_together_49 : decode cX9_together 49 = .ok (.iload 6, 2) := by decide +kernel
theorem dX9_together_51 : decode cX9_together 51 = .ok (.aload_n 0, 1) := by decide +kernel
theorem dX9_together_52 : decode cX9_together 52 = .ok (.getfield 44, 3) := by decide +kernel
theorem dX9_together_55 : decode cX9_together 55 = .ok (.iload_n 1, 1) := by decide +kernel
theorem dX9_together_56 : decode cX9_together 56 = .ok (.iaload, 1) := by decide +kernel
theorem dX9_together_57 : decode cX9_together 57 = .ok (.if_icmp .ge 19, 3) := by decide +kernel
theorem dX9_together_60 : decode cX9_together 60 = .ok (.aload_n 0, 1) := by decide +kernel
theorem dX9_together_61 : decode cX9_together 61 = .ok (.getfield 41, 3) := by decide +kernel
theorem dX9_together_64 : decode cX9_together 64 = .ok (.sipush 400, 3) := by decide +kernel
theorem dX9_together_67 : decode cX9_together 67 = .ok (.iload_n 1, 1) := by decide +kernel
theorem dX9_together_68 : decode cX9_together 68 = .ok (.imul, 1) := by decide +kernel
theorem dX9_together_69 : decode cX9_together 69 = .ok (.iload 6, 2) := by decide +kernel
theorem dX9_together_71 : decode cX9_together 71 = .ok (.iadd, 1) := by decide +kernel
theorem dX9_together_72 : decode cX9_together 72 = .ok (.iaload, 1) := by decide +kernel
theorem dX9_together_73 : decode cX9_together 73 = .ok (.goto 4, 3) := by decide +kernel
theorem dX9_together_76 : decode cX9_together 76 = .ok (.iconst 0, 1) := by decide +kernel
theorem dX9_together_77 : decode cX9_together 77 = .ok (.iadd, 1) := by decide +kernel
theorem dX9_together_78 : decode cX9_together 78 = .ok (.iload 6, 2) := by decide +kernel
theorem dX9_together_80 : decode cX9_together 80 = .ok (.aload_n 0, 1) := by decide +kernel
theorem dX9_together_81 : decode cX9_together 81 = .ok (.getfield 44, 3) := by decide +kernel
theorem dX9_together_84 : decode cX9_together 84 = .ok (.iload_n 2, 1) := by decide +kernel
theorem dX9_together_85 : decode cX9_together 85 = .ok (.iaload, 1) := by decide +kernel
theorem dX9_together_86 : decode cX9_together 86 = .ok (.if_icmp .ge 19, 3) := by decide +kernel
theorem dX9_together_89 : decode cX9_together 89 = .ok (.aload_n 0, 1) := by decide +kernel
theorem dX9_together_90 : decode cX9_together 90 = .ok (.getfield 41, 3) := by decide +kernel
theorem dX9_together_93 : decode cX9_together 93 = .ok (.sipush 400, 3) := by decide +kernel
theorem dX9_together_96 : decode cX9_together 96 = .ok (.iload_n 2, 1) := by decide +kernel
theorem dX9_together_97 : decode cX9_together 97 = .ok (.imul, 1) := by decide +kernel
theorem dX9_together_98 : decode cX9_together 98 = .ok (.iload 6, 2) := by decide +kernel
theorem dX9_together_100 : decode cX9_together 100 = .ok (.iadd, 1) := by decide +kernel
theorem dX9_together_101 : decode cX9_together 101 = .ok (.iaload, 1) := by decide +kernel
theorem dX9_together_102 : decode cX9_together 102 = .ok (.goto 4, 3) := by decide +kernel
theorem dX9_together_105 : decode cX9_together 105 = .ok (.iconst 0, 1) := by decide +kernel
theorem dX9_together_106 : decode cX9_together 106 = .ok (.iadd, 1) := by decide +kernel
theorem dX9_together_107 : decode cX9_together 107 = .ok (.istore 7, 2) := by decide +kernel
theorem dX9_together_109 : decode cX9_together 109 = .ok (.iload 7, 2) := by decide +kernel
theorem dX9_together_111 : decode cX9_together 111 = .ok (.ldc 102, 2) := by decide +kernel
theorem dX9_together_113 : decode cX9_together 113 = .ok (.if_icmp .lt 7, 3) := by decide +kernel
theorem dX9_together_116 : decode cX9_together 116 = .ok (.iconst 1, 1) := by decide +kernel
theorem dX9_together_117 : decode cX9_together 117 = .ok (.goto 4, 3) := by decide +kernel
theorem dX9_together_120 : decode cX9_together 120 = .ok (.iconst 0, 1) := by decide +kernel
theorem dX9_together_121 : decode cX9_together 121 = .ok (.istore 5, 2) := by decide +kernel
theorem dX9_together_123 : decode cX9_together 123 = .ok (.aload_n 0, 1) := by decide +kernel
theorem dX9_together_124 : decode cX9_together 124 = .ok (.getfield 41, 3) := by decide +kernel
theorem dX9_together_127 : decode cX9_together 127 = .ok (.sipush 400, 3) := by decide +kernel
theorem dX9_together_130 : decode cX9_together 130 = .ok (.iload_n 3, 1) := by decide +kernel
theorem dX9_together_131 : decode cX9_together 131 = .ok (.imul, 1) := by decide +kernel
theorem dX9_together_132 : decode cX9_together 132 = .ok (.iload 6, 2) := by decide +kernel
theorem dX9_together_134 : decode cX9_together 134 = .ok (.iadd, 1) := by decide +kernel
theorem dX9_together_135 : decode cX9_together 135 = .ok (.iload 7, 2) := by decide +kernel
theorem dX9_together_137 : decode cX9_together 137 = .ok (.iload 5, 2) := by decide +kernel
theorem dX9_together_139 : decode cX9_together 139 = .ok (.ldc 102, 2) := by decide +kernel
theorem dX9_together_141 : decode cX9_together 141 = .ok (.imul, 1) := by decide +kernel
theorem dX9_together_142 : decode cX9_together 142 = .ok (.isub, 1) := by decide +kernel
theorem dX9_together_143 : decode cX9_together 143 = .ok (.iastore, 1) := by decide +kernel
theorem dX9_together_144 : decode cX9_together 144 = .ok (.iinc 6 1, 3) := by decide +kernel
theorem dX9_together_147 : decode cX9_together 147 = .ok (.goto (-107), 3) := by decide +kernel
theorem dX9_together_150 : decode cX9_together 150 = .ok (.aload_n 0, 1) := by decide +kernel
theorem dX9_together_151 : decode cX9_together 151 = .ok (.iload_n 3, 1) := by decide +kernel
theorem dX9_together_152 : decode cX9_together 152 = .ok (.iload 4, 2) := by decide +kernel
theorem dX9_together_154 : decode cX9_together 154 = .ok (.invokevirtual 103, 3) := by decide +kernel
theorem dX9_together_157 : decode cX9_together 157 = .ok (.return_, 1) := by decide +kernel
theorem dX9_apart_0 : decode cX9_apart 0 = .ok (.aload_n 0, 1) := by decide +kernel
theorem dX9_apart_1 : decode cX9_apart 1 = .ok (.getfield 44, 3) := by decide +kernel
theorem dX9_apart_4 : decode cX9_apart 4 = .ok (.iload_n 1, 1) := by decide +kernel
theorem dX9_apart_5 : decode cX9_apart 5 = .ok (.iaload, 1) := by decide +kernel
theorem dX9_apart_6 : decode cX9_apart 6 = .ok (.istore 4, 2) := by decide +kernel
theorem dX9_apart_8 : decode cX9_apart 8 = .ok (.iconst 0, 1) := by decide +kernel
theorem dX9_apart_9 : decode cX9_apart 9 = .ok (.istore 5, 2) := by decide +kernel
theorem dX9_apart_11 : decode cX9_apart 11 = .ok (.iconst 0, 1) := by decide +kernel
theorem dX9_apart_12 : decode cX9_apart 12 = .ok (.istore 6, 2) := by decide +kernel
theorem dX9_apart_14 : decode cX9_apart 14 = .ok (.iload 6, 2) := by decide +kernel
theorem dX9_apart_16 : decode cX9_apart 16 = .ok (.iload 4, 2) := by decide +kernel
theorem dX9_apart_18 : decode cX9_apart 18 = .ok (.if_icmp .ge 89, 3) := by decide +kernel
theorem dX9_apart_21 : decode cX9_apart 21 = .ok (.aload_n 0, 1) := by decide +kernel
theorem dX9_apart_22 : decode cX9_apart 22 = .ok (.getfield 41, 3) := by decide +kernel
theorem dX9_apart_25 : decode cX9_apart 25 = .ok (.sipush 400, 3) := by decide +kernel
theorem dX9_apart_28 : decode cX9_apart 28 = .ok (.iload_n 1, 1) := by decide +kernel
theorem dX9_apart_29 : decode cX9_apart 29 = .ok (.imul, 1) := by decide +kernel
theorem dX9_apart_30 : decode cX9_apart 30 = .ok (.iload 6, 2) := by decide +kernel
theorem dX9_apart_32 : decode cX9_apart 32 = .ok (.iadd, 1) := by decide +kernel
theorem dX9_apart_33 : decode cX9_apart 33 = .ok (.iaload, 1) := by decide +kernel
theorem dX9_apart_34 : decode cX9_apart 34 = .ok (.iload 5, 2) := by decide +kernel
theorem dX9_apart_36 : decode cX9_apart 36 = .ok (.isub, 1) := by decide +kernel
theorem dX9_apart_37 : decode cX9_apart 37 = .ok (.iload 6, 2) := by decide +kernel
theorem dX9_apart_39 : decode cX9_apart 39 = .ok (.aload_n 0, 1) := by decide +kernel
theorem dX9_apart_40 : decode cX9_apart 40 = .ok (.getfield 44, 3) := by decide +kernel
theorem dX9_apart_43 : decode cX9_apart 43 = .ok (.iload_n 2, 1) := by decide +kernel
theorem dX9_apart_44 : decode cX9_apart 44 = .ok (.iaload, 1) := by decide +kernel
theorem dX9_apart_45 : decode cX9_apart 45 = .ok (.if_icmp .ge 19, 3) := by decide +kernel
theorem dX9_apart_48 : decode cX9_apart 48 = .ok (.aload_n 0, 1) := by decide +kernel
theorem dX9_apart_49 : decode cX9_apart 49 = .ok (.getfield 41, 3) := by decide +kernel
theorem dX9_apart_52 : decode cX9_apart 52 = .ok (.sipush 400, 3) := by decide +kernel
theorem dX9_apart_55 : decode cX9_apart 55 = .ok (.iload_n 2, 1) := by decide +kernel
theorem dX9_apart_56 : decode cX9_apart 56 = .ok (.imul, 1) := by decide +kernel
theorem dX9_apart_57 : decode cX9_apart 57 = .ok (.iload 6, 2) := by decide +kernel
theorem dX9_apart_59 : decode cX9_apart 59 = .ok (.iadd, 1) := by decide +kernel
theorem dX9_apart_60 : decode cX9_apart 60 = .ok (.iaload, 1) := by decide +kernel
theorem dX9_apart_61 : decode cX9_apart 61 = .ok (.goto 4, 3) := by decide +kernel
theorem dX9_apart_64 : decode cX9_apart 64 = .ok (.iconst 0, 1) := by decide +kernel
theorem dX9_apart_65 : decode cX9_apart 65 = .ok (.isub, 1) := by decide +kernel
theorem dX9_apart_66 : decode cX9_apart 66 = .ok (.istore 7, 2) := by decide +kernel
theorem dX9_apart_68 : decode cX9_apart 68 = .ok (.iload 7, 2) := by decide +kernel
theorem dX9_apart_70 : decode cX9_apart 70 = .ok (.ifCond .ge 7, 3) := by decide +kernel
theorem dX9_apart_73 : decode cX9_apart 73 = .ok (.iconst 1, 1) := by decide +kernel
theorem dX9_apart_74 : decode cX9_apart 74 = .ok (.goto 4, 3) := by decide +kernel
theorem dX9_apart_77 : decode cX9_apart 77 = .ok (.iconst 0, 1) := by decide +kernel
theorem dX9_apart_78 : decode cX9_apart 78 = .ok (.istore 5, 2) := by decide +kernel
theorem dX9_apart_80 : decode cX9_apart 80 = .ok (.aload_n 0, 1) := by decide +kernel
theorem dX9_apart_81 : decode cX9_apart 81 = .ok (.getfield 41, 3) := by decide +kernel
theorem dX9_apart_84 : decode cX9_apart 84 = .ok (.sipush 400, 3) := by decide +kernel
theorem dX9_apart_87 : decode cX9_apart 87 = .ok (.iload_n 3, 1) := by decide +kernel
theorem dX9_apart_88 : decode cX9_apart 88 = .ok (.imul, 1) := by decide +kernel
theorem dX9_apart_89 : decode cX9_apart 89 = .ok (.iload 6, 2) := by decide +kernel
theorem dX9_apart_91 : decode cX9_apart 91 = .ok (.iadd, 1) := by decide +kernel
theorem dX9_apart_92 : decode cX9_apart 92 = .ok (.iload 7, 2) := by decide +kernel
theorem dX9_apart_94 : decode cX9_apart 94 = .ok (.iload 5, 2) := by decide +kernel
theorem dX9_apart_96 : decode cX9_apart 96 = .ok (.ldc 102, 2) := by decide +kernel
theorem dX9_apart_98 : decode cX9_apart 98 = .ok (.imul, 1) := by decide +kernel
theorem dX9_apart_99 : decode cX9_apart 99 = .ok (.iadd, 1) := by decide +kernel
theorem dX9_apart_100 : decode cX9_apart 100 = .ok (.iastore, 1) := by decide +kernel
theorem dX9_apart_101 : decode cX9_apart 101 = .ok (.iinc 6 1, 3) := by decide +kernel
theorem dX9_apart_104 : decode cX9_apart 104 = .ok (.goto (-90), 3) := by decide +kernel
theorem dX9_apart_107 : decode cX9_apart 107 = .ok (.aload_n 0, 1) := by decide +kernel
theorem dX9_apart_108 : decode cX9_apart 108 = .ok (.iload_n 3, 1) := by decide +kernel
theorem dX9_apart_109 : decode cX9_apart 109 = .ok (.iload 4, 2) := by decide +kernel
theorem dX9_apart_111 : decode cX9_apart 111 = .ok (.invokevirtual 103, 3) := by decide +kernel
theorem dX9_apart_114 : decode cX9_apart 114 = .ok (.return_, 1) := by decide +kernel
theorem dX9_add_0 : decode cX9_add 0 = .ok (.aload_n 0, 1) := by decide +kernel
theorem dX9_add_1 : decode cX9_add 1 = .ok (.getfield 47, 3) := by decide +kernel
theorem dX9_add_4 : decode cX9_add 4 = .ok (.iload_n 1, 1) := by decide +kernel
theorem dX9_add_5 : decode cX9_add 5 = .ok (.iaload, 1) := by decide +kernel
theorem dX9_add_6 : decode cX9_add 6 = .ok (.istore 5, 2) := by decide +kernel
theorem dX9_add_8 : decode cX9_add 8 = .ok (.aload_n 0, 1) := by decide +kernel
theorem dX9_add_9 : decode cX9_add 9 = .ok (.getfield 47, 3) := by decide +kernel
theorem dX9_add_12 : decode cX9_add 12 = .ok (.iload_n 2, 1) := by decide +kernel
theorem dX9_add_13 : decode cX9_add 13 = .ok (.iaload, 1) := by decide +kernel
theorem dX9_add_14 : decode cX9_add 14 = .ok (.iload_n 3, 1) := by decide +kernel
theorem dX9_add_15 : decode cX9_add 15 = .ok (.imul, 1) := by decide +kernel
theorem dX9_add_16 : decode cX9_add 16 = .ok (.istore 6, 2) := by decide +kernel
theorem dX9_add_18 : decode cX9_add 18 = .ok (.iload 5, 2) := by decide +kernel
theorem dX9_add_20 : decode cX9_add 20 = .ok (.ifCond .eq 8, 3) := by decide +kernel
theorem dX9_add_23 : decode cX9_add 23 = .ok (.iload 6, 2) := by decide +kernel
theorem dX9_add_25 : decode cX9_add 25 = .ok (.ifCond .ne 39, 3) := by decide +kernel
theorem dX9_add_28 : decode cX9_add 28 = .ok (.aload_n 0, 1) := by decide +kernel
theorem dX9_add_29 : decode cX9_add 29 = .ok (.iload 5, 2) := by decide +kernel
theorem dX9_add_31 : decode cX9_add 31 = .ok (.ifCond .ne 7, 3) := by decide +kernel
theorem dX9_add_34 : decode cX9_add 34 = .ok (.iload_n 2, 1) := by decide +kernel
theorem dX9_add_35 : decode cX9_add 35 = .ok (.goto 4, 3) := by decide +kernel
theorem dX9_add_38 : decode cX9_add 38 = .ok (.iload_n 1, 1) := by decide +kernel
theorem dX9_add_39 : decode cX9_add 39 = .ok (.iload 4, 2) := by decide +kernel
theorem dX9_add_41 : decode cX9_add 41 = .ok (.invokevirtual 107, 3) := by decide +kernel
theorem dX9_add_44 : decode cX9_add 44 = .ok (.aload_n 0, 1) := by decide +kernel
theorem dX9_add_45 : decode cX9_add 45 = .ok (.getfield 47, 3) := by decide +kernel
theorem dX9_add_48 : decode cX9_add 48 = .ok (.iload 4, 2) := by decide +kernel
theorem dX9_add_50 : decode cX9_add 50 = .ok (.iload 5, 2) := by decide +kernel
theorem dX9_add_52 : decode cX9_add 52 = .ok (.ifCond .ne 8, 3) := by decide +kernel
theorem dX9_add_55 : decode cX9_add 55 = .ok (.iload 6, 2) := by decide +kernel
theorem dX9_add_57 : decode cX9_add 57 = .ok (.goto 5, 3) := by decide +kernel
theorem dX9_add_60 : decode cX9_add 60 = .ok (.iload 5, 2) := by decide +kernel
theorem dX9_add_62 : decode cX9_add 62 = .ok (.iastore, 1) := by decide +kernel
theorem dX9_add_63 : decode cX9_add 63 = .ok (.return_, 1) := by decide +kernel
theorem dX9_add_64 : decode cX9_add 64 = .ok (.iload 5, 2) := by decide +kernel
theorem dX9_add_66 : decode cX9_add 66 = .ok (.iload 6, 2) := by decide +kernel
theorem dX9_add_68 : decode cX9_add 68 = .ok (.if_icmp .ne 21, 3) := by decide +kernel
theorem dX9_add_71 : decode cX9_add 71 = .ok (.aload_n 0, 1) := by decide +kernel
theorem dX9_add_72 : decode cX9_add 72 = .ok (.getfield 47, 3) := by decide +kernel
theorem dX9_add_75 : decode cX9_add 75 = .ok (.iload 4, 2) := by decide +kernel
theorem dX9_add_77 : decode cX9_add 77 = .ok (.iload 5, 2) := by decide +kernel
theorem dX9_add_79 : decode cX9_add 79 = .ok (.iastore, 1) := by decide +kernel
theorem dX9_add_80 : decode cX9_add 80 = .ok (.aload_n 0, 1) := by decide +kernel
theorem dX9_add_81 : decode cX9_add 81 = .ok (.iload_n 1, 1) := by decide +kernel
theorem dX9_add_82 : decode cX9_add 82 = .ok (.iload_n 2, 1) := by decide +kernel
theorem dX9_add_83 : decode cX9_add 83 = .ok (.iload 4, 2) := by decide +kernel
theorem dX9_add_85 : decode cX9_add 85 = .ok (.invokevirtual 110, 3) := by decide +kernel
theorem dX9_add_88 : decode cX9_add 88 = .ok (.return_, 1) := by decide +kernel
theorem dX9_add_89 : decode cX9_add 89 = .ok (.aload_n 0, 1) := by decide +kernel
theorem dX9_add_90 : decode cX9_add 90 = .ok (.iload_n 1, 1) := by decide +kernel
theorem dX9_add_91 : decode cX9_add 91 = .ok (.iload_n 2, 1) := by decide +kernel
theorem dX9_add_92 : decode cX9_add 92 = .ok (.invokevirtual 114, 3) := by decide +kernel
theorem dX9_add_95 : decode cX9_add 95 = .ok (.ifCond .lt 7, 3) := by decide +kernel
theorem dX9_add_98 : decode cX9_add 98 = .ok (.iconst 1, 1) := by decide +kernel
theorem dX9_add_99 : decode cX9_add 99 = .ok (.goto 4, 3) := by decide +kernel
theorem dX9_add_102 : decode cX9_add 102 = .ok (.iconst 0, 1) := by decide +kernel
theorem dX9_add_103 : decode cX9_add 103 = .ok (.istore 7, 2) := by decide +kernel
theorem dX9_add_105 : decode cX9_add 105 = .ok (.aload_n 0, 1) := by decide +kernel
theorem dX9_add_106 : decode cX9_add 106 = .ok (.getfield 47, 3) := by decide +kernel
theorem dX9_add_109 : decode cX9_add 109 = .ok (.iload 4, 2) := by decide +kernel
theorem dX9_add_111 : decode cX9_add 111 = .ok (.iload 7, 2) := by decide +kernel
theorem dX9_add_113 : decode cX9_add 113 = .ok (.ifCond .eq 8, 3) := by decide +kernel
theorem dX9_add_116 : decode cX9_add 116 = .ok (.iload 5, 2) := by decide +kernel
theorem dX9_add_118 : decode cX9_add 118 = .ok (.goto 5, 3) := by decide +kernel
theorem dX9_add_121 : decode cX9_add 121 = .ok (.iload 6, 2) := by decide +kernel
theorem dX9_add_123 : decode cX9_add 123 = .ok (.iastore, 1) := by decide +kernel
theorem dX9_add_124 : decode cX9_add 124 = .ok (.aload_n 0, 1) := by decide +kernel
theorem dX9_add_125 : decode cX9_add 125 = .ok (.iload 7, 2) := by decide +kernel
theorem dX9_add_127 : decode cX9_add 127 = .ok (.ifCond .eq 7, 3) := by decide +kernel
theorem dX9_add_130 : decode cX9_add 130 = .ok (.iload_n 1, 1) := by decide +kernel
theorem dX9_add_131 : decode cX9_add 131 = .ok (.goto 4, 3) := by decide +kernel
theorem dX9_add_134 : decode cX9_add 134 = .ok (.iload_n 2, 1) := by decide +kernel
theorem dX9_add_135 : decode cX9_add 135 = .ok (.iload 7, 2) := by decide +kernel
theorem dX9_add_137 : decode cX9_add 137 = .ok (.ifCond .eq 7, 3) := by decide +kernel
theorem dX9_add_140 : decode cX9_add 140 = .ok (.iload_n 2, 1) := by decide +kernel
theorem dX9_add_141 : decode cX9_add 141 = .ok (.goto 4, 3) := by decide +kernel
theorem dX9_add_144 : decode cX9_add 144 = .ok (.iload_n 1, 1) := by decide +kernel
theorem dX9_add_145 : decode cX9_add 145 = .ok (.iload 4, 2) := by decide +kernel
theorem dX9_add_147 : decode cX9_add 147 = .ok (.invokevirtual 118, 3) := by decide +kernel
theorem dX9_add_150 : decode cX9_add 150 = .ok (.return_, 1) := by decide +kernel
theorem dX9_multiply_0 : decode cX9_multiply 0 = .ok (.aload_n 0, 1) := by decide +kernel
theorem dX9_multiply_1 : decode cX9_multiply 1 = .ok (.getfield 44, 3) := by decide +kernel
theorem dX9_multiply_4 : decode cX9_multiply 4 = .ok (.iload_n 1, 1) := by decide +kernel
theorem dX9_multiply_5 : decode cX9_multiply 5 = .ok (.iaload, 1) := by decide +kernel
theorem dX9_multiply_6 : decode cX9_multiply 6 = .ok (.aload_n 0, 1) := by decide +kernel
theorem dX9_multiply_7 : decode cX9_multiply 7 = .ok (.getfield 44, 3) := by decide +kernel
theorem dX9_multiply_10 : decode cX9_multiply 10 = .ok (.iload_n 2, 1) := by decide +kernel
theorem dX9_multiply_11 : decode cX9_multiply 11 = .ok (.iaload, 1) := by decide +kernel
theorem dX9_multiply_12 : decode cX9_multiply 12 = .ok (.iadd, 1) := by decide +kernel
theorem dX9_multiply_13 : decode cX9_multiply 13 = .ok (.istore 4, 2) := by decide +kernel
theorem dX9_multiply_15 : decode cX9_multiply 15 = .ok (.iconst 0, 1) := by decide +kernel
theorem dX9_multiply_16 : decode cX9_multiply 16 = .ok (.istore 5, 2) := by decide +kernel
theorem dX9_multiply_18 : decode cX9_multiply 18 = .ok (.iload 5, 2) := by decide +kernel
theorem dX9_multiply_20 : decode cX9_multiply 20 = .ok (.iload 4, 2) := by decide +kernel
theorem dX9_multiply_22 : decode cX9_multiply 22 = .ok (.if_icmp .ge 23, 3) := by decide +kernel
theorem dX9_multiply_25 : decode cX9_multiply 25 = .ok (.aload_n 0, 1) := by decide +kernel
theorem dX9_multiply_26 : decode cX9_multiply 26 = .ok (.getfield 41, 3) := by decide +kernel
theorem dX9_multiply_29 : decode cX9_multiply 29 = .ok (.sipush 400, 3) := by decide +kernel
theorem dX9_multiply_32 : decode cX9_multiply 32 = .ok (.iload_n 3, 1) := by decide +kernel
theorem dX9_multiply_33 : decode cX9_multiply 33 = .ok (.imul, 1) := by decide +kernel
theorem dX9_multiply_34 : decode cX9_multiply 34 = .ok (.iload 5, 2) := by decide +kernel
theorem dX9_multiply_36 : decode cX9_multiply 36 = .ok (.iadd, 1) := by decide +kernel
theorem dX9_multiply_37 : decode cX9_multiply 37 = .ok (.iconst 0, 1) := by decide +kernel
theorem dX9_multiply_38 : decode cX9_multiply 38 = .ok (.iastore, 1) := by decide +kernel
theorem dX9_multiply_39 : decode cX9_multiply 39 = .ok (.iinc 5 1, 3) := by decide +kernel
theorem dX9_multiply_42 : decode cX9_multiply 42 = .ok (.goto (-24), 3) := by decide +kernel
theorem dX9_multiply_45 : decode cX9_multiply 45 = .ok (.iconst 0, 1) := by decide +kernel
theorem dX9_multiply_46 : decode cX9_multiply 46 = .ok (.istore 5, 2) := by decide +kernel
theorem dX9_multiply_48 : decode cX9_multiply 48 = .ok (.iload 5, 2) := by decide +kernel
theorem dX9_multiply_50 : decode cX9_multiply 50 = .ok (.aload_n 0, 1) := by decide +kernel
theorem dX9_multiply_51 : decode cX9_multiply 51 = .ok (.getfield 44, 3) := by decide +kernel
theorem dX9_multiply_54 : decode cX9_multiply 54 = .ok (.iload_n 1, 1) := by decide +kernel
theorem dX9_multiply_55 : decode cX9_multiply 55 = .ok (.iaload, 1) := by decide +kernel
theorem dX9_multiply_56 : decode cX9_multiply 56 = .ok (.if_icmp .ge 138, 3) := by decide +kernel
theorem dX9_multiply_59 : decode cX9_multiply 59 = .ok (.lconst 0, 1) := by decide +kernel
theorem dX9_multiply_60 : decode cX9_multiply 60 = .ok (.lstore 6, 2) := by decide +kernel
theorem dX9_multiply_62 : decode cX9_multiply 62 = .ok (.iconst 0, 1) := by decide +kernel
theorem dX9_multiply_63 : decode cX9_multiply 63 = .ok (.istore 8, 2) := by decide +kernel
theorem dX9_multiply_65 : decode cX9_multiply 65 = .ok (.iload 8, 2) := by decide +kernel
theorem dX9_multiply_67 : decode cX9_multiply 67 = .ok (.aload_n 0, 1) := by decide +kernel
theorem dX9_multiply_68 : decode cX9_multiply 68 = .ok (.getfield 44, 3) := by decide +kernel
theorem dX9_multiply_71 : decode cX9_multiply 71 = .ok (.iload_n 2, 1) := by decide +kernel
theorem dX9_multiply_72 : decode cX9_multiply 72 = .ok (.iaload, 1) := by decide +kernel
theorem dX9_multiply_73 : decode cX9_multiply 73 = .ok (.if_icmp .ge 92, 3) := by decide +kernel
theorem dX9_multiply_76 : decode cX9_multiply 76 = .ok (.aload_n 0, 1) := by decide +kernel
theorem dX9_multiply_77 : decode cX9_multiply 77 = .ok (.getfield 41, 3) := by decide +kernel
theorem dX9_multiply_80 : decode cX9_multiply 80 = .ok (.sipush 400, 3) := by decide +kernel
theorem dX9_multiply_83 : decode cX9_multiply 83 = .ok (.iload_n 1, 1) := by decide +kernel
theorem dX9_multiply_84 : decode cX9_multiply 84 = .ok (.imul, 1) := by decide +kernel
theorem dX9_multiply_85 : decode cX9_multiply 85 = .ok (.iload 5, 2) := by decide +kernel
theorem dX9_multiply_87 : decode cX9_multiply 87 = .ok (.iadd, 1) := by decide +kernel
theorem dX9_multiply_88 : decode cX9_multiply 88 = .ok (.iaload, 1) := by decide +kernel
theorem dX9_multiply_89 : decode cX9_multiply 89 = .ok (.i2l, 1) := by decide +kernel
theorem dX9_multiply_90 : decode cX9_multiply 90 = .ok (.aload_n 0, 1) := by decide +kernel
