theorem dX9_multiply_91 : decode cX9_multiply 91 = .ok (.getfield 41, 3) := by decide +kernel
theorem dX9_multiply_94 : decode cX9_multiply 94 = .ok (.sipush 400, 3) := by decide +kernel
theorem dX9_multiply_97 : decode cX9_multiply 97 = .ok (.iload_n 2, 1) := by decide +kernel
theorem dX9_multiply_98 : decode cX9_multiply 98 = .ok (.imul, 1) := by decide +kernel
theorem dX9_multiply_99 : decode cX9_multiply 99 = .ok (.iload 8, 2) := by decide +kernel
theorem dX9_multiply_101 : decode cX9_multiply 101 = .ok (.iadd, 1) := by decide +kernel
theorem dX9_multiply_102 : decode cX9_multiply 102 = .ok (.iaload, 1) := by decide +kernel
theorem dX9_multiply_103 : decode cX9_multiply 103 = .ok (.i2l, 1) := by decide +kernel
theorem dX9_multiply_104 : decode cX9_multiply 104 = .ok (.lmul, 1) := by decide +kernel
theorem dX9_multiply_105 : decode cX9_multiply 105 = .ok (.aload_n 0, 1) := by decide +kernel
theorem dX9_multiply_106 : decode cX9_multiply 106 = .ok (.getfield 41, 3) := by decide +kernel
theorem dX9_multiply_109 : decode cX9_multiply 109 = .ok (.sipush 400, 3) := by decide +kernel
theorem dX9_multiply_112 : decode cX9_multiply 112 = .ok (.iload_n 3, 1) := by decide +kernel
theorem dX9_multiply_113 : decode cX9_multiply 113 = .ok (.imul, 1) := by decide +kernel
theorem dX9_multiply_114 : decode cX9_multiply 114 = .ok (.iload 5, 2) := by decide +kernel
theorem dX9_multiply_116 : decode cX9_multiply 116 = .ok (.iadd, 1) := by decide +kernel
theorem dX9_multiply_117 : decode cX9_multiply 117 = .ok (.iload 8, 2) := by decide +kernel
theorem dX9_multiply_119 : decode cX9_multiply 119 = .ok (.iadd, 1) := by decide +kernel
theorem dX9_multiply_120 : decode cX9_multiply 120 = .ok (.iaload, 1) := by decide +kernel
theorem dX9_multiply_121 : decode cX9_multiply 121 = .ok (.i2l, 1) := by decide +kernel
theorem dX9_multiply_122 : decode cX9_multiply 122 = .ok (.ladd, 1) := by decide +kernel
theorem dX9_multiply_123 : decode cX9_multiply 123 = .ok (.lload 6, 2) := by decide +kernel
theorem dX9_multiply_125 : decode cX9_multiply 125 = .ok (.ladd, 1) := by decide +kernel
theorem dX9_multiply_126 : decode cX9_multiply 126 = .ok (.lstore 9, 2) := by decide +kernel
theorem dX9_multiply_128 : decode cX9_multiply 128 = .ok (.aload_n 0, 1) := by decide +kernel
theorem dX9_multiply_129 : decode cX9_multiply 129 = .ok (.getfield 41, 3) := by decide +kernel
theorem dX9_multiply_132 : decode cX9_multiply 132 = .ok (.sipush 400, 3) := by decide +kernel
theorem dX9_multiply_135 : decode cX9_multiply 135 = .ok (.iload_n 3, 1) := by decide +kernel
theorem dX9_multiply_136 : decode cX9_multiply 136 = .ok (.imul, 1) := by decide +kernel
theorem dX9_multiply_137 : decode cX9_multiply 137 = .ok (.iload 5, 2) := by decide +kernel
theorem dX9_multiply_139 : decode cX9_multiply 139 = .ok (.iadd, 1) := by decide +kernel
theorem dX9_multiply_140 : decode cX9_multiply 140 = .ok (.iload 8, 2) := by decide +kernel
theorem dX9_multiply_142 : decode cX9_multiply 142 = .ok (.iadd, 1) := by decide +kernel
theorem dX9_multiply_143 : decode cX9_multiply 143 = .ok (.lload 9, 2) := by decide +kernel
theorem dX9_multiply_145 : decode cX9_multiply 145 = .ok (.ldc2_w 100, 3) := by decide +kernel
theorem dX9_multiply_148 : decode cX9_multiply 148 = .ok (.lrem, 1) := by decide +kernel
theorem dX9_multiply_149 : decode cX9_multiply 149 = .ok (.l2i, 1) := by decide +kernel
theorem dX9_multiply_150 : decode cX9_multiply 150 = .ok (.iastore, 1) := by decide +kernel
theorem dX9_multiply_151 : decode cX9_multiply 151 = .ok (.lload 9, 2) := by decide +kernel
theorem dX9_multiply_153 : decode cX9_multiply 153 = .ok (.ldc2_w 100, 3) := by decide +kernel
theorem dX9_multiply_156 : decode cX9_multiply 156 = .ok (.ldiv, 1) := by decide +kernel
theorem dX9_multiply_157 : decode cX9_multiply 157 = .ok (.lstore 6, 2) := by decide +kernel
theorem dX9_multiply_159 : decode cX9_multiply 159 = .ok (.iinc 8 1, 3) := by decide +kernel
theorem dX9_multiply_162 : decode cX9_multiply 162 = .ok (.goto (-97), 3) := by decide +kernel
theorem dX9_multiply_165 : decode cX9_multiply 165 = .ok (.aload_n 0, 1) := by decide +kernel
theorem dX9_multiply_166 : decode cX9_multiply 166 = .ok (.getfield 41, 3) := by decide +kernel
theorem dX9_multiply_169 : decode cX9_multiply 169 = .ok (.sipush 400, 3) := by decide +kernel
theorem dX9_multiply_172 : decode cX9_multiply 172 = .ok (.iload_n 3, 1) := by decide +kernel
theorem dX9_multiply_173 : decode cX9_multiply 173 = .ok (.imul, 1) := by decide +kernel
theorem dX9_multiply_174 : decode cX9_multiply 174 = .ok (.iload 5, 2) := by decide +kernel
theorem dX9_multiply_176 : decode cX9_multiply 176 = .ok (.iadd, 1) := by decide +kernel
theorem dX9_multiply_177 : decode cX9_multiply 177 = .ok (.aload_n 0, 1) := by decide +kernel
theorem dX9_multiply_178 : decode cX9_multiply 178 = .ok (.getfield 44, 3) := by decide +kernel
theorem dX9_multiply_181 : decode cX9_multiply 181 = .ok (.iload_n 2, 1) := by decide +kernel
theorem dX9_multiply_182 : decode cX9_multiply 182 = .ok (.iaload, 1) := by decide +kernel
theorem dX9_multiply_183 : decode cX9_multiply 183 = .ok (.iadd, 1) := by decide +kernel
theorem dX9_multiply_184 : decode cX9_multiply 184 = .ok (.lload 6, 2) := by decide +kernel
theorem dX9_multiply_186 : decode cX9_multiply 186 = .ok (.l2i, 1) := by decide +kernel
theorem dX9_multiply_187 : decode cX9_multiply 187 = .ok (.iastore, 1) := by decide +kernel
theorem dX9_multiply_188 : decode cX9_multiply 188 = .ok (.iinc 5 1, 3) := by decide +kernel
theorem dX9_multiply_191 : decode cX9_multiply 191 = .ok (.goto (-143), 3) := by decide +kernel
theorem dX9_multiply_194 : decode cX9_multiply 194 = .ok (.aload_n 0, 1) := by decide +kernel
theorem dX9_multiply_195 : decode cX9_multiply 195 = .ok (.getfield 47, 3) := by decide +kernel
theorem dX9_multiply_198 : decode cX9_multiply 198 = .ok (.iload_n 3, 1) := by decide +kernel
theorem dX9_multiply_199 : decode cX9_multiply 199 = .ok (.aload_n 0, 1) := by decide +kernel
theorem dX9_multiply_200 : decode cX9_multiply 200 = .ok (.getfield 47, 3) := by decide +kernel
theorem dX9_multiply_203 : decode cX9_multiply 203 = .ok (.iload_n 1, 1) := by decide +kernel
theorem dX9_multiply_204 : decode cX9_multiply 204 = .ok (.iaload, 1) := by decide +kernel
theorem dX9_multiply_205 : decode cX9_multiply 205 = .ok (.aload_n 0, 1) := by decide +kernel
theorem dX9_multiply_206 : decode cX9_multiply 206 = .ok (.getfield 47, 3) := by decide +kernel
theorem dX9_multiply_209 : decode cX9_multiply 209 = .ok (.iload_n 2, 1) := by decide +kernel
theorem dX9_multiply_210 : decode cX9_multiply 210 = .ok (.iaload, 1) := by decide +kernel
theorem dX9_multiply_211 : decode cX9_multiply 211 = .ok (.imul, 1) := by decide +kernel
theorem dX9_multiply_212 : decode cX9_multiply 212 = .ok (.iastore, 1) := by decide +kernel
theorem dX9_multiply_213 : decode cX9_multiply 213 = .ok (.aload_n 0, 1) := by decide +kernel
theorem dX9_multiply_214 : decode cX9_multiply 214 = .ok (.iload_n 3, 1) := by decide +kernel
theorem dX9_multiply_215 : decode cX9_multiply 215 = .ok (.iload 4, 2) := by decide +kernel
theorem dX9_multiply_217 : decode cX9_multiply 217 = .ok (.invokevirtual 103, 3) := by decide +kernel
theorem dX9_multiply_220 : decode cX9_multiply 220 = .ok (.return_, 1) := by decide +kernel
theorem dX9_multiplySmall_0 : decode cX9_multiplySmall 0 = .ok (.lload_n 2, 1) := by decide +kernel
theorem dX9_multiplySmall_1 : decode cX9_multiplySmall 1 = .ok (.lconst 0, 1) := by decide +kernel
theorem dX9_multiplySmall_2 : decode cX9_multiplySmall 2 = .ok (.lcmp, 1) := by decide +kernel
theorem dX9_multiplySmall_3 : decode cX9_multiplySmall 3 = .ok (.ifCond .ge 8, 3) := by decide +kernel
theorem dX9_multiplySmall_6 : decode cX9_multiplySmall 6 = .ok (.lload_n 2, 1) := by decide +kernel
theorem dX9_multiplySmall_7 : decode cX9_multiplySmall 7 = .ok (.lneg, 1) := by decide +kernel
theorem dX9_multiplySmall_8 : decode cX9_multiplySmall 8 = .ok (.goto 4, 3) := by decide +kernel
theorem dX9_multiplySmall_11 : decode cX9_multiplySmall 11 = .ok (.lload_n 2, 1) := by decide +kernel
theorem dX9_multiplySmall_12 : decode cX9_multiplySmall 12 = .ok (.lstore 4, 2) := by decide +kernel
theorem dX9_multiplySmall_14 : decode cX9_multiplySmall 14 = .ok (.lconst 0, 1) := by decide +kernel
theorem dX9_multiplySmall_15 : decode cX9_multiplySmall 15 = .ok (.lstore 6, 2) := by decide +kernel
theorem dX9_multiplySmall_17 : decode cX9_multiplySmall 17 = .ok (.aload_n 0, 1) := by decide +kernel
theorem dX9_multiplySmall_18 : decode cX9_multiplySmall 18 = .ok (.getfield 44, 3) := by decide +kernel
theorem dX9_multiplySmall_21 : decode cX9_multiplySmall 21 = .ok (.iload_n 1, 1) := by decide +kernel
theorem dX9_multiplySmall_22 : decode cX9_multiplySmall 22 = .ok (.iaload, 1) := by decide +kernel
theorem dX9_multiplySmall_23 : decode cX9_multiplySmall 23 = .ok (.iconst 2, 1) := by decide +kernel
theorem dX9_multiplySmall_24 : decode cX9_multiplySmall 24 = .ok (.iadd, 1) := by decide +kernel
theorem dX9_multiplySmall_25 : decode cX9_multiplySmall 25 = .ok (.istore 8, 2) := by decide +kernel
theorem dX9_multiplySmall_27 : decode cX9_multiplySmall 27 = .ok (.iconst 0, 1) := by decide +kernel
theorem dX9_multiplySmall_28 : decode cX9_multiplySmall 28 = .ok (.istore 9, 2) := by decide +kernel
theorem dX9_multiplySmall_30 : decode cX9_multiplySmall 30 = .ok (.iload 9, 2) := by decide +kernel
theorem dX9_multiplySmall_32 : decode cX9_multiplySmall 32 = .ok (.iload 8, 2) := by decide +kernel
theorem dX9_multiplySmall_34 : decode cX9_multiplySmall 34 = .ok (.if_icmp .ge 74, 3) := by decide +kernel
theorem dX9_multiplySmall_37 : decode cX9_multiplySmall 37 = .ok (.iload 9, 2) := by decide +kernel
theorem dX9_multiplySmall_39 : decode cX9_multiplySmall 39 = .ok (.aload_n 0, 1) := by decide +kernel
theorem dX9_multiplySmall_40 : decode cX9_multiplySmall 40 = .ok (.getfield 44, 3) := by decide +kernel
theorem dX9_multiplySmall_43 : decode cX9_multiplySmall 43 = .ok (.iload_n 1, 1) := by decide +kernel
theorem dX9_multiplySmall_44 : decode cX9_multiplySmall 44 = .ok (.iaload, 1) := by decide +kernel
theorem dX9_multiplySmall_45 : decode cX9_multiplySmall 45 = .ok (.if_icmp .ge 23, 3) := by decide +kernel
theorem dX9_multiplySmall_48 : decode cX9_multiplySmall 48 = .ok (.aload_n 0, 1) := by decide +kernel
theorem dX9_multiplySmall_49 : decode cX9_multiplySmall 49 = .ok (.getfield 41, 3) := by decide +kernel
theorem dX9_multiplySmall_52 : decode cX9_multiplySmall 52 = .ok (.sipush 400, 3) := by decide +kernel
theorem dX9_multiplySmall_55 : decode cX9_multiplySmall 55 = .ok (.iload_n 1, 1) := by decide +kernel
theorem dX9_multiplySmall_56 : decode cX9_multiplySmall 56 = .ok (.imul, 1) := by decide +kernel
theorem dX9_multiplySmall_57 : decode cX9_multiplySmall 57 = .ok (.iload 9, 2) := by decide +kernel
theorem dX9_multiplySmall_59 : decode cX9_multiplySmall 59 = .ok (.iadd, 1) := by decide +kernel
theorem dX9_multiplySmall_60 : decode cX9_multiplySmall 60 = .ok (.iaload, 1) := by decide +kernel
theorem dX9_multiplySmall_61 : decode cX9_multiplySmall 61 = .ok (.i2l, 1) := by decide +kernel
theorem dX9_multiplySmall_62 : decode cX9_multiplySmall 62 = .ok (.lload 4, 2) := by decide +kernel
theorem dX9_multiplySmall_64 : decode cX9_multiplySmall 64 = .ok (.lmul, 1) := by decide +kernel
theorem dX9_multiplySmall_65 : decode cX9_multiplySmall 65 = .ok (.goto 4, 3) := by decide +kernel
theorem dX9_multiplySmall_68 : decode cX9_multiplySmall 68 = .ok (.lconst 0, 1) := by decide +kernel
theorem dX9_multiplySmall_69 : decode cX9_multiplySmall 69 = .ok (.lload 6, 2) := by decide +kernel
theorem dX9_multiplySmall_71 : decode cX9_multiplySmall 71 = .ok (.ladd, 1) := by decide +kernel
theorem dX9_multiplySmall_72 : decode cX9_multiplySmall 72 = .ok (.lstore 10, 2) := by decide +kernel
theorem dX9_multiplySmall_74 : decode cX9_multiplySmall 74 = .ok (.aload_n 0, 1) := by decide +kernel
theorem dX9_multiplySmall_75 : decode cX9_multiplySmall 75 = .ok (.getfield 41, 3) := by decide +kernel
theorem dX9_multiplySmall_78 : decode cX9_multiplySmall 78 = .ok (.sipush 400, 3) := by decide +kernel
theorem dX9_multiplySmall_81 : decode cX9_multiplySmall 81 = .ok (.iload_n 1, 1) := by decide +kernel
theorem dX9_multiplySmall_82 : decode cX9_multiplySmall 82 = .ok (.imul, 1) := by decide +kernel
theorem dX9_multiplySmall_83 : decode cX9_multiplySmall 83 = .ok (.iload 9, 2) := by decide +kernel
theorem dX9_multiplySmall_85 : decode cX9_multiplySmall 85 = .ok (.iadd, 1) := by decide +kernel
theorem dX9_multiplySmall_86 : decode cX9_multiplySmall 86 = .ok (.lload 10, 2) := by decide +kernel
theorem dX9_multiplySmall_88 : decode cX9_multiplySmall 88 = .ok (.ldc2_w 100, 3) := by decide +kernel
theorem dX9_multiplySmall_91 : decode cX9_multiplySmall 91 = .ok (.lrem, 1) := by decide +kernel
theorem dX9_multiplySmall_92 : decode cX9_multiplySmall 92 = .ok (.l2i, 1) := by decide +kernel
theorem dX9_multiplySmall_93 : decode cX9_multiplySmall 93 = .ok (.iastore, 1) := by decide +kernel
theorem dX9_multiplySmall_94 : decode cX9_multiplySmall 94 = .ok (.lload 10, 2) := by decide +kernel
theorem dX9_multiplySmall_96 : decode cX9_multiplySmall 96 = .ok (.ldc2_w 100, 3) := by decide +kernel
theorem dX9_multiplySmall_99 : decode cX9_multiplySmall 99 = .ok (.ldiv, 1) := by decide +kernel
theorem dX9_multiplySmall_100 : decode cX9_multiplySmall 100 = .ok (.lstore 6, 2) := by decide +kernel
theorem dX9_multiplySmall_102 : decode cX9_multiplySmall 102 = .ok (.iinc 9 1, 3) := by decide +kernel
theorem dX9_multiplySmall_105 : decode cX9_multiplySmall 105 = .ok (.goto (-75), 3) := by decide +kernel
theorem dX9_multiplySmall_108 : decode cX9_multiplySmall 108 = .ok (.aload_n 0, 1) := by decide +kernel
theorem dX9_multiplySmall_109 : decode cX9_multiplySmall 109 = .ok (.getfield 47, 3) := by decide +kernel
theorem dX9_multiplySmall_112 : decode cX9_multiplySmall 112 = .ok (.iload_n 1, 1) := by decide +kernel
theorem dX9_multiplySmall_113 : decode cX9_multiplySmall 113 = .ok (.lload_n 2, 1) := by decide +kernel
theorem dX9_multiplySmall_114 : decode cX9_multiplySmall 114 = .ok (.lconst 0, 1) := by decide +kernel
theorem dX9_multiplySmall_115 : decode cX9_multiplySmall 115 = .ok (.lcmp, 1) := by decide +kernel
theorem dX9_multiplySmall_116 : decode cX9_multiplySmall 116 = .ok (.ifCond .ge 13, 3) := by decide +kernel
theorem dX9_multiplySmall_119 : decode cX9_multiplySmall 119 = .ok (.aload_n 0, 1) := by decide +kernel
theorem dX9_multiplySmall_120 : decode cX9_multiplySmall 120 = .ok (.getfield 47, 3) := by decide +kernel
theorem dX9_multiplySmall_123 : decode cX9_multiplySmall 123 = .ok (.iload_n 1, 1) := by decide +kernel
theorem dX9_multiplySmall_124 : decode cX9_multiplySmall 124 = .ok (.iaload, 1) := by decide +kernel
theorem dX9_multiplySmall_125 : decode cX9_multiplySmall 125 = .ok (.ineg, 1) := by decide +kernel
theorem dX9_multiplySmall_126 : decode cX9_multiplySmall 126 = .ok (.goto 19, 3) := by decide +kernel
theorem dX9_multiplySmall_129 : decode cX9_multiplySmall 129 = .ok (.lload_n 2, 1) := by decide +kernel
theorem dX9_multiplySmall_130 : decode cX9_multiplySmall 130 = .ok (.lconst 0, 1) := by decide +kernel
theorem dX9_multiplySmall_131 : decode cX9_multiplySmall 131 = .ok (.lcmp, 1) := by decide +kernel
theorem dX9_multiplySmall_132 : decode cX9_multiplySmall 132 = .ok (.ifCond .ne 7, 3) := by decide +kernel
theorem dX9_multiplySmall_135 : decode cX9_multiplySmall 135 = .ok (.iconst 0, 1) := by decide +kernel
theorem dX9_multiplySmall_136 : decode cX9_multiplySmall 136 = .ok (.goto 9, 3) := by decide +kernel
theorem dX9_multiplySmall_139 : decode cX9_multiplySmall 139 = .ok (.aload_n 0, 1) := by decide +kernel
theorem dX9_multiplySmall_140 : decode cX9_multiplySmall 140 = .ok (.getfield 47, 3) := by decide +kernel
theorem dX9_multiplySmall_143 : decode cX9_multiplySmall 143 = .ok (.iload_n 1, 1) := by decide +kernel
theorem dX9_multiplySmall_144 : decode cX9_multiplySmall 144 = .ok (.iaload, 1) := by decide +kernel
theorem dX9_multiplySmall_145 : decode cX9_multiplySmall 145 = .ok (.iastore, 1) := by decide +kernel
theorem dX9_multiplySmall_146 : decode cX9_multiplySmall 146 = .ok (.aload_n 0, 1) := by decide +kernel
theorem dX9_multiplySmall_147 : decode cX9_multiplySmall 147 = .ok (.iload_n 1, 1) := by decide +kernel
theorem dX9_multiplySmall_148 : decode cX9_multiplySmall 148 = .ok (.iload 8, 2) := by decide +kernel
theorem dX9_multiplySmall_150 : decode cX9_multiplySmall 150 = .ok (.invokevirtual 103, 3) := by decide +kernel
theorem dX9_multiplySmall_153 : decode cX9_multiplySmall 153 = .ok (.return_, 1) := by decide +kernel
theorem dX9_divideSmall_0 : decode cX9_divideSmall 0 = .ok (.lconst 0, 1) := by decide +kernel
theorem dX9_divideSmall_1 : decode cX9_divideSmall 1 = .ok (.lstore 4, 2) := by decide +kernel
theorem dX9_divideSmall_3 : decode cX9_divideSmall 3 = .ok (.aload_n 0, 1) := by decide +kernel
theorem dX9_divideSmall_4 : decode cX9_divideSmall 4 = .ok (.getfield 44, 3) := by decide +kernel
theorem dX9_divideSmall_7 : decode cX9_divideSmall 7 = .ok (.iload_n 1, 1) := by decide +kernel
theorem dX9_divideSmall_8 : decode cX9_divideSmall 8 = .ok (.iaload, 1) := by decide +kernel
theorem dX9_divideSmall_9 : decode cX9_divideSmall 9 = .ok (.iconst 1, 1) := by decide +kernel
theorem dX9_divideSmall_10 : decode cX9_divideSmall 10 = .ok (.isub, 1) := by decide +kernel
theorem dX9_divideSmall_11 : decode cX9_divideSmall 11 = .ok (.istore 6, 2) := by decide +kernel
theorem dX9_divideSmall_13 : decode cX9_divideSmall 13 = .ok (.iload 6, 2) := by decide +kernel
theorem dX9_divideSmall_15 : decode cX9_divideSmall 15 = .ok (.ifCond .lt 56, 3) := by decide +kernel
theorem dX9_divideSmall_18 : decode cX9_divideSmall 18 = .ok (.lload 4, 2) := by decide +kernel
theorem dX9_divideSmall_20 : decode cX9_divideSmall 20 = .ok (.ldc2_w 100, 3) := by decide +kernel
theorem dX9_divideSmall_23 : decode cX9_divideSmall 23 = .ok (.lmul, 1) := by decide +kernel
theorem dX9_divideSmall_24 : decode cX9_divideSmall 24 = .ok (.aload_n 0, 1) := by decide +kernel
theorem dX9_divideSmall_25 : decode cX9_divideSmall 25 = .ok (.getfield 41, 3) := by decide +kernel
theorem dX9_divideSmall_28 : decode cX9_divideSmall 28 = .ok (.sipush 400, 3) := by decide +kernel
theorem dX9_divideSmall_31 : decode cX9_divideSmall 31 = .ok (.iload_n 1, 1) := by decide +kernel
theorem dX9_divideSmall_32 : decode cX9_divideSmall 32 = .ok (.imul, 1) := by decide +kernel
theorem dX9_divideSmall_33 : decode cX9_divideSmall 33 = .ok (.iload 6, 2) := by decide +kernel
theorem dX9_divideSmall_35 : decode cX9_divideSmall 35 = .ok (.iadd, 1) := by decide +kernel
theorem dX9_divideSmall_36 : decode cX9_divideSmall 36 = .ok (.iaload, 1) := by decide +kernel
theorem dX9_divideSmall_37 : decode cX9_divideSmall 37 = .ok (.i2l, 1) := by decide +kernel
theorem dX9_divideSmall_38 : decode cX9_divideSmall 38 = .ok (.ladd, 1) := by decide +kernel
theorem dX9_divideSmall_39 : decode cX9_divideSmall 39 = .ok (.lstore 7, 2) := by decide +kernel
theorem dX9_divideSmall_41 : decode cX9_divideSmall 41 = .ok (.aload_n 0, 1) := by decide +kernel
theorem dX9_divideSmall_42 : decode cX9_divideSmall 42 = .ok (.getfield 41, 3) := by decide +kernel
theorem dX9_divideSmall_45 : decode cX9_divideSmall 45 = .ok (.sipush 400, 3) := by decide +kernel
theorem dX9_divideSmall_48 : decode cX9_divideSmall 48 = .ok (.iload_n 1, 1) := by decide +kernel
theorem dX9_divideSmall_49 : decode cX9_divideSmall 49 = .ok (.imul, 1) := by decide +kernel
theorem dX9_divideSmall_50 : decode cX9_divideSmall 50 = .ok (.iload 6, 2) := by decide +kernel
theorem dX9_divideSmall_52 : decode cX9_divideSmall 52 = .ok (.iadd, 1) := by decide +kernel
theorem dX9_divideSmall_53 : decode cX9_divideSmall 53 = .ok (.lload 7, 2) := by decide +kernel
theorem dX9_divideSmall_55 : decode cX9_divideSmall 55 = .ok (.lload_n 2, 1) := by decide +kernel
theorem dX9_divideSmall_56 : decode cX9_divideSmall 56 = .ok (.ldiv, 1) := by decide +kernel
theorem dX9_divideSmall_57 : decode cX9_divideSmall 57 = .ok (.l2i, 1) := by decide +kernel
theorem dX9_divideSmall_58 : decode cX9_divideSmall 58 = .ok (.iastore, 1) := by decide +kernel
theorem dX9_divideSmall_59 : decode cX9_divideSmall 59 = .ok (.lload 7, 2) := by decide +kernel
theorem dX9_divideSmall_61 : decode cX9_divideSmall 61 = .ok (.lload_n 2, 1) := by decide +kernel
theorem dX9_divideSmall_62 : decode cX9_divideSmall 62 = .ok (.lrem, 1) := by decide +kernel
theorem dX9_divideSmall_63 : decode cX9_divideSmall 63 = .ok (.lstore 4, 2) := by decide +kernel
theorem dX9_divideSmall_65 : decode cX9_divideSmall 65 = .ok (.iinc 6 (-1), 3) := by decide +kernel
theorem dX9_divideSmall_68 : decode cX9_divideSmall 68 = .ok (.goto (-55), 3) := by decide +kernel
theorem dX9_divideSmall_71 : decode cX9_divideSmall 71 = .ok (.aload_n 0, 1) := by decide +kernel
theorem dX9_divideSmall_72 : decode cX9_divideSmall 72 = .ok (.iload_n 1, 1) := by decide +kernel
theorem dX9_divideSmall_73 : decode cX9_divideSmall 73 = .ok (.aload_n 0, 1) := by decide +kernel
theorem dX9_divideSmall_74 : decode cX9_divideSmall 74 = .ok (.getfield 44, 3) := by decide +kernel
theorem dX9_divideSmall_77 : decode cX9_divideSmall 77 = .ok (.iload_n 1, 1) := by decide +kernel
theorem dX9_divideSmall_78 : decode cX9_divideSmall 78 = .ok (.iaload, 1) := by decide +kernel
theorem dX9_divideSmall_79 : decode cX9_divideSmall 79 = .ok (.invokevirtual 103, 3) := by decide +kernel
theorem dX9_divideSmall_82 : decode cX9_divideSmall 82 = .ok (.lload 4, 2) := by decide +kernel
theorem dX9_divideSmall_84 : decode cX9_divideSmall 84 = .ok (.lreturn, 1) := by decide +kernel
theorem dX9_divide_0 : decode cX9_divide 0 = .ok (.aload_n 0, 1) := by decide +kernel
theorem dX9_divide_1 : decode cX9_divide 1 = .ok (.getfield 47, 3) := by decide +kernel
theorem dX9_divide_4 : decode cX9_divide 4 = .ok (.iload_n 3, 1) := by decide +kernel
theorem dX9_divide_5 : decode cX9_divide 5 = .ok (.iconst 1, 1) := by decide +kernel
theorem dX9_divide_6 : decode cX9_divide 6 = .ok (.iastore, 1) := by decide +kernel
theorem dX9_divide_7 : decode cX9_divide 7 = .ok (.aload_n 0, 1) := by decide +kernel
theorem dX9_divide_8 : decode cX9_divide 8 = .ok (.getfield 47, 3) := by decide +kernel
theorem dX9_divide_11 : decode cX9_divide 11 = .ok (.iload_n 1, 1) := by decide +kernel
theorem dX9_divide_12 : decode cX9_divide 12 = .ok (.iconst 1, 1) := by decide +kernel
theorem dX9_divide_13 : decode cX9_divide 13 = .ok (.iastore, 1) := by decide +kernel
theorem dX9_divide_14 : decode cX9_divide 14 = .ok (.aload_n 0, 1) := by decide +kernel
theorem dX9_divide_15 : decode cX9_divide 15 = .ok (.iload_n 1, 1) := by decide +kernel
theorem dX9_divide_16 : decode cX9_divide 16 = .ok (.iload_n 2, 1) := by decide +kernel
theorem dX9_divide_17 : decode cX9_divide 17 = .ok (.invokevirtual 114, 3) := by decide +kernel
theorem dX9_divide_20 : decode cX9_divide 20 = .ok (.ifCond .ge 30, 3) := by decide +kernel
theorem dX9_divide_23 : decode cX9_divide 23 = .ok (.aload_n 0, 1) := by decide +kernel
theorem dX9_divide_24 : decode cX9_divide 24 = .ok (.iload_n 3, 1) := by decide +kernel
theorem dX9_divide_25 : decode cX9_divide 25 = .ok (.lconst 0, 1) := by decide +kernel
theorem dX9_divide_26 : decode cX9_divide 26 = .ok (.invokevirtual 121, 3) := by decide +kernel
theorem dX9_divide_29 : decode cX9_divide 29 = .ok (.aload_n 0, 1) := by decide +kernel
theorem dX9_divide_30 : decode cX9_divide 30 = .ok (.getfield 47, 3) := by decide +kernel
theorem dX9_divide_33 : decode cX9_divide 33 = .ok (.iload_n 1, 1) := by decide +kernel
theorem dX9_divide_34 : decode cX9_divide 34 = .ok (.aload_n 0, 1) := by decide +kernel
theorem dX9_divide_35 : decode cX9_divide 35 = .ok (.getfield 44, 3) := by decide +kernel
theorem dX9_divide_38 : decode cX9_divide 38 = .ok (.iload_n 1, 1) := by decide +kernel
theorem dX9_divide_39 : decode cX9_divide 39 = .ok (.iaload, 1) := by decide +kernel
theorem dX9_divide_40 : decode cX9_divide 40 = .ok (.ifCond .ne 7, 3) := by decide +kernel
theorem dX9_divide_43 : decode cX9_divide 43 = .ok (.iconst 0, 1) := by decide +kernel
theorem dX9_divide_44 : decode cX9_divide 44 = .ok (.goto 4, 3) := by decide +kernel
theorem dX9_divide_47 : decode cX9_divide 47 = .ok (.iconst 1, 1) := by decide +kernel
theorem dX9_divide_48 : decode cX9_divide 48 = .ok (.iastore, 1) := by decide +kernel
theorem dX9_divide_49 : decode cX9_divide 49 = .ok (.return_, 1) := by decide +kernel
theorem dX9_divide_50 : decode cX9_divide 50 = .ok (.aload_n 0, 1) := by decide +kernel
theorem dX9_divide_51 : decode cX9_divide 51 = .ok (.getfield 44, 3) := by decide +kernel
theorem dX9_divide_54 : decode cX9_divide 54 = .ok (.iload_n 2, 1) := by decide +kernel
theorem dX9_divide_55 : decode cX9_divide 55 = .ok (.iaload, 1) := by decide +kernel
theorem dX9_divide_56 : decode cX9_divide 56 = .ok (.iconst 1, 1) := by decide +kernel
theorem dX9_divide_57 : decode cX9_divide 57 = .ok (.if_icmp .ne 35, 3) := by decide +kernel
theorem dX9_divide_60 : decode cX9_divide 60 = .ok (.aload_n 0, 1) := by decide +kernel
theorem dX9_divide_61 : decode cX9_divide 61 = .ok (.getfield 41, 3) := by decide +kernel
theorem dX9_divide_64 : decode cX9_divide 64 = .ok (.sipush 400, 3) := by decide +kernel
theorem dX9_divide_67 : decode cX9_divide 67 = .ok (.iload_n 2, 1) := by decide +kernel
theorem dX9_divide_68 : decode cX9_divide 68 = .ok (.imul, 1) := by decide +kernel
theorem dX9_divide_69 : decode cX9_divide 69 = .ok (.iaload, 1) := by decide +kernel
theorem dX9_divide_70 : decode cX9_divide 70 = .ok (.i2l, 1) := by decide +kernel
theorem dX9_divide_71 : decode cX9_divide 71 = .ok (.lstore 4, 2) := by decide +kernel
theorem dX9_divide_73 : decode cX9_divide 73 = .ok (.aload_n 0, 1) := by decide +kernel
theorem dX9_divide_74 : decode cX9_divide 74 = .ok (.iload_n 1, 1) := by decide +kernel
theorem dX9_divide_75 : decode cX9_divide 75 = .ok (.iload_n 3, 1) := by decide +kernel
theorem dX9_divide_76 : decode cX9_divide 76 = .ok (.invokevirtual 107, 3) := by decide +kernel
theorem dX9_divide_79 : decode cX9_divide 79 = .ok (.aload_n 0, 1) := by decide +kernel
theorem dX9_divide_80 : decode cX9_divide 80 = .ok (.iload_n 1, 1) := by decide +kernel
theorem dX9_divide_81 : decode cX9_divide 81 = .ok (.aload_n 0, 1) := by decide +kernel
theorem dX9_divide_82 : decode cX9_divide 82 = .ok (.iload_n 3, 1) := by decide +kernel
theorem dX9_divide_83 : decode cX9_divide 83 = .ok (.lload 4, 2) := by decide +kernel
theorem dX9_divide_85 : decode cX9_divide 85 = .ok (.invokevirtual 125, 3) := by decide +kernel
theorem dX9_divide_88 : decode cX9_divide 88 = .ok (.invokevirtual 121, 3) := by decide +kernel
theorem dX9_divide_91 : decode cX9_divide 91 = .ok (.return_, 1) := by decide +kernel
theorem dX9_divide_92 : decode cX9_divide 92 = .ok (.ldc2_w 100, 3) := by decide +kernel
theorem dX9_divide_95 : decode cX9_divide 95 = .ok (.aload_n 0, 1) := by decide +kernel
theorem dX9_divide_96 : decode cX9_divide 96 = .ok (.getfield 41, 3) := by decide +kernel
theorem dX9_divide_99 : decode cX9_divide 99 = .ok (.sipush 400, 3) := by decide +kernel
theorem dX9_divide_102 : decode cX9_divide 102 = .ok (.iload_n 2, 1) := by decide +kernel
theorem dX9_divide_103 : decode cX9_divide 103 = .ok (.imul, 1) := by decide +kernel
theorem dX9_divide_104 : decode cX9_divide 104 = .ok (.aload_n 0, 1) := by decide +kernel
theorem dX9_divide_105 : decode cX9_divide 105 = .ok (.getfield 44, 3) := by decide +kernel
theorem dX9_divide_108 : decode cX9_divide 108 = .ok (.iload_n 2, 1) := by decide +kernel
theorem dX9_divide_109 : decode cX9_divide 109 = .ok (.iaload, 1) := by decide +kernel
theorem dX9_divide_110 : decode cX9_divide 110 = .ok (.iadd, 1) := by decide +kernel
theorem dX9_divide_111 : decode cX9_divide 111 = .ok (.iconst 1, 1) := by decide +kernel
theorem dX9_divide_112 : decode cX9_divide 112 = .ok (.isub, 1) := by decide +kernel
theorem dX9_divide_113 : decode cX9_divide 113 = .ok (.iaload, 1) := by decide +kernel
theorem dX9_divide_114 : decode cX9_divide 114 = .ok (.i2l, 1) := by decide +kernel
theorem dX9_divide_115 : decode cX9_divide 115 = .ok (.lconst 1, 1) := by decide +kernel
theorem dX9_divide_116 : decode cX9_divide 116 = .ok (.ladd, 1) := by decide +kernel
theorem dX9_divide_117 : decode cX9_divide 117 = .ok (.ldiv, 1) := by decide +kernel
theorem dX9_divide_118 : decode cX9_divide 118 = .ok (.lstore 4, 2) := by decide +kernel
theorem dX9_divide_120 : decode cX9_divide 120 = .ok (.aload_n 0, 1) := by decide +kernel
theorem dX9_divide_121 : decode cX9_divide 121 = .ok (.iload_n 2, 1) := by decide +kernel
theorem dX9_divide_122 : decode cX9_divide 122 = .ok (.bipush 15, 2) := by decide +kernel
theorem dX9_divide_124 : decode cX9_divide 124 = .ok (.invokevirtual 107, 3) := by decide +kernel
theorem dX9_divide_127 : decode cX9_divide 127 = .ok (.aload_n 0, 1) := by decide +kernel
theorem dX9_divide_128 : decode cX9_divide 128 = .ok (.bipush 15, 2) := by decide +kernel
theorem dX9_divide_130 : decode cX9_divide 130 = .ok (.lload 4, 2) := by decide +kernel
theorem dX9_divide_132 : decode cX9_divide 132 = .ok (.invokevirtual 129, 3) := by decide +kernel
theorem dX9_divide_135 : decode cX9_divide 135 = .ok (.aload_n 0, 1) := by decide +kernel
theorem dX9_divide_136 : decode cX9_divide 136 = .ok (.getfield 44, 3) := by decide +kernel
theorem dX9_divide_139 : decode cX9_divide 139 = .ok (.bipush 15, 2) := by decide +kernel
theorem dX9_divide_141 : decode cX9_divide 141 = .ok (.iaload, 1) := by decide +kernel
theorem dX9_divide_142 : decode cX9_divide 142 = .ok (.istore 6, 2) := by decide +kernel
theorem dX9_divide_144 : decode cX9_divide 144 = .ok (.aload_n 0, 1) := by decide +kernel
theorem dX9_divide_145 : decode cX9_divide 145 = .ok (.getfield 44, 3) := by decide +kernel
theorem dX9_divide_148 : decode cX9_divide 148 = .ok (.iload_n 1, 1) := by decide +kernel
theorem dX9_divide_149 : decode cX9_divide 149 = .ok (.iaload, 1) := by decide +kernel
theorem dX9_divide_150 : decode cX9_divide 150 = .ok (.istore 7, 2) := by decide +kernel
theorem dX9_divide_152 : decode cX9_divide 152 = .ok (.aload_n 0, 1) := by decide +kernel
theorem dX9_divide_153 : decode cX9_divide 153 = .ok (.iload_n 1, 1) := by decide +kernel
theorem dX9_divide_154 : decode cX9_divide 154 = .ok (.lload 4, 2) := by decide +kernel
theorem dX9_divide_156 : decode cX9_divide 156 = .ok (.invokevirtual 129, 3) := by decide +kernel
theorem dX9_divide_159 : decode cX9_divide 159 = .ok (.aload_n 0, 1) := by decide +kernel
theorem dX9_divide_160 : decode cX9_divide 160 = .ok (.getfield 44, 3) := by decide +kernel
theorem dX9_divide_163 : decode cX9_divide 163 = .ok (.iload_n 1, 1) := by decide +kernel
theorem dX9_divide_164 : decode cX9_divide 164 = .ok (.iaload, 1) := by decide +kernel
theorem dX9_divide_165 : decode cX9_divide 165 = .ok (.istore 8, 2) := by decide +kernel
theorem dX9_divide_167 : decode cX9_divide 167 = .ok (.iload 8, 2) := by decide +kernel
theorem dX9_divide_169 : decode cX9_divide 169 = .ok (.iload 7, 2) := by decide +kernel
theorem dX9_divide_171 : decode cX9_divide 171 = .ok (.iconst 1, 1) := by decide +kernel
theorem dX9_divide_172 : decode cX9_divide 172 = .ok (.iadd, 1) := by decide +kernel
theorem dX9_divide_173 : decode cX9_divide 173 = .ok (.if_icmp .gt 23, 3) := by decide +kernel
theorem dX9_divide_176 : decode cX9_divide 176 = .ok (.aload_n 0, 1) := by decide +kernel
theorem dX9_divide_177 : decode cX9_divide 177 = .ok (.getfield 41, 3) := by decide +kernel
theorem dX9_divide_180 : decode cX9_divide 180 = .ok (.sipush 400, 3) := by decide +kernel
theorem dX9_divide_183 : decode cX9_divide 183 = .ok (.iload_n 1, 1) := by decide +kernel
theorem dX9_divide_184 : decode cX9_divide 184 = .ok (.imul, 1) := by decide +kernel
theorem dX9_divide_185 : decode cX9_divide 185 = .ok (.iload 8, 2) := by decide +kernel
theorem dX9_divide_187 : decode cX9_divide 187 = .ok (.iadd, 1) := by decide +kernel
theorem dX9_divide_188 : decode cX9_divide 188 = .ok (.iconst 0, 1) := by decide +kernel
theorem dX9_divide_189 : decode cX9_divide 189 = .ok (.iastore, 1) := by decide +kernel
theorem dX9_divide_190 : decode cX9_divide 190 = .ok (.iinc 8 1, 3) := by decide +kernel
theorem dX9_divide_193 : decode cX9_divide 193 = .ok (.goto (-26), 3) := by decide +kernel
theorem dX9_divide_196 : decode cX9_divide 196 = .ok (.iload 7, 2) := by decide +kernel
theorem dX9_divide_198 : decode cX9_divide 198 = .ok (.iload 6, 2) := by decide +kernel
theorem dX9_divide_200 : decode cX9_divide 200 = .ok (.isub, 1) := by decide +kernel
theorem dX9_divide_201 : decode cX9_divide 201 = .ok (.istore 8, 2) := by decide +kernel
theorem dX9_divide_203 : decode cX9_divide 203 = .ok (.iload 8, 2) := by decide +kernel
theorem dX9_divide_205 : decode cX9_divide 205 = .ok (.ifCond .lt 37, 3) := by decide +kernel
theorem dX9_divide_208 : decode cX9_divide 208 = .ok (.aload_n 0, 1) := by decide +kernel
theorem dX9_divide_209 : decode cX9_divide 209 = .ok (.getfield 41, 3) := by decide +kernel
theorem dX9_divide_212 : decode cX9_divide 212 = .ok (.sipush 400, 3) := by decide +kernel
theorem dX9_divide_215 : decode cX9_divide 215 = .ok (.iload_n 3, 1) := by decide +kernel
theorem dX9_divide_216 : decode cX9_divide 216 = .ok (.imul, 1) := by decide +kernel
theorem dX9_divide_217 : decode cX9_divide 217 = .ok (.iload 8, 2) := by decide +kernel
theorem dX9_divide_219 : decode cX9_divide 219 = .ok (.iadd, 1) := by decide +kernel
theorem dX9_divide_220 : decode cX9_divide 220 = .ok (.aload_n 0, 1) := by decide +kernel
theorem dX9_divide_221 : decode cX9_divide 221 = .ok (.sipush 400, 3) := by decide +kernel
theorem dX9_divide_224 : decode cX9_divide 224 = .ok (.iload_n 1, 1) := by decide +kernel
theorem dX9_divide_225 : decode cX9_divide 225 = .ok (.imul, 1) := by decide +kernel
theorem dX9_divide_226 : decode cX9_divide 226 = .ok (.iload 8, 2) := by decide +kernel
theorem dX9_divide_228 : decode cX9_divide 228 = .ok (.iadd, 1) := by decide +kernel
theorem dX9_divide_229 : decode cX9_divide 229 = .ok (.iload 6, 2) := by decide +kernel
theorem dX9_divide_231 : decode cX9_divide 231 = .ok (.invokevirtual 132, 3) := by decide +kernel
theorem dX9_divide_234 : decode cX9_divide 234 = .ok (.l2i, 1) := by decide +kernel
theorem dX9_divide_235 : decode cX9_divide 235 = .ok (.iastore, 1) := by decide +kernel
theorem dX9_divide_236 : decode cX9_divide 236 = .ok (.iinc 8 (-1), 3) := by decide +kernel
theorem dX9_divide_239 : decode cX9_divide 239 = .ok (.goto (-36), 3) := by decide +kernel
theorem dX9_divide_242 : decode cX9_divide 242 = .ok (.aload_n 0, 1) := by decide +kernel
theorem dX9_divide_243 : decode cX9_divide 243 = .ok (.getfield 44, 3) := by decide +kernel
theorem dX9_divide_246 : decode cX9_divide 246 = .ok (.iload_n 1, 1) := by decide +kernel
theorem dX9_divide_247 : decode cX9_divide 247 = .ok (.iload 6, 2) := by decide +kernel
theorem dX9_divide_249 : decode cX9_divide 249 = .ok (.iastore, 1) := by decide +kernel
theorem dX9_divide_250 : decode cX9_divide 250 = .ok (.aload_n 0, 1) := by decide +kernel
theorem dX9_divide_251 : decode cX9_divide 251 = .ok (.getfield 47, 3) := by decide +kernel
theorem dX9_divide_254 : decode cX9_divide 254 = .ok (.iload_n 1, 1) := by decide +kernel
theorem dX9_divide_255 : decode cX9_divide 255 = .ok (.iconst 1, 1) := by decide +kernel
theorem dX9_divide_256 : decode cX9_divide 256 = .ok (.iastore, 1) := by decide +kernel
theorem dX9_divide_257 : decode cX9_divide 257 = .ok (.aload_n 0, 1) := by decide +kernel
theorem dX9_divide_258 : decode cX9_divide 258 = .ok (.iload_n 1, 1) := by decide +kernel
theorem dX9_divide_259 : decode cX9_divide 259 = .ok (.iload 6, 2) := by decide +kernel
theorem dX9_divide_261 : decode cX9_divide 261 = .ok (.invokevirtual 103, 3) := by decide +kernel
theorem dX9_divide_264 : decode cX9_divide 264 = .ok (.aload_n 0, 1) := by decide +kernel
theorem dX9_divide_265 : decode cX9_divide 265 = .ok (.iload_n 3, 1) := by decide +kernel
theorem dX9_divide_266 : decode cX9_divide 266 = .ok (.iload 7, 2) := by decide +kernel
theorem dX9_divide_268 : decode cX9_divide 268 = .ok (.iload 6, 2) := by decide +kernel
theorem dX9_divide_270 : decode cX9_divide 270 = .ok (.isub, 1) := by decide +kernel
theorem dX9_divide_271 : decode cX9_divide 271 = .ok (.iconst 1, 1) := by decide +kernel
theorem dX9_divide_272 : decode cX9_divide 272 = .ok (.iadd, 1) := by decide +kernel
theorem dX9_divide_273 : decode cX9_divide 273 = .ok (.invokevirtual 103, 3) := by decide +kernel
theorem dX9_divide_276 : decode cX9_divide 276 = .ok (.aload_n 0, 1) := by decide +kernel
theorem dX9_divide_277 : decode cX9_divide 277 = .ok (.iload_n 1, 1) := by decide +kernel
theorem dX9_divide_278 : decode cX9_divide 278 = .ok (.lload 4, 2) := by decide +kernel
theorem dX9_divide_280 : decode cX9_divide 280 = .ok (.invokevirtual 125, 3) := by decide +kernel
theorem dX9_divide_283 : decode cX9_divide 283 = .ok (.pop2, 1) := by decide +kernel
theorem dX9_divide_284 : decode cX9_divide 284 = .ok (.return_, 1) := by decide +kernel
theorem dX9_digit_0 : decode cX9_digit 0 = .ok (.aload_n 0, 1) := by decide +kernel
theorem dX9_digit_1 : decode cX9_digit 1 = .ok (.getfield 41, 3) := by decide +kernel
theorem dX9_digit_4 : decode cX9_digit 4 = .ok (.sipush 6000, 3) := by decide +kernel
theorem dX9_digit_7 : decode cX9_digit 7 = .ok (.iload_n 2, 1) := by decide +kernel
theorem dX9_digit_8 : decode cX9_digit 8 = .ok (.iadd, 1) := by decide +kernel
theorem dX9_digit_9 : decode cX9_digit 9 = .ok (.iconst 1, 1) := by decide +kernel
theorem dX9_digit_10 : decode cX9_digit 10 = .ok (.isub, 1) := by decide +kernel
theorem dX9_digit_11 : decode cX9_digit 11 = .ok (.iaload, 1) := by decide +kernel
theorem dX9_digit_12 : decode cX9_digit 12 = .ok (.i2l, 1) := by decide +kernel
theorem dX9_digit_13 : decode cX9_digit 13 = .ok (.lstore_n 3, 1) := by decide +kernel
theorem dX9_digit_14 : decode cX9_digit 14 = .ok (.aload_n 0, 1) := by decide +kernel
theorem dX9_digit_15 : decode cX9_digit 15 = .ok (.getfield 41, 3) := by decide +kernel
theorem dX9_digit_18 : decode cX9_digit 18 = .ok (.sipush 6000, 3) := by decide +kernel
theorem dX9_digit_21 : decode cX9_digit 21 = .ok (.iload_n 2, 1) := by decide +kernel
theorem dX9_digit_22 : decode cX9_digit 22 = .ok (.iadd, 1) := by decide +kernel
theorem dX9_digit_23 : decode cX9_digit 23 = .ok (.iconst 2, 1) := by decide +kernel
theorem dX9_digit_24 : decode cX9_digit 24 = .ok (.isub, 1) := by decide +kernel
theorem dX9_digit_25 : decode cX9_digit 25 = .ok (.iaload, 1) := by decide +kernel
theorem dX9_digit_26 : decode cX9_digit 26 = .ok (.i2l, 1) := by decide +kernel
theorem dX9_digit_27 : decode cX9_digit 27 = .ok (.lstore 5, 2) := by decide +kernel
theorem dX9_digit_29 : decode cX9_digit 29 = .ok (.aload_n 0, 1) := by decide +kernel
theorem dX9_digit_30 : decode cX9_digit 30 = .ok (.getfield 41, 3) := by decide +kernel
theorem dX9_digit_33 : decode cX9_digit 33 = .ok (.iload_n 1, 1) := by decide +kernel
theorem dX9_digit_34 : decode cX9_digit 34 = .ok (.iload_n 2, 1) := by decide +kernel
theorem dX9_digit_35 : decode cX9_digit 35 = .ok (.iadd, 1) := by decide +kernel
theorem dX9_digit_36 : decode cX9_digit 36 = .ok (.iaload, 1) := by decide +kernel
theorem dX9_digit_37 : decode cX9_digit 37 = .ok (.i2l, 1) := by decide +kernel
theorem dX9_digit_38 : decode cX9_digit 38 = .ok (.ldc2_w 100, 3) := by decide +kernel
theorem dX9_digit_41 : decode cX9_digit 41 = .ok (.lmul, 1) := by decide +kernel
theorem dX9_digit_42 : decode cX9_digit 42 = .ok (.aload_n 0, 1) := by decide +kernel
theorem dX9_digit_43 : decode cX9_digit 43 = .ok (.getfield 41, 3) := by decide +kernel
theorem dX9_digit_46 : decode cX9_digit 46 = .ok (.iload_n 1, 1) := by decide +kernel
theorem dX9_digit_47 : decode cX9_digit 47 = .ok (.iload_n 2, 1) := by decide +kernel
theorem dX9_digit_48 : decode cX9_digit 48 = .ok (.iadd, 1) := by decide +kernel
theorem dX9_digit_49 : decode cX9_digit 49 = .ok (.iconst 1, 1) := by decide +kernel
theorem dX9_digit_50 : decode cX9_digit 50 = .ok (.isub, 1) := by decide +kernel
theorem dX9_digit_51 : decode cX9_digit 51 = .ok (.iaload, 1) := by decide +kernel
theorem dX9_digit_52 : decode cX9_digit 52 = .ok (.i2l, 1) := by decide +kernel
theorem dX9_digit_53 : decode cX9_digit 53 = .ok (.ladd, 1) := by decide +kernel
theorem dX9_digit_54 : decode cX9_digit 54 = .ok (.lstore 7, 2) := by decide +kernel
theorem dX9_digit_56 : decode cX9_digit 56 = .ok (.lload 7, 2) := by decide +kernel
theorem dX9_digit_58 : decode cX9_digit 58 = .ok (.lload_n 3, 1) := by decide +kernel
theorem dX9_digit_59 : decode cX9_digit 59 = .ok (.ldiv, 1) := by decide +kernel
theorem dX9_digit_60 : decode cX9_digit 60 = .ok (.lstore 9, 2) := by decide +kernel
theorem dX9_digit_62 : decode cX9_digit 62 = .ok (.lload 7, 2) := by decide +kernel
theorem dX9_digit_64 : decode cX9_digit 64 = .ok (.lload_n 3, 1) := by decide +kernel
theorem dX9_digit_65 : decode cX9_digit 65 = .ok (.lrem, 1) := by decide +kernel
theorem dX9_digit_66 : decode cX9_digit 66 = .ok (.lstore 11, 2) := by decide +kernel
theorem dX9_digit_68 : decode cX9_digit 68 = .ok (.lload 9, 2) := by decide +kernel
theorem dX9_digit_70 : decode cX9_digit 70 = .ok (.ldc2_w 100, 3) := by decide +kernel
theorem dX9_digit_73 : decode cX9_digit 73 = .ok (.lcmp, 1) := by decide +kernel
theorem dX9_digit_74 : decode cX9_digit 74 = .ok (.ifCond .ge 39, 3) := by decide +kernel
theorem dX9_digit_77 : decode cX9_digit 77 = .ok (.lload 11, 2) := by decide +kernel
theorem dX9_digit_79 : decode cX9_digit 79 = .ok (.ldc2_w 100, 3) := by decide +kernel
theorem dX9_digit_82 : decode cX9_digit 82 = .ok (.lcmp, 1) := by decide +kernel
theorem dX9_digit_83 : decode cX9_digit 83 = .ok (.ifCond .ge 45, 3) := by decide +kernel
theorem dX9_digit_86 : decode cX9_digit 86 = .ok (.lload 9, 2) := by decide +kernel
theorem dX9_digit_88 : decode cX9_digit 88 = .ok (.lload 5, 2) := by decide +kernel
theorem dX9_digit_90 : decode cX9_digit 90 = .ok (.lmul, 1) := by decide +kernel
theorem dX9_digit_91 : decode cX9_digit 91 = .ok (.lload 11, 2) := by decide +kernel
theorem dX9_digit_93 : decode cX9_digit 93 = .ok (.ldc2_w 100, 3) := by decide +kernel
theorem dX9_digit_96 : decode cX9_digit 96 = .ok (.lmul, 1) := by decide +kernel
theorem dX9_digit_97 : decode cX9_digit 97 = .ok (.aload_n 0, 1) := by decide +kernel
theorem dX9_digit_98 : decode cX9_digit 98 = .ok (.getfield 41, 3) := by decide +kernel
theorem dX9_digit_101 : decode cX9_digit 101 = .ok (.iload_n 1, 1) := by decide +kernel
theorem dX9_digit_102 : decode cX9_digit 102 = .ok (.iload_n 2, 1) := by decide +kernel
theorem dX9_digit_103 : decode cX9_digit 103 = .ok (.iadd, 1) := by decide +kernel
theorem dX9_digit_104 : decode cX9_digit 104 = .ok (.iconst 2, 1) := by decide +kernel
theorem dX9_digit_105 : decode cX9_digit 105 = .ok (.isub, 1) := by decide +kernel
theorem dX9_digit_106 : decode cX9_digit 106 = .ok (.iaload, 1) := by decide +kernel
theorem dX9_digit_107 : decode cX9_digit 107 = .ok (.i2l, 1) := by decide +kernel
theorem dX9_digit_108 : decode cX9_digit 108 = .ok (.ladd, 1) := by decide +kernel
theorem dX9_digit_109 : decode cX9_digit 109 = .ok (.lcmp, 1) := by decide +kernel
theorem dX9_digit_110 : decode cX9_digit 110 = .ok (.ifCond .le 18, 3) := by decide +kernel
theorem dX9_digit_113 : decode cX9_digit 113 = .ok (.lload 9, 2) := by decide +kernel
theorem dX9_digit_115 : decode cX9_digit 115 = .ok (.lconst 1, 1) := by decide +kernel
theorem dX9_digit_116 : decode cX9_digit 116 = .ok (.lsub, 1) := by decide +kernel
theorem dX9_digit_117 : decode cX9_digit 117 = .ok (.lstore 9, 2) := by decide +kernel
theorem dX9_digit_119 : decode cX9_digit 119 = .ok (.lload 11, 2) := by decide +kernel
theorem dX9_digit_121 : decode cX9_digit 121 = .ok (.lload_n 3, 1) := by decide +kernel
theorem dX9_digit_122 : decode cX9_digit 122 = .ok (.ladd, 1) := by decide +kernel
theorem dX9_digit_123 : decode cX9_digit 123 = .ok (.lstore 11, 2) := by decide +kernel
theorem dX9_digit_125 : decode cX9_digit 125 = .ok (.goto (-57), 3) := by decide +kernel
theorem dX9_digit_128 : decode cX9_digit 128 = .ok (.lconst 0, 1) := by decide +kernel
theorem dX9_digit_129 : decode cX9_digit 129 = .ok (.lstore 13, 2) := by decide +kernel
theorem dX9_digit_131 : decode cX9_digit 131 = .ok (.iconst 0, 1) := by decide +kernel
theorem dX9_digit_132 : decode cX9_digit 132 = .ok (.istore 15, 2) := by decide +kernel
theorem dX9_digit_134 : decode cX9_digit 134 = .ok (.iload 15, 2) := by decide +kernel
theorem dX9_digit_136 : decode cX9_digit 136 = .ok (.iload_n 2, 1) := by decide +kernel
theorem dX9_digit_137 : decode cX9_digit 137 = .ok (.if_icmp .gt 107, 3) := by decide +kernel
theorem dX9_digit_140 : decode cX9_digit 140 = .ok (.iload 15, 2) := by decide +kernel
theorem dX9_digit_142 : decode cX9_digit 142 = .ok (.iload_n 2, 1) := by decide +kernel
theorem dX9_digit_143 : decode cX9_digit 143 = .ok (.if_icmp .ge 21, 3) := by decide +kernel
theorem dX9_digit_146 : decode cX9_digit 146 = .ok (.lload 9, 2) := by decide +kernel
theorem dX9_digit_148 : decode cX9_digit 148 = .ok (.aload_n 0, 1) := by decide +kernel
theorem dX9_digit_149 : decode cX9_digit 149 = .ok (.getfield 41, 3) := by decide +kernel
theorem dX9_digit_152 : decode cX9_digit 152 = .ok (.sipush 6000, 3) := by decide +kernel
theorem dX9_digit_155 : decode cX9_digit 155 = .ok (.iload 15, 2) := by decide +kernel
theorem dX9_digit_157 : decode cX9_digit 157 = .ok (.iadd, 1) := by decide +kernel
theorem dX9_digit_158 : decode cX9_digit 158 = .ok (.iaload, 1) := by decide +kernel
theorem dX9_digit_159 : decode cX9_digit 159 = .ok (.i2l, 1) := by decide +kernel
theorem dX9_digit_160 : decode cX9_digit 160 = .ok (.lmul, 1) := by decide +kernel
theorem dX9_digit_161 : decode cX9_digit 161 = .ok (.goto 4, 3) := by decide +kernel
theorem dX9_digit_164 : decode cX9_digit 164 = .ok (.lconst 0, 1) := by decide +kernel
theorem dX9_digit_165 : decode cX9_digit 165 = .ok (.lload 13, 2) := by decide +kernel
theorem dX9_digit_167 : decode cX9_digit 167 = .ok (.ladd, 1) := by decide +kernel
theorem dX9_digit_168 : decode cX9_digit 168 = .ok (.lstore 16, 2) := by decide +kernel
theorem dX9_digit_170 : decode cX9_digit 170 = .ok (.aload_n 0, 1) := by decide +kernel
theorem dX9_digit_171 : decode cX9_digit 171 = .ok (.getfield 41, 3) := by decide +kernel
theorem dX9_digit_174 : decode cX9_digit 174 = .ok (.iload_n 1, 1) := by decide +kernel
theorem dX9_digit_175 : decode cX9_digit 175 = .ok (.iload 15, 2) := by decide +kernel
theorem dX9_digit_177 : decode cX9_digit 177 = .ok (.iadd, 1) := by decide +kernel
theorem dX9_digit_178 : decode cX9_digit 178 = .ok (.iaload, 1) := by decide +kernel
theorem dX9_digit_179 : decode cX9_digit 179 = .ok (.i2l, 1) := by decide +kernel
theorem dX9_digit_180 : decode cX9_digit 180 = .ok (.lload 16, 2) := by decide +kernel
theorem dX9_digit_182 : decode cX9_digit 182 = .ok (.ldc2_w 100, 3) := by decide +kernel
theorem dX9_digit_185 : decode cX9_digit 185 = .ok (.lrem, 1) := by decide +kernel
theorem dX9_digit_186 : decode cX9_digit 186 = .ok (.lsub, 1) := by decide +kernel
theorem dX9_digit_187 : decode cX9_digit 187 = .ok (.lstore 18, 2) := by decide +kernel
theorem dX9_digit_189 : decode cX9_digit 189 = .ok (.lload 16, 2) := by decide +kernel
theorem dX9_digit_191 : decode cX9_digit 191 = .ok (.ldc2_w 100, 3) := by decide +kernel
theorem dX9_digit_194 : decode cX9_digit 194 = .ok (.ldiv, 1) := by decide +kernel
theorem dX9_digit_195 : decode cX9_digit 195 = .ok (.lload 18, 2) := by decide +kernel
theorem dX9_digit_197 : decode cX9_digit 197 = .ok (.lconst 0, 1) := by decide +kernel
theorem dX9_digit_198 : decode cX9_digit 198 = .ok (.lcmp, 1) := by decide +kernel
theorem dX9_digit_199 : decode cX9_digit 199 = .ok (.ifCond .ge 7, 3) := by decide +kernel
theorem dX9_digit_202 : decode cX9_digit 202 = .ok (.lconst 1, 1) := by decide +kernel
theorem dX9_digit_203 : decode cX9_digit 203 = .ok (.goto 4, 3) := by decide +kernel
theorem dX9_digit_206 : decode cX9_digit 206 = .ok (.lconst 0, 1) := by decide +kernel
theorem dX9_digit_207 : decode cX9_digit 207 = .ok (.ladd, 1) := by decide +kernel
theorem dX9_digit_208 : decode cX9_digit 208 = .ok (.lstore 13, 2) := by decide +kernel
theorem dX9_digit_210 : decode cX9_digit 210 = .ok (.aload_n 0, 1) := by decide +kernel
theorem dX9_digit_211 : decode cX9_digit 211 = .ok (.getfield 41, 3) := by decide +kernel
theorem dX9_digit_214 : decode cX9_digit 214 = .ok (.iload_n 1, 1) := by decide +kernel
theorem dX9_digit_215 : decode cX9_digit 215 = .ok (.iload 15, 2) := by decide +kernel
theorem dX9_digit_217 : decode cX9_digit 217 = .ok (.iadd, 1) := by decide +kernel
theorem dX9_digit_218 : decode cX9_digit 218 = .ok (.lload 18, 2) := by decide +kernel
theorem dX9_digit_220 : decode cX9_digit 220 = .ok (.lconst 0, 1) := by decide +kernel
theorem dX9_digit_221 : decode cX9_digit 221 = .ok (.lcmp, 1) := by decide +kernel
theorem dX9_digit_222 : decode cX9_digit 222 = .ok (.ifCond .ge 12, 3) := by decide +kernel
theorem dX9_digit_225 : decode cX9_digit 225 = .ok (.lload 18, 2) := by decide +kernel
theorem dX9_digit_227 : decode cX9_digit 227 = .ok (.ldc2_w 100, 3) := by decide +kernel
theorem dX9_digit_230 : decode cX9_digit 230 = .ok (.ladd, 1) := by decide +kernel
theorem dX9_digit_231 : decode cX9_digit 231 = .ok (.goto 5, 3) := by decide +kernel
theorem dX9_digit_234 : decode cX9_digit 234 = .ok (.lload 18, 2) := by decide +kernel
theorem dX9_digit_236 : decode cX9_digit 236 = .ok (.l2i, 1) := by decide +kernel
theorem dX9_digit_237 : decode cX9_digit 237 = .ok (.iastore, 1) := by decide +kernel
theorem dX9_digit_238 : decode cX9_digit 238 = .ok (.iinc 15 1, 3) := by decide +kernel
theorem dX9_digit_241 : decode cX9_digit 241 = .ok (.goto (-107), 3) := by decide +kernel
theorem dX9_digit_244 : decode cX9_digit 244 = .ok (.lload 13, 2) := by decide +kernel
theorem dX9_digit_246 : decode cX9_digit 246 = .ok (.lconst 0, 1) := by decide +kernel
theorem dX9_digit_247 : decode cX9_digit 247 = .ok (.lcmp, 1) := by decide +kernel
theorem dX9_digit_248 : decode cX9_digit 248 = .ok (.ifCond .ne 6, 3) := by decide +kernel
theorem dX9_digit_251 : decode cX9_digit 251 = .ok (.lload 9, 2) := by decide +kernel
theorem dX9_digit_253 : decode cX9_digit 253 = .ok (.lreturn, 1) := by decide +kernel
theorem dX9_digit_254 : decode cX9_digit 254 = .ok (.iconst 0, 1) := by decide +kernel
theorem dX9_digit_255 : decode cX9_digit 255 = .ok (.istore 15, 2) := by decide +kernel
theorem dX9_digit_257 : decode cX9_digit 257 = .ok (.iconst 0, 1) := by decide +kernel
theorem dX9_digit_258 : decode cX9_digit 258 = .ok (.istore 16, 2) := by decide +kernel
theorem dX9_digit_260 : decode cX9_digit 260 = .ok (.iload 16, 2) := by decide +kernel
theorem dX9_digit_262 : decode cX9_digit 262 = .ok (.iload_n 2, 1) := by decide +kernel
theorem dX9_digit_263 : decode cX9_digit 263 = .ok (.if_icmp .gt 76, 3) := by decide +kernel
theorem dX9_digit_266 : decode cX9_digit 266 = .ok (.aload_n 0, 1) := by decide +kernel
theorem dX9_digit_267 : decode cX9_digit 267 = .ok (.getfield 41, 3) := by decide +kernel
theorem dX9_digit_270 : decode cX9_digit 270 = .ok (.iload_n 1, 1) := by decide +kernel
theorem dX9_digit_271 : decode cX9_digit 271 = .ok (.iload 16, 2) := by decide +kernel
theorem dX9_digit_273 : decode cX9_digit 273 = .ok (.iadd, 1) := by decide +kernel
theorem dX9_digit_274 : decode cX9_digit 274 = .ok (.iaload, 1) := by decide +kernel
theorem dX9_digit_275 : decode cX9_digit 275 = .ok (.iload 15, 2) := by decide +kernel
theorem dX9_digit_277 : decode cX9_digit 277 = .ok (.iadd, 1) := by decide +kernel
theorem dX9_digit_278 : decode cX9_digit 278 = .ok (.iload 16, 2) := by decide +kernel
theorem dX9_digit_280 : decode cX9_digit 280 = .ok (.iload_n 2, 1) := by decide +kernel
theorem dX9_digit_281 : decode cX9_digit 281 = .ok (.if_icmp .ge 17, 3) := by decide +kernel
theorem dX9_digit_284 : decode cX9_digit 284 = .ok (.aload_n 0, 1) := by decide +kernel
theorem dX9_digit_285 : decode cX9_digit 285 = .ok (.getfield 41, 3) := by decide +kernel
theorem dX9_digit_288 : decode cX9_digit 288 = .ok (.sipush 6000, 3) := by decide +kernel
theorem dX9_digit_291 : decode cX9_digit 291 = .ok (.iload 16, 2) := by decide +kernel
theorem dX9_digit_293 : decode cX9_digit 293 = .ok (.iadd, 1) := by decide +kernel
theorem dX9_digit_294 : decode cX9_digit 294 = .ok (.iaload, 1) := by decide +kernel
theorem dX9_digit_295 : decode cX9_digit 295 = .ok (.goto 4, 3) := by decide +kernel
theorem dX9_digit_298 : decode cX9_digit 298 = .ok (.iconst 0, 1) := by decide +kernel
theorem dX9_digit_299 : decode cX9_digit 299 = .ok (.iadd, 1) := by decide +kernel
theorem dX9_digit_300 : decode cX9_digit 300 = .ok (.istore 17, 2) := by decide +kernel
theorem dX9_digit_302 : decode cX9_digit 302 = .ok (.iload 17, 2) := by decide +kernel
theorem dX9_digit_304 : decode cX9_digit 304 = .ok (.ldc 102, 2) := by decide +kernel
theorem dX9_digit_306 : decode cX9_digit 306 = .ok (.if_icmp .lt 7, 3) := by decide +kernel
theorem dX9_digit_309 : decode cX9_digit 309 = .ok (.iconst 1, 1) := by decide +kernel
theorem dX9_digit_310 : decode cX9_digit 310 = .ok (.goto 4, 3) := by decide +kernel
theorem dX9_digit_313 : decode cX9_digit 313 = .ok (.iconst 0, 1) := by decide +kernel
theorem dX9_digit_314 : decode cX9_digit 314 = .ok (.istore 15, 2) := by decide +kernel
theorem dX9_digit_316 : decode cX9_digit 316 = .ok (.aload_n 0, 1) := by decide +kernel
theorem dX9_digit_317 : decode cX9_digit 317 = .ok (.getfield 41, 3) := by decide +kernel
theorem dX9_digit_320 : decode cX9_digit 320 = .ok (.iload_n 1, 1) := by decide +kernel
theorem dX9_digit_321 : decode cX9_digit 321 = .ok (.iload 16, 2) := by decide +kernel
theorem dX9_digit_323 : decode cX9_digit 323 = .ok (.iadd, 1) := by decide +kernel
theorem dX9_digit_324 : decode cX9_digit 324 = .ok (.iload 17, 2) := by decide +kernel
theorem dX9_digit_326 : decode cX9_digit 326 = .ok (.iload 15, 2) := by decide +kernel
theorem dX9_digit_328 : decode cX9_digit 328 = .ok (.ldc 102, 2) := by decide +kernel
theorem dX9_digit_330 : decode cX9_digit 330 = .ok (.imul, 1) := by decide +kernel
theorem dX9_digit_331 : decode cX9_digit 331 = .ok (.isub, 1) := by decide +kernel
theorem dX9_digit_332 : decode cX9_digit 332 = .ok (.iastore, 1) := by decide +kernel
theorem dX9_digit_333 : decode cX9_digit 333 = .ok (.iinc 16 1, 3) := by decide +kernel
theorem dX9_digit_336 : decode cX9_digit 336 = .ok (.goto (-76), 3) := by decide +kernel
theorem dX9_digit_339 : decode cX9_digit 339 = .ok (.lload 9, 2) := by decide +kernel
