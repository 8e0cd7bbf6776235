theorem dX9_heightAt_189 : decode cX9_heightAt 189 = .ok (.aload_n 0, 1) := by decide +kernel
theorem dX9_heightAt_190 : decode cX9_heightAt 190 = .ok (.aload_n 0, 1) := by decide +kernel
theorem dX9_heightAt_191 : decode cX9_heightAt 191 = .ok (.iload_n 1, 1) := by decide +kernel
theorem dX9_heightAt_192 : decode cX9_heightAt 192 = .ok (.iconst 1, 1) := by decide +kernel
theorem dX9_heightAt_193 : decode cX9_heightAt 193 = .ok (.isub, 1) := by decide +kernel
theorem dX9_heightAt_194 : decode cX9_heightAt 194 = .ok (.iconst 4, 1) := by decide +kernel
theorem dX9_heightAt_195 : decode cX9_heightAt 195 = .ok (.invokevirtual 144, 3) := by decide +kernel
theorem dX9_heightAt_198 : decode cX9_heightAt 198 = .ok (.ldc2_w 176, 3) := by decide +kernel
theorem dX9_heightAt_201 : decode cX9_heightAt 201 = .ok (.invokevirtual 149, 3) := by decide +kernel
theorem dX9_heightAt_204 : decode cX9_heightAt 204 = .ok (.aload_n 0, 1) := by decide +kernel
theorem dX9_heightAt_205 : decode cX9_heightAt 205 = .ok (.dup, 1) := by decide +kernel
theorem dX9_heightAt_206 : decode cX9_heightAt 206 = .ok (.getfield 139, 3) := by decide +kernel
theorem dX9_heightAt_209 : decode cX9_heightAt 209 = .ok (.iconst 1, 1) := by decide +kernel
theorem dX9_heightAt_210 : decode cX9_heightAt 210 = .ok (.iadd, 1) := by decide +kernel
theorem dX9_heightAt_211 : decode cX9_heightAt 211 = .ok (.putfield 139, 3) := by decide +kernel
theorem dX9_heightAt_214 : decode cX9_heightAt 214 = .ok (.return_, 1) := by decide +kernel
theorem dX9_turningAt_0 : decode cX9_turningAt 0 = .ok (.iload_n 1, 1) := by decide +kernel
theorem dX9_turningAt_1 : decode cX9_turningAt 1 = .ok (.ifCond .le 20, 3) := by decide +kernel
theorem dX9_turningAt_4 : decode cX9_turningAt 4 = .ok (.aload_n 0, 1) := by decide +kernel
theorem dX9_turningAt_5 : decode cX9_turningAt 5 = .ok (.getfield 19, 3) := by decide +kernel
theorem dX9_turningAt_8 : decode cX9_turningAt 8 = .ok (.iconst 2, 1) := by decide +kernel
theorem dX9_turningAt_9 : decode cX9_turningAt 9 = .ok (.iload_n 1, 1) := by decide +kernel
theorem dX9_turningAt_10 : decode cX9_turningAt 10 = .ok (.imul, 1) := by decide +kernel
theorem dX9_turningAt_11 : decode cX9_turningAt 11 = .ok (.iconst 1, 1) := by decide +kernel
theorem dX9_turningAt_12 : decode cX9_turningAt 12 = .ok (.isub, 1) := by decide +kernel
theorem dX9_turningAt_13 : decode cX9_turningAt 13 = .ok (.baload, 1) := by decide +kernel
theorem dX9_turningAt_14 : decode cX9_turningAt 14 = .ok (.ifCond .ne 7, 3) := by decide +kernel
theorem dX9_turningAt_17 : decode cX9_turningAt 17 = .ok (.iconst 1, 1) := by decide +kernel
theorem dX9_turningAt_18 : decode cX9_turningAt 18 = .ok (.goto 4, 3) := by decide +kernel
theorem dX9_turningAt_21 : decode cX9_turningAt 21 = .ok (.iconst 0, 1) := by decide +kernel
theorem dX9_turningAt_22 : decode cX9_turningAt 22 = .ok (.istore_n 2, 1) := by decide +kernel
theorem dX9_turningAt_23 : decode cX9_turningAt 23 = .ok (.iload_n 1, 1) := by decide +kernel
theorem dX9_turningAt_24 : decode cX9_turningAt 24 = .ok (.aload_n 0, 1) := by decide +kernel
theorem dX9_turningAt_25 : decode cX9_turningAt 25 = .ok (.getfield 93, 3) := by decide +kernel
theorem dX9_turningAt_28 : decode cX9_turningAt 28 = .ok (.if_icmp .ge 18, 3) := by decide +kernel
theorem dX9_turningAt_31 : decode cX9_turningAt 31 = .ok (.aload_n 0, 1) := by decide +kernel
theorem dX9_turningAt_32 : decode cX9_turningAt 32 = .ok (.getfield 19, 3) := by decide +kernel
theorem dX9_turningAt_35 : decode cX9_turningAt 35 = .ok (.iconst 2, 1) := by decide +kernel
theorem dX9_turningAt_36 : decode cX9_turningAt 36 = .ok (.iload_n 1, 1) := by decide +kernel
theorem dX9_turningAt_37 : decode cX9_turningAt 37 = .ok (.imul, 1) := by decide +kernel
theorem dX9_turningAt_38 : decode cX9_turningAt 38 = .ok (.baload, 1) := by decide +kernel
theorem dX9_turningAt_39 : decode cX9_turningAt 39 = .ok (.ifCond .ne 7, 3) := by decide +kernel
theorem dX9_turningAt_42 : decode cX9_turningAt 42 = .ok (.iconst 1, 1) := by decide +kernel
theorem dX9_turningAt_43 : decode cX9_turningAt 43 = .ok (.goto 4, 3) := by decide +kernel
theorem dX9_turningAt_46 : decode cX9_turningAt 46 = .ok (.iconst 0, 1) := by decide +kernel
theorem dX9_turningAt_47 : decode cX9_turningAt 47 = .ok (.istore_n 3, 1) := by decide +kernel
theorem dX9_turningAt_48 : decode cX9_turningAt 48 = .ok (.iload_n 1, 1) := by decide +kernel
theorem dX9_turningAt_49 : decode cX9_turningAt 49 = .ok (.ifCond .le 34, 3) := by decide +kernel
theorem dX9_turningAt_52 : decode cX9_turningAt 52 = .ok (.aload_n 0, 1) := by decide +kernel
theorem dX9_turningAt_53 : decode cX9_turningAt 53 = .ok (.getfield 19, 3) := by decide +kernel
theorem dX9_turningAt_56 : decode cX9_turningAt 56 = .ok (.iconst 2, 1) := by decide +kernel
theorem dX9_turningAt_57 : decode cX9_turningAt 57 = .ok (.iload_n 1, 1) := by decide +kernel
theorem dX9_turningAt_58 : decode cX9_turningAt 58 = .ok (.imul, 1) := by decide +kernel
theorem dX9_turningAt_59 : decode cX9_turningAt 59 = .ok (.iconst 1, 1) := by decide +kernel
theorem dX9_turningAt_60 : decode cX9_turningAt 60 = .ok (.isub, 1) := by decide +kernel
theorem dX9_turningAt_61 : decode cX9_turningAt 61 = .ok (.baload, 1) := by decide +kernel
theorem dX9_turningAt_62 : decode cX9_turningAt 62 = .ok (.ifCond .eq 21, 3) := by decide +kernel
theorem dX9_turningAt_65 : decode cX9_turningAt 65 = .ok (.aload_n 0, 1) := by decide +kernel
theorem dX9_turningAt_66 : decode cX9_turningAt 66 = .ok (.iload_n 1, 1) := by decide +kernel
theorem dX9_turningAt_67 : decode cX9_turningAt 67 = .ok (.iconst 1, 1) := by decide +kernel
theorem dX9_turningAt_68 : decode cX9_turningAt 68 = .ok (.isub, 1) := by decide +kernel
theorem dX9_turningAt_69 : decode cX9_turningAt 69 = .ok (.lconst 1, 1) := by decide +kernel
theorem dX9_turningAt_70 : decode cX9_turningAt 70 = .ok (.invokevirtual 178, 3) := by decide +kernel
theorem dX9_turningAt_73 : decode cX9_turningAt 73 = .ok (.aload_n 0, 1) := by decide +kernel
theorem dX9_turningAt_74 : decode cX9_turningAt 74 = .ok (.dup, 1) := by decide +kernel
theorem dX9_turningAt_75 : decode cX9_turningAt 75 = .ok (.getfield 139, 3) := by decide +kernel
theorem dX9_turningAt_78 : decode cX9_turningAt 78 = .ok (.iconst 1, 1) := by decide +kernel
theorem dX9_turningAt_79 : decode cX9_turningAt 79 = .ok (.iadd, 1) := by decide +kernel
theorem dX9_turningAt_80 : decode cX9_turningAt 80 = .ok (.putfield 139, 3) := by decide +kernel
theorem dX9_turningAt_83 : decode cX9_turningAt 83 = .ok (.iload_n 1, 1) := by decide +kernel
theorem dX9_turningAt_84 : decode cX9_turningAt 84 = .ok (.aload_n 0, 1) := by decide +kernel
theorem dX9_turningAt_85 : decode cX9_turningAt 85 = .ok (.getfield 93, 3) := by decide +kernel
theorem dX9_turningAt_88 : decode cX9_turningAt 88 = .ok (.if_icmp .ge 34, 3) := by decide +kernel
theorem dX9_turningAt_91 : decode cX9_turningAt 91 = .ok (.aload_n 0, 1) := by decide +kernel
theorem dX9_turningAt_92 : decode cX9_turningAt 92 = .ok (.getfield 19, 3) := by decide +kernel
theorem dX9_turningAt_95 : decode cX9_turningAt 95 = .ok (.iconst 2, 1) := by decide +kernel
theorem dX9_turningAt_96 : decode cX9_turningAt 96 = .ok (.iload_n 1, 1) := by decide +kernel
theorem dX9_turningAt_97 : decode cX9_turningAt 97 = .ok (.imul, 1) := by decide +kernel
theorem dX9_turningAt_98 : decode cX9_turningAt 98 = .ok (.baload, 1) := by decide +kernel
theorem dX9_turningAt_99 : decode cX9_turningAt 99 = .ok (.ifCond .eq 23, 3) := by decide +kernel
theorem dX9_turningAt_102 : decode cX9_turningAt 102 = .ok (.aload_n 0, 1) := by decide +kernel
theorem dX9_turningAt_103 : decode cX9_turningAt 103 = .ok (.iconst 4, 1) := by decide +kernel
theorem dX9_turningAt_104 : decode cX9_turningAt 104 = .ok (.iload_n 1, 1) := by decide +kernel
theorem dX9_turningAt_105 : decode cX9_turningAt 105 = .ok (.imul, 1) := by decide +kernel
theorem dX9_turningAt_106 : decode cX9_turningAt 106 = .ok (.iconst 2, 1) := by decide +kernel
theorem dX9_turningAt_107 : decode cX9_turningAt 107 = .ok (.iadd, 1) := by decide +kernel
theorem dX9_turningAt_108 : decode cX9_turningAt 108 = .ok (.lconst 1, 1) := by decide +kernel
theorem dX9_turningAt_109 : decode cX9_turningAt 109 = .ok (.invokevirtual 149, 3) := by decide +kernel
theorem dX9_turningAt_112 : decode cX9_turningAt 112 = .ok (.aload_n 0, 1) := by decide +kernel
theorem dX9_turningAt_113 : decode cX9_turningAt 113 = .ok (.dup, 1) := by decide +kernel
theorem dX9_turningAt_114 : decode cX9_turningAt 114 = .ok (.getfield 139, 3) := by decide +kernel
theorem dX9_turningAt_117 : decode cX9_turningAt 117 = .ok (.iconst 1, 1) := by decide +kernel
theorem dX9_turningAt_118 : decode cX9_turningAt 118 = .ok (.iadd, 1) := by decide +kernel
theorem dX9_turningAt_119 : decode cX9_turningAt 119 = .ok (.putfield 139, 3) := by decide +kernel
theorem dX9_turningAt_122 : decode cX9_turningAt 122 = .ok (.iload_n 2, 1) := by decide +kernel
theorem dX9_turningAt_123 : decode cX9_turningAt 123 = .ok (.ifCond .ne 8, 3) := by decide +kernel
theorem dX9_turningAt_126 : decode cX9_turningAt 126 = .ok (.iload_n 3, 1) := by decide +kernel
theorem dX9_turningAt_127 : decode cX9_turningAt 127 = .ok (.ifCond .ne 4, 3) := by decide +kernel
theorem dX9_turningAt_130 : decode cX9_turningAt 130 = .ok (.return_, 1) := by decide +kernel
theorem dX9_turningAt_131 : decode cX9_turningAt 131 = .ok (.aload_n 0, 1) := by decide +kernel
theorem dX9_turningAt_132 : decode cX9_turningAt 132 = .ok (.getfield 26, 3) := by decide +kernel
theorem dX9_turningAt_135 : decode cX9_turningAt 135 = .ok (.iload_n 1, 1) := by decide +kernel
theorem dX9_turningAt_136 : decode cX9_turningAt 136 = .ok (.baload, 1) := by decide +kernel
theorem dX9_turningAt_137 : decode cX9_turningAt 137 = .ok (.ifCond .eq 49, 3) := by decide +kernel
theorem dX9_turningAt_140 : decode cX9_turningAt 140 = .ok (.iload_n 2, 1) := by decide +kernel
theorem dX9_turningAt_141 : decode cX9_turningAt 141 = .ok (.ifCond .eq 20, 3) := by decide +kernel
theorem dX9_turningAt_144 : decode cX9_turningAt 144 = .ok (.aload_n 0, 1) := by decide +kernel
theorem dX9_turningAt_145 : decode cX9_turningAt 145 = .ok (.iload_n 1, 1) := by decide +kernel
theorem dX9_turningAt_146 : decode cX9_turningAt 146 = .ok (.iconst 1, 1) := by decide +kernel
theorem dX9_turningAt_147 : decode cX9_turningAt 147 = .ok (.isub, 1) := by decide +kernel
theorem dX9_turningAt_148 : decode cX9_turningAt 148 = .ok (.invokevirtual 181, 3) := by decide +kernel
theorem dX9_turningAt_151 : decode cX9_turningAt 151 = .ok (.aload_n 0, 1) := by decide +kernel
theorem dX9_turningAt_152 : decode cX9_turningAt 152 = .ok (.dup, 1) := by decide +kernel
theorem dX9_turningAt_153 : decode cX9_turningAt 153 = .ok (.getfield 139, 3) := by decide +kernel
theorem dX9_turningAt_156 : decode cX9_turningAt 156 = .ok (.iconst 1, 1) := by decide +kernel
theorem dX9_turningAt_157 : decode cX9_turningAt 157 = .ok (.iadd, 1) := by decide +kernel
theorem dX9_turningAt_158 : decode cX9_turningAt 158 = .ok (.putfield 139, 3) := by decide +kernel
theorem dX9_turningAt_161 : decode cX9_turningAt 161 = .ok (.iload_n 3, 1) := by decide +kernel
theorem dX9_turningAt_162 : decode cX9_turningAt 162 = .ok (.ifCond .eq 23, 3) := by decide +kernel
theorem dX9_turningAt_165 : decode cX9_turningAt 165 = .ok (.aload_n 0, 1) := by decide +kernel
theorem dX9_turningAt_166 : decode cX9_turningAt 166 = .ok (.iconst 4, 1) := by decide +kernel
theorem dX9_turningAt_167 : decode cX9_turningAt 167 = .ok (.iload_n 1, 1) := by decide +kernel
theorem dX9_turningAt_168 : decode cX9_turningAt 168 = .ok (.imul, 1) := by decide +kernel
theorem dX9_turningAt_169 : decode cX9_turningAt 169 = .ok (.iconst 1, 1) := by decide +kernel
theorem dX9_turningAt_170 : decode cX9_turningAt 170 = .ok (.iadd, 1) := by decide +kernel
theorem dX9_turningAt_171 : decode cX9_turningAt 171 = .ok (.lconst 1, 1) := by decide +kernel
theorem dX9_turningAt_172 : decode cX9_turningAt 172 = .ok (.invokevirtual 149, 3) := by decide +kernel
theorem dX9_turningAt_175 : decode cX9_turningAt 175 = .ok (.aload_n 0, 1) := by decide +kernel
theorem dX9_turningAt_176 : decode cX9_turningAt 176 = .ok (.dup, 1) := by decide +kernel
theorem dX9_turningAt_177 : decode cX9_turningAt 177 = .ok (.getfield 139, 3) := by decide +kernel
theorem dX9_turningAt_180 : decode cX9_turningAt 180 = .ok (.iconst 1, 1) := by decide +kernel
theorem dX9_turningAt_181 : decode cX9_turningAt 181 = .ok (.iadd, 1) := by decide +kernel
theorem dX9_turningAt_182 : decode cX9_turningAt 182 = .ok (.putfield 139, 3) := by decide +kernel
theorem dX9_turningAt_185 : decode cX9_turningAt 185 = .ok (.return_, 1) := by decide +kernel
theorem dX9_turningAt_186 : decode cX9_turningAt 186 = .ok (.iload_n 2, 1) := by decide +kernel
theorem dX9_turningAt_187 : decode cX9_turningAt 187 = .ok (.ifCond .eq 46, 3) := by decide +kernel
theorem dX9_turningAt_190 : decode cX9_turningAt 190 = .ok (.iload_n 3, 1) := by decide +kernel
theorem dX9_turningAt_191 : decode cX9_turningAt 191 = .ok (.ifCond .eq 42, 3) := by decide +kernel
theorem dX9_turningAt_194 : decode cX9_turningAt 194 = .ok (.aload_n 0, 1) := by decide +kernel
theorem dX9_turningAt_195 : decode cX9_turningAt 195 = .ok (.iload_n 1, 1) := by decide +kernel
theorem dX9_turningAt_196 : decode cX9_turningAt 196 = .ok (.iconst 1, 1) := by decide +kernel
theorem dX9_turningAt_197 : decode cX9_turningAt 197 = .ok (.isub, 1) := by decide +kernel
theorem dX9_turningAt_198 : decode cX9_turningAt 198 = .ok (.invokevirtual 181, 3) := by decide +kernel
theorem dX9_turningAt_201 : decode cX9_turningAt 201 = .ok (.aload_n 0, 1) := by decide +kernel
theorem dX9_turningAt_202 : decode cX9_turningAt 202 = .ok (.iconst 4, 1) := by decide +kernel
theorem dX9_turningAt_203 : decode cX9_turningAt 203 = .ok (.iload_n 1, 1) := by decide +kernel
theorem dX9_turningAt_204 : decode cX9_turningAt 204 = .ok (.imul, 1) := by decide +kernel
theorem dX9_turningAt_205 : decode cX9_turningAt 205 = .ok (.iconst 1, 1) := by decide +kernel
theorem dX9_turningAt_206 : decode cX9_turningAt 206 = .ok (.iadd, 1) := by decide +kernel
theorem dX9_turningAt_207 : decode cX9_turningAt 207 = .ok (.ldc2_w 162, 3) := by decide +kernel
theorem dX9_turningAt_210 : decode cX9_turningAt 210 = .ok (.aload_n 0, 1) := by decide +kernel
theorem dX9_turningAt_211 : decode cX9_turningAt 211 = .ok (.getfield 16, 3) := by decide +kernel
theorem dX9_turningAt_214 : decode cX9_turningAt 214 = .ok (.iload_n 1, 1) := by decide +kernel
theorem dX9_turningAt_215 : decode cX9_turningAt 215 = .ok (.iconst 1, 1) := by decide +kernel
theorem dX9_turningAt_216 : decode cX9_turningAt 216 = .ok (.isub, 1) := by decide +kernel
theorem dX9_turningAt_217 : decode cX9_turningAt 217 = .ok (.iaload, 1) := by decide +kernel
theorem dX9_turningAt_218 : decode cX9_turningAt 218 = .ok (.i2l, 1) := by decide +kernel
theorem dX9_turningAt_219 : decode cX9_turningAt 219 = .ok (.lmul, 1) := by decide +kernel
theorem dX9_turningAt_220 : decode cX9_turningAt 220 = .ok (.invokevirtual 149, 3) := by decide +kernel
theorem dX9_turningAt_223 : decode cX9_turningAt 223 = .ok (.aload_n 0, 1) := by decide +kernel
theorem dX9_turningAt_224 : decode cX9_turningAt 224 = .ok (.dup, 1) := by decide +kernel
theorem dX9_turningAt_225 : decode cX9_turningAt 225 = .ok (.getfield 139, 3) := by decide +kernel
theorem dX9_turningAt_228 : decode cX9_turningAt 228 = .ok (.iconst 1, 1) := by decide +kernel
theorem dX9_turningAt_229 : decode cX9_turningAt 229 = .ok (.iadd, 1) := by decide +kernel
theorem dX9_turningAt_230 : decode cX9_turningAt 230 = .ok (.putfield 139, 3) := by decide +kernel
theorem dX9_turningAt_233 : decode cX9_turningAt 233 = .ok (.iload_n 2, 1) := by decide +kernel
theorem dX9_turningAt_234 : decode cX9_turningAt 234 = .ok (.ifCond .eq 11, 3) := by decide +kernel
theorem dX9_turningAt_237 : decode cX9_turningAt 237 = .ok (.aload_n 0, 1) := by decide +kernel
theorem dX9_turningAt_238 : decode cX9_turningAt 238 = .ok (.iload_n 1, 1) := by decide +kernel
theorem dX9_turningAt_239 : decode cX9_turningAt 239 = .ok (.iconst 1, 1) := by decide +kernel
theorem dX9_turningAt_240 : decode cX9_turningAt 240 = .ok (.isub, 1) := by decide +kernel
theorem dX9_turningAt_241 : decode cX9_turningAt 241 = .ok (.lconst 1, 1) := by decide +kernel
theorem dX9_turningAt_242 : decode cX9_turningAt 242 = .ok (.invokevirtual 178, 3) := by decide +kernel
theorem dX9_turningAt_245 : decode cX9_turningAt 245 = .ok (.iload_n 3, 1) := by decide +kernel
theorem dX9_turningAt_246 : decode cX9_turningAt 246 = .ok (.ifCond .eq 15, 3) := by decide +kernel
theorem dX9_turningAt_249 : decode cX9_turningAt 249 = .ok (.aload_n 0, 1) := by decide +kernel
theorem dX9_turningAt_250 : decode cX9_turningAt 250 = .ok (.iconst 4, 1) := by decide +kernel
theorem dX9_turningAt_251 : decode cX9_turningAt 251 = .ok (.iload_n 1, 1) := by decide +kernel
theorem dX9_turningAt_252 : decode cX9_turningAt 252 = .ok (.imul, 1) := by decide +kernel
theorem dX9_turningAt_253 : decode cX9_turningAt 253 = .ok (.iconst 2, 1) := by decide +kernel
theorem dX9_turningAt_254 : decode cX9_turningAt 254 = .ok (.iadd, 1) := by decide +kernel
theorem dX9_turningAt_255 : decode cX9_turningAt 255 = .ok (.ldc2_w 184, 3) := by decide +kernel
theorem dX9_turningAt_258 : decode cX9_turningAt 258 = .ok (.invokevirtual 149, 3) := by decide +kernel
theorem dX9_turningAt_261 : decode cX9_turningAt 261 = .ok (.aload_n 0, 1) := by decide +kernel
theorem dX9_turningAt_262 : decode cX9_turningAt 262 = .ok (.dup, 1) := by decide +kernel
theorem dX9_turningAt_263 : decode cX9_turningAt 263 = .ok (.getfield 139, 3) := by decide +kernel
theorem dX9_turningAt_266 : decode cX9_turningAt 266 = .ok (.iconst 1, 1) := by decide +kernel
theorem dX9_turningAt_267 : decode cX9_turningAt 267 = .ok (.iadd, 1) := by decide +kernel
theorem dX9_turningAt_268 : decode cX9_turningAt 268 = .ok (.putfield 139, 3) := by decide +kernel
theorem dX9_turningAt_271 : decode cX9_turningAt 271 = .ok (.return_, 1) := by decide +kernel
theorem dX9_state_0 : decode cX9_state 0 = .ok (.iconst 0, 1) := by decide +kernel
theorem dX9_state_1 : decode cX9_state 1 = .ok (.istore_n 1, 1) := by decide +kernel
theorem dX9_state_2 : decode cX9_state 2 = .ok (.iload_n 1, 1) := by decide +kernel
theorem dX9_state_3 : decode cX9_state 3 = .ok (.sipush 336, 3) := by decide +kernel
theorem dX9_state_6 : decode cX9_state 6 = .ok (.if_icmp .ge 16, 3) := by decide +kernel
theorem dX9_state_9 : decode cX9_state 9 = .ok (.aload_n 0, 1) := by decide +kernel
theorem dX9_state_10 : decode cX9_state 10 = .ok (.getfield 59, 3) := by decide +kernel
theorem dX9_state_13 : decode cX9_state 13 = .ok (.iload_n 1, 1) := by decide +kernel
theorem dX9_state_14 : decode cX9_state 14 = .ok (.lconst 0, 1) := by decide +kernel
theorem dX9_state_15 : decode cX9_state 15 = .ok (.lastore, 1) := by decide +kernel
theorem dX9_state_16 : decode cX9_state 16 = .ok (.iinc 1 1, 3) := by decide +kernel
theorem dX9_state_19 : decode cX9_state 19 = .ok (.goto (-17), 3) := by decide +kernel
theorem dX9_state_22 : decode cX9_state 22 = .ok (.aload_n 0, 1) := by decide +kernel
theorem dX9_state_23 : decode cX9_state 23 = .ok (.iconst 0, 1) := by decide +kernel
theorem dX9_state_24 : decode cX9_state 24 = .ok (.putfield 139, 3) := by decide +kernel
theorem dX9_state_27 : decode cX9_state 27 = .ok (.iconst 0, 1) := by decide +kernel
theorem dX9_state_28 : decode cX9_state 28 = .ok (.istore_n 1, 1) := by decide +kernel
theorem dX9_state_29 : decode cX9_state 29 = .ok (.iload_n 1, 1) := by decide +kernel
theorem dX9_state_30 : decode cX9_state 30 = .ok (.aload_n 0, 1) := by decide +kernel
theorem dX9_state_31 : decode cX9_state 31 = .ok (.getfield 93, 3) := by decide +kernel
theorem dX9_state_34 : decode cX9_state 34 = .ok (.if_icmp .gt 19, 3) := by decide +kernel
theorem dX9_state_37 : decode cX9_state 37 = .ok (.aload_n 0, 1) := by decide +kernel
theorem dX9_state_38 : decode cX9_state 38 = .ok (.iload_n 1, 1) := by decide +kernel
theorem dX9_state_39 : decode cX9_state 39 = .ok (.invokevirtual 186, 3) := by decide +kernel
theorem dX9_state_42 : decode cX9_state 42 = .ok (.aload_n 0, 1) := by decide +kernel
theorem dX9_state_43 : decode cX9_state 43 = .ok (.iload_n 1, 1) := by decide +kernel
theorem dX9_state_44 : decode cX9_state 44 = .ok (.invokevirtual 189, 3) := by decide +kernel
theorem dX9_state_47 : decode cX9_state 47 = .ok (.iinc 1 1, 3) := by decide +kernel
theorem dX9_state_50 : decode cX9_state 50 = .ok (.goto (-21), 3) := by decide +kernel
theorem dX9_state_53 : decode cX9_state 53 = .ok (.iconst 0, 1) := by decide +kernel
theorem dX9_state_54 : decode cX9_state 54 = .ok (.istore_n 1, 1) := by decide +kernel
theorem dX9_state_55 : decode cX9_state 55 = .ok (.iload_n 1, 1) := by decide +kernel
theorem dX9_state_56 : decode cX9_state 56 = .ok (.sipush 336, 3) := by decide +kernel
theorem dX9_state_59 : decode cX9_state 59 = .ok (.if_icmp .ge 26, 3) := by decide +kernel
theorem dX9_state_62 : decode cX9_state 62 = .ok (.aload_n 0, 1) := by decide +kernel
theorem dX9_state_63 : decode cX9_state 63 = .ok (.iconst 0, 1) := by decide +kernel
theorem dX9_state_64 : decode cX9_state 64 = .ok (.aload_n 0, 1) := by decide +kernel
theorem dX9_state_65 : decode cX9_state 65 = .ok (.getfield 59, 3) := by decide +kernel
theorem dX9_state_68 : decode cX9_state 68 = .ok (.iload_n 1, 1) := by decide +kernel
theorem dX9_state_69 : decode cX9_state 69 = .ok (.laload, 1) := by decide +kernel
theorem dX9_state_70 : decode cX9_state 70 = .ok (.invokevirtual 121, 3) := by decide +kernel
theorem dX9_state_73 : decode cX9_state 73 = .ok (.aload_n 0, 1) := by decide +kernel
theorem dX9_state_74 : decode cX9_state 74 = .ok (.iconst 0, 1) := by decide +kernel
theorem dX9_state_75 : decode cX9_state 75 = .ok (.iload_n 1, 1) := by decide +kernel
theorem dX9_state_76 : decode cX9_state 76 = .ok (.invokevirtual 192, 3) := by decide +kernel
theorem dX9_state_79 : decode cX9_state 79 = .ok (.iinc 1 1, 3) := by decide +kernel
theorem dX9_state_82 : decode cX9_state 82 = .ok (.goto (-27), 3) := by decide +kernel
theorem dX9_state_85 : decode cX9_state 85 = .ok (.return_, 1) := by decide +kernel
theorem dX9_swap_0 : decode cX9_swap 0 = .ok (.iconst 0, 1) := by decide +kernel
theorem dX9_swap_1 : decode cX9_swap 1 = .ok (.istore_n 3, 1) := by decide +kernel
theorem dX9_swap_2 : decode cX9_swap 2 = .ok (.iload_n 3, 1) := by decide +kernel
theorem dX9_swap_3 : decode cX9_swap 3 = .ok (.bipush 28, 2) := by decide +kernel
theorem dX9_swap_5 : decode cX9_swap 5 = .ok (.if_icmp .ge 53, 3) := by decide +kernel
theorem dX9_swap_8 : decode cX9_swap 8 = .ok (.aload_n 0, 1) := by decide +kernel
theorem dX9_swap_9 : decode cX9_swap 9 = .ok (.bipush 28, 2) := by decide +kernel
theorem dX9_swap_11 : decode cX9_swap 11 = .ok (.iload_n 1, 1) := by decide +kernel
theorem dX9_swap_12 : decode cX9_swap 12 = .ok (.imul, 1) := by decide +kernel
theorem dX9_swap_13 : decode cX9_swap 13 = .ok (.iload_n 3, 1) := by decide +kernel
theorem dX9_swap_14 : decode cX9_swap 14 = .ok (.iadd, 1) := by decide +kernel
theorem dX9_swap_15 : decode cX9_swap 15 = .ok (.iconst 0, 1) := by decide +kernel
theorem dX9_swap_16 : decode cX9_swap 16 = .ok (.invokevirtual 195, 3) := by decide +kernel
theorem dX9_swap_19 : decode cX9_swap 19 = .ok (.aload_n 0, 1) := by decide +kernel
theorem dX9_swap_20 : decode cX9_swap 20 = .ok (.bipush 28, 2) := by decide +kernel
theorem dX9_swap_22 : decode cX9_swap 22 = .ok (.iload_n 2, 1) := by decide +kernel
theorem dX9_swap_23 : decode cX9_swap 23 = .ok (.imul, 1) := by decide +kernel
theorem dX9_swap_24 : decode cX9_swap 24 = .ok (.iload_n 3, 1) := by decide +kernel
theorem dX9_swap_25 : decode cX9_swap 25 = .ok (.iadd, 1) := by decide +kernel
theorem dX9_swap_26 : decode cX9_swap 26 = .ok (.iconst 1, 1) := by decide +kernel
theorem dX9_swap_27 : decode cX9_swap 27 = .ok (.invokevirtual 195, 3) := by decide +kernel
theorem dX9_swap_30 : decode cX9_swap 30 = .ok (.aload_n 0, 1) := by decide +kernel
theorem dX9_swap_31 : decode cX9_swap 31 = .ok (.iconst 0, 1) := by decide +kernel
theorem dX9_swap_32 : decode cX9_swap 32 = .ok (.bipush 28, 2) := by decide +kernel
theorem dX9_swap_34 : decode cX9_swap 34 = .ok (.iload_n 2, 1) := by decide +kernel
theorem dX9_swap_35 : decode cX9_swap 35 = .ok (.imul, 1) := by decide +kernel
theorem dX9_swap_36 : decode cX9_swap 36 = .ok (.iload_n 3, 1) := by decide +kernel
theorem dX9_swap_37 : decode cX9_swap 37 = .ok (.iadd, 1) := by decide +kernel
theorem dX9_swap_38 : decode cX9_swap 38 = .ok (.invokevirtual 192, 3) := by decide +kernel
theorem dX9_swap_41 : decode cX9_swap 41 = .ok (.aload_n 0, 1) := by decide +kernel
theorem dX9_swap_42 : decode cX9_swap 42 = .ok (.iconst 1, 1) := by decide +kernel
theorem dX9_swap_43 : decode cX9_swap 43 = .ok (.bipush 28, 2) := by decide +kernel
theorem dX9_swap_45 : decode cX9_swap 45 = .ok (.iload_n 1, 1) := by decide +kernel
theorem dX9_swap_46 : decode cX9_swap 46 = .ok (.imul, 1) := by decide +kernel
theorem dX9_swap_47 : decode cX9_swap 47 = .ok (.iload_n 3, 1) := by decide +kernel
theorem dX9_swap_48 : decode cX9_swap 48 = .ok (.iadd, 1) := by decide +kernel
theorem dX9_swap_49 : decode cX9_swap 49 = .ok (.invokevirtual 192, 3) := by decide +kernel
theorem dX9_swap_52 : decode cX9_swap 52 = .ok (.iinc 3 1, 3) := by decide +kernel
theorem dX9_swap_55 : decode cX9_swap 55 = .ok (.goto (-53), 3) := by decide +kernel
theorem dX9_swap_58 : decode cX9_swap 58 = .ok (.return_, 1) := by decide +kernel
theorem dX9_lessen_0 : decode cX9_lessen 0 = .ok (.bipush 9, 2) := by decide +kernel
theorem dX9_lessen_2 : decode cX9_lessen 2 = .ok (.aload_n 0, 1) := by decide +kernel
theorem dX9_lessen_3 : decode cX9_lessen 3 = .ok (.getfield 93, 3) := by decide +kernel
theorem dX9_lessen_6 : decode cX9_lessen 6 = .ok (.imul, 1) := by decide +kernel
theorem dX9_lessen_7 : decode cX9_lessen 7 = .ok (.istore_n 3, 1) := by decide +kernel
theorem dX9_lessen_8 : decode cX9_lessen 8 = .ok (.iload_n 3, 1) := by decide +kernel
theorem dX9_lessen_9 : decode cX9_lessen 9 = .ok (.iload_n 2, 1) := by decide +kernel
theorem dX9_lessen_10 : decode cX9_lessen 10 = .ok (.if_icmp .le 140, 3) := by decide +kernel
theorem dX9_lessen_13 : decode cX9_lessen 13 = .ok (.aload_n 0, 1) := by decide +kernel
theorem dX9_lessen_14 : decode cX9_lessen 14 = .ok (.bipush 28, 2) := by decide +kernel
theorem dX9_lessen_16 : decode cX9_lessen 16 = .ok (.iload_n 2, 1) := by decide +kernel
theorem dX9_lessen_17 : decode cX9_lessen 17 = .ok (.imul, 1) := by decide +kernel
theorem dX9_lessen_18 : decode cX9_lessen 18 = .ok (.iload_n 2, 1) := by decide +kernel
theorem dX9_lessen_19 : decode cX9_lessen 19 = .ok (.iadd, 1) := by decide +kernel
theorem dX9_lessen_20 : decode cX9_lessen 20 = .ok (.iconst 0, 1) := by decide +kernel
theorem dX9_lessen_21 : decode cX9_lessen 21 = .ok (.invokevirtual 195, 3) := by decide +kernel
theorem dX9_lessen_24 : decode cX9_lessen 24 = .ok (.aload_n 0, 1) := by decide +kernel
theorem dX9_lessen_25 : decode cX9_lessen 25 = .ok (.bipush 28, 2) := by decide +kernel
theorem dX9_lessen_27 : decode cX9_lessen 27 = .ok (.iload_n 1, 1) := by decide +kernel
theorem dX9_lessen_28 : decode cX9_lessen 28 = .ok (.imul, 1) := by decide +kernel
theorem dX9_lessen_29 : decode cX9_lessen 29 = .ok (.iload_n 3, 1) := by decide +kernel
theorem dX9_lessen_30 : decode cX9_lessen 30 = .ok (.iadd, 1) := by decide +kernel
theorem dX9_lessen_31 : decode cX9_lessen 31 = .ok (.iconst 1, 1) := by decide +kernel
theorem dX9_lessen_32 : decode cX9_lessen 32 = .ok (.invokevirtual 195, 3) := by decide +kernel
theorem dX9_lessen_35 : decode cX9_lessen 35 = .ok (.aload_n 0, 1) := by decide +kernel
theorem dX9_lessen_36 : decode cX9_lessen 36 = .ok (.iconst 0, 1) := by decide +kernel
theorem dX9_lessen_37 : decode cX9_lessen 37 = .ok (.iconst 1, 1) := by decide +kernel
theorem dX9_lessen_38 : decode cX9_lessen 38 = .ok (.iconst 2, 1) := by decide +kernel
theorem dX9_lessen_39 : decode cX9_lessen 39 = .ok (.invokevirtual 198, 3) := by decide +kernel
theorem dX9_lessen_42 : decode cX9_lessen 42 = .ok (.aload_n 0, 1) := by decide +kernel
theorem dX9_lessen_43 : decode cX9_lessen 43 = .ok (.bipush 28, 2) := by decide +kernel
theorem dX9_lessen_45 : decode cX9_lessen 45 = .ok (.iload_n 1, 1) := by decide +kernel
theorem dX9_lessen_46 : decode cX9_lessen 46 = .ok (.imul, 1) := by decide +kernel
theorem dX9_lessen_47 : decode cX9_lessen 47 = .ok (.iload_n 2, 1) := by decide +kernel
theorem dX9_lessen_48 : decode cX9_lessen 48 = .ok (.iadd, 1) := by decide +kernel
theorem dX9_lessen_49 : decode cX9_lessen 49 = .ok (.iconst 0, 1) := by decide +kernel
theorem dX9_lessen_50 : decode cX9_lessen 50 = .ok (.invokevirtual 195, 3) := by decide +kernel
theorem dX9_lessen_53 : decode cX9_lessen 53 = .ok (.aload_n 0, 1) := by decide +kernel
theorem dX9_lessen_54 : decode cX9_lessen 54 = .ok (.bipush 28, 2) := by decide +kernel
theorem dX9_lessen_56 : decode cX9_lessen 56 = .ok (.iload_n 2, 1) := by decide +kernel
theorem dX9_lessen_57 : decode cX9_lessen 57 = .ok (.imul, 1) := by decide +kernel
theorem dX9_lessen_58 : decode cX9_lessen 58 = .ok (.iload_n 3, 1) := by decide +kernel
theorem dX9_lessen_59 : decode cX9_lessen 59 = .ok (.iadd, 1) := by decide +kernel
theorem dX9_lessen_60 : decode cX9_lessen 60 = .ok (.iconst 1, 1) := by decide +kernel
theorem dX9_lessen_61 : decode cX9_lessen 61 = .ok (.invokevirtual 195, 3) := by decide +kernel
theorem dX9_lessen_64 : decode cX9_lessen 64 = .ok (.aload_n 0, 1) := by decide +kernel
theorem dX9_lessen_65 : decode cX9_lessen 65 = .ok (.iconst 0, 1) := by decide +kernel
theorem dX9_lessen_66 : decode cX9_lessen 66 = .ok (.iconst 1, 1) := by decide +kernel
theorem dX9_lessen_67 : decode cX9_lessen 67 = .ok (.iconst 3, 1) := by decide +kernel
theorem dX9_lessen_68 : decode cX9_lessen 68 = .ok (.invokevirtual 198, 3) := by decide +kernel
theorem dX9_lessen_71 : decode cX9_lessen 71 = .ok (.aload_n 0, 1) := by decide +kernel
theorem dX9_lessen_72 : decode cX9_lessen 72 = .ok (.iconst 2, 1) := by decide +kernel
theorem dX9_lessen_73 : decode cX9_lessen 73 = .ok (.iconst 3, 1) := by decide +kernel
theorem dX9_lessen_74 : decode cX9_lessen 74 = .ok (.iconst (-1), 1) := by decide +kernel
theorem dX9_lessen_75 : decode cX9_lessen 75 = .ok (.iconst 4, 1) := by decide +kernel
theorem dX9_lessen_76 : decode cX9_lessen 76 = .ok (.invokevirtual 201, 3) := by decide +kernel
theorem dX9_lessen_79 : decode cX9_lessen 79 = .ok (.aload_n 0, 1) := by decide +kernel
theorem dX9_lessen_80 : decode cX9_lessen 80 = .ok (.bipush 9, 2) := by decide +kernel
theorem dX9_lessen_82 : decode cX9_lessen 82 = .ok (.iconst 5, 1) := by decide +kernel
theorem dX9_lessen_83 : decode cX9_lessen 83 = .ok (.invokevirtual 107, 3) := by decide +kernel
theorem dX9_lessen_86 : decode cX9_lessen 86 = .ok (.aload_n 0, 1) := by decide +kernel
theorem dX9_lessen_87 : decode cX9_lessen 87 = .ok (.getfield 47, 3) := by decide +kernel
theorem dX9_lessen_90 : decode cX9_lessen 90 = .ok (.iconst 4, 1) := by decide +kernel
theorem dX9_lessen_91 : decode cX9_lessen 91 = .ok (.iaload, 1) := by decide +kernel
theorem dX9_lessen_92 : decode cX9_lessen 92 = .ok (.aload_n 0, 1) := by decide +kernel
theorem dX9_lessen_93 : decode cX9_lessen 93 = .ok (.getfield 47, 3) := by decide +kernel
theorem dX9_lessen_96 : decode cX9_lessen 96 = .ok (.iconst 5, 1) := by decide +kernel
theorem dX9_lessen_97 : decode cX9_lessen 97 = .ok (.iaload, 1) := by decide +kernel
theorem dX9_lessen_98 : decode cX9_lessen 98 = .ok (.imul, 1) := by decide +kernel
theorem dX9_lessen_99 : decode cX9_lessen 99 = .ok (.istore 4, 2) := by decide +kernel
theorem dX9_lessen_101 : decode cX9_lessen 101 = .ok (.aload_n 0, 1) := by decide +kernel
theorem dX9_lessen_102 : decode cX9_lessen 102 = .ok (.iconst 4, 1) := by decide +kernel
theorem dX9_lessen_103 : decode cX9_lessen 103 = .ok (.iconst 5, 1) := by decide +kernel
theorem dX9_lessen_104 : decode cX9_lessen 104 = .ok (.bipush 6, 2) := by decide +kernel
theorem dX9_lessen_106 : decode cX9_lessen 106 = .ok (.invokevirtual 136, 3) := by decide +kernel
theorem dX9_lessen_109 : decode cX9_lessen 109 = .ok (.aload_n 0, 1) := by decide +kernel
theorem dX9_lessen_110 : decode cX9_lessen 110 = .ok (.getfield 47, 3) := by decide +kernel
theorem dX9_lessen_113 : decode cX9_lessen 113 = .ok (.bipush 6, 2) := by decide +kernel
theorem dX9_lessen_115 : decode cX9_lessen 115 = .ok (.aload_n 0, 1) := by decide +kernel
theorem dX9_lessen_116 : decode cX9_lessen 116 = .ok (.getfield 44, 3) := by decide +kernel
theorem dX9_lessen_119 : decode cX9_lessen 119 = .ok (.bipush 6, 2) := by decide +kernel
theorem dX9_lessen_121 : decode cX9_lessen 121 = .ok (.iaload, 1) := by decide +kernel
theorem dX9_lessen_122 : decode cX9_lessen 122 = .ok (.ifCond .ne 7, 3) := by decide +kernel
theorem dX9_lessen_125 : decode cX9_lessen 125 = .ok (.iconst 0, 1) := by decide +kernel
theorem dX9_lessen_126 : decode cX9_lessen 126 = .ok (.goto 5, 3) := by decide +kernel
theorem dX9_lessen_129 : decode cX9_lessen 129 = .ok (.iload 4, 2) := by decide +kernel
theorem dX9_lessen_131 : decode cX9_lessen 131 = .ok (.iastore, 1) := by decide +kernel
theorem dX9_lessen_132 : decode cX9_lessen 132 = .ok (.aload_n 0, 1) := by decide +kernel
theorem dX9_lessen_133 : decode cX9_lessen 133 = .ok (.bipush 6, 2) := by decide +kernel
theorem dX9_lessen_135 : decode cX9_lessen 135 = .ok (.bipush 28, 2) := by decide +kernel
theorem dX9_lessen_137 : decode cX9_lessen 137 = .ok (.iload_n 1, 1) := by decide +kernel
theorem dX9_lessen_138 : decode cX9_lessen 138 = .ok (.imul, 1) := by decide +kernel
theorem dX9_lessen_139 : decode cX9_lessen 139 = .ok (.iload_n 3, 1) := by decide +kernel
theorem dX9_lessen_140 : decode cX9_lessen 140 = .ok (.iadd, 1) := by decide +kernel
theorem dX9_lessen_141 : decode cX9_lessen 141 = .ok (.invokevirtual 192, 3) := by decide +kernel
theorem dX9_lessen_144 : decode cX9_lessen 144 = .ok (.iinc 3 (-1), 3) := by decide +kernel
theorem dX9_lessen_147 : decode cX9_lessen 147 = .ok (.goto (-139), 3) := by decide +kernel
theorem dX9_lessen_150 : decode cX9_lessen 150 = .ok (.return_, 1) := by decide +kernel
theorem dX9_solveAll_0 : decode cX9_solveAll 0 = .ok (.aload_n 0, 1) := by decide +kernel
theorem dX9_solveAll_1 : decode cX9_solveAll 1 = .ok (.getfield 205, 3) := by decide +kernel
theorem dX9_solveAll_4 : decode cX9_solveAll 4 = .ok (.ifCond .eq 4, 3) := by decide +kernel
theorem dX9_solveAll_7 : decode cX9_solveAll 7 = .ok (.return_, 1) := by decide +kernel
theorem dX9_solveAll_8 : decode cX9_solveAll 8 = .ok (.aload_n 0, 1) := by decide +kernel
theorem dX9_solveAll_9 : decode cX9_solveAll 9 = .ok (.iconst 1, 1) := by decide +kernel
theorem dX9_solveAll_10 : decode cX9_solveAll 10 = .ok (.putfield 205, 3) := by decide +kernel
theorem dX9_solveAll_13 : decode cX9_solveAll 13 = .ok (.aload_n 0, 1) := by decide +kernel
theorem dX9_solveAll_14 : decode cX9_solveAll 14 = .ok (.invokevirtual 209, 3) := by decide +kernel
theorem dX9_solveAll_17 : decode cX9_solveAll 17 = .ok (.aload_n 0, 1) := by decide +kernel
theorem dX9_solveAll_18 : decode cX9_solveAll 18 = .ok (.getfield 212, 3) := by decide +kernel
theorem dX9_solveAll_21 : decode cX9_solveAll 21 = .ok (.ifCond .eq 4, 3) := by decide +kernel
theorem dX9_solveAll_24 : decode cX9_solveAll 24 = .ok (.return_, 1) := by decide +kernel
theorem dX9_solveAll_25 : decode cX9_solveAll 25 = .ok (.aload_n 0, 1) := by decide +kernel
theorem dX9_solveAll_26 : decode cX9_solveAll 26 = .ok (.invokevirtual 215, 3) := by decide +kernel
theorem dX9_solveAll_29 : decode cX9_solveAll 29 = .ok (.iconst 4, 1) := by decide +kernel
theorem dX9_solveAll_30 : decode cX9_solveAll 30 = .ok (.aload_n 0, 1) := by decide +kernel
theorem dX9_solveAll_31 : decode cX9_solveAll 31 = .ok (.getfield 93, 3) := by decide +kernel
theorem dX9_solveAll_34 : decode cX9_solveAll 34 = .ok (.imul, 1) := by decide +kernel
theorem dX9_solveAll_35 : decode cX9_solveAll 35 = .ok (.istore_n 1, 1) := by decide +kernel
theorem dX9_solveAll_36 : decode cX9_solveAll 36 = .ok (.aload_n 0, 1) := by decide +kernel
theorem dX9_solveAll_37 : decode cX9_solveAll 37 = .ok (.bipush 9, 2) := by decide +kernel
theorem dX9_solveAll_39 : decode cX9_solveAll 39 = .ok (.lconst 1, 1) := by decide +kernel
theorem dX9_solveAll_40 : decode cX9_solveAll 40 = .ok (.invokevirtual 121, 3) := by decide +kernel
theorem dX9_solveAll_43 : decode cX9_solveAll 43 = .ok (.iconst 0, 1) := by decide +kernel
theorem dX9_solveAll_44 : decode cX9_solveAll 44 = .ok (.istore_n 2, 1) := by decide +kernel
theorem dX9_solveAll_45 : decode cX9_solveAll 45 = .ok (.iload_n 2, 1) := by decide +kernel
theorem dX9_solveAll_46 : decode cX9_solveAll 46 = .ok (.iload_n 1, 1) := by decide +kernel
theorem dX9_solveAll_47 : decode cX9_solveAll 47 = .ok (.if_icmp .ge 82, 3) := by decide +kernel
theorem dX9_solveAll_50 : decode cX9_solveAll 50 = .ok (.iload_n 2, 1) := by decide +kernel
theorem dX9_solveAll_51 : decode cX9_solveAll 51 = .ok (.istore_n 3, 1) := by decide +kernel
theorem dX9_solveAll_52 : decode cX9_solveAll 52 = .ok (.aload_n 0, 1) := by decide +kernel
theorem dX9_solveAll_53 : decode cX9_solveAll 53 = .ok (.getfield 56, 3) := by decide +kernel
theorem dX9_solveAll_56 : decode cX9_solveAll 56 = .ok (.bipush 28, 2) := by decide +kernel
theorem dX9_solveAll_58 : decode cX9_solveAll 58 = .ok (.iload_n 3, 1) := by decide +kernel
theorem dX9_solveAll_59 : decode cX9_solveAll 59 = .ok (.imul, 1) := by decide +kernel
theorem dX9_solveAll_60 : decode cX9_solveAll 60 = .ok (.iload_n 2, 1) := by decide +kernel
theorem dX9_solveAll_61 : decode cX9_solveAll 61 = .ok (.iadd, 1) := by decide +kernel
theorem dX9_solveAll_62 : decode cX9_solveAll 62 = .ok (.iaload, 1) := by decide +kernel
theorem dX9_solveAll_63 : decode cX9_solveAll 63 = .ok (.ifCond .ne 9, 3) := by decide +kernel
theorem dX9_solveAll_66 : decode cX9_solveAll 66 = .ok (.iinc 3 1, 3) := by decide +kernel
theorem dX9_solveAll_69 : decode cX9_solveAll 69 = .ok (.goto (-17), 3) := by decide +kernel
theorem dX9_solveAll_72 : decode cX9_solveAll 72 = .ok (.iload_n 3, 1) := by decide +kernel
theorem dX9_solveAll_73 : decode cX9_solveAll 73 = .ok (.iload_n 2, 1) := by decide +kernel
theorem dX9_solveAll_74 : decode cX9_solveAll 74 = .ok (.if_icmp .eq 9, 3) := by decide +kernel
theorem dX9_solveAll_77 : decode cX9_solveAll 77 = .ok (.aload_n 0, 1) := by decide +kernel
theorem dX9_solveAll_78 : decode cX9_solveAll 78 = .ok (.iload_n 3, 1) := by decide +kernel
theorem dX9_solveAll_79 : decode cX9_solveAll 79 = .ok (.iload_n 2, 1) := by decide +kernel
theorem dX9_solveAll_80 : decode cX9_solveAll 80 = .ok (.invokevirtual 218, 3) := by decide +kernel
theorem dX9_solveAll_83 : decode cX9_solveAll 83 = .ok (.iconst 0, 1) := by decide +kernel
theorem dX9_solveAll_84 : decode cX9_solveAll 84 = .ok (.istore 4, 2) := by decide +kernel
theorem dX9_solveAll_86 : decode cX9_solveAll 86 = .ok (.iload 4, 2) := by decide +kernel
theorem dX9_solveAll_88 : decode cX9_solveAll 88 = .ok (.iload_n 1, 1) := by decide +kernel
theorem dX9_solveAll_89 : decode cX9_solveAll 89 = .ok (.if_icmp .ge 22, 3) := by decide +kernel
theorem dX9_solveAll_92 : decode cX9_solveAll 92 = .ok (.iload 4, 2) := by decide +kernel
theorem dX9_solveAll_94 : decode cX9_solveAll 94 = .ok (.iload_n 2, 1) := by decide +kernel
theorem dX9_solveAll_95 : decode cX9_solveAll 95 = .ok (.if_icmp .eq 10, 3) := by decide +kernel
theorem dX9_solveAll_98 : decode cX9_solveAll 98 = .ok (.aload_n 0, 1) := by decide +kernel
theorem dX9_solveAll_99 : decode cX9_solveAll 99 = .ok (.iload 4, 2) := by decide +kernel
theorem dX9_solveAll_101 : decode cX9_solveAll 101 = .ok (.iload_n 2, 1) := by decide +kernel
theorem dX9_solveAll_102 : decode cX9_solveAll 102 = .ok (.invokevirtual 221, 3) := by decide +kernel
theorem dX9_solveAll_105 : decode cX9_solveAll 105 = .ok (.iinc 4 1, 3) := by decide +kernel
theorem dX9_solveAll_108 : decode cX9_solveAll 108 = .ok (.goto (-22), 3) := by decide +kernel
theorem dX9_solveAll_111 : decode cX9_solveAll 111 = .ok (.aload_n 0, 1) := by decide +kernel
theorem dX9_solveAll_112 : decode cX9_solveAll 112 = .ok (.bipush 28, 2) := by decide +kernel
theorem dX9_solveAll_114 : decode cX9_solveAll 114 = .ok (.iload_n 2, 1) := by decide +kernel
theorem dX9_solveAll_115 : decode cX9_solveAll 115 = .ok (.imul, 1) := by decide +kernel
theorem dX9_solveAll_116 : decode cX9_solveAll 116 = .ok (.iload_n 2, 1) := by decide +kernel
theorem dX9_solveAll_117 : decode cX9_solveAll 117 = .ok (.iadd, 1) := by decide +kernel
theorem dX9_solveAll_118 : decode cX9_solveAll 118 = .ok (.bipush 9, 2) := by decide +kernel
theorem dX9_solveAll_120 : decode cX9_solveAll 120 = .ok (.invokevirtual 195, 3) := by decide +kernel
theorem dX9_solveAll_123 : decode cX9_solveAll 123 = .ok (.iinc 2 1, 3) := by decide +kernel
theorem dX9_solveAll_126 : decode cX9_solveAll 126 = .ok (.goto (-81), 3) := by decide +kernel
theorem dX9_solveAll_129 : decode cX9_solveAll 129 = .ok (.aload_n 0, 1) := by decide +kernel
theorem dX9_solveAll_130 : decode cX9_solveAll 130 = .ok (.bipush 9, 2) := by decide +kernel
theorem dX9_solveAll_132 : decode cX9_solveAll 132 = .ok (.bipush 10, 2) := by decide +kernel
theorem dX9_solveAll_134 : decode cX9_solveAll 134 = .ok (.invokevirtual 107, 3) := by decide +kernel
theorem dX9_solveAll_137 : decode cX9_solveAll 137 = .ok (.return_, 1) := by decide +kernel
theorem dX9_line_0 : decode cX9_line 0 = .ok (.iconst 0, 1) := by decide +kernel
theorem dX9_line_1 : decode cX9_line 1 = .ok (.istore 10, 2) := by decide +kernel
theorem dX9_line_3 : decode cX9_line 3 = .ok (.iload 10, 2) := by decide +kernel
theorem dX9_line_5 : decode cX9_line 5 = .ok (.bipush 6, 2) := by decide +kernel
theorem dX9_line_7 : decode cX9_line 7 = .ok (.if_icmp .ge 25, 3) := by decide +kernel
theorem dX9_line_10 : decode cX9_line 10 = .ok (.aload_n 0, 1) := by decide +kernel
theorem dX9_line_11 : decode cX9_line 11 = .ok (.getfield 63, 3) := by decide +kernel
theorem dX9_line_14 : decode cX9_line 14 = .ok (.bipush 6, 2) := by decide +kernel
theorem dX9_line_16 : decode cX9_line 16 = .ok (.aload_n 0, 1) := by decide +kernel
theorem dX9_line_17 : decode cX9_line 17 = .ok (.getfield 224, 3) := by decide +kernel
theorem dX9_line_20 : decode cX9_line 20 = .ok (.imul, 1) := by decide +kernel
theorem dX9_line_21 : decode cX9_line 21 = .ok (.iload 10, 2) := by decide +kernel
theorem dX9_line_23 : decode cX9_line 23 = .ok (.iadd, 1) := by decide +kernel
theorem dX9_line_24 : decode cX9_line 24 = .ok (.lconst 0, 1) := by decide +kernel
theorem dX9_line_25 : decode cX9_line 25 = .ok (.lastore, 1) := by decide +kernel
theorem dX9_line_26 : decode cX9_line 26 = .ok (.iinc 10 1, 3) := by decide +kernel
theorem dX9_line_29 : decode cX9_line 29 = .ok (.goto (-26), 3) := by decide +kernel
theorem dX9_line_32 : decode cX9_line 32 = .ok (.aload_n 0, 1) := by decide +kernel
theorem dX9_line_33 : decode cX9_line 33 = .ok (.getfield 63, 3) := by decide +kernel
theorem dX9_line_36 : decode cX9_line 36 = .ok (.bipush 6, 2) := by decide +kernel
theorem dX9_line_38 : decode cX9_line 38 = .ok (.aload_n 0, 1) := by decide +kernel
theorem dX9_line_39 : decode cX9_line 39 = .ok (.getfield 224, 3) := by decide +kernel
theorem dX9_line_42 : decode cX9_line 42 = .ok (.imul, 1) := by decide +kernel
theorem dX9_line_43 : decode cX9_line 43 = .ok (.iload_n 1, 1) := by decide +kernel
theorem dX9_line_44 : decode cX9_line 44 = .ok (.iadd, 1) := by decide +kernel
theorem dX9_line_45 : decode cX9_line 45 = .ok (.dup2, 1) := by decide +kernel
theorem dX9_line_46 : decode cX9_line 46 = .ok (.laload, 1) := by decide +kernel
theorem dX9_line_47 : decode cX9_line 47 = .ok (.lload_n 2, 1) := by decide +kernel
theorem dX9_line_48 : decode cX9_line 48 = .ok (.ladd, 1) := by decide +kernel
theorem dX9_line_49 : decode cX9_line 49 = .ok (.lastore, 1) := by decide +kernel
theorem dX9_line_50 : decode cX9_line 50 = .ok (.aload_n 0, 1) := by decide +kernel
theorem dX9_line_51 : decode cX9_line 51 = .ok (.getfield 63, 3) := by decide +kernel
theorem dX9_line_54 : decode cX9_line 54 = .ok (.bipush 6, 2) := by decide +kernel
theorem dX9_line_56 : decode cX9_line 56 = .ok (.aload_n 0, 1) := by decide +kernel
theorem dX9_line_57 : decode cX9_line 57 = .ok (.getfield 224, 3) := by decide +kernel
theorem dX9_line_60 : decode cX9_line 60 = .ok (.imul, 1) := by decide +kernel
theorem dX9_line_61 : decode cX9_line 61 = .ok (.iload 4, 2) := by decide +kernel
theorem dX9_line_63 : decode cX9_line 63 = .ok (.iadd, 1) := by decide +kernel
theorem dX9_line_64 : decode cX9_line 64 = .ok (.dup2, 1) := by decide +kernel
theorem dX9_line_65 : decode cX9_line 65 = .ok (.laload, 1) := by decide +kernel
theorem dX9_line_66 : decode cX9_line 66 = .ok (.lload 5, 2) := by decide +kernel
theorem dX9_line_68 : decode cX9_line 68 = .ok (.ladd, 1) := by decide +kernel
theorem dX9_line_69 : decode cX9_line 69 = .ok (.lastore, 1) := by decide +kernel
theorem dX9_line_70 : decode cX9_line 70 = .ok (.aload_n 0, 1) := by decide +kernel
theorem dX9_line_71 : decode cX9_line 71 = .ok (.getfield 63, 3) := by decide +kernel
theorem dX9_line_74 : decode cX9_line 74 = .ok (.bipush 6, 2) := by decide +kernel
theorem dX9_line_76 : decode cX9_line 76 = .ok (.aload_n 0, 1) := by decide +kernel
theorem dX9_line_77 : decode cX9_line 77 = .ok (.getfield 224, 3) := by decide +kernel
theorem dX9_line_80 : decode cX9_line 80 = .ok (.imul, 1) := by decide +kernel
theorem dX9_line_81 : decode cX9_line 81 = .ok (.iload 7, 2) := by decide +kernel
theorem dX9_line_83 : decode cX9_line 83 = .ok (.iadd, 1) := by decide +kernel
theorem dX9_line_84 : decode cX9_line 84 = .ok (.dup2, 1) := by decide +kernel
theorem dX9_line_85 : decode cX9_line 85 = .ok (.laload, 1) := by decide +kernel
theorem dX9_line_86 : decode cX9_line 86 = .ok (.lload 8, 2) := by decide +kernel
theorem dX9_line_88 : decode cX9_line 88 = .ok (.ladd, 1) := by decide +kernel
theorem dX9_line_89 : decode cX9_line 89 = .ok (.lastore, 1) := by decide +kernel
theorem dX9_line_90 : decode cX9_line 90 = .ok (.aload_n 0, 1) := by decide +kernel
theorem dX9_line_91 : decode cX9_line 91 = .ok (.dup, 1) := by decide +kernel
theorem dX9_line_92 : decode cX9_line 92 = .ok (.getfield 224, 3) := by decide +kernel
theorem dX9_line_95 : decode cX9_line 95 = .ok (.iconst 1, 1) := by decide +kernel
theorem dX9_line_96 : decode cX9_line 96 = .ok (.iadd, 1) := by decide +kernel
theorem dX9_line_97 : decode cX9_line 97 = .ok (.putfield 224, 3) := by decide +kernel
theorem dX9_line_100 : decode cX9_line 100 = .ok (.return_, 1) := by decide +kernel
theorem dX9_common_0 : decode cX9_common 0 = .ok (.lload_n 0, 1) := by decide +kernel
theorem dX9_common_1 : decode cX9_common 1 = .ok (.lconst 0, 1) := by decide +kernel
theorem dX9_common_2 : decode cX9_common 2 = .ok (.lcmp, 1) := by decide +kernel
theorem dX9_common_3 : decode cX9_common 3 = .ok (.ifCond .ge 8, 3) := by decide +kernel
theorem dX9_common_6 : decode cX9_common 6 = .ok (.lload_n 0, 1) := by decide +kernel
theorem dX9_common_7 : decode cX9_common 7 = .ok (.lneg, 1) := by decide +kernel
theorem dX9_common_8 : decode cX9_common 8 = .ok (.goto 4, 3) := by decide +kernel
theorem dX9_common_11 : decode cX9_common 11 = .ok (.lload_n 0, 1) := by decide +kernel
theorem dX9_common_12 : decode cX9_common 12 = .ok (.lstore 4, 2) := by decide +kernel
theorem dX9_common_14 : decode cX9_common 14 = .ok (.lload_n 2, 1) := by decide +kernel
theorem dX9_common_15 : decode cX9_common 15 = .ok (.lconst 0, 1) := by decide +kernel
theorem dX9_common_16 : decode cX9_common 16 = .ok (.lcmp, 1) := by decide +kernel
theorem dX9_common_17 : decode cX9_common 17 = .ok (.ifCond .ge 8, 3) := by decide +kernel
theorem dX9_common_20 : decode cX9_common 20 = .ok (.lload_n 2, 1) := by decide +kernel
theorem dX9_common_21 : decode cX9_common 21 = .ok (.lneg, 1) := by decide +kernel
theorem dX9_common_22 : decode cX9_common 22 = .ok (.goto 4, 3) := by decide +kernel
theorem dX9_common_25 : decode cX9_common 25 = .ok (.lload_n 2, 1) := by decide +kernel
theorem dX9_common_26 : decode cX9_common 26 = .ok (.lstore 6, 2) := by decide +kernel
theorem dX9_common_28 : decode cX9_common 28 = .ok (.lload 6, 2) := by decide +kernel
theorem dX9_common_30 : decode cX9_common 30 = .ok (.lconst 0, 1) := by decide +kernel
theorem dX9_common_31 : decode cX9_common 31 = .ok (.lcmp, 1) := by decide +kernel
theorem dX9_common_32 : decode cX9_common 32 = .ok (.ifCond .eq 21, 3) := by decide +kernel
theorem dX9_common_35 : decode cX9_common 35 = .ok (.lload 4, 2) := by decide +kernel
theorem dX9_common_37 : decode cX9_common 37 = .ok (.lload 6, 2) := by decide +kernel
theorem dX9_common_39 : decode cX9_common 39 = .ok (.lrem, 1) := by decide +kernel
theorem dX9_common_40 : decode cX9_common 40 = .ok (.lstore 8, 2) := by decide +kernel
theorem dX9_common_42 : decode cX9_common 42 = .ok (.lload 6, 2) := by decide +kernel
theorem dX9_common_44 : decode cX9_common 44 = .ok (.lstore 4, 2) := by decide +kernel
theorem dX9_common_46 : decode cX9_common 46 = .ok (.lload 8, 2) := by decide +kernel
theorem dX9_common_48 : decode cX9_common 48 = .ok (.lstore 6, 2) := by decide +kernel
theorem dX9_common_50 : decode cX9_common 50 = .ok (.goto (-22), 3) := by decide +kernel
theorem dX9_common_53 : decode cX9_common 53 = .ok (.lload 4, 2) := by decide +kernel
theorem dX9_common_55 : decode cX9_common 55 = .ok (.lreturn, 1) := by decide +kernel
theorem dX9_clear_0 : decode cX9_clear 0 = .ok (.aload_n 0, 1) := by decide +kernel
theorem dX9_clear_1 : decode cX9_clear 1 = .ok (.getfield 66, 3) := by decide +kernel
theorem dX9_clear_4 : decode cX9_clear 4 = .ok (.bipush 6, 2) := by decide +kernel
theorem dX9_clear_6 : decode cX9_clear 6 = .ok (.iload_n 2, 1) := by decide +kernel
theorem dX9_clear_7 : decode cX9_clear 7 = .ok (.imul, 1) := by decide +kernel
theorem dX9_clear_8 : decode cX9_clear 8 = .ok (.iload_n 3, 1) := by decide +kernel
theorem dX9_clear_9 : decode cX9_clear 9 = .ok (.iadd, 1) := by decide +kernel
theorem dX9_clear_10 : decode cX9_clear 10 = .ok (.laload, 1) := by decide +kernel
theorem dX9_clear_11 : decode cX9_clear 11 = .ok (.lstore 4, 2) := by decide +kernel
theorem dX9_clear_13 : decode cX9_clear 13 = .ok (.aload_n 0, 1) := by decide +kernel
theorem dX9_clear_14 : decode cX9_clear 14 = .ok (.getfield 66, 3) := by decide +kernel
theorem dX9_clear_17 : decode cX9_clear 17 = .ok (.bipush 6, 2) := by decide +kernel
theorem dX9_clear_19 : decode cX9_clear 19 = .ok (.iload_n 1, 1) := by decide +kernel
theorem dX9_clear_20 : decode cX9_clear 20 = .ok (.imul, 1) := by decide +kernel
theorem dX9_clear_21 : decode cX9_clear 21 = .ok (.iload_n 3, 1) := by decide +kernel
theorem dX9_clear_22 : decode cX9_clear 22 = .ok (.iadd, 1) := by decide +kernel
theorem dX9_clear_23 : decode cX9_clear 23 = .ok (.laload, 1) := by decide +kernel
theorem dX9_clear_24 : decode cX9_clear 24 = .ok (.lstore 6, 2) := by decide +kernel
theorem dX9_clear_26 : decode cX9_clear 26 = .ok (.lconst 0, 1) := by decide +kernel
theorem dX9_clear_27 : decode cX9_clear 27 = .ok (.lstore 8, 2) := by decide +kernel
theorem dX9_clear_29 : decode cX9_clear 29 = .ok (.iconst 0, 1) := by decide +kernel
theorem dX9_clear_30 : decode cX9_clear 30 = .ok (.istore 10, 2) := by decide +kernel
theorem dX9_clear_32 : decode cX9_clear 32 = .ok (.iload 10, 2) := by decide +kernel
theorem dX9_clear_34 : decode cX9_clear 34 = .ok (.bipush 6, 2) := by decide +kernel
theorem dX9_clear_36 : decode cX9_clear 36 = .ok (.if_icmp .ge 71, 3) := by decide +kernel
theorem dX9_clear_39 : decode cX9_clear 39 = .ok (.aload_n 0, 1) := by decide +kernel
theorem dX9_clear_40 : decode cX9_clear 40 = .ok (.getfield 66, 3) := by decide +kernel
theorem dX9_clear_43 : decode cX9_clear 43 = .ok (.bipush 6, 2) := by decide +kernel
theorem dX9_clear_45 : decode cX9_clear 45 = .ok (.iload_n 1, 1) := by decide +kernel
theorem dX9_clear_46 : decode cX9_clear 46 = .ok (.imul, 1) := by decide +kernel
theorem dX9_clear_47 : decode cX9_clear 47 = .ok (.iload 10, 2) := by decide +kernel
theorem dX9_clear_49 : decode cX9_clear 49 = .ok (.iadd, 1) := by decide +kernel
theorem dX9_clear_50 : decode cX9_clear 50 = .ok (.lload 4, 2) := by decide +kernel
theorem dX9_clear_52 : decode cX9_clear 52 = .ok (.aload_n 0, 1) := by decide +kernel
theorem dX9_clear_53 : decode cX9_clear 53 = .ok (.getfield 66, 3) := by decide +kernel
theorem dX9_clear_56 : decode cX9_clear 56 = .ok (.bipush 6, 2) := by decide +kernel
theorem dX9_clear_58 : decode cX9_clear 58 = .ok (.iload_n 1, 1) := by decide +kernel
theorem dX9_clear_59 : decode cX9_clear 59 = .ok (.imul, 1) := by decide +kernel
theorem dX9_clear_60 : decode cX9_clear 60 = .ok (.iload 10, 2) := by decide +kernel
theorem dX9_clear_62 : decode cX9_clear 62 = .ok (.iadd, 1) := by decide +kernel
theorem dX9_clear_63 : decode cX9_clear 63 = .ok (.laload, 1) := by decide +kernel
theorem dX9_clear_64 : decode cX9_clear 64 = .ok (.lmul, 1) := by decide +kernel
theorem dX9_clear_65 : decode cX9_clear 65 = .ok (.lload 6, 2) := by decide +kernel
theorem dX9_clear_67 : decode cX9_clear 67 = .ok (.aload_n 0, 1) := by decide +kernel
theorem dX9_clear_68 : decode cX9_clear 68 = .ok (.getfield 66, 3) := by decide +kernel
theorem dX9_clear_71 : decode cX9_clear 71 = .ok (.bipush 6, 2) := by decide +kernel
theorem dX9_clear_73 : decode cX9_clear 73 = .ok (.iload_n 2, 1) := by decide +kernel
theorem dX9_clear_74 : decode cX9_clear 74 = .ok (.imul, 1) := by decide +kernel
theorem dX9_clear_75 : decode cX9_clear 75 = .ok (.iload 10, 2) := by decide +kernel
theorem dX9_clear_77 : decode cX9_clear 77 = .ok (.iadd, 1) := by decide +kernel
