theorem dX9_take_68 : decode cX9_take 68 = .ok (.iload_n 3, 1) := by decide +kernel
theorem dX9_take_69 : decode cX9_take 69 = .ok (.imul, 1) := by decide +kernel
theorem dX9_take_70 : decode cX9_take 70 = .ok (.iastore, 1) := by decide +kernel
theorem dX9_take_71 : decode cX9_take 71 = .ok (.return_, 1) := by decide +kernel
theorem dX9_area_0 : decode cX9_area 0 = .ok (.aload_n 0, 1) := by decide +kernel
theorem dX9_area_1 : decode cX9_area 1 = .ok (.iconst 0, 1) := by decide +kernel
theorem dX9_area_2 : decode cX9_area 2 = .ok (.putfield 97, 3) := by decide +kernel
theorem dX9_area_5 : decode cX9_area 5 = .ok (.aload_n 0, 1) := by decide +kernel
theorem dX9_area_6 : decode cX9_area 6 = .ok (.iload_n 1, 1) := by decide +kernel
theorem dX9_area_7 : decode cX9_area 7 = .ok (.invokevirtual 310, 3) := by decide +kernel
theorem dX9_area_10 : decode cX9_area 10 = .ok (.ifCond .eq 18, 3) := by decide +kernel
theorem dX9_area_13 : decode cX9_area 13 = .ok (.iload_n 2, 1) := by decide +kernel
theorem dX9_area_14 : decode cX9_area 14 = .ok (.iconst 1, 1) := by decide +kernel
theorem dX9_area_15 : decode cX9_area 15 = .ok (.if_icmp .eq 8, 3) := by decide +kernel
theorem dX9_area_18 : decode cX9_area 18 = .ok (.iload_n 2, 1) := by decide +kernel
theorem dX9_area_19 : decode cX9_area 19 = .ok (.iconst (-1), 1) := by decide +kernel
theorem dX9_area_20 : decode cX9_area 20 = .ok (.if_icmp .ne 8, 3) := by decide +kernel
theorem dX9_area_23 : decode cX9_area 23 = .ok (.iload_n 3, 1) := by decide +kernel
theorem dX9_area_24 : decode cX9_area 24 = .ok (.iconst (-1), 1) := by decide +kernel
theorem dX9_area_25 : decode cX9_area 25 = .ok (.if_icmp .ge 8, 3) := by decide +kernel
theorem dX9_area_28 : decode cX9_area 28 = .ok (.iload_n 3, 1) := by decide +kernel
theorem dX9_area_29 : decode cX9_area 29 = .ok (.invokestatic 317, 3) := by decide +kernel
theorem dX9_area_32 : decode cX9_area 32 = .ok (.lreturn, 1) := by decide +kernel
theorem dX9_area_33 : decode cX9_area 33 = .ok (.iconst 0, 1) := by decide +kernel
theorem dX9_area_34 : decode cX9_area 34 = .ok (.istore 4, 2) := by decide +kernel
theorem dX9_area_36 : decode cX9_area 36 = .ok (.iload 4, 2) := by decide +kernel
theorem dX9_area_38 : decode cX9_area 38 = .ok (.iconst 5, 1) := by decide +kernel
theorem dX9_area_39 : decode cX9_area 39 = .ok (.aload_n 0, 1) := by decide +kernel
theorem dX9_area_40 : decode cX9_area 40 = .ok (.getfield 93, 3) := by decide +kernel
theorem dX9_area_43 : decode cX9_area 43 = .ok (.imul, 1) := by decide +kernel
theorem dX9_area_44 : decode cX9_area 44 = .ok (.if_icmp .ge 29, 3) := by decide +kernel
theorem dX9_area_47 : decode cX9_area 47 = .ok (.aload_n 0, 1) := by decide +kernel
theorem dX9_area_48 : decode cX9_area 48 = .ok (.iload_n 1, 1) := by decide +kernel
theorem dX9_area_49 : decode cX9_area 49 = .ok (.iload 4, 2) := by decide +kernel
theorem dX9_area_51 : decode cX9_area 51 = .ok (.iconst 5, 1) := by decide +kernel
theorem dX9_area_52 : decode cX9_area 52 = .ok (.idiv, 1) := by decide +kernel
theorem dX9_area_53 : decode cX9_area 53 = .ok (.iload 4, 2) := by decide +kernel
theorem dX9_area_55 : decode cX9_area 55 = .ok (.iconst 5, 1) := by decide +kernel
theorem dX9_area_56 : decode cX9_area 56 = .ok (.irem, 1) := by decide +kernel
theorem dX9_area_57 : decode cX9_area 57 = .ok (.invokevirtual 321, 3) := by decide +kernel
theorem dX9_area_60 : decode cX9_area 60 = .ok (.aload_n 0, 1) := by decide +kernel
theorem dX9_area_61 : decode cX9_area 61 = .ok (.iload 4, 2) := by decide +kernel
theorem dX9_area_63 : decode cX9_area 63 = .ok (.iconst 0, 1) := by decide +kernel
theorem dX9_area_64 : decode cX9_area 64 = .ok (.invokevirtual 336, 3) := by decide +kernel
theorem dX9_area_67 : decode cX9_area 67 = .ok (.iinc 4 1, 3) := by decide +kernel
theorem dX9_area_70 : decode cX9_area 70 = .ok (.goto (-34), 3) := by decide +kernel
theorem dX9_area_73 : decode cX9_area 73 = .ok (.iload_n 2, 1) := by decide +kernel
theorem dX9_area_74 : decode cX9_area 74 = .ok (.aload_n 0, 1) := by decide +kernel
theorem dX9_area_75 : decode cX9_area 75 = .ok (.getfield 47, 3) := by decide +kernel
theorem dX9_area_78 : decode cX9_area 78 = .ok (.bipush 10, 2) := by decide +kernel
theorem dX9_area_80 : decode cX9_area 80 = .ok (.iaload, 1) := by decide +kernel
theorem dX9_area_81 : decode cX9_area 81 = .ok (.imul, 1) := by decide +kernel
theorem dX9_area_82 : decode cX9_area 82 = .ok (.istore 4, 2) := by decide +kernel
theorem dX9_area_84 : decode cX9_area 84 = .ok (.aload_n 0, 1) := by decide +kernel
theorem dX9_area_85 : decode cX9_area 85 = .ok (.bipush 7, 2) := by decide +kernel
theorem dX9_area_87 : decode cX9_area 87 = .ok (.lconst 0, 1) := by decide +kernel
theorem dX9_area_88 : decode cX9_area 88 = .ok (.invokevirtual 121, 3) := by decide +kernel
theorem dX9_area_91 : decode cX9_area 91 = .ok (.aload_n 0, 1) := by decide +kernel
theorem dX9_area_92 : decode cX9_area 92 = .ok (.bipush 8, 2) := by decide +kernel
theorem dX9_area_94 : decode cX9_area 94 = .ok (.lconst 1, 1) := by decide +kernel
theorem dX9_area_95 : decode cX9_area 95 = .ok (.invokevirtual 121, 3) := by decide +kernel
theorem dX9_area_98 : decode cX9_area 98 = .ok (.iconst 0, 1) := by decide +kernel
theorem dX9_area_99 : decode cX9_area 99 = .ok (.istore 5, 2) := by decide +kernel
theorem dX9_area_101 : decode cX9_area 101 = .ok (.iload 5, 2) := by decide +kernel
theorem dX9_area_103 : decode cX9_area 103 = .ok (.iconst 1, 1) := by decide +kernel
theorem dX9_area_104 : decode cX9_area 104 = .ok (.iadd, 1) := by decide +kernel
theorem dX9_area_105 : decode cX9_area 105 = .ok (.iconst 5, 1) := by decide +kernel
theorem dX9_area_106 : decode cX9_area 106 = .ok (.aload_n 0, 1) := by decide +kernel
theorem dX9_area_107 : decode cX9_area 107 = .ok (.getfield 93, 3) := by decide +kernel
theorem dX9_area_110 : decode cX9_area 110 = .ok (.imul, 1) := by decide +kernel
theorem dX9_area_111 : decode cX9_area 111 = .ok (.if_icmp .ge 52, 3) := by decide +kernel
theorem dX9_area_114 : decode cX9_area 114 = .ok (.iload 5, 2) := by decide +kernel
theorem dX9_area_116 : decode cX9_area 116 = .ok (.iconst 5, 1) := by decide +kernel
theorem dX9_area_117 : decode cX9_area 117 = .ok (.irem, 1) := by decide +kernel
theorem dX9_area_118 : decode cX9_area 118 = .ok (.iconst 4, 1) := by decide +kernel
theorem dX9_area_119 : decode cX9_area 119 = .ok (.if_icmp .ge 38, 3) := by decide +kernel
theorem dX9_area_122 : decode cX9_area 122 = .ok (.aload_n 0, 1) := by decide +kernel
theorem dX9_area_123 : decode cX9_area 123 = .ok (.iload 5, 2) := by decide +kernel
theorem dX9_area_125 : decode cX9_area 125 = .ok (.iconst 5, 1) := by decide +kernel
theorem dX9_area_126 : decode cX9_area 126 = .ok (.iload 4, 2) := by decide +kernel
theorem dX9_area_128 : decode cX9_area 128 = .ok (.invokevirtual 339, 3) := by decide +kernel
theorem dX9_area_131 : decode cX9_area 131 = .ok (.aload_n 0, 1) := by decide +kernel
theorem dX9_area_132 : decode cX9_area 132 = .ok (.iload 5, 2) := by decide +kernel
theorem dX9_area_134 : decode cX9_area 134 = .ok (.iconst 1, 1) := by decide +kernel
theorem dX9_area_135 : decode cX9_area 135 = .ok (.iadd, 1) := by decide +kernel
theorem dX9_area_136 : decode cX9_area 136 = .ok (.bipush 6, 2) := by decide +kernel
theorem dX9_area_138 : decode cX9_area 138 = .ok (.iload 4, 2) := by decide +kernel
theorem dX9_area_140 : decode cX9_area 140 = .ok (.invokevirtual 339, 3) := by decide +kernel
theorem dX9_area_143 : decode cX9_area 143 = .ok (.aload_n 0, 1) := by decide +kernel
theorem dX9_area_144 : decode cX9_area 144 = .ok (.aload_n 0, 1) := by decide +kernel
theorem dX9_area_145 : decode cX9_area 145 = .ok (.getfield 13, 3) := by decide +kernel
theorem dX9_area_148 : decode cX9_area 148 = .ok (.iload 5, 2) := by decide +kernel
theorem dX9_area_150 : decode cX9_area 150 = .ok (.iconst 5, 1) := by decide +kernel
theorem dX9_area_151 : decode cX9_area 151 = .ok (.idiv, 1) := by decide +kernel
theorem dX9_area_152 : decode cX9_area 152 = .ok (.iaload, 1) := by decide +kernel
theorem dX9_area_153 : decode cX9_area 153 = .ok (.i2l, 1) := by decide +kernel
theorem dX9_area_154 : decode cX9_area 154 = .ok (.invokevirtual 342, 3) := by decide +kernel
theorem dX9_area_157 : decode cX9_area 157 = .ok (.iinc 5 1, 3) := by decide +kernel
theorem dX9_area_160 : decode cX9_area 160 = .ok (.goto (-59), 3) := by decide +kernel
theorem dX9_area_163 : decode cX9_area 163 = .ok (.aload_n 0, 1) := by decide +kernel
theorem dX9_area_164 : decode cX9_area 164 = .ok (.bipush 7, 2) := by decide +kernel
theorem dX9_area_166 : decode cX9_area 166 = .ok (.iconst 0, 1) := by decide +kernel
theorem dX9_area_167 : decode cX9_area 167 = .ok (.invokevirtual 107, 3) := by decide +kernel
theorem dX9_area_170 : decode cX9_area 170 = .ok (.aload_n 0, 1) := by decide +kernel
theorem dX9_area_171 : decode cX9_area 171 = .ok (.bipush 8, 2) := by decide +kernel
theorem dX9_area_173 : decode cX9_area 173 = .ok (.iconst 2, 1) := by decide +kernel
theorem dX9_area_174 : decode cX9_area 174 = .ok (.invokevirtual 107, 3) := by decide +kernel
theorem dX9_area_177 : decode cX9_area 177 = .ok (.aload_n 0, 1) := by decide +kernel
theorem dX9_area_178 : decode cX9_area 178 = .ok (.iconst 2, 1) := by decide +kernel
theorem dX9_area_179 : decode cX9_area 179 = .ok (.ldc2_w 345, 3) := by decide +kernel
theorem dX9_area_182 : decode cX9_area 182 = .ok (.aload_n 0, 1) := by decide +kernel
theorem dX9_area_183 : decode cX9_area 183 = .ok (.aload_n 0, 1) := by decide +kernel
theorem dX9_area_184 : decode cX9_area 184 = .ok (.getfield 32, 3) := by decide +kernel
theorem dX9_area_187 : decode cX9_area 187 = .ok (.iload_n 1, 1) := by decide +kernel
theorem dX9_area_188 : decode cX9_area 188 = .ok (.iaload, 1) := by decide +kernel
theorem dX9_area_189 : decode cX9_area 189 = .ok (.aload_n 0, 1) := by decide +kernel
theorem dX9_area_190 : decode cX9_area 190 = .ok (.getfield 35, 3) := by decide +kernel
theorem dX9_area_193 : decode cX9_area 193 = .ok (.iload_n 1, 1) := by decide +kernel
theorem dX9_area_194 : decode cX9_area 194 = .ok (.iaload, 1) := by decide +kernel
theorem dX9_area_195 : decode cX9_area 195 = .ok (.invokevirtual 324, 3) := by decide +kernel
theorem dX9_area_198 : decode cX9_area 198 = .ok (.lmul, 1) := by decide +kernel
theorem dX9_area_199 : decode cX9_area 199 = .ok (.invokevirtual 129, 3) := by decide +kernel
theorem dX9_area_202 : decode cX9_area 202 = .ok (.aload_n 0, 1) := by decide +kernel
theorem dX9_area_203 : decode cX9_area 203 = .ok (.iconst 2, 1) := by decide +kernel
theorem dX9_area_204 : decode cX9_area 204 = .ok (.bipush 10, 2) := by decide +kernel
theorem dX9_area_206 : decode cX9_area 206 = .ok (.iconst 1, 1) := by decide +kernel
theorem dX9_area_207 : decode cX9_area 207 = .ok (.invokevirtual 198, 3) := by decide +kernel
theorem dX9_area_210 : decode cX9_area 210 = .ok (.aload_n 0, 1) := by decide +kernel
theorem dX9_area_211 : decode cX9_area 211 = .ok (.getfield 47, 3) := by decide +kernel
theorem dX9_area_214 : decode cX9_area 214 = .ok (.iconst 1, 1) := by decide +kernel
theorem dX9_area_215 : decode cX9_area 215 = .ok (.aload_n 0, 1) := by decide +kernel
theorem dX9_area_216 : decode cX9_area 216 = .ok (.getfield 44, 3) := by decide +kernel
theorem dX9_area_219 : decode cX9_area 219 = .ok (.iconst 1, 1) := by decide +kernel
theorem dX9_area_220 : decode cX9_area 220 = .ok (.iaload, 1) := by decide +kernel
theorem dX9_area_221 : decode cX9_area 221 = .ok (.ifCond .ne 7, 3) := by decide +kernel
theorem dX9_area_224 : decode cX9_area 224 = .ok (.iconst 0, 1) := by decide +kernel
theorem dX9_area_225 : decode cX9_area 225 = .ok (.goto 4, 3) := by decide +kernel
theorem dX9_area_228 : decode cX9_area 228 = .ok (.iconst 1, 1) := by decide +kernel
theorem dX9_area_229 : decode cX9_area 229 = .ok (.iastore, 1) := by decide +kernel
theorem dX9_area_230 : decode cX9_area 230 = .ok (.aload_n 0, 1) := by decide +kernel
theorem dX9_area_231 : decode cX9_area 231 = .ok (.invokevirtual 327, 3) := by decide +kernel
theorem dX9_area_234 : decode cX9_area 234 = .ok (.aload_n 0, 1) := by decide +kernel
theorem dX9_area_235 : decode cX9_area 235 = .ok (.iload_n 3, 1) := by decide +kernel
theorem dX9_area_236 : decode cX9_area 236 = .ok (.invokevirtual 330, 3) := by decide +kernel
theorem dX9_area_239 : decode cX9_area 239 = .ok (.lreturn, 1) := by decide +kernel
theorem dX9_turned_0 : decode cX9_turned 0 = .ok (.aload_n 0, 1) := by decide +kernel
theorem dX9_turned_1 : decode cX9_turned 1 = .ok (.iconst 0, 1) := by decide +kernel
theorem dX9_turned_2 : decode cX9_turned 2 = .ok (.putfield 97, 3) := by decide +kernel
theorem dX9_turned_5 : decode cX9_turned 5 = .ok (.aload_n 0, 1) := by decide +kernel
theorem dX9_turned_6 : decode cX9_turned 6 = .ok (.iload_n 1, 1) := by decide +kernel
theorem dX9_turned_7 : decode cX9_turned 7 = .ok (.invokevirtual 310, 3) := by decide +kernel
theorem dX9_turned_10 : decode cX9_turned 10 = .ok (.ifCond .eq 13, 3) := by decide +kernel
theorem dX9_turned_13 : decode cX9_turned 13 = .ok (.aload_n 0, 1) := by decide +kernel
theorem dX9_turned_14 : decode cX9_turned 14 = .ok (.getfield 32, 3) := by decide +kernel
theorem dX9_turned_17 : decode cX9_turned 17 = .ok (.iload_n 1, 1) := by decide +kernel
theorem dX9_turned_18 : decode cX9_turned 18 = .ok (.iaload, 1) := by decide +kernel
theorem dX9_turned_19 : decode cX9_turned 19 = .ok (.iconst 2, 1) := by decide +kernel
theorem dX9_turned_20 : decode cX9_turned 20 = .ok (.if_icmp .eq 5, 3) := by decide +kernel
theorem dX9_turned_23 : decode cX9_turned 23 = .ok (.iconst 0, 1) := by decide +kernel
theorem dX9_turned_24 : decode cX9_turned 24 = .ok (.ireturn, 1) := by decide +kernel
theorem dX9_turned_25 : decode cX9_turned 25 = .ok (.iconst 1, 1) := by decide +kernel
theorem dX9_turned_26 : decode cX9_turned 26 = .ok (.istore_n 2, 1) := by decide +kernel
theorem dX9_turned_27 : decode cX9_turned 27 = .ok (.iconst 0, 1) := by decide +kernel
theorem dX9_turned_28 : decode cX9_turned 28 = .ok (.istore_n 3, 1) := by decide +kernel
theorem dX9_turned_29 : decode cX9_turned 29 = .ok (.iload_n 3, 1) := by decide +kernel
theorem dX9_turned_30 : decode cX9_turned 30 = .ok (.iconst 5, 1) := by decide +kernel
theorem dX9_turned_31 : decode cX9_turned 31 = .ok (.aload_n 0, 1) := by decide +kernel
theorem dX9_turned_32 : decode cX9_turned 32 = .ok (.getfield 93, 3) := by decide +kernel
theorem dX9_turned_35 : decode cX9_turned 35 = .ok (.imul, 1) := by decide +kernel
theorem dX9_turned_36 : decode cX9_turned 36 = .ok (.if_icmp .ge 130, 3) := by decide +kernel
theorem dX9_turned_39 : decode cX9_turned 39 = .ok (.iload_n 2, 1) := by decide +kernel
theorem dX9_turned_40 : decode cX9_turned 40 = .ok (.ifCond .eq 126, 3) := by decide +kernel
theorem dX9_turned_43 : decode cX9_turned 43 = .ok (.aload_n 0, 1) := by decide +kernel
theorem dX9_turned_44 : decode cX9_turned 44 = .ok (.iload_n 1, 1) := by decide +kernel
theorem dX9_turned_45 : decode cX9_turned 45 = .ok (.iload_n 3, 1) := by decide +kernel
theorem dX9_turned_46 : decode cX9_turned 46 = .ok (.iconst 5, 1) := by decide +kernel
theorem dX9_turned_47 : decode cX9_turned 47 = .ok (.idiv, 1) := by decide +kernel
theorem dX9_turned_48 : decode cX9_turned 48 = .ok (.iload_n 3, 1) := by decide +kernel
theorem dX9_turned_49 : decode cX9_turned 49 = .ok (.iconst 5, 1) := by decide +kernel
theorem dX9_turned_50 : decode cX9_turned 50 = .ok (.irem, 1) := by decide +kernel
theorem dX9_turned_51 : decode cX9_turned 51 = .ok (.invokevirtual 321, 3) := by decide +kernel
theorem dX9_turned_54 : decode cX9_turned 54 = .ok (.aload_n 0, 1) := by decide +kernel
theorem dX9_turned_55 : decode cX9_turned 55 = .ok (.iconst 0, 1) := by decide +kernel
theorem dX9_turned_56 : decode cX9_turned 56 = .ok (.aload_n 0, 1) := by decide +kernel
theorem dX9_turned_57 : decode cX9_turned 57 = .ok (.getfield 16, 3) := by decide +kernel
theorem dX9_turned_60 : decode cX9_turned 60 = .ok (.iload_n 3, 1) := by decide +kernel
theorem dX9_turned_61 : decode cX9_turned 61 = .ok (.iconst 5, 1) := by decide +kernel
theorem dX9_turned_62 : decode cX9_turned 62 = .ok (.idiv, 1) := by decide +kernel
theorem dX9_turned_63 : decode cX9_turned 63 = .ok (.iaload, 1) := by decide +kernel
theorem dX9_turned_64 : decode cX9_turned 64 = .ok (.i2l, 1) := by decide +kernel
theorem dX9_turned_65 : decode cX9_turned 65 = .ok (.invokevirtual 129, 3) := by decide +kernel
theorem dX9_turned_68 : decode cX9_turned 68 = .ok (.aload_n 0, 1) := by decide +kernel
theorem dX9_turned_69 : decode cX9_turned 69 = .ok (.iconst 0, 1) := by decide +kernel
theorem dX9_turned_70 : decode cX9_turned 70 = .ok (.iconst 5, 1) := by decide +kernel
theorem dX9_turned_71 : decode cX9_turned 71 = .ok (.invokevirtual 107, 3) := by decide +kernel
theorem dX9_turned_74 : decode cX9_turned 74 = .ok (.aload_n 0, 1) := by decide +kernel
theorem dX9_turned_75 : decode cX9_turned 75 = .ok (.iconst 2, 1) := by decide +kernel
theorem dX9_turned_76 : decode cX9_turned 76 = .ok (.iload_n 3, 1) := by decide +kernel
theorem dX9_turned_77 : decode cX9_turned 77 = .ok (.iconst 5, 1) := by decide +kernel
theorem dX9_turned_78 : decode cX9_turned 78 = .ok (.idiv, 1) := by decide +kernel
theorem dX9_turned_79 : decode cX9_turned 79 = .ok (.iload_n 3, 1) := by decide +kernel
theorem dX9_turned_80 : decode cX9_turned 80 = .ok (.iconst 5, 1) := by decide +kernel
theorem dX9_turned_81 : decode cX9_turned 81 = .ok (.irem, 1) := by decide +kernel
theorem dX9_turned_82 : decode cX9_turned 82 = .ok (.aload_n 0, 1) := by decide +kernel
theorem dX9_turned_83 : decode cX9_turned 83 = .ok (.getfield 35, 3) := by decide +kernel
theorem dX9_turned_86 : decode cX9_turned 86 = .ok (.iload_n 1, 1) := by decide +kernel
theorem dX9_turned_87 : decode cX9_turned 87 = .ok (.iaload, 1) := by decide +kernel
theorem dX9_turned_88 : decode cX9_turned 88 = .ok (.aload_n 0, 1) := by decide +kernel
theorem dX9_turned_89 : decode cX9_turned 89 = .ok (.getfield 38, 3) := by decide +kernel
theorem dX9_turned_92 : decode cX9_turned 92 = .ok (.iload_n 1, 1) := by decide +kernel
theorem dX9_turned_93 : decode cX9_turned 93 = .ok (.iaload, 1) := by decide +kernel
theorem dX9_turned_94 : decode cX9_turned 94 = .ok (.aload_n 0, 1) := by decide +kernel
theorem dX9_turned_95 : decode cX9_turned 95 = .ok (.aload_n 0, 1) := by decide +kernel
theorem dX9_turned_96 : decode cX9_turned 96 = .ok (.getfield 35, 3) := by decide +kernel
theorem dX9_turned_99 : decode cX9_turned 99 = .ok (.iload_n 1, 1) := by decide +kernel
theorem dX9_turned_100 : decode cX9_turned 100 = .ok (.iaload, 1) := by decide +kernel
theorem dX9_turned_101 : decode cX9_turned 101 = .ok (.aload_n 0, 1) := by decide +kernel
theorem dX9_turned_102 : decode cX9_turned 102 = .ok (.getfield 38, 3) := by decide +kernel
theorem dX9_turned_105 : decode cX9_turned 105 = .ok (.iload_n 1, 1) := by decide +kernel
theorem dX9_turned_106 : decode cX9_turned 106 = .ok (.iaload, 1) := by decide +kernel
theorem dX9_turned_107 : decode cX9_turned 107 = .ok (.invokevirtual 144, 3) := by decide +kernel
theorem dX9_turned_110 : decode cX9_turned 110 = .ok (.invokevirtual 304, 3) := by decide +kernel
theorem dX9_turned_113 : decode cX9_turned 113 = .ok (.aload_n 0, 1) := by decide +kernel
theorem dX9_turned_114 : decode cX9_turned 114 = .ok (.iconst 0, 1) := by decide +kernel
theorem dX9_turned_115 : decode cX9_turned 115 = .ok (.aload_n 0, 1) := by decide +kernel
theorem dX9_turned_116 : decode cX9_turned 116 = .ok (.getfield 16, 3) := by decide +kernel
theorem dX9_turned_119 : decode cX9_turned 119 = .ok (.aload_n 0, 1) := by decide +kernel
theorem dX9_turned_120 : decode cX9_turned 120 = .ok (.getfield 35, 3) := by decide +kernel
theorem dX9_turned_123 : decode cX9_turned 123 = .ok (.iload_n 1, 1) := by decide +kernel
theorem dX9_turned_124 : decode cX9_turned 124 = .ok (.iaload, 1) := by decide +kernel
theorem dX9_turned_125 : decode cX9_turned 125 = .ok (.iaload, 1) := by decide +kernel
theorem dX9_turned_126 : decode cX9_turned 126 = .ok (.i2l, 1) := by decide +kernel
theorem dX9_turned_127 : decode cX9_turned 127 = .ok (.invokevirtual 129, 3) := by decide +kernel
theorem dX9_turned_130 : decode cX9_turned 130 = .ok (.aload_n 0, 1) := by decide +kernel
theorem dX9_turned_131 : decode cX9_turned 131 = .ok (.getfield 47, 3) := by decide +kernel
theorem dX9_turned_134 : decode cX9_turned 134 = .ok (.iconst 0, 1) := by decide +kernel
theorem dX9_turned_135 : decode cX9_turned 135 = .ok (.iaload, 1) := by decide +kernel
theorem dX9_turned_136 : decode cX9_turned 136 = .ok (.aload_n 0, 1) := by decide +kernel
theorem dX9_turned_137 : decode cX9_turned 137 = .ok (.getfield 47, 3) := by decide +kernel
theorem dX9_turned_140 : decode cX9_turned 140 = .ok (.iconst 5, 1) := by decide +kernel
theorem dX9_turned_141 : decode cX9_turned 141 = .ok (.iaload, 1) := by decide +kernel
theorem dX9_turned_142 : decode cX9_turned 142 = .ok (.if_icmp .ne 16, 3) := by decide +kernel
theorem dX9_turned_145 : decode cX9_turned 145 = .ok (.aload_n 0, 1) := by decide +kernel
theorem dX9_turned_146 : decode cX9_turned 146 = .ok (.iconst 0, 1) := by decide +kernel
theorem dX9_turned_147 : decode cX9_turned 147 = .ok (.iconst 5, 1) := by decide +kernel
theorem dX9_turned_148 : decode cX9_turned 148 = .ok (.invokevirtual 114, 3) := by decide +kernel
theorem dX9_turned_151 : decode cX9_turned 151 = .ok (.ifCond .ne 7, 3) := by decide +kernel
theorem dX9_turned_154 : decode cX9_turned 154 = .ok (.iconst 1, 1) := by decide +kernel
theorem dX9_turned_155 : decode cX9_turned 155 = .ok (.goto 4, 3) := by decide +kernel
theorem dX9_turned_158 : decode cX9_turned 158 = .ok (.iconst 0, 1) := by decide +kernel
theorem dX9_turned_159 : decode cX9_turned 159 = .ok (.istore_n 2, 1) := by decide +kernel
theorem dX9_turned_160 : decode cX9_turned 160 = .ok (.iinc 3 1, 3) := by decide +kernel
theorem dX9_turned_163 : decode cX9_turned 163 = .ok (.goto (-134), 3) := by decide +kernel
theorem dX9_turned_166 : decode cX9_turned 166 = .ok (.iload_n 2, 1) := by decide +kernel
theorem dX9_turned_167 : decode cX9_turned 167 = .ok (.ireturn, 1) := by decide +kernel
theorem dX9_sums_0 : decode cX9_sums 0 = .ok (.aload_n 0, 1) := by decide +kernel
theorem dX9_sums_1 : decode cX9_sums 1 = .ok (.iconst 0, 1) := by decide +kernel
theorem dX9_sums_2 : decode cX9_sums 2 = .ok (.putfield 97, 3) := by decide +kernel
theorem dX9_sums_5 : decode cX9_sums 5 = .ok (.aload_n 0, 1) := by decide +kernel
theorem dX9_sums_6 : decode cX9_sums 6 = .ok (.invokevirtual 252, 3) := by decide +kernel
theorem dX9_sums_9 : decode cX9_sums 9 = .ok (.aload_n 0, 1) := by decide +kernel
theorem dX9_sums_10 : decode cX9_sums 10 = .ok (.getfield 212, 3) := by decide +kernel
theorem dX9_sums_13 : decode cX9_sums 13 = .ok (.ifCond .ne 7, 3) := by decide +kernel
theorem dX9_sums_16 : decode cX9_sums 16 = .ok (.iconst 1, 1) := by decide +kernel
theorem dX9_sums_17 : decode cX9_sums 17 = .ok (.goto 4, 3) := by decide +kernel
theorem dX9_sums_20 : decode cX9_sums 20 = .ok (.iconst 0, 1) := by decide +kernel
theorem dX9_sums_21 : decode cX9_sums 21 = .ok (.istore_n 1, 1) := by decide +kernel
theorem dX9_sums_22 : decode cX9_sums 22 = .ok (.iconst 0, 1) := by decide +kernel
theorem dX9_sums_23 : decode cX9_sums 23 = .ok (.istore_n 2, 1) := by decide +kernel
theorem dX9_sums_24 : decode cX9_sums 24 = .ok (.iload_n 2, 1) := by decide +kernel
theorem dX9_sums_25 : decode cX9_sums 25 = .ok (.iconst 5, 1) := by decide +kernel
theorem dX9_sums_26 : decode cX9_sums 26 = .ok (.aload_n 0, 1) := by decide +kernel
theorem dX9_sums_27 : decode cX9_sums 27 = .ok (.getfield 93, 3) := by decide +kernel
theorem dX9_sums_30 : decode cX9_sums 30 = .ok (.imul, 1) := by decide +kernel
theorem dX9_sums_31 : decode cX9_sums 31 = .ok (.if_icmp .ge 113, 3) := by decide +kernel
theorem dX9_sums_34 : decode cX9_sums 34 = .ok (.iload_n 1, 1) := by decide +kernel
theorem dX9_sums_35 : decode cX9_sums 35 = .ok (.ifCond .eq 109, 3) := by decide +kernel
theorem dX9_sums_38 : decode cX9_sums 38 = .ok (.aload_n 0, 1) := by decide +kernel
theorem dX9_sums_39 : decode cX9_sums 39 = .ok (.iconst 5, 1) := by decide +kernel
theorem dX9_sums_40 : decode cX9_sums 40 = .ok (.lconst 0, 1) := by decide +kernel
theorem dX9_sums_41 : decode cX9_sums 41 = .ok (.invokevirtual 121, 3) := by decide +kernel
theorem dX9_sums_44 : decode cX9_sums 44 = .ok (.iconst 0, 1) := by decide +kernel
theorem dX9_sums_45 : decode cX9_sums 45 = .ok (.istore_n 3, 1) := by decide +kernel
theorem dX9_sums_46 : decode cX9_sums 46 = .ok (.iload_n 3, 1) := by decide +kernel
theorem dX9_sums_47 : decode cX9_sums 47 = .ok (.aload_n 0, 1) := by decide +kernel
theorem dX9_sums_48 : decode cX9_sums 48 = .ok (.getfield 93, 3) := by decide +kernel
theorem dX9_sums_51 : decode cX9_sums 51 = .ok (.if_icmp .gt 55, 3) := by decide +kernel
theorem dX9_sums_54 : decode cX9_sums 54 = .ok (.aload_n 0, 1) := by decide +kernel
theorem dX9_sums_55 : decode cX9_sums 55 = .ok (.getfield 23, 3) := by decide +kernel
theorem dX9_sums_58 : decode cX9_sums 58 = .ok (.iload_n 3, 1) := by decide +kernel
theorem dX9_sums_59 : decode cX9_sums 59 = .ok (.baload, 1) := by decide +kernel
theorem dX9_sums_60 : decode cX9_sums 60 = .ok (.ifCond .eq 40, 3) := by decide +kernel
theorem dX9_sums_63 : decode cX9_sums 63 = .ok (.aload_n 0, 1) := by decide +kernel
theorem dX9_sums_64 : decode cX9_sums 64 = .ok (.iconst 3, 1) := by decide +kernel
theorem dX9_sums_65 : decode cX9_sums 65 = .ok (.iload_n 3, 1) := by decide +kernel
theorem dX9_sums_66 : decode cX9_sums 66 = .ok (.iconst 0, 1) := by decide +kernel
theorem dX9_sums_67 : decode cX9_sums 67 = .ok (.iload_n 2, 1) := by decide +kernel
theorem dX9_sums_68 : decode cX9_sums 68 = .ok (.iconst 5, 1) := by decide +kernel
theorem dX9_sums_69 : decode cX9_sums 69 = .ok (.idiv, 1) := by decide +kernel
theorem dX9_sums_70 : decode cX9_sums 70 = .ok (.iload_n 2, 1) := by decide +kernel
theorem dX9_sums_71 : decode cX9_sums 71 = .ok (.iconst 5, 1) := by decide +kernel
theorem dX9_sums_72 : decode cX9_sums 72 = .ok (.irem, 1) := by decide +kernel
theorem dX9_sums_73 : decode cX9_sums 73 = .ok (.aload_n 0, 1) := by decide +kernel
theorem dX9_sums_74 : decode cX9_sums 74 = .ok (.iload_n 2, 1) := by decide +kernel
theorem dX9_sums_75 : decode cX9_sums 75 = .ok (.iconst 5, 1) := by decide +kernel
theorem dX9_sums_76 : decode cX9_sums 76 = .ok (.idiv, 1) := by decide +kernel
theorem dX9_sums_77 : decode cX9_sums 77 = .ok (.iload_n 2, 1) := by decide +kernel
theorem dX9_sums_78 : decode cX9_sums 78 = .ok (.iconst 5, 1) := by decide +kernel
theorem dX9_sums_79 : decode cX9_sums 79 = .ok (.irem, 1) := by decide +kernel
theorem dX9_sums_80 : decode cX9_sums 80 = .ok (.invokevirtual 144, 3) := by decide +kernel
theorem dX9_sums_83 : decode cX9_sums 83 = .ok (.invokevirtual 304, 3) := by decide +kernel
theorem dX9_sums_86 : decode cX9_sums 86 = .ok (.aload_n 0, 1) := by decide +kernel
theorem dX9_sums_87 : decode cX9_sums 87 = .ok (.iconst 5, 1) := by decide +kernel
theorem dX9_sums_88 : decode cX9_sums 88 = .ok (.iconst 0, 1) := by decide +kernel
theorem dX9_sums_89 : decode cX9_sums 89 = .ok (.iconst 1, 1) := by decide +kernel
theorem dX9_sums_90 : decode cX9_sums 90 = .ok (.iconst 4, 1) := by decide +kernel
theorem dX9_sums_91 : decode cX9_sums 91 = .ok (.invokevirtual 201, 3) := by decide +kernel
theorem dX9_sums_94 : decode cX9_sums 94 = .ok (.aload_n 0, 1) := by decide +kernel
theorem dX9_sums_95 : decode cX9_sums 95 = .ok (.iconst 4, 1) := by decide +kernel
theorem dX9_sums_96 : decode cX9_sums 96 = .ok (.iconst 5, 1) := by decide +kernel
theorem dX9_sums_97 : decode cX9_sums 97 = .ok (.invokevirtual 107, 3) := by decide +kernel
theorem dX9_sums_100 : decode cX9_sums 100 = .ok (.iinc 3 1, 3) := by decide +kernel
theorem dX9_sums_103 : decode cX9_sums 103 = .ok (.goto (-57), 3) := by decide +kernel
theorem dX9_sums_106 : decode cX9_sums 106 = .ok (.aload_n 0, 1) := by decide +kernel
theorem dX9_sums_107 : decode cX9_sums 107 = .ok (.getfield 47, 3) := by decide +kernel
theorem dX9_sums_110 : decode cX9_sums 110 = .ok (.iconst 5, 1) := by decide +kernel
theorem dX9_sums_111 : decode cX9_sums 111 = .ok (.iaload, 1) := by decide +kernel
theorem dX9_sums_112 : decode cX9_sums 112 = .ok (.aload_n 0, 1) := by decide +kernel
theorem dX9_sums_113 : decode cX9_sums 113 = .ok (.getfield 47, 3) := by decide +kernel
theorem dX9_sums_116 : decode cX9_sums 116 = .ok (.bipush 10, 2) := by decide +kernel
theorem dX9_sums_118 : decode cX9_sums 118 = .ok (.iaload, 1) := by decide +kernel
theorem dX9_sums_119 : decode cX9_sums 119 = .ok (.if_icmp .ne 17, 3) := by decide +kernel
theorem dX9_sums_122 : decode cX9_sums 122 = .ok (.aload_n 0, 1) := by decide +kernel
theorem dX9_sums_123 : decode cX9_sums 123 = .ok (.iconst 5, 1) := by decide +kernel
theorem dX9_sums_124 : decode cX9_sums 124 = .ok (.bipush 10, 2) := by decide +kernel
theorem dX9_sums_126 : decode cX9_sums 126 = .ok (.invokevirtual 114, 3) := by decide +kernel
theorem dX9_sums_129 : decode cX9_sums 129 = .ok (.ifCond .ne 7, 3) := by decide +kernel
theorem dX9_sums_132 : decode cX9_sums 132 = .ok (.iconst 1, 1) := by decide +kernel
theorem dX9_sums_133 : decode cX9_sums 133 = .ok (.goto 4, 3) := by decide +kernel
theorem dX9_sums_136 : decode cX9_sums 136 = .ok (.iconst 0, 1) := by decide +kernel
theorem dX9_sums_137 : decode cX9_sums 137 = .ok (.istore_n 1, 1) := by decide +kernel
theorem dX9_sums_138 : decode cX9_sums 138 = .ok (.iinc 2 1, 3) := by decide +kernel
theorem dX9_sums_141 : decode cX9_sums 141 = .ok (.goto (-117), 3) := by decide +kernel
theorem dX9_sums_144 : decode cX9_sums 144 = .ok (.iload_n 1, 1) := by decide +kernel
theorem dX9_sums_145 : decode cX9_sums 145 = .ok (.ireturn, 1) := by decide +kernel
theorem dX9_move_0 : decode cX9_move 0 = .ok (.aload_n 0, 1) := by decide +kernel
theorem dX9_move_1 : decode cX9_move 1 = .ok (.iconst 0, 1) := by decide +kernel
theorem dX9_move_2 : decode cX9_move 2 = .ok (.putfield 97, 3) := by decide +kernel
theorem dX9_move_5 : decode cX9_move 5 = .ok (.aload_n 0, 1) := by decide +kernel
theorem dX9_move_6 : decode cX9_move 6 = .ok (.invokevirtual 252, 3) := by decide +kernel
theorem dX9_move_9 : decode cX9_move 9 = .ok (.iload_n 1, 1) := by decide +kernel
theorem dX9_move_10 : decode cX9_move 10 = .ok (.ifCond .lt 56, 3) := by decide +kernel
theorem dX9_move_13 : decode cX9_move 13 = .ok (.iload_n 1, 1) := by decide +kernel
theorem dX9_move_14 : decode cX9_move 14 = .ok (.aload_n 0, 1) := by decide +kernel
theorem dX9_move_15 : decode cX9_move 15 = .ok (.getfield 93, 3) := by decide +kernel
theorem dX9_move_18 : decode cX9_move 18 = .ok (.if_icmp .gt 48, 3) := by decide +kernel
theorem dX9_move_21 : decode cX9_move 21 = .ok (.lload_n 2, 1) := by decide +kernel
theorem dX9_move_22 : decode cX9_move 22 = .ok (.ldc2_w 289, 3) := by decide +kernel
theorem dX9_move_25 : decode cX9_move 25 = .ok (.lcmp, 1) := by decide +kernel
theorem dX9_move_26 : decode cX9_move 26 = .ok (.ifCond .lt 40, 3) := by decide +kernel
theorem dX9_move_29 : decode cX9_move 29 = .ok (.lload_n 2, 1) := by decide +kernel
theorem dX9_move_30 : decode cX9_move 30 = .ok (.ldc2_w 291, 3) := by decide +kernel
theorem dX9_move_33 : decode cX9_move 33 = .ok (.lcmp, 1) := by decide +kernel
theorem dX9_move_34 : decode cX9_move 34 = .ok (.ifCond .gt 32, 3) := by decide +kernel
theorem dX9_move_37 : decode cX9_move 37 = .ok (.lload 4, 2) := by decide +kernel
theorem dX9_move_39 : decode cX9_move 39 = .ok (.lconst 1, 1) := by decide +kernel
theorem dX9_move_40 : decode cX9_move 40 = .ok (.lcmp, 1) := by decide +kernel
theorem dX9_move_41 : decode cX9_move 41 = .ok (.ifCond .lt 25, 3) := by decide +kernel
theorem dX9_move_44 : decode cX9_move 44 = .ok (.lload 4, 2) := by decide +kernel
theorem dX9_move_46 : decode cX9_move 46 = .ok (.ldc2_w 291, 3) := by decide +kernel
theorem dX9_move_49 : decode cX9_move 49 = .ok (.lcmp, 1) := by decide +kernel
theorem dX9_move_50 : decode cX9_move 50 = .ok (.ifCond .gt 16, 3) := by decide +kernel
theorem dX9_move_53 : decode cX9_move 53 = .ok (.iload 6, 2) := by decide +kernel
theorem dX9_move_55 : decode cX9_move 55 = .ok (.iconst (-1), 1) := by decide +kernel
theorem dX9_move_56 : decode cX9_move 56 = .ok (.if_icmp .lt 10, 3) := by decide +kernel
theorem dX9_move_59 : decode cX9_move 59 = .ok (.aload_n 0, 1) := by decide +kernel
theorem dX9_move_60 : decode cX9_move 60 = .ok (.getfield 212, 3) := by decide +kernel
theorem dX9_move_63 : decode cX9_move 63 = .ok (.ifCond .eq 9, 3) := by decide +kernel
theorem dX9_move_66 : decode cX9_move 66 = .ok (.iload 6, 2) := by decide +kernel
theorem dX9_move_68 : decode cX9_move 68 = .ok (.invokestatic 317, 3) := by decide +kernel
theorem dX9_move_71 : decode cX9_move 71 = .ok (.lreturn, 1) := by decide +kernel
theorem dX9_move_72 : decode cX9_move 72 = .ok (.iload_n 1, 1) := by decide +kernel
theorem dX9_move_73 : decode cX9_move 73 = .ok (.aload_n 0, 1) := by decide +kernel
theorem dX9_move_74 : decode cX9_move 74 = .ok (.getfield 93, 3) := by decide +kernel
theorem dX9_move_77 : decode cX9_move 77 = .ok (.if_icmp .ge 7, 3) := by decide +kernel
theorem dX9_move_80 : decode cX9_move 80 = .ok (.iconst 1, 1) := by decide +kernel
theorem dX9_move_81 : decode cX9_move 81 = .ok (.goto 4, 3) := by decide +kernel
theorem dX9_move_84 : decode cX9_move 84 = .ok (.iconst 0, 1) := by decide +kernel
theorem dX9_move_85 : decode cX9_move 85 = .ok (.istore 7, 2) := by decide +kernel
theorem dX9_move_87 : decode cX9_move 87 = .ok (.iload 7, 2) := by decide +kernel
theorem dX9_move_89 : decode cX9_move 89 = .ok (.ifCond .eq 7, 3) := by decide +kernel
theorem dX9_move_92 : decode cX9_move 92 = .ok (.iload_n 1, 1) := by decide +kernel
theorem dX9_move_93 : decode cX9_move 93 = .ok (.goto 6, 3) := by decide +kernel
theorem dX9_move_96 : decode cX9_move 96 = .ok (.iload_n 1, 1) := by decide +kernel
theorem dX9_move_97 : decode cX9_move 97 = .ok (.iconst 1, 1) := by decide +kernel
theorem dX9_move_98 : decode cX9_move 98 = .ok (.isub, 1) := by decide +kernel
theorem dX9_move_99 : decode cX9_move 99 = .ok (.istore 8, 2) := by decide +kernel
theorem dX9_move_101 : decode cX9_move 101 = .ok (.aload_n 0, 1) := by decide +kernel
theorem dX9_move_102 : decode cX9_move 102 = .ok (.iconst 2, 1) := by decide +kernel
theorem dX9_move_103 : decode cX9_move 103 = .ok (.iload 8, 2) := by decide +kernel
theorem dX9_move_105 : decode cX9_move 105 = .ok (.iload 7, 2) := by decide +kernel
theorem dX9_move_107 : decode cX9_move 107 = .ok (.ifCond .eq 7, 3) := by decide +kernel
theorem dX9_move_110 : decode cX9_move 110 = .ok (.iconst 0, 1) := by decide +kernel
theorem dX9_move_111 : decode cX9_move 111 = .ok (.goto 4, 3) := by decide +kernel
theorem dX9_move_114 : decode cX9_move 114 = .ok (.iconst 4, 1) := by decide +kernel
theorem dX9_move_115 : decode cX9_move 115 = .ok (.iconst 0, 1) := by decide +kernel
theorem dX9_move_116 : decode cX9_move 116 = .ok (.iconst 0, 1) := by decide +kernel
theorem dX9_move_117 : decode cX9_move 117 = .ok (.aload_n 0, 1) := by decide +kernel
theorem dX9_move_118 : decode cX9_move 118 = .ok (.invokevirtual 172, 3) := by decide +kernel
theorem dX9_move_121 : decode cX9_move 121 = .ok (.invokevirtual 304, 3) := by decide +kernel
theorem dX9_move_124 : decode cX9_move 124 = .ok (.aload_n 0, 1) := by decide +kernel
theorem dX9_move_125 : decode cX9_move 125 = .ok (.bipush 10, 2) := by decide +kernel
theorem dX9_move_127 : decode cX9_move 127 = .ok (.iconst 1, 1) := by decide +kernel
theorem dX9_move_128 : decode cX9_move 128 = .ok (.invokevirtual 107, 3) := by decide +kernel
theorem dX9_move_131 : decode cX9_move 131 = .ok (.aload_n 0, 1) := by decide +kernel
theorem dX9_move_132 : decode cX9_move 132 = .ok (.iconst 1, 1) := by decide +kernel
theorem dX9_move_133 : decode cX9_move 133 = .ok (.aload_n 0, 1) := by decide +kernel
theorem dX9_move_134 : decode cX9_move 134 = .ok (.iconst 2, 1) := by decide +kernel
theorem dX9_move_135 : decode cX9_move 135 = .ok (.iload 8, 2) := by decide +kernel
theorem dX9_move_137 : decode cX9_move 137 = .ok (.invokevirtual 324, 3) := by decide +kernel
theorem dX9_move_140 : decode cX9_move 140 = .ok (.invokevirtual 129, 3) := by decide +kernel
theorem dX9_move_143 : decode cX9_move 143 = .ok (.aload_n 0, 1) := by decide +kernel
theorem dX9_move_144 : decode cX9_move 144 = .ok (.iconst 0, 1) := by decide +kernel
theorem dX9_move_145 : decode cX9_move 145 = .ok (.lload_n 2, 1) := by decide +kernel
theorem dX9_move_146 : decode cX9_move 146 = .ok (.invokevirtual 129, 3) := by decide +kernel
theorem dX9_move_149 : decode cX9_move 149 = .ok (.aload_n 0, 1) := by decide +kernel
theorem dX9_move_150 : decode cX9_move 150 = .ok (.iconst 1, 1) := by decide +kernel
theorem dX9_move_151 : decode cX9_move 151 = .ok (.lload 4, 2) := by decide +kernel
theorem dX9_move_153 : decode cX9_move 153 = .ok (.invokevirtual 129, 3) := by decide +kernel
theorem dX9_move_156 : decode cX9_move 156 = .ok (.aload_n 0, 1) := by decide +kernel
theorem dX9_move_157 : decode cX9_move 157 = .ok (.invokevirtual 327, 3) := by decide +kernel
theorem dX9_move_160 : decode cX9_move 160 = .ok (.aload_n 0, 1) := by decide +kernel
theorem dX9_move_161 : decode cX9_move 161 = .ok (.iload 6, 2) := by decide +kernel
theorem dX9_move_163 : decode cX9_move 163 = .ok (.invokevirtual 330, 3) := by decide +kernel
theorem dX9_move_166 : decode cX9_move 166 = .ok (.lreturn, 1) := by decide +kernel
theorem dX9_count_0 : decode cX9_count 0 = .ok (.aload_n 0, 1) := by decide +kernel
theorem dX9_count_1 : decode cX9_count 1 = .ok (.iconst 0, 1) := by decide +kernel
theorem dX9_count_2 : decode cX9_count 2 = .ok (.putfield 97, 3) := by decide +kernel
theorem dX9_count_5 : decode cX9_count 5 = .ok (.iconst 0, 1) := by decide +kernel
theorem dX9_count_6 : decode cX9_count 6 = .ok (.istore_n 2, 1) := by decide +kernel
theorem dX9_count_7 : decode cX9_count 7 = .ok (.iconst 0, 1) := by decide +kernel
theorem dX9_count_8 : decode cX9_count 8 = .ok (.istore_n 3, 1) := by decide +kernel
theorem dX9_count_9 : decode cX9_count 9 = .ok (.iconst 0, 1) := by decide +kernel
theorem dX9_count_10 : decode cX9_count 10 = .ok (.istore 4, 2) := by decide +kernel
theorem dX9_count_12 : decode cX9_count 12 = .ok (.iconst 0, 1) := by decide +kernel
theorem dX9_count_13 : decode cX9_count 13 = .ok (.istore 5, 2) := by decide +kernel
theorem dX9_count_15 : decode cX9_count 15 = .ok (.iload 5, 2) := by decide +kernel
theorem dX9_count_17 : decode cX9_count 17 = .ok (.aload_n 0, 1) := by decide +kernel
theorem dX9_count_18 : decode cX9_count 18 = .ok (.getfield 93, 3) := by decide +kernel
theorem dX9_count_21 : decode cX9_count 21 = .ok (.if_icmp .ge 61, 3) := by decide +kernel
theorem dX9_count_24 : decode cX9_count 24 = .ok (.iload_n 2, 1) := by decide +kernel
theorem dX9_count_25 : decode cX9_count 25 = .ok (.aload_n 0, 1) := by decide +kernel
theorem dX9_count_26 : decode cX9_count 26 = .ok (.getfield 19, 3) := by decide +kernel
theorem dX9_count_29 : decode cX9_count 29 = .ok (.iconst 2, 1) := by decide +kernel
theorem dX9_count_30 : decode cX9_count 30 = .ok (.iload 5, 2) := by decide +kernel
theorem dX9_count_32 : decode cX9_count 32 = .ok (.imul, 1) := by decide +kernel
theorem dX9_count_33 : decode cX9_count 33 = .ok (.baload, 1) := by decide +kernel
theorem dX9_count_34 : decode cX9_count 34 = .ok (.ifCond .eq 7, 3) := by decide +kernel
theorem dX9_count_37 : decode cX9_count 37 = .ok (.iconst 1, 1) := by decide +kernel
theorem dX9_count_38 : decode cX9_count 38 = .ok (.goto 4, 3) := by decide +kernel
theorem dX9_count_41 : decode cX9_count 41 = .ok (.iconst 0, 1) := by decide +kernel
theorem dX9_count_42 : decode cX9_count 42 = .ok (.aload_n 0, 1) := by decide +kernel
theorem dX9_count_43 : decode cX9_count 43 = .ok (.getfield 19, 3) := by decide +kernel
theorem dX9_count_46 : decode cX9_count 46 = .ok (.iconst 2, 1) := by decide +kernel
theorem dX9_count_47 : decode cX9_count 47 = .ok (.iload 5, 2) := by decide +kernel
theorem dX9_count_49 : decode cX9_count 49 = .ok (.imul, 1) := by decide +kernel
theorem dX9_count_50 : decode cX9_count 50 = .ok (.iconst 1, 1) := by decide +kernel
theorem dX9_count_51 : decode cX9_count 51 = .ok (.iadd, 1) := by decide +kernel
theorem dX9_count_52 : decode cX9_count 52 = .ok (.baload, 1) := by decide +kernel
theorem dX9_count_53 : decode cX9_count 53 = .ok (.ifCond .eq 7, 3) := by decide +kernel
theorem dX9_count_56 : decode cX9_count 56 = .ok (.iconst 1, 1) := by decide +kernel
theorem dX9_count_57 : decode cX9_count 57 = .ok (.goto 4, 3) := by decide +kernel
theorem dX9_count_60 : decode cX9_count 60 = .ok (.iconst 0, 1) := by decide +kernel
theorem dX9_count_61 : decode cX9_count 61 = .ok (.iadd, 1) := by decide +kernel
theorem dX9_count_62 : decode cX9_count 62 = .ok (.iadd, 1) := by decide +kernel
theorem dX9_count_63 : decode cX9_count 63 = .ok (.istore_n 2, 1) := by decide +kernel
theorem dX9_count_64 : decode cX9_count 64 = .ok (.iload 4, 2) := by decide +kernel
theorem dX9_count_66 : decode cX9_count 66 = .ok (.aload_n 0, 1) := by decide +kernel
theorem dX9_count_67 : decode cX9_count 67 = .ok (.getfield 13, 3) := by decide +kernel
theorem dX9_count_70 : decode cX9_count 70 = .ok (.iload 5, 2) := by decide +kernel
theorem dX9_count_72 : decode cX9_count 72 = .ok (.iaload, 1) := by decide +kernel
theorem dX9_count_73 : decode cX9_count 73 = .ok (.iadd, 1) := by decide +kernel
theorem dX9_count_74 : decode cX9_count 74 = .ok (.istore 4, 2) := by decide +kernel
theorem dX9_count_76 : decode cX9_count 76 = .ok (.iinc 5 1, 3) := by decide +kernel
theorem dX9_count_79 : decode cX9_count 79 = .ok (.goto (-64), 3) := by decide +kernel
theorem dX9_count_82 : decode cX9_count 82 = .ok (.iconst 0, 1) := by decide +kernel
theorem dX9_count_83 : decode cX9_count 83 = .ok (.istore 5, 2) := by decide +kernel
theorem dX9_count_85 : decode cX9_count 85 = .ok (.iload 5, 2) := by decide +kernel
theorem dX9_count_87 : decode cX9_count 87 = .ok (.aload_n 0, 1) := by decide +kernel
theorem dX9_count_88 : decode cX9_count 88 = .ok (.getfield 93, 3) := by decide +kernel
theorem dX9_count_91 : decode cX9_count 91 = .ok (.if_icmp .gt 27, 3) := by decide +kernel
theorem dX9_count_94 : decode cX9_count 94 = .ok (.iload_n 3, 1) := by decide +kernel
theorem dX9_count_95 : decode cX9_count 95 = .ok (.aload_n 0, 1) := by decide +kernel
theorem dX9_count_96 : decode cX9_count 96 = .ok (.getfield 23, 3) := by decide +kernel
theorem dX9_count_99 : decode cX9_count 99 = .ok (.iload 5, 2) := by decide +kernel
theorem dX9_count_101 : decode cX9_count 101 = .ok (.baload, 1) := by decide +kernel
theorem dX9_count_102 : decode cX9_count 102 = .ok (.ifCond .eq 7, 3) := by decide +kernel
theorem dX9_count_105 : decode cX9_count 105 = .ok (.iconst 1, 1) := by decide +kernel
theorem dX9_count_106 : decode cX9_count 106 = .ok (.goto 4, 3) := by decide +kernel
theorem dX9_count_109 : decode cX9_count 109 = .ok (.iconst 0, 1) := by decide +kernel
theorem dX9_count_110 : decode cX9_count 110 = .ok (.iadd, 1) := by decide +kernel
theorem dX9_count_111 : decode cX9_count 111 = .ok (.istore_n 3, 1) := by decide +kernel
theorem dX9_count_112 : decode cX9_count 112 = .ok (.iinc 5 1, 3) := by decide +kernel
theorem dX9_count_115 : decode cX9_count 115 = .ok (.goto (-30), 3) := by decide +kernel
theorem dX9_count_118 : decode cX9_count 118 = .ok (.iload_n 1, 1) := by decide +kernel
theorem dX9_count_119 : decode cX9_count 119 = .ok (.ifCond .ne 10, 3) := by decide +kernel
theorem dX9_count_122 : decode cX9_count 122 = .ok (.aload_n 0, 1) := by decide +kernel
theorem dX9_count_123 : decode cX9_count 123 = .ok (.getfield 93, 3) := by decide +kernel
theorem dX9_count_126 : decode cX9_count 126 = .ok (.goto 44, 3) := by decide +kernel
theorem dX9_count_129 : decode cX9_count 129 = .ok (.iload_n 1, 1) := by decide +kernel
theorem dX9_count_130 : decode cX9_count 130 = .ok (.iconst 1, 1) := by decide +kernel
theorem dX9_count_131 : decode cX9_count 131 = .ok (.if_icmp .ne 10, 3) := by decide +kernel
theorem dX9_count_134 : decode cX9_count 134 = .ok (.aload_n 0, 1) := by decide +kernel
theorem dX9_count_135 : decode cX9_count 135 = .ok (.getfield 284, 3) := by decide +kernel
theorem dX9_count_138 : decode cX9_count 138 = .ok (.goto 32, 3) := by decide +kernel
theorem dX9_count_141 : decode cX9_count 141 = .ok (.iload_n 1, 1) := by decide +kernel
theorem dX9_count_142 : decode cX9_count 142 = .ok (.iconst 2, 1) := by decide +kernel
theorem dX9_count_143 : decode cX9_count 143 = .ok (.if_icmp .ne 7, 3) := by decide +kernel
theorem dX9_count_146 : decode cX9_count 146 = .ok (.iload_n 2, 1) := by decide +kernel
theorem dX9_count_147 : decode cX9_count 147 = .ok (.goto 23, 3) := by decide +kernel
theorem dX9_count_150 : decode cX9_count 150 = .ok (.iload_n 1, 1) := by decide +kernel
theorem dX9_count_151 : decode cX9_count 151 = .ok (.iconst 3, 1) := by decide +kernel
theorem dX9_count_152 : decode cX9_count 152 = .ok (.if_icmp .ne 7, 3) := by decide +kernel
theorem dX9_count_155 : decode cX9_count 155 = .ok (.iload_n 3, 1) := by decide +kernel
theorem dX9_count_156 : decode cX9_count 156 = .ok (.goto 14, 3) := by decide +kernel
theorem dX9_count_159 : decode cX9_count 159 = .ok (.iload_n 1, 1) := by decide +kernel
theorem dX9_count_160 : decode cX9_count 160 = .ok (.iconst 4, 1) := by decide +kernel
theorem dX9_count_161 : decode cX9_count 161 = .ok (.if_icmp .ne 8, 3) := by decide +kernel
theorem dX9_count_164 : decode cX9_count 164 = .ok (.iload 4, 2) := by decide +kernel
theorem dX9_count_166 : decode cX9_count 166 = .ok (.goto 4, 3) := by decide +kernel
theorem dX9_count_169 : decode cX9_count 169 = .ok (.iconst (-1), 1) := by decide +kernel
theorem dX9_count_170 : decode cX9_count 170 = .ok (.ireturn, 1) := by decide +kernel
theorem dJ5_init_d00df_0 : decode cJ5_init_d00df 0 = .ok (.aload_n 0, 1) := by decide +kernel
theorem dJ5_init_d00df_1 : decode cJ5_init_d00df 1 = .ok (.invokespecial 3, 3) := by decide +kernel
theorem dJ5_init_d00df_4 : decode cJ5_init_d00df 4 = .ok (.getstatic 18, 3) := by decide +kernel
theorem dJ5_init_d00df_7 : decode cJ5_init_d00df 7 = .ok (.ifCond .eq 18, 3) := by decide +kernel
theorem dJ5_init_d00df_10 : decode cJ5_init_d00df 10 = .ok (.aload_n 0, 1) := by decide +kernel
theorem dJ5_init_d00df_11 : decode cJ5_init_d00df 11 = .ok (.iload_n 1, 1) := by decide +kernel
theorem dJ5_init_d00df_12 : decode cJ5_init_d00df 12 = .ok (.newarray .byte, 2) := by decide +kernel
theorem dJ5_init_d00df_14 : decode cJ5_init_d00df 14 = .ok (.putfield 15, 3) := by decide +kernel
theorem dJ5_init_d00df_17 : decode cJ5_init_d00df 17 = .ok (.aload_n 0, 1) := by decide +kernel
theorem dJ5_init_d00df_18 : decode cJ5_init_d00df 18 = .ok (.iconst 0, 1) := by decide +kernel
theorem dJ5_init_d00df_19 : decode cJ5_init_d00df 19 = .ok (.putfield 22, 3) := by decide +kernel
theorem dJ5_init_d00df_22 : decode cJ5_init_d00df 22 = .ok (.goto 16, 3) := by decide +kernel
theorem dJ5_init_d00df_25 : decode cJ5_init_d00df 25 = .ok (.aload_n 0, 1) := by decide +kernel
theorem dJ5_init_d00df_26 : decode cJ5_init_d00df 26 = .ok (.iload_n 1, 1) := by decide +kernel
theorem dJ5_init_d00df_27 : decode cJ5_init_d00df 27 = .ok (.invokestatic 26, 3) := by decide +kernel
theorem dJ5_init_d00df_30 : decode cJ5_init_d00df 30 = .ok (.putfield 15, 3) := by decide +kernel
theorem dJ5_init_d00df_33 : decode cJ5_init_d00df 33 = .ok (.aload_n 0, 1) := by decide +kernel
theorem dJ5_init_d00df_34 : decode cJ5_init_d00df 34 = .ok (.iconst 1, 1) := by decide +kernel
theorem dJ5_init_d00df_35 : decode cJ5_init_d00df 35 = .ok (.putfield 22, 3) := by decide +kernel
theorem dJ5_init_d00df_38 : decode cJ5_init_d00df 38 = .ok (.return_, 1) := by decide +kernel
theorem dJ5_length_8abf5_0 : decode cJ5_length_8abf5 0 = .ok (.aload_n 0, 1) := by decide +kernel
theorem dJ5_length_8abf5_1 : decode cJ5_length_8abf5 1 = .ok (.getfield 79, 3) := by decide +kernel
theorem dJ5_length_8abf5_4 : decode cJ5_length_8abf5 4 = .ok (.ireturn, 1) := by decide +kernel
theorem dJ5_ensureCapacityInternal_d00df_0 : decode cJ5_ensureCapacityInternal_d00df 0 = .ok (.aload_n 0, 1) := by decide +kernel
theorem dJ5_ensureCapacityInternal_d00df_1 : decode cJ5_ensureCapacityInternal_d00df 1 = .ok (.getfield 15, 3) := by decide +kernel
theorem dJ5_ensureCapacityInternal_d00df_4 : decode cJ5_ensureCapacityInternal_d00df 4 = .ok (.arraylength, 1) := by decide +kernel
theorem dJ5_ensureCapacityInternal_d00df_5 : decode cJ5_ensureCapacityInternal_d00df 5 = .ok (.aload_n 0, 1) := by decide +kernel
theorem dJ5_ensureCapacityInternal_d00df_6 : decode cJ5_ensureCapacityInternal_d00df 6 = .ok (.getfield 22, 3) := by decide +kernel
theorem dJ5_ensureCapacityInternal_d00df_9 : decode cJ5_ensureCapacityInternal_d00df 9 = .ok (.ishr, 1) := by decide +kernel
theorem dJ5_ensureCapacityInternal_d00df_10 : decode cJ5_ensureCapacityInternal_d00df 10 = .ok (.istore_n 2, 1) := by decide +kernel
theorem dJ5_ensureCapacityInternal_d00df_11 : decode cJ5_ensureCapacityInternal_d00df 11 = .ok (.iload_n 1, 1) := by decide +kernel
theorem dJ5_ensureCapacityInternal_d00df_12 : decode cJ5_ensureCapacityInternal_d00df 12 = .ok (.iload_n 2, 1) := by decide +kernel
theorem dJ5_ensureCapacityInternal_d00df_13 : decode cJ5_ensureCapacityInternal_d00df 13 = .ok (.isub, 1) := by decide +kernel
theorem dJ5_ensureCapacityInternal_d00df_14 : decode cJ5_ensureCapacityInternal_d00df 14 = .ok (.ifCond .le 24, 3) := by decide +kernel
theorem dJ5_ensureCapacityInternal_d00df_17 : decode cJ5_ensureCapacityInternal_d00df 17 = .ok (.aload_n 0, 1) := by decide +kernel
theorem dJ5_ensureCapacityInternal_d00df_18 : decode cJ5_ensureCapacityInternal_d00df 18 = .ok (.aload_n 0, 1) := by decide +kernel
theorem dJ5_ensureCapacityInternal_d00df_19 : decode cJ5_ensureCapacityInternal_d00df 19 = .ok (.getfield 15, 3) := by decide +kernel
theorem dJ5_ensureCapacityInternal_d00df_22 : decode cJ5_ensureCapacityInternal_d00df 22 = .ok (.aload_n 0, 1) := by decide +kernel
theorem dJ5_ensureCapacityInternal_d00df_23 : decode cJ5_ensureCapacityInternal_d00df 23 = .ok (.iload_n 1, 1) := by decide +kernel
theorem dJ5_ensureCapacityInternal_d00df_24 : decode cJ5_ensureCapacityInternal_d00df 24 = .ok (.invokevirtual 104, 3) := by decide +kernel
theorem dJ5_ensureCapacityInternal_d00df_27 : decode cJ5_ensureCapacityInternal_d00df 27 = .ok (.aload_n 0, 1) := by decide +kernel
theorem dJ5_ensureCapacityInternal_d00df_28 : decode cJ5_ensureCapacityInternal_d00df 28 = .ok (.getfield 22, 3) := by decide +kernel
theorem dJ5_ensureCapacityInternal_d00df_31 : decode cJ5_ensureCapacityInternal_d00df 31 = .ok (.ishl, 1) := by decide +kernel
theorem dJ5_ensureCapacityInternal_d00df_32 : decode cJ5_ensureCapacityInternal_d00df 32 = .ok (.invokestatic 108, 3) := by decide +kernel
theorem dJ5_ensureCapacityInternal_d00df_35 : decode cJ5_ensureCapacityInternal_d00df 35 = .ok (.putfield 15, 3) := by decide +kernel
theorem dJ5_ensureCapacityInternal_d00df_38 : decode cJ5_ensureCapacityInternal_d00df 38 = .ok (.return_, 1) := by decide +kernel
theorem dJ5_newCapacity_0f7a4_0 : decode cJ5_newCapacity_0f7a4 0 = .ok (.aload_n 0, 1) := by decide +kernel
theorem dJ5_newCapacity_0f7a4_1 : decode cJ5_newCapacity_0f7a4 1 = .ok (.getfield 15, 3) := by decide +kernel
theorem dJ5_newCapacity_0f7a4_4 : decode cJ5_newCapacity_0f7a4 4 = .ok (.arraylength, 1) := by decide +kernel
theorem dJ5_newCapacity_0f7a4_5 : decode cJ5_newCapacity_0f7a4 5 = .ok (.istore_n 2, 1) := by decide +kernel
theorem dJ5_newCapacity_0f7a4_6 : decode cJ5_newCapacity_0f7a4 6 = .ok (.iload_n 1, 1) := by decide +kernel
theorem dJ5_newCapacity_0f7a4_7 : decode cJ5_newCapacity_0f7a4 7 = .ok (.aload_n 0, 1) := by decide +kernel
theorem dJ5_newCapacity_0f7a4_8 : decode cJ5_newCapacity_0f7a4 8 = .ok (.getfield 22, 3) := by decide +kernel
theorem dJ5_newCapacity_0f7a4_11 : decode cJ5_newCapacity_0f7a4 11 = .ok (.ishl, 1) := by decide +kernel
theorem dJ5_newCapacity_0f7a4_12 : decode cJ5_newCapacity_0f7a4 12 = .ok (.istore_n 3, 1) := by decide +kernel
theorem dJ5_newCapacity_0f7a4_13 : decode cJ5_newCapacity_0f7a4 13 = .ok (.iload_n 3, 1) := by decide +kernel
theorem dJ5_newCapacity_0f7a4_14 : decode cJ5_newCapacity_0f7a4 14 = .ok (.iload_n 2, 1) := by decide +kernel
theorem dJ5_newCapacity_0f7a4_15 : decode cJ5_newCapacity_0f7a4 15 = .ok (.isub, 1) := by decide +kernel
theorem dJ5_newCapacity_0f7a4_16 : decode cJ5_newCapacity_0f7a4 16 = .ok (.istore 4, 2) := by decide +kernel
theorem dJ5_newCapacity_0f7a4_18 : decode cJ5_newCapacity_0f7a4 18 = .ok (.iload_n 2, 1) := by decide +kernel
theorem dJ5_newCapacity_0f7a4_19 : decode cJ5_newCapacity_0f7a4 19 = .ok (.iload 4, 2) := by decide +kernel
theorem dJ5_newCapacity_0f7a4_21 : decode cJ5_newCapacity_0f7a4 21 = .ok (.iload_n 2, 1) := by decide +kernel
theorem dJ5_newCapacity_0f7a4_22 : decode cJ5_newCapacity_0f7a4 22 = .ok (.iconst 2, 1) := by decide +kernel
theorem dJ5_newCapacity_0f7a4_23 : decode cJ5_newCapacity_0f7a4 23 = .ok (.aload_n 0, 1) := by decide +kernel
theorem dJ5_newCapacity_0f7a4_24 : decode cJ5_newCapacity_0f7a4 24 = .ok (.getfield 22, 3) := by decide +kernel
theorem dJ5_newCapacity_0f7a4_27 : decode cJ5_newCapacity_0f7a4 27 = .ok (.ishl, 1) := by decide +kernel
theorem dJ5_newCapacity_0f7a4_28 : decode cJ5_newCapacity_0f7a4 28 = .ok (.iadd, 1) := by decide +kernel
theorem dJ5_newCapacity_0f7a4_29 : decode cJ5_newCapacity_0f7a4 29 = .ok (.invokestatic 114, 3) := by decide +kernel
