theorem dX4_assemble_51 : decode cX4_assemble 51 = .ok (.aload_n 0, 1) := by decide +kernel
theorem dX4_assemble_52 : decode cX4_assemble 52 = .ok (.getfield 9, 3) := by decide +kernel
theorem dX4_assemble_55 : decode cX4_assemble 55 = .ok (.iconst 3, 1) := by decide +kernel
theorem dX4_assemble_56 : decode cX4_assemble 56 = .ok (.aload_n 0, 1) := by decide +kernel
theorem dX4_assemble_57 : decode cX4_assemble 57 = .ok (.getfield 17, 3) := by decide +kernel
theorem dX4_assemble_60 : decode cX4_assemble 60 = .ok (.iconst 2, 1) := by decide +kernel
theorem dX4_assemble_61 : decode cX4_assemble 61 = .ok (.iload_n 1, 1) := by decide +kernel
theorem dX4_assemble_62 : decode cX4_assemble 62 = .ok (.imul, 1) := by decide +kernel
theorem dX4_assemble_63 : decode cX4_assemble 63 = .ok (.iconst 1, 1) := by decide +kernel
theorem dX4_assemble_64 : decode cX4_assemble 64 = .ok (.iadd, 1) := by decide +kernel
theorem dX4_assemble_65 : decode cX4_assemble 65 = .ok (.iaload, 1) := by decide +kernel
theorem dX4_assemble_66 : decode cX4_assemble 66 = .ok (.iastore, 1) := by decide +kernel
theorem dX4_assemble_67 : decode cX4_assemble 67 = .ok (.aload_n 0, 1) := by decide +kernel
theorem dX4_assemble_68 : decode cX4_assemble 68 = .ok (.getfield 54, 3) := by decide +kernel
theorem dX4_assemble_71 : decode cX4_assemble 71 = .ok (.getfield 101, 3) := by decide +kernel
theorem dX4_assemble_74 : decode cX4_assemble 74 = .ok (.iload_n 1, 1) := by decide +kernel
theorem dX4_assemble_75 : decode cX4_assemble 75 = .ok (.laload, 1) := by decide +kernel
theorem dX4_assemble_76 : decode cX4_assemble 76 = .ok (.lconst 0, 1) := by decide +kernel
theorem dX4_assemble_77 : decode cX4_assemble 77 = .ok (.lcmp, 1) := by decide +kernel
theorem dX4_assemble_78 : decode cX4_assemble 78 = .ok (.ifCond .le 20, 3) := by decide +kernel
theorem dX4_assemble_81 : decode cX4_assemble 81 = .ok (.aload_n 0, 1) := by decide +kernel
theorem dX4_assemble_82 : decode cX4_assemble 82 = .ok (.getfield 81, 3) := by decide +kernel
theorem dX4_assemble_85 : decode cX4_assemble 85 = .ok (.aload_n 0, 1) := by decide +kernel
theorem dX4_assemble_86 : decode cX4_assemble 86 = .ok (.getfield 54, 3) := by decide +kernel
theorem dX4_assemble_89 : decode cX4_assemble 89 = .ok (.getfield 101, 3) := by decide +kernel
theorem dX4_assemble_92 : decode cX4_assemble 92 = .ok (.iload_n 1, 1) := by decide +kernel
theorem dX4_assemble_93 : decode cX4_assemble 93 = .ok (.laload, 1) := by decide +kernel
theorem dX4_assemble_94 : decode cX4_assemble 94 = .ok (.ldiv, 1) := by decide +kernel
theorem dX4_assemble_95 : decode cX4_assemble 95 = .ok (.goto 4, 3) := by decide +kernel
theorem dX4_assemble_98 : decode cX4_assemble 98 = .ok (.lconst 1, 1) := by decide +kernel
theorem dX4_assemble_99 : decode cX4_assemble 99 = .ok (.lstore_n 2, 1) := by decide +kernel
theorem dX4_assemble_100 : decode cX4_assemble 100 = .ok (.iconst 0, 1) := by decide +kernel
theorem dX4_assemble_101 : decode cX4_assemble 101 = .ok (.istore 4, 2) := by decide +kernel
theorem dX4_assemble_103 : decode cX4_assemble 103 = .ok (.iload 4, 2) := by decide +kernel
theorem dX4_assemble_105 : decode cX4_assemble 105 = .ok (.iconst 4, 1) := by decide +kernel
theorem dX4_assemble_106 : decode cX4_assemble 106 = .ok (.if_icmp .ge 112, 3) := by decide +kernel
theorem dX4_assemble_109 : decode cX4_assemble 109 = .ok (.iconst 0, 1) := by decide +kernel
theorem dX4_assemble_110 : decode cX4_assemble 110 = .ok (.istore 5, 2) := by decide +kernel
theorem dX4_assemble_112 : decode cX4_assemble 112 = .ok (.iload 5, 2) := by decide +kernel
theorem dX4_assemble_114 : decode cX4_assemble 114 = .ok (.iconst 4, 1) := by decide +kernel
theorem dX4_assemble_115 : decode cX4_assemble 115 = .ok (.if_icmp .ge 97, 3) := by decide +kernel
theorem dX4_assemble_118 : decode cX4_assemble 118 = .ok (.lload_n 2, 1) := by decide +kernel
theorem dX4_assemble_119 : decode cX4_assemble 119 = .ok (.lstore 6, 2) := by decide +kernel
theorem dX4_assemble_121 : decode cX4_assemble 121 = .ok (.lload 6, 2) := by decide +kernel
theorem dX4_assemble_123 : decode cX4_assemble 123 = .ok (.iload 4, 2) := by decide +kernel
theorem dX4_assemble_125 : decode cX4_assemble 125 = .ok (.iconst 2, 1) := by decide +kernel
theorem dX4_assemble_126 : decode cX4_assemble 126 = .ok (.irem, 1) := by decide +kernel
theorem dX4_assemble_127 : decode cX4_assemble 127 = .ok (.ifCond .ne 7, 3) := by decide +kernel
theorem dX4_assemble_130 : decode cX4_assemble 130 = .ok (.lload_n 2, 1) := by decide +kernel
theorem dX4_assemble_131 : decode cX4_assemble 131 = .ok (.goto 4, 3) := by decide +kernel
theorem dX4_assemble_134 : decode cX4_assemble 134 = .ok (.lconst 1, 1) := by decide +kernel
theorem dX4_assemble_135 : decode cX4_assemble 135 = .ok (.lmul, 1) := by decide +kernel
theorem dX4_assemble_136 : decode cX4_assemble 136 = .ok (.lstore 6, 2) := by decide +kernel
theorem dX4_assemble_138 : decode cX4_assemble 138 = .ok (.lload 6, 2) := by decide +kernel
theorem dX4_assemble_140 : decode cX4_assemble 140 = .ok (.iload 5, 2) := by decide +kernel
theorem dX4_assemble_142 : decode cX4_assemble 142 = .ok (.iconst 2, 1) := by decide +kernel
theorem dX4_assemble_143 : decode cX4_assemble 143 = .ok (.irem, 1) := by decide +kernel
theorem dX4_assemble_144 : decode cX4_assemble 144 = .ok (.ifCond .ne 7, 3) := by decide +kernel
theorem dX4_assemble_147 : decode cX4_assemble 147 = .ok (.lload_n 2, 1) := by decide +kernel
theorem dX4_assemble_148 : decode cX4_assemble 148 = .ok (.goto 4, 3) := by decide +kernel
theorem dX4_assemble_151 : decode cX4_assemble 151 = .ok (.lconst 1, 1) := by decide +kernel
theorem dX4_assemble_152 : decode cX4_assemble 152 = .ok (.lmul, 1) := by decide +kernel
theorem dX4_assemble_153 : decode cX4_assemble 153 = .ok (.lstore 6, 2) := by decide +kernel
theorem dX4_assemble_155 : decode cX4_assemble 155 = .ok (.aload_n 0, 1) := by decide +kernel
theorem dX4_assemble_156 : decode cX4_assemble 156 = .ok (.getfield 30, 3) := by decide +kernel
theorem dX4_assemble_159 : decode cX4_assemble 159 = .ok (.aload_n 0, 1) := by decide +kernel
theorem dX4_assemble_160 : decode cX4_assemble 160 = .ok (.getfield 9, 3) := by decide +kernel
theorem dX4_assemble_163 : decode cX4_assemble 163 = .ok (.iload 4, 2) := by decide +kernel
theorem dX4_assemble_165 : decode cX4_assemble 165 = .ok (.iaload, 1) := by decide +kernel
theorem dX4_assemble_166 : decode cX4_assemble 166 = .ok (.bipush 10, 2) := by decide +kernel
theorem dX4_assemble_168 : decode cX4_assemble 168 = .ok (.imul, 1) := by decide +kernel
theorem dX4_assemble_169 : decode cX4_assemble 169 = .ok (.aload_n 0, 1) := by decide +kernel
theorem dX4_assemble_170 : decode cX4_assemble 170 = .ok (.getfield 9, 3) := by decide +kernel
theorem dX4_assemble_173 : decode cX4_assemble 173 = .ok (.iload 5, 2) := by decide +kernel
theorem dX4_assemble_175 : decode cX4_assemble 175 = .ok (.iaload, 1) := by decide +kernel
theorem dX4_assemble_176 : decode cX4_assemble 176 = .ok (.iadd, 1) := by decide +kernel
theorem dX4_assemble_177 : decode cX4_assemble 177 = .ok (.dup2, 1) := by decide +kernel
theorem dX4_assemble_178 : decode cX4_assemble 178 = .ok (.laload, 1) := by decide +kernel
theorem dX4_assemble_179 : decode cX4_assemble 179 = .ok (.getstatic 125, 3) := by decide +kernel
theorem dX4_assemble_182 : decode cX4_assemble 182 = .ok (.iconst 4, 1) := by decide +kernel
theorem dX4_assemble_183 : decode cX4_assemble 183 = .ok (.iload 4, 2) := by decide +kernel
theorem dX4_assemble_185 : decode cX4_assemble 185 = .ok (.imul, 1) := by decide +kernel
theorem dX4_assemble_186 : decode cX4_assemble 186 = .ok (.iload 5, 2) := by decide +kernel
theorem dX4_assemble_188 : decode cX4_assemble 188 = .ok (.iadd, 1) := by decide +kernel
theorem dX4_assemble_189 : decode cX4_assemble 189 = .ok (.iaload, 1) := by decide +kernel
theorem dX4_assemble_190 : decode cX4_assemble 190 = .ok (.i2l, 1) := by decide +kernel
theorem dX4_assemble_191 : decode cX4_assemble 191 = .ok (.aload_n 0, 1) := by decide +kernel
theorem dX4_assemble_192 : decode cX4_assemble 192 = .ok (.getfield 54, 3) := by decide +kernel
theorem dX4_assemble_195 : decode cX4_assemble 195 = .ok (.getfield 128, 3) := by decide +kernel
theorem dX4_assemble_198 : decode cX4_assemble 198 = .ok (.iload_n 1, 1) := by decide +kernel
theorem dX4_assemble_199 : decode cX4_assemble 199 = .ok (.laload, 1) := by decide +kernel
theorem dX4_assemble_200 : decode cX4_assemble 200 = .ok (.lmul, 1) := by decide +kernel
theorem dX4_assemble_201 : decode cX4_assemble 201 = .ok (.lload 6, 2) := by decide +kernel
theorem dX4_assemble_203 : decode cX4_assemble 203 = .ok (.lmul, 1) := by decide +kernel
theorem dX4_assemble_204 : decode cX4_assemble 204 = .ok (.ladd, 1) := by decide +kernel
theorem dX4_assemble_205 : decode cX4_assemble 205 = .ok (.lastore, 1) := by decide +kernel
theorem dX4_assemble_206 : decode cX4_assemble 206 = .ok (.iinc 5 1, 3) := by decide +kernel
theorem dX4_assemble_209 : decode cX4_assemble 209 = .ok (.goto (-97), 3) := by decide +kernel
theorem dX4_assemble_212 : decode cX4_assemble 212 = .ok (.iinc 4 1, 3) := by decide +kernel
theorem dX4_assemble_215 : decode cX4_assemble 215 = .ok (.goto (-112), 3) := by decide +kernel
theorem dX4_assemble_218 : decode cX4_assemble 218 = .ok (.iinc 1 1, 3) := by decide +kernel
theorem dX4_assemble_221 : decode cX4_assemble 221 = .ok (.goto (-211), 3) := by decide +kernel
theorem dX4_assemble_224 : decode cX4_assemble 224 = .ok (.return_, 1) := by decide +kernel
theorem dX4_fillCells_0 : decode cX4_fillCells 0 = .ok (.iconst 0, 1) := by decide +kernel
theorem dX4_fillCells_1 : decode cX4_fillCells 1 = .ok (.istore_n 1, 1) := by decide +kernel
theorem dX4_fillCells_2 : decode cX4_fillCells 2 = .ok (.iload_n 1, 1) := by decide +kernel
theorem dX4_fillCells_3 : decode cX4_fillCells 3 = .ok (.bipush 10, 2) := by decide +kernel
theorem dX4_fillCells_5 : decode cX4_fillCells 5 = .ok (.if_icmp .ge 44, 3) := by decide +kernel
theorem dX4_fillCells_8 : decode cX4_fillCells 8 = .ok (.aload_n 0, 1) := by decide +kernel
theorem dX4_fillCells_9 : decode cX4_fillCells 9 = .ok (.getfield 24, 3) := by decide +kernel
theorem dX4_fillCells_12 : decode cX4_fillCells 12 = .ok (.iload_n 1, 1) := by decide +kernel
theorem dX4_fillCells_13 : decode cX4_fillCells 13 = .ok (.iconst 0, 1) := by decide +kernel
theorem dX4_fillCells_14 : decode cX4_fillCells 14 = .ok (.bastore, 1) := by decide +kernel
theorem dX4_fillCells_15 : decode cX4_fillCells 15 = .ok (.iconst 0, 1) := by decide +kernel
theorem dX4_fillCells_16 : decode cX4_fillCells 16 = .ok (.istore_n 2, 1) := by decide +kernel
theorem dX4_fillCells_17 : decode cX4_fillCells 17 = .ok (.iload_n 2, 1) := by decide +kernel
theorem dX4_fillCells_18 : decode cX4_fillCells 18 = .ok (.iload_n 1, 1) := by decide +kernel
theorem dX4_fillCells_19 : decode cX4_fillCells 19 = .ok (.if_icmp .gt 24, 3) := by decide +kernel
theorem dX4_fillCells_22 : decode cX4_fillCells 22 = .ok (.aload_n 0, 1) := by decide +kernel
theorem dX4_fillCells_23 : decode cX4_fillCells 23 = .ok (.iload_n 1, 1) := by decide +kernel
theorem dX4_fillCells_24 : decode cX4_fillCells 24 = .ok (.iload_n 2, 1) := by decide +kernel
theorem dX4_fillCells_25 : decode cX4_fillCells 25 = .ok (.invokevirtual 89, 3) := by decide +kernel
theorem dX4_fillCells_28 : decode cX4_fillCells 28 = .ok (.aload_n 0, 1) := by decide +kernel
theorem dX4_fillCells_29 : decode cX4_fillCells 29 = .ok (.iload_n 1, 1) := by decide +kernel
theorem dX4_fillCells_30 : decode cX4_fillCells 30 = .ok (.iload_n 2, 1) := by decide +kernel
theorem dX4_fillCells_31 : decode cX4_fillCells 31 = .ok (.invokevirtual 131, 3) := by decide +kernel
theorem dX4_fillCells_34 : decode cX4_fillCells 34 = .ok (.invokevirtual 85, 3) := by decide +kernel
theorem dX4_fillCells_37 : decode cX4_fillCells 37 = .ok (.iinc 2 1, 3) := by decide +kernel
theorem dX4_fillCells_40 : decode cX4_fillCells 40 = .ok (.goto (-23), 3) := by decide +kernel
theorem dX4_fillCells_43 : decode cX4_fillCells 43 = .ok (.iinc 1 1, 3) := by decide +kernel
theorem dX4_fillCells_46 : decode cX4_fillCells 46 = .ok (.goto (-44), 3) := by decide +kernel
theorem dX4_fillCells_49 : decode cX4_fillCells 49 = .ok (.aload_n 0, 1) := by decide +kernel
theorem dX4_fillCells_50 : decode cX4_fillCells 50 = .ok (.getfield 41, 3) := by decide +kernel
theorem dX4_fillCells_53 : decode cX4_fillCells 53 = .ok (.lconst 1, 1) := by decide +kernel
theorem dX4_fillCells_54 : decode cX4_fillCells 54 = .ok (.invokevirtual 85, 3) := by decide +kernel
theorem dX4_fillCells_57 : decode cX4_fillCells 57 = .ok (.return_, 1) := by decide +kernel
theorem dX4_sweep_0 : decode cX4_sweep 0 = .ok (.aload_n 0, 1) := by decide +kernel
theorem dX4_sweep_1 : decode cX4_sweep 1 = .ok (.iload_n 1, 1) := by decide +kernel
theorem dX4_sweep_2 : decode cX4_sweep 2 = .ok (.iload_n 1, 1) := by decide +kernel
theorem dX4_sweep_3 : decode cX4_sweep 3 = .ok (.invokevirtual 89, 3) := by decide +kernel
theorem dX4_sweep_6 : decode cX4_sweep 6 = .ok (.astore_n 2, 1) := by decide +kernel
theorem dX4_sweep_7 : decode cX4_sweep 7 = .ok (.aload_n 0, 1) := by decide +kernel
theorem dX4_sweep_8 : decode cX4_sweep 8 = .ok (.getfield 20, 3) := by decide +kernel
theorem dX4_sweep_11 : decode cX4_sweep 11 = .ok (.iload_n 1, 1) := by decide +kernel
theorem dX4_sweep_12 : decode cX4_sweep 12 = .ok (.baload, 1) := by decide +kernel
theorem dX4_sweep_13 : decode cX4_sweep 13 = .ok (.ifCond .eq 10, 3) := by decide +kernel
theorem dX4_sweep_16 : decode cX4_sweep 16 = .ok (.aload_n 2, 1) := by decide +kernel
theorem dX4_sweep_17 : decode cX4_sweep 17 = .ok (.getfield 135, 3) := by decide +kernel
theorem dX4_sweep_20 : decode cX4_sweep 20 = .ok (.ifCond .ne 4, 3) := by decide +kernel
theorem dX4_sweep_23 : decode cX4_sweep 23 = .ok (.return_, 1) := by decide +kernel
theorem dX4_sweep_24 : decode cX4_sweep 24 = .ok (.aload_n 0, 1) := by decide +kernel
theorem dX4_sweep_25 : decode cX4_sweep 25 = .ok (.getfield 45, 3) := by decide +kernel
theorem dX4_sweep_28 : decode cX4_sweep 28 = .ok (.aload_n 2, 1) := by decide +kernel
theorem dX4_sweep_29 : decode cX4_sweep 29 = .ok (.invokevirtual 138, 3) := by decide +kernel
theorem dX4_sweep_32 : decode cX4_sweep 32 = .ok (.iconst 0, 1) := by decide +kernel
theorem dX4_sweep_33 : decode cX4_sweep 33 = .ok (.istore_n 3, 1) := by decide +kernel
theorem dX4_sweep_34 : decode cX4_sweep 34 = .ok (.iload_n 3, 1) := by decide +kernel
theorem dX4_sweep_35 : decode cX4_sweep 35 = .ok (.bipush 10, 2) := by decide +kernel
theorem dX4_sweep_37 : decode cX4_sweep 37 = .ok (.if_icmp .ge 78, 3) := by decide +kernel
theorem dX4_sweep_40 : decode cX4_sweep 40 = .ok (.iconst 0, 1) := by decide +kernel
theorem dX4_sweep_41 : decode cX4_sweep 41 = .ok (.istore 4, 2) := by decide +kernel
theorem dX4_sweep_43 : decode cX4_sweep 43 = .ok (.iload 4, 2) := by decide +kernel
theorem dX4_sweep_45 : decode cX4_sweep 45 = .ok (.iload_n 3, 1) := by decide +kernel
theorem dX4_sweep_46 : decode cX4_sweep 46 = .ok (.if_icmp .gt 63, 3) := by decide +kernel
theorem dX4_sweep_49 : decode cX4_sweep 49 = .ok (.aload_n 0, 1) := by decide +kernel
theorem dX4_sweep_50 : decode cX4_sweep 50 = .ok (.getfield 20, 3) := by decide +kernel
theorem dX4_sweep_53 : decode cX4_sweep 53 = .ok (.iload_n 3, 1) := by decide +kernel
theorem dX4_sweep_54 : decode cX4_sweep 54 = .ok (.baload, 1) := by decide +kernel
theorem dX4_sweep_55 : decode cX4_sweep 55 = .ok (.ifCond .eq 48, 3) := by decide +kernel
theorem dX4_sweep_58 : decode cX4_sweep 58 = .ok (.aload_n 0, 1) := by decide +kernel
theorem dX4_sweep_59 : decode cX4_sweep 59 = .ok (.getfield 20, 3) := by decide +kernel
theorem dX4_sweep_62 : decode cX4_sweep 62 = .ok (.iload 4, 2) := by decide +kernel
theorem dX4_sweep_64 : decode cX4_sweep 64 = .ok (.baload, 1) := by decide +kernel
theorem dX4_sweep_65 : decode cX4_sweep 65 = .ok (.ifCond .eq 38, 3) := by decide +kernel
theorem dX4_sweep_68 : decode cX4_sweep 68 = .ok (.iload_n 3, 1) := by decide +kernel
theorem dX4_sweep_69 : decode cX4_sweep 69 = .ok (.iload_n 1, 1) := by decide +kernel
theorem dX4_sweep_70 : decode cX4_sweep 70 = .ok (.if_icmp .eq 33, 3) := by decide +kernel
theorem dX4_sweep_73 : decode cX4_sweep 73 = .ok (.iload 4, 2) := by decide +kernel
theorem dX4_sweep_75 : decode cX4_sweep 75 = .ok (.iload_n 1, 1) := by decide +kernel
theorem dX4_sweep_76 : decode cX4_sweep 76 = .ok (.if_icmp .eq 27, 3) := by decide +kernel
theorem dX4_sweep_79 : decode cX4_sweep 79 = .ok (.aload_n 0, 1) := by decide +kernel
theorem dX4_sweep_80 : decode cX4_sweep 80 = .ok (.aload_n 0, 1) := by decide +kernel
theorem dX4_sweep_81 : decode cX4_sweep 81 = .ok (.iload_n 3, 1) := by decide +kernel
theorem dX4_sweep_82 : decode cX4_sweep 82 = .ok (.iload 4, 2) := by decide +kernel
theorem dX4_sweep_84 : decode cX4_sweep 84 = .ok (.invokevirtual 89, 3) := by decide +kernel
theorem dX4_sweep_87 : decode cX4_sweep 87 = .ok (.aload_n 0, 1) := by decide +kernel
theorem dX4_sweep_88 : decode cX4_sweep 88 = .ok (.iload_n 3, 1) := by decide +kernel
theorem dX4_sweep_89 : decode cX4_sweep 89 = .ok (.iload_n 1, 1) := by decide +kernel
theorem dX4_sweep_90 : decode cX4_sweep 90 = .ok (.invokevirtual 89, 3) := by decide +kernel
theorem dX4_sweep_93 : decode cX4_sweep 93 = .ok (.aload_n 0, 1) := by decide +kernel
theorem dX4_sweep_94 : decode cX4_sweep 94 = .ok (.iload 4, 2) := by decide +kernel
theorem dX4_sweep_96 : decode cX4_sweep 96 = .ok (.iload_n 1, 1) := by decide +kernel
theorem dX4_sweep_97 : decode cX4_sweep 97 = .ok (.invokevirtual 89, 3) := by decide +kernel
theorem dX4_sweep_100 : decode cX4_sweep 100 = .ok (.invokevirtual 142, 3) := by decide +kernel
theorem dX4_sweep_103 : decode cX4_sweep 103 = .ok (.iinc 4 1, 3) := by decide +kernel
theorem dX4_sweep_106 : decode cX4_sweep 106 = .ok (.goto (-63), 3) := by decide +kernel
theorem dX4_sweep_109 : decode cX4_sweep 109 = .ok (.iinc 3 1, 3) := by decide +kernel
theorem dX4_sweep_112 : decode cX4_sweep 112 = .ok (.goto (-78), 3) := by decide +kernel
theorem dX4_sweep_115 : decode cX4_sweep 115 = .ok (.aload_n 2, 1) := by decide +kernel
theorem dX4_sweep_116 : decode cX4_sweep 116 = .ok (.lconst 0, 1) := by decide +kernel
theorem dX4_sweep_117 : decode cX4_sweep 117 = .ok (.invokevirtual 85, 3) := by decide +kernel
theorem dX4_sweep_120 : decode cX4_sweep 120 = .ok (.aload_n 2, 1) := by decide +kernel
theorem dX4_sweep_121 : decode cX4_sweep 121 = .ok (.aload_n 0, 1) := by decide +kernel
theorem dX4_sweep_122 : decode cX4_sweep 122 = .ok (.getfield 41, 3) := by decide +kernel
theorem dX4_sweep_125 : decode cX4_sweep 125 = .ok (.ldc2_w 146, 3) := by decide +kernel
theorem dX4_sweep_128 : decode cX4_sweep 128 = .ok (.invokevirtual 93, 3) := by decide +kernel
theorem dX4_sweep_131 : decode cX4_sweep 131 = .ok (.aload_n 0, 1) := by decide +kernel
theorem dX4_sweep_132 : decode cX4_sweep 132 = .ok (.getfield 41, 3) := by decide +kernel
theorem dX4_sweep_135 : decode cX4_sweep 135 = .ok (.aload_n 0, 1) := by decide +kernel
theorem dX4_sweep_136 : decode cX4_sweep 136 = .ok (.getfield 45, 3) := by decide +kernel
theorem dX4_sweep_139 : decode cX4_sweep 139 = .ok (.invokevirtual 138, 3) := by decide +kernel
theorem dX4_sweep_142 : decode cX4_sweep 142 = .ok (.aload_n 0, 1) := by decide +kernel
theorem dX4_sweep_143 : decode cX4_sweep 143 = .ok (.getfield 24, 3) := by decide +kernel
theorem dX4_sweep_146 : decode cX4_sweep 146 = .ok (.iload_n 1, 1) := by decide +kernel
theorem dX4_sweep_147 : decode cX4_sweep 147 = .ok (.iconst 1, 1) := by decide +kernel
theorem dX4_sweep_148 : decode cX4_sweep 148 = .ok (.bastore, 1) := by decide +kernel
theorem dX4_sweep_149 : decode cX4_sweep 149 = .ok (.return_, 1) := by decide +kernel
theorem dX4_sweepCell_0 : decode cX4_sweepCell 0 = .ok (.aload_n 0, 1) := by decide +kernel
theorem dX4_sweepCell_1 : decode cX4_sweepCell 1 = .ok (.getfield 48, 3) := by decide +kernel
theorem dX4_sweepCell_4 : decode cX4_sweepCell 4 = .ok (.aload_n 1, 1) := by decide +kernel
theorem dX4_sweepCell_5 : decode cX4_sweepCell 5 = .ok (.aload_n 0, 1) := by decide +kernel
theorem dX4_sweepCell_6 : decode cX4_sweepCell 6 = .ok (.getfield 45, 3) := by decide +kernel
theorem dX4_sweepCell_9 : decode cX4_sweepCell 9 = .ok (.invokevirtual 148, 3) := by decide +kernel
theorem dX4_sweepCell_12 : decode cX4_sweepCell 12 = .ok (.aload_n 0, 1) := by decide +kernel
theorem dX4_sweepCell_13 : decode cX4_sweepCell 13 = .ok (.getfield 51, 3) := by decide +kernel
theorem dX4_sweepCell_16 : decode cX4_sweepCell 16 = .ok (.aload_n 2, 1) := by decide +kernel
theorem dX4_sweepCell_17 : decode cX4_sweepCell 17 = .ok (.aload_n 3, 1) := by decide +kernel
theorem dX4_sweepCell_18 : decode cX4_sweepCell 18 = .ok (.invokevirtual 148, 3) := by decide +kernel
theorem dX4_sweepCell_21 : decode cX4_sweepCell 21 = .ok (.aload_n 0, 1) := by decide +kernel
theorem dX4_sweepCell_22 : decode cX4_sweepCell 22 = .ok (.getfield 48, 3) := by decide +kernel
theorem dX4_sweepCell_25 : decode cX4_sweepCell 25 = .ok (.aload_n 0, 1) := by decide +kernel
theorem dX4_sweepCell_26 : decode cX4_sweepCell 26 = .ok (.getfield 51, 3) := by decide +kernel
theorem dX4_sweepCell_29 : decode cX4_sweepCell 29 = .ok (.ldc2_w 146, 3) := by decide +kernel
theorem dX4_sweepCell_32 : decode cX4_sweepCell 32 = .ok (.invokevirtual 93, 3) := by decide +kernel
theorem dX4_sweepCell_35 : decode cX4_sweepCell 35 = .ok (.aload_n 0, 1) := by decide +kernel
theorem dX4_sweepCell_36 : decode cX4_sweepCell 36 = .ok (.getfield 48, 3) := by decide +kernel
theorem dX4_sweepCell_39 : decode cX4_sweepCell 39 = .ok (.aload_n 0, 1) := by decide +kernel
theorem dX4_sweepCell_40 : decode cX4_sweepCell 40 = .ok (.getfield 41, 3) := by decide +kernel
theorem dX4_sweepCell_43 : decode cX4_sweepCell 43 = .ok (.aload_n 1, 1) := by decide +kernel
theorem dX4_sweepCell_44 : decode cX4_sweepCell 44 = .ok (.invokevirtual 152, 3) := by decide +kernel
theorem dX4_sweepCell_47 : decode cX4_sweepCell 47 = .ok (.return_, 1) := by decide +kernel
theorem dX4_isSlack_0 : decode cX4_isSlack 0 = .ok (.aload_n 0, 1) := by decide +kernel
theorem dX4_isSlack_1 : decode cX4_isSlack 1 = .ok (.getfield 20, 3) := by decide +kernel
theorem dX4_isSlack_4 : decode cX4_isSlack 4 = .ok (.iload_n 1, 1) := by decide +kernel
theorem dX4_isSlack_5 : decode cX4_isSlack 5 = .ok (.baload, 1) := by decide +kernel
theorem dX4_isSlack_6 : decode cX4_isSlack 6 = .ok (.ifCond .eq 12, 3) := by decide +kernel
theorem dX4_isSlack_9 : decode cX4_isSlack 9 = .ok (.aload_n 0, 1) := by decide +kernel
theorem dX4_isSlack_10 : decode cX4_isSlack 10 = .ok (.getfield 24, 3) := by decide +kernel
theorem dX4_isSlack_13 : decode cX4_isSlack 13 = .ok (.iload_n 1, 1) := by decide +kernel
theorem dX4_isSlack_14 : decode cX4_isSlack 14 = .ok (.baload, 1) := by decide +kernel
theorem dX4_isSlack_15 : decode cX4_isSlack 15 = .ok (.ifCond .ne 10, 3) := by decide +kernel
theorem dX4_isSlack_18 : decode cX4_isSlack 18 = .ok (.aload_n 0, 1) := by decide +kernel
theorem dX4_isSlack_19 : decode cX4_isSlack 19 = .ok (.getfield 20, 3) := by decide +kernel
theorem dX4_isSlack_22 : decode cX4_isSlack 22 = .ok (.iload_n 1, 1) := by decide +kernel
theorem dX4_isSlack_23 : decode cX4_isSlack 23 = .ok (.baload, 1) := by decide +kernel
theorem dX4_isSlack_24 : decode cX4_isSlack 24 = .ok (.ireturn, 1) := by decide +kernel
theorem dX4_isSlack_25 : decode cX4_isSlack 25 = .ok (.iconst 0, 1) := by decide +kernel
theorem dX4_isSlack_26 : decode cX4_isSlack 26 = .ok (.istore_n 2, 1) := by decide +kernel
theorem dX4_isSlack_27 : decode cX4_isSlack 27 = .ok (.iload_n 2, 1) := by decide +kernel
theorem dX4_isSlack_28 : decode cX4_isSlack 28 = .ok (.bipush 10, 2) := by decide +kernel
theorem dX4_isSlack_30 : decode cX4_isSlack 30 = .ok (.if_icmp .ge 41, 3) := by decide +kernel
theorem dX4_isSlack_33 : decode cX4_isSlack 33 = .ok (.aload_n 0, 1) := by decide +kernel
theorem dX4_isSlack_34 : decode cX4_isSlack 34 = .ok (.getfield 20, 3) := by decide +kernel
theorem dX4_isSlack_37 : decode cX4_isSlack 37 = .ok (.iload_n 2, 1) := by decide +kernel
theorem dX4_isSlack_38 : decode cX4_isSlack 38 = .ok (.baload, 1) := by decide +kernel
theorem dX4_isSlack_39 : decode cX4_isSlack 39 = .ok (.ifCond .eq 26, 3) := by decide +kernel
theorem dX4_isSlack_42 : decode cX4_isSlack 42 = .ok (.aload_n 0, 1) := by decide +kernel
theorem dX4_isSlack_43 : decode cX4_isSlack 43 = .ok (.getfield 24, 3) := by decide +kernel
theorem dX4_isSlack_46 : decode cX4_isSlack 46 = .ok (.iload_n 2, 1) := by decide +kernel
theorem dX4_isSlack_47 : decode cX4_isSlack 47 = .ok (.baload, 1) := by decide +kernel
theorem dX4_isSlack_48 : decode cX4_isSlack 48 = .ok (.ifCond .ne 17, 3) := by decide +kernel
theorem dX4_isSlack_51 : decode cX4_isSlack 51 = .ok (.aload_n 0, 1) := by decide +kernel
theorem dX4_isSlack_52 : decode cX4_isSlack 52 = .ok (.iload_n 1, 1) := by decide +kernel
theorem dX4_isSlack_53 : decode cX4_isSlack 53 = .ok (.iload_n 2, 1) := by decide +kernel
theorem dX4_isSlack_54 : decode cX4_isSlack 54 = .ok (.invokevirtual 89, 3) := by decide +kernel
theorem dX4_isSlack_57 : decode cX4_isSlack 57 = .ok (.getfield 135, 3) := by decide +kernel
theorem dX4_isSlack_60 : decode cX4_isSlack 60 = .ok (.ifCond .eq 5, 3) := by decide +kernel
theorem dX4_isSlack_63 : decode cX4_isSlack 63 = .ok (.iconst 1, 1) := by decide +kernel
theorem dX4_isSlack_64 : decode cX4_isSlack 64 = .ok (.ireturn, 1) := by decide +kernel
theorem dX4_isSlack_65 : decode cX4_isSlack 65 = .ok (.iinc 2 1, 3) := by decide +kernel
theorem dX4_isSlack_68 : decode cX4_isSlack 68 = .ok (.goto (-41), 3) := by decide +kernel
theorem dX4_isSlack_71 : decode cX4_isSlack 71 = .ok (.iconst 0, 1) := by decide +kernel
theorem dX4_isSlack_72 : decode cX4_isSlack 72 = .ok (.ireturn, 1) := by decide +kernel
theorem dX4_isSlackEnd_0 : decode cX4_isSlackEnd 0 = .ok (.iload_n 1, 1) := by decide +kernel
theorem dX4_isSlackEnd_1 : decode cX4_isSlackEnd 1 = .ok (.ifCond .lt 45, 3) := by decide +kernel
theorem dX4_isSlackEnd_4 : decode cX4_isSlackEnd 4 = .ok (.iload_n 1, 1) := by decide +kernel
theorem dX4_isSlackEnd_5 : decode cX4_isSlackEnd 5 = .ok (.iconst 2, 1) := by decide +kernel
theorem dX4_isSlackEnd_6 : decode cX4_isSlackEnd 6 = .ok (.aload_n 0, 1) := by decide +kernel
theorem dX4_isSlackEnd_7 : decode cX4_isSlackEnd 7 = .ok (.getfield 54, 3) := by decide +kernel
theorem dX4_isSlackEnd_10 : decode cX4_isSlackEnd 10 = .ok (.getfield 97, 3) := by decide +kernel
theorem dX4_isSlackEnd_13 : decode cX4_isSlackEnd 13 = .ok (.imul, 1) := by decide +kernel
theorem dX4_isSlackEnd_14 : decode cX4_isSlackEnd 14 = .ok (.if_icmp .ge 32, 3) := by decide +kernel
theorem dX4_isSlackEnd_17 : decode cX4_isSlackEnd 17 = .ok (.aload_n 0, 1) := by decide +kernel
theorem dX4_isSlackEnd_18 : decode cX4_isSlackEnd 18 = .ok (.getfield 54, 3) := by decide +kernel
theorem dX4_isSlackEnd_21 : decode cX4_isSlackEnd 21 = .ok (.getfield 113, 3) := by decide +kernel
theorem dX4_isSlackEnd_24 : decode cX4_isSlackEnd 24 = .ok (.iload_n 1, 1) := by decide +kernel
theorem dX4_isSlackEnd_25 : decode cX4_isSlackEnd 25 = .ok (.baload, 1) := by decide +kernel
theorem dX4_isSlackEnd_26 : decode cX4_isSlackEnd 26 = .ok (.ifCond .ne 20, 3) := by decide +kernel
theorem dX4_isSlackEnd_29 : decode cX4_isSlackEnd 29 = .ok (.aload_n 0, 1) := by decide +kernel
theorem dX4_isSlackEnd_30 : decode cX4_isSlackEnd 30 = .ok (.aload_n 0, 1) := by decide +kernel
theorem dX4_isSlackEnd_31 : decode cX4_isSlackEnd 31 = .ok (.getfield 17, 3) := by decide +kernel
theorem dX4_isSlackEnd_34 : decode cX4_isSlackEnd 34 = .ok (.iload_n 1, 1) := by decide +kernel
theorem dX4_isSlackEnd_35 : decode cX4_isSlackEnd 35 = .ok (.iaload, 1) := by decide +kernel
theorem dX4_isSlackEnd_36 : decode cX4_isSlackEnd 36 = .ok (.invokevirtual 155, 3) := by decide +kernel
theorem dX4_isSlackEnd_39 : decode cX4_isSlackEnd 39 = .ok (.ifCond .eq 7, 3) := by decide +kernel
theorem dX4_isSlackEnd_42 : decode cX4_isSlackEnd 42 = .ok (.iconst 1, 1) := by decide +kernel
theorem dX4_isSlackEnd_43 : decode cX4_isSlackEnd 43 = .ok (.goto 4, 3) := by decide +kernel
theorem dX4_isSlackEnd_46 : decode cX4_isSlackEnd 46 = .ok (.iconst 0, 1) := by decide +kernel
theorem dX4_isSlackEnd_47 : decode cX4_isSlackEnd 47 = .ok (.ireturn, 1) := by decide +kernel
theorem dX4_findLoose_0 : decode cX4_findLoose 0 = .ok (.iconst 0, 1) := by decide +kernel
theorem dX4_findLoose_1 : decode cX4_findLoose 1 = .ok (.istore_n 1, 1) := by decide +kernel
theorem dX4_findLoose_2 : decode cX4_findLoose 2 = .ok (.iload_n 1, 1) := by decide +kernel
theorem dX4_findLoose_3 : decode cX4_findLoose 3 = .ok (.iconst 4, 1) := by decide +kernel
theorem dX4_findLoose_4 : decode cX4_findLoose 4 = .ok (.if_icmp .ge 50, 3) := by decide +kernel
theorem dX4_findLoose_7 : decode cX4_findLoose 7 = .ok (.aload_n 0, 1) := by decide +kernel
theorem dX4_findLoose_8 : decode cX4_findLoose 8 = .ok (.getfield 27, 3) := by decide +kernel
theorem dX4_findLoose_11 : decode cX4_findLoose 11 = .ok (.iload_n 1, 1) := by decide +kernel
theorem dX4_findLoose_12 : decode cX4_findLoose 12 = .ok (.aload_n 0, 1) := by decide +kernel
theorem dX4_findLoose_13 : decode cX4_findLoose 13 = .ok (.iload_n 1, 1) := by decide +kernel
theorem dX4_findLoose_14 : decode cX4_findLoose 14 = .ok (.invokevirtual 155, 3) := by decide +kernel
theorem dX4_findLoose_17 : decode cX4_findLoose 17 = .ok (.ifCond .ne 25, 3) := by decide +kernel
theorem dX4_findLoose_20 : decode cX4_findLoose 20 = .ok (.aload_n 0, 1) := by decide +kernel
theorem dX4_findLoose_21 : decode cX4_findLoose 21 = .ok (.iconst 2, 1) := by decide +kernel
theorem dX4_findLoose_22 : decode cX4_findLoose 22 = .ok (.iload_n 1, 1) := by decide +kernel
theorem dX4_findLoose_23 : decode cX4_findLoose 23 = .ok (.imul, 1) := by decide +kernel
theorem dX4_findLoose_24 : decode cX4_findLoose 24 = .ok (.iconst 1, 1) := by decide +kernel
theorem dX4_findLoose_25 : decode cX4_findLoose 25 = .ok (.isub, 1) := by decide +kernel
theorem dX4_findLoose_26 : decode cX4_findLoose 26 = .ok (.invokevirtual 159, 3) := by decide +kernel
theorem dX4_findLoose_29 : decode cX4_findLoose 29 = .ok (.ifCond .ne 13, 3) := by decide +kernel
theorem dX4_findLoose_32 : decode cX4_findLoose 32 = .ok (.aload_n 0, 1) := by decide +kernel
theorem dX4_findLoose_33 : decode cX4_findLoose 33 = .ok (.iconst 2, 1) := by decide +kernel
theorem dX4_findLoose_34 : decode cX4_findLoose 34 = .ok (.iload_n 1, 1) := by decide +kernel
theorem dX4_findLoose_35 : decode cX4_findLoose 35 = .ok (.imul, 1) := by decide +kernel
theorem dX4_findLoose_36 : decode cX4_findLoose 36 = .ok (.invokevirtual 159, 3) := by decide +kernel
theorem dX4_findLoose_39 : decode cX4_findLoose 39 = .ok (.ifCond .eq 7, 3) := by decide +kernel
theorem dX4_findLoose_42 : decode cX4_findLoose 42 = .ok (.iconst 1, 1) := by decide +kernel
theorem dX4_findLoose_43 : decode cX4_findLoose 43 = .ok (.goto 4, 3) := by decide +kernel
theorem dX4_findLoose_46 : decode cX4_findLoose 46 = .ok (.iconst 0, 1) := by decide +kernel
theorem dX4_findLoose_47 : decode cX4_findLoose 47 = .ok (.bastore, 1) := by decide +kernel
theorem dX4_findLoose_48 : decode cX4_findLoose 48 = .ok (.iinc 1 1, 3) := by decide +kernel
theorem dX4_findLoose_51 : decode cX4_findLoose 51 = .ok (.goto (-49), 3) := by decide +kernel
theorem dX4_findLoose_54 : decode cX4_findLoose 54 = .ok (.return_, 1) := by decide +kernel
theorem dX5_init_0 : decode cX5_init 0 = .ok (.aload_n 0, 1) := by decide +kernel
theorem dX5_init_1 : decode cX5_init 1 = .ok (.invokespecial 3, 3) := by decide +kernel
theorem dX5_init_4 : decode cX5_init 4 = .ok (.aload_n 0, 1) := by decide +kernel
theorem dX5_init_5 : decode cX5_init 5 = .ok (.bipush 10, 2) := by decide +kernel
theorem dX5_init_7 : decode cX5_init 7 = .ok (.newarray .long, 2) := by decide +kernel
theorem dX5_init_9 : decode cX5_init 9 = .ok (.putfield 11, 3) := by decide +kernel
theorem dX5_init_12 : decode cX5_init 12 = .ok (.aload_n 0, 1) := by decide +kernel
theorem dX5_init_13 : decode cX5_init 13 = .ok (.bipush 10, 2) := by decide +kernel
theorem dX5_init_15 : decode cX5_init 15 = .ok (.newarray .long, 2) := by decide +kernel
theorem dX5_init_17 : decode cX5_init 17 = .ok (.putfield 17, 3) := by decide +kernel
theorem dX5_init_20 : decode cX5_init 20 = .ok (.aload_n 0, 1) := by decide +kernel
theorem dX5_init_21 : decode cX5_init 21 = .ok (.iconst 4, 1) := by decide +kernel
theorem dX5_init_22 : decode cX5_init 22 = .ok (.newarray .boolean, 2) := by decide +kernel
theorem dX5_init_24 : decode cX5_init 24 = .ok (.putfield 22, 3) := by decide +kernel
theorem dX5_init_27 : decode cX5_init 27 = .ok (.aload_n 0, 1) := by decide +kernel
theorem dX5_init_28 : decode cX5_init 28 = .ok (.new 26, 3) := by decide +kernel
theorem dX5_init_31 : decode cX5_init 31 = .ok (.dup, 1) := by decide +kernel
theorem dX5_init_32 : decode cX5_init 32 = .ok (.invokespecial 28, 3) := by decide +kernel
theorem dX5_init_35 : decode cX5_init 35 = .ok (.putfield 29, 3) := by decide +kernel
theorem dX5_init_38 : decode cX5_init 38 = .ok (.aload_n 0, 1) := by decide +kernel
theorem dX5_init_39 : decode cX5_init 39 = .ok (.aload_n 1, 1) := by decide +kernel
theorem dX5_init_40 : decode cX5_init 40 = .ok (.putfield 33, 3) := by decide +kernel
theorem dX5_init_43 : decode cX5_init 43 = .ok (.aload_n 0, 1) := by decide +kernel
theorem dX5_init_44 : decode cX5_init 44 = .ok (.aload_n 2, 1) := by decide +kernel
theorem dX5_init_45 : decode cX5_init 45 = .ok (.putfield 37, 3) := by decide +kernel
theorem dX5_init_48 : decode cX5_init 48 = .ok (.return_, 1) := by decide +kernel
theorem dX5_aim_0 : decode cX5_aim 0 = .ok (.aload_n 0, 1) := by decide +kernel
theorem dX5_aim_1 : decode cX5_aim 1 = .ok (.iload_n 1, 1) := by decide +kernel
theorem dX5_aim_2 : decode cX5_aim 2 = .ok (.putfield 41, 3) := by decide +kernel
theorem dX5_aim_5 : decode cX5_aim 5 = .ok (.aload_n 0, 1) := by decide +kernel
theorem dX5_aim_6 : decode cX5_aim 6 = .ok (.iload_n 2, 1) := by decide +kernel
theorem dX5_aim_7 : decode cX5_aim 7 = .ok (.putfield 45, 3) := by decide +kernel
theorem dX5_aim_10 : decode cX5_aim 10 = .ok (.aload_n 0, 1) := by decide +kernel
theorem dX5_aim_11 : decode cX5_aim 11 = .ok (.iload_n 3, 1) := by decide +kernel
theorem dX5_aim_12 : decode cX5_aim 12 = .ok (.putfield 48, 3) := by decide +kernel
theorem dX5_aim_15 : decode cX5_aim 15 = .ok (.aload_n 0, 1) := by decide +kernel
theorem dX5_aim_16 : decode cX5_aim 16 = .ok (.getfield 11, 3) := by decide +kernel
theorem dX5_aim_19 : decode cX5_aim 19 = .ok (.lconst 0, 1) := by decide +kernel
theorem dX5_aim_20 : decode cX5_aim 20 = .ok (.invokestatic 51, 3) := by decide +kernel
theorem dX5_aim_23 : decode cX5_aim 23 = .ok (.aload_n 0, 1) := by decide +kernel
theorem dX5_aim_24 : decode cX5_aim 24 = .ok (.getfield 41, 3) := by decide +kernel
theorem dX5_aim_27 : decode cX5_aim 27 = .ok (.tableswitch 58 0 3 #[29, 58, 36, 43], 29) := by decide +kernel
theorem dX5_aim_56 : decode cX5_aim 56 = .ok (.aload_n 0, 1) := by decide +kernel
theorem dX5_aim_57 : decode cX5_aim 57 = .ok (.invokevirtual 57, 3) := by decide +kernel
theorem dX5_aim_60 : decode cX5_aim 60 = .ok (.goto 29, 3) := by decide +kernel
theorem dX5_aim_63 : decode cX5_aim 63 = .ok (.aload_n 0, 1) := by decide +kernel
theorem dX5_aim_64 : decode cX5_aim 64 = .ok (.invokevirtual 60, 3) := by decide +kernel
theorem dX5_aim_67 : decode cX5_aim 67 = .ok (.goto 22, 3) := by decide +kernel
theorem dX5_aim_70 : decode cX5_aim 70 = .ok (.aload_n 0, 1) := by decide +kernel
theorem dX5_aim_71 : decode cX5_aim 71 = .ok (.invokevirtual 63, 3) := by decide +kernel
theorem dX5_aim_74 : decode cX5_aim 74 = .ok (.aload_n 0, 1) := by decide +kernel
theorem dX5_aim_75 : decode cX5_aim 75 = .ok (.aload_n 0, 1) := by decide +kernel
theorem dX5_aim_76 : decode cX5_aim 76 = .ok (.getfield 45, 3) := by decide +kernel
theorem dX5_aim_79 : decode cX5_aim 79 = .ok (.invokevirtual 66, 3) := by decide +kernel
theorem dX5_aim_82 : decode cX5_aim 82 = .ok (.goto 7, 3) := by decide +kernel
theorem dX5_aim_85 : decode cX5_aim 85 = .ok (.aload_n 0, 1) := by decide +kernel
theorem dX5_aim_86 : decode cX5_aim 86 = .ok (.invokevirtual 70, 3) := by decide +kernel
theorem dX5_aim_89 : decode cX5_aim 89 = .ok (.return_, 1) := by decide +kernel
theorem dX5_aimAtAllReactions_0 : decode cX5_aimAtAllReactions 0 = .ok (.aload_n 0, 1) := by decide +kernel
theorem dX5_aimAtAllReactions_1 : decode cX5_aimAtAllReactions 1 = .ok (.iconst 3, 1) := by decide +kernel
theorem dX5_aimAtAllReactions_2 : decode cX5_aimAtAllReactions 2 = .ok (.putfield 41, 3) := by decide +kernel
theorem dX5_aimAtAllReactions_5 : decode cX5_aimAtAllReactions 5 = .ok (.aload_n 0, 1) := by decide +kernel
theorem dX5_aimAtAllReactions_6 : decode cX5_aimAtAllReactions 6 = .ok (.iconst 0, 1) := by decide +kernel
theorem dX5_aimAtAllReactions_7 : decode cX5_aimAtAllReactions 7 = .ok (.putfield 45, 3) := by decide +kernel
theorem dX5_aimAtAllReactions_10 : decode cX5_aimAtAllReactions 10 = .ok (.aload_n 0, 1) := by decide +kernel
theorem dX5_aimAtAllReactions_11 : decode cX5_aimAtAllReactions 11 = .ok (.iconst 0, 1) := by decide +kernel
theorem dX5_aimAtAllReactions_12 : decode cX5_aimAtAllReactions 12 = .ok (.putfield 48, 3) := by decide +kernel
theorem dX5_aimAtAllReactions_15 : decode cX5_aimAtAllReactions 15 = .ok (.aload_n 0, 1) := by decide +kernel
theorem dX5_aimAtAllReactions_16 : decode cX5_aimAtAllReactions 16 = .ok (.getfield 11, 3) := by decide +kernel
theorem dX5_aimAtAllReactions_19 : decode cX5_aimAtAllReactions 19 = .ok (.lconst 0, 1) := by decide +kernel
theorem dX5_aimAtAllReactions_20 : decode cX5_aimAtAllReactions 20 = .ok (.invokestatic 51, 3) := by decide +kernel
theorem dX5_aimAtAllReactions_23 : decode cX5_aimAtAllReactions 23 = .ok (.aload_n 0, 1) := by decide +kernel
theorem dX5_aimAtAllReactions_24 : decode cX5_aimAtAllReactions 24 = .ok (.invokevirtual 63, 3) := by decide +kernel
theorem dX5_aimAtAllReactions_27 : decode cX5_aimAtAllReactions 27 = .ok (.iconst 0, 1) := by decide +kernel
theorem dX5_aimAtAllReactions_28 : decode cX5_aimAtAllReactions 28 = .ok (.istore_n 1, 1) := by decide +kernel
theorem dX5_aimAtAllReactions_29 : decode cX5_aimAtAllReactions 29 = .ok (.iload_n 1, 1) := by decide +kernel
theorem dX5_aimAtAllReactions_30 : decode cX5_aimAtAllReactions 30 = .ok (.aload_n 0, 1) := by decide +kernel
theorem dX5_aimAtAllReactions_31 : decode cX5_aimAtAllReactions 31 = .ok (.getfield 33, 3) := by decide +kernel
theorem dX5_aimAtAllReactions_34 : decode cX5_aimAtAllReactions 34 = .ok (.getfield 73, 3) := by decide +kernel
theorem dX5_aimAtAllReactions_37 : decode cX5_aimAtAllReactions 37 = .ok (.if_icmp .gt 26, 3) := by decide +kernel
theorem dX5_aimAtAllReactions_40 : decode cX5_aimAtAllReactions 40 = .ok (.aload_n 0, 1) := by decide +kernel
theorem dX5_aimAtAllReactions_41 : decode cX5_aimAtAllReactions 41 = .ok (.getfield 33, 3) := by decide +kernel
theorem dX5_aimAtAllReactions_44 : decode cX5_aimAtAllReactions 44 = .ok (.getfield 76, 3) := by decide +kernel
theorem dX5_aimAtAllReactions_47 : decode cX5_aimAtAllReactions 47 = .ok (.iload_n 1, 1) := by decide +kernel
theorem dX5_aimAtAllReactions_48 : decode cX5_aimAtAllReactions 48 = .ok (.baload, 1) := by decide +kernel
theorem dX5_aimAtAllReactions_49 : decode cX5_aimAtAllReactions 49 = .ok (.ifCond .eq 8, 3) := by decide +kernel
theorem dX5_aimAtAllReactions_52 : decode cX5_aimAtAllReactions 52 = .ok (.aload_n 0, 1) := by decide +kernel
theorem dX5_aimAtAllReactions_53 : decode cX5_aimAtAllReactions 53 = .ok (.iload_n 1, 1) := by decide +kernel
theorem dX5_aimAtAllReactions_54 : decode cX5_aimAtAllReactions 54 = .ok (.invokevirtual 66, 3) := by decide +kernel
theorem dX5_aimAtAllReactions_57 : decode cX5_aimAtAllReactions 57 = .ok (.iinc 1 1, 3) := by decide +kernel
theorem dX5_aimAtAllReactions_60 : decode cX5_aimAtAllReactions 60 = .ok (.goto (-31), 3) := by decide +kernel
theorem dX5_aimAtAllReactions_63 : decode cX5_aimAtAllReactions 63 = .ok (.return_, 1) := by decide +kernel
theorem dX5_put_0 : decode cX5_put 0 = .ok (.aload_n 0, 1) := by decide +kernel
theorem dX5_put_1 : decode cX5_put 1 = .ok (.iload_n 1, 1) := by decide +kernel
theorem dX5_put_2 : decode cX5_put 2 = .ok (.putfield 79, 3) := by decide +kernel
theorem dX5_put_5 : decode cX5_put 5 = .ok (.aload_n 0, 1) := by decide +kernel
theorem dX5_put_6 : decode cX5_put 6 = .ok (.iload_n 2, 1) := by decide +kernel
theorem dX5_put_7 : decode cX5_put 7 = .ok (.putfield 82, 3) := by decide +kernel
theorem dX5_put_10 : decode cX5_put 10 = .ok (.aload_n 0, 1) := by decide +kernel
theorem dX5_put_11 : decode cX5_put 11 = .ok (.getfield 17, 3) := by decide +kernel
theorem dX5_put_14 : decode cX5_put 14 = .ok (.lconst 0, 1) := by decide +kernel
theorem dX5_put_15 : decode cX5_put 15 = .ok (.invokestatic 51, 3) := by decide +kernel
theorem dX5_put_18 : decode cX5_put 18 = .ok (.aload_n 0, 1) := by decide +kernel
theorem dX5_put_19 : decode cX5_put 19 = .ok (.aload_n 0, 1) := by decide +kernel
theorem dX5_put_20 : decode cX5_put 20 = .ok (.getfield 17, 3) := by decide +kernel
theorem dX5_put_23 : decode cX5_put 23 = .ok (.aload_n 0, 1) := by decide +kernel
theorem dX5_put_24 : decode cX5_put 24 = .ok (.getfield 79, 3) := by decide +kernel
theorem dX5_put_27 : decode cX5_put 27 = .ok (.aload_n 0, 1) := by decide +kernel
theorem dX5_put_28 : decode cX5_put 28 = .ok (.getfield 82, 3) := by decide +kernel
theorem dX5_put_31 : decode cX5_put 31 = .ok (.invokevirtual 85, 3) := by decide +kernel
theorem dX5_put_34 : decode cX5_put 34 = .ok (.return_, 1) := by decide +kernel
theorem dX5_measure_0 : decode cX5_measure 0 = .ok (.aload_n 0, 1) := by decide +kernel
theorem dX5_measure_1 : decode cX5_measure 1 = .ok (.getfield 37, 3) := by decide +kernel
theorem dX5_measure_4 : decode cX5_measure 4 = .ok (.aload_n 0, 1) := by decide +kernel
theorem dX5_measure_5 : decode cX5_measure 5 = .ok (.getfield 11, 3) := by decide +kernel
theorem dX5_measure_8 : decode cX5_measure 8 = .ok (.aload_n 0, 1) := by decide +kernel
theorem dX5_measure_9 : decode cX5_measure 9 = .ok (.getfield 17, 3) := by decide +kernel
theorem dX5_measure_12 : decode cX5_measure 12 = .ok (.aload_n 0, 1) := by decide +kernel
theorem dX5_measure_13 : decode cX5_measure 13 = .ok (.getfield 29, 3) := by decide +kernel
theorem dX5_measure_16 : decode cX5_measure 16 = .ok (.invokevirtual 89, 3) := by decide +kernel
theorem dX5_measure_19 : decode cX5_measure 19 = .ok (.aload_n 1, 1) := by decide +kernel
theorem dX5_measure_20 : decode cX5_measure 20 = .ok (.lconst 0, 1) := by decide +kernel
theorem dX5_measure_21 : decode cX5_measure 21 = .ok (.invokevirtual 93, 3) := by decide +kernel
theorem dX5_measure_24 : decode cX5_measure 24 = .ok (.aload_n 1, 1) := by decide +kernel
theorem dX5_measure_25 : decode cX5_measure 25 = .ok (.aload_n 0, 1) := by decide +kernel
theorem dX5_measure_26 : decode cX5_measure 26 = .ok (.getfield 29, 3) := by decide +kernel
theorem dX5_measure_29 : decode cX5_measure 29 = .ok (.aload_n 0, 1) := by decide +kernel
theorem dX5_measure_30 : decode cX5_measure 30 = .ok (.getfield 97, 3) := by decide +kernel
theorem dX5_measure_33 : decode cX5_measure 33 = .ok (.invokevirtual 101, 3) := by decide +kernel
theorem dX5_measure_36 : decode cX5_measure 36 = .ok (.aload_n 1, 1) := by decide +kernel
theorem dX5_measure_37 : decode cX5_measure 37 = .ok (.aload_n 0, 1) := by decide +kernel
theorem dX5_measure_38 : decode cX5_measure 38 = .ok (.getfield 37, 3) := by decide +kernel
theorem dX5_measure_41 : decode cX5_measure 41 = .ok (.invokevirtual 105, 3) := by decide +kernel
theorem dX5_measure_44 : decode cX5_measure 44 = .ok (.aload_n 0, 1) := by decide +kernel
theorem dX5_measure_45 : decode cX5_measure 45 = .ok (.invokevirtual 109, 3) := by decide +kernel
theorem dX5_measure_48 : decode cX5_measure 48 = .ok (.invokevirtual 101, 3) := by decide +kernel
theorem dX5_measure_51 : decode cX5_measure 51 = .ok (.return_, 1) := by decide +kernel
theorem dX5_under_0 : decode cX5_under 0 = .ok (.aload_n 1, 1) := by decide +kernel
theorem dX5_under_1 : decode cX5_under 1 = .ok (.lconst 0, 1) := by decide +kernel
theorem dX5_under_2 : decode cX5_under 2 = .ok (.invokevirtual 93, 3) := by decide +kernel
theorem dX5_under_5 : decode cX5_under 5 = .ok (.aload_n 1, 1) := by decide +kernel
theorem dX5_under_6 : decode cX5_under 6 = .ok (.aload_n 0, 1) := by decide +kernel
theorem dX5_under_7 : decode cX5_under 7 = .ok (.getfield 37, 3) := by decide +kernel
theorem dX5_under_10 : decode cX5_under 10 = .ok (.invokevirtual 105, 3) := by decide +kernel
theorem dX5_under_13 : decode cX5_under 13 = .ok (.aload_n 0, 1) := by decide +kernel
theorem dX5_under_14 : decode cX5_under 14 = .ok (.getfield 113, 3) := by decide +kernel
theorem dX5_under_17 : decode cX5_under 17 = .ok (.invokevirtual 101, 3) := by decide +kernel
theorem dX5_under_20 : decode cX5_under 20 = .ok (.return_, 1) := by decide +kernel
theorem dX5_followSettled_0 : decode cX5_followSettled 0 = .ok (.aload_n 0, 1) := by decide +kernel
theorem dX5_followSettled_1 : decode cX5_followSettled 1 = .ok (.getfield 11, 3) := by decide +kernel
theorem dX5_followSettled_4 : decode cX5_followSettled 4 = .ok (.lconst 0, 1) := by decide +kernel
theorem dX5_followSettled_5 : decode cX5_followSettled 5 = .ok (.invokestatic 51, 3) := by decide +kernel
theorem dX5_followSettled_8 : decode cX5_followSettled 8 = .ok (.aload_n 0, 1) := by decide +kernel
theorem dX5_followSettled_9 : decode cX5_followSettled 9 = .ok (.getfield 11, 3) := by decide +kernel
theorem dX5_followSettled_12 : decode cX5_followSettled 12 = .ok (.iload_n 1, 1) := by decide +kernel
theorem dX5_followSettled_13 : decode cX5_followSettled 13 = .ok (.lconst 1, 1) := by decide +kernel
theorem dX5_followSettled_14 : decode cX5_followSettled 14 = .ok (.lastore, 1) := by decide +kernel
theorem dX5_followSettled_15 : decode cX5_followSettled 15 = .ok (.iconst 0, 1) := by decide +kernel
theorem dX5_followSettled_16 : decode cX5_followSettled 16 = .ok (.istore 4, 2) := by decide +kernel
theorem dX5_followSettled_18 : decode cX5_followSettled 18 = .ok (.iload 4, 2) := by decide +kernel
theorem dX5_followSettled_20 : decode cX5_followSettled 20 = .ok (.bipush 10, 2) := by decide +kernel
theorem dX5_followSettled_22 : decode cX5_followSettled 22 = .ok (.if_icmp .ge 27, 3) := by decide +kernel
theorem dX5_followSettled_25 : decode cX5_followSettled 25 = .ok (.aload_n 0, 1) := by decide +kernel
theorem dX5_followSettled_26 : decode cX5_followSettled 26 = .ok (.getfield 17, 3) := by decide +kernel
theorem dX5_followSettled_29 : decode cX5_followSettled 29 = .ok (.iload 4, 2) := by decide +kernel
theorem dX5_followSettled_31 : decode cX5_followSettled 31 = .ok (.aload_n 0, 1) := by decide +kernel
theorem dX5_followSettled_32 : decode cX5_followSettled 32 = .ok (.getfield 37, 3) := by decide +kernel
theorem dX5_followSettled_35 : decode cX5_followSettled 35 = .ok (.iload 4, 2) := by decide +kernel
theorem dX5_followSettled_37 : decode cX5_followSettled 37 = .ok (.iload_n 2, 1) := by decide +kernel
theorem dX5_followSettled_38 : decode cX5_followSettled 38 = .ok (.invokevirtual 116, 3) := by decide +kernel
theorem dX5_followSettled_41 : decode cX5_followSettled 41 = .ok (.lneg, 1) := by decide +kernel
theorem dX5_followSettled_42 : decode cX5_followSettled 42 = .ok (.lastore, 1) := by decide +kernel
theorem dX5_followSettled_43 : decode cX5_followSettled 43 = .ok (.iinc 4 1, 3) := by decide +kernel
theorem dX5_followSettled_46 : decode cX5_followSettled 46 = .ok (.goto (-28), 3) := by decide +kernel
theorem dX5_followSettled_49 : decode cX5_followSettled 49 = .ok (.aload_n 0, 1) := by decide +kernel
theorem dX5_followSettled_50 : decode cX5_followSettled 50 = .ok (.getfield 37, 3) := by decide +kernel
theorem dX5_followSettled_53 : decode cX5_followSettled 53 = .ok (.aload_n 0, 1) := by decide +kernel
theorem dX5_followSettled_54 : decode cX5_followSettled 54 = .ok (.getfield 11, 3) := by decide +kernel
theorem dX5_followSettled_57 : decode cX5_followSettled 57 = .ok (.aload_n 0, 1) := by decide +kernel
theorem dX5_followSettled_58 : decode cX5_followSettled 58 = .ok (.getfield 17, 3) := by decide +kernel
theorem dX5_followSettled_61 : decode cX5_followSettled 61 = .ok (.aload_n 3, 1) := by decide +kernel
theorem dX5_followSettled_62 : decode cX5_followSettled 62 = .ok (.invokevirtual 89, 3) := by decide +kernel
theorem dX5_followSettled_65 : decode cX5_followSettled 65 = .ok (.return_, 1) := by decide +kernel
theorem dX5_layShape_0 : decode cX5_layShape 0 = .ok (.iconst 4, 1) := by decide +kernel
theorem dX5_layShape_1 : decode cX5_layShape 1 = .ok (.iload_n 3, 1) := by decide +kernel
theorem dX5_layShape_2 : decode cX5_layShape 2 = .ok (.isub, 1) := by decide +kernel
theorem dX5_layShape_3 : decode cX5_layShape 3 = .ok (.i2l, 1) := by decide +kernel
theorem dX5_layShape_4 : decode cX5_layShape 4 = .ok (.lstore 4, 2) := by decide +kernel
theorem dX5_layShape_6 : decode cX5_layShape 6 = .ok (.aload_n 0, 1) := by decide +kernel
theorem dX5_layShape_7 : decode cX5_layShape 7 = .ok (.getfield 37, 3) := by decide +kernel
theorem dX5_layShape_10 : decode cX5_layShape 10 = .ok (.invokevirtual 120, 3) := by decide +kernel
theorem dX5_layShape_13 : decode cX5_layShape 13 = .ok (.lstore 6, 2) := by decide +kernel
theorem dX5_layShape_15 : decode cX5_layShape 15 = .ok (.aload_n 0, 1) := by decide +kernel
theorem dX5_layShape_16 : decode cX5_layShape 16 = .ok (.getfield 33, 3) := by decide +kernel
theorem dX5_layShape_19 : decode cX5_layShape 19 = .ok (.getfield 123, 3) := by decide +kernel
theorem dX5_layShape_22 : decode cX5_layShape 22 = .ok (.iload_n 2, 1) := by decide +kernel
theorem dX5_layShape_23 : decode cX5_layShape 23 = .ok (.laload, 1) := by decide +kernel
theorem dX5_layShape_24 : decode cX5_layShape 24 = .ok (.lstore 8, 2) := by decide +kernel
theorem dX5_layShape_26 : decode cX5_layShape 26 = .ok (.aload_n 1, 1) := by decide +kernel
theorem dX5_layShape_27 : decode cX5_layShape 27 = .ok (.iload_n 2, 1) := by decide +kernel
theorem dX5_layShape_28 : decode cX5_layShape 28 = .ok (.dup2, 1) := by decide +kernel
theorem dX5_layShape_29 : decode cX5_layShape 29 = .ok (.laload, 1) := by decide +kernel
theorem dX5_layShape_30 : decode cX5_layShape 30 = .ok (.lload 6, 2) := by decide +kernel
theorem dX5_layShape_32 : decode cX5_layShape 32 = .ok (.lload 4, 2) := by decide +kernel
theorem dX5_layShape_34 : decode cX5_layShape 34 = .ok (.lmul, 1) := by decide +kernel
theorem dX5_layShape_35 : decode cX5_layShape 35 = .ok (.lload 4, 2) := by decide +kernel
theorem dX5_layShape_37 : decode cX5_layShape 37 = .ok (.lmul, 1) := by decide +kernel
theorem dX5_layShape_38 : decode cX5_layShape 38 = .ok (.iconst 4, 1) := by decide +kernel
theorem dX5_layShape_39 : decode cX5_layShape 39 = .ok (.iconst 2, 1) := by decide +kernel
theorem dX5_layShape_40 : decode cX5_layShape 40 = .ok (.iload_n 3, 1) := by decide +kernel
theorem dX5_layShape_41 : decode cX5_layShape 41 = .ok (.imul, 1) := by decide +kernel
theorem dX5_layShape_42 : decode cX5_layShape 42 = .ok (.iadd, 1) := by decide +kernel
theorem dX5_layShape_43 : decode cX5_layShape 43 = .ok (.i2l, 1) := by decide +kernel
theorem dX5_layShape_44 : decode cX5_layShape 44 = .ok (.lmul, 1) := by decide +kernel
theorem dX5_layShape_45 : decode cX5_layShape 45 = .ok (.ladd, 1) := by decide +kernel
theorem dX5_layShape_46 : decode cX5_layShape 46 = .ok (.lastore, 1) := by decide +kernel
theorem dX5_layShape_47 : decode cX5_layShape 47 = .ok (.aload_n 1, 1) := by decide +kernel
theorem dX5_layShape_48 : decode cX5_layShape 48 = .ok (.aload_n 0, 1) := by decide +kernel
theorem dX5_layShape_49 : decode cX5_layShape 49 = .ok (.getfield 37, 3) := by decide +kernel
theorem dX5_layShape_52 : decode cX5_layShape 52 = .ok (.iconst 2, 1) := by decide +kernel
theorem dX5_layShape_53 : decode cX5_layShape 53 = .ok (.iload_n 2, 1) := by decide +kernel
theorem dX5_layShape_54 : decode cX5_layShape 54 = .ok (.imul, 1) := by decide +kernel
theorem dX5_layShape_55 : decode cX5_layShape 55 = .ok (.invokevirtual 126, 3) := by decide +kernel
theorem dX5_layShape_58 : decode cX5_layShape 58 = .ok (.dup2, 1) := by decide +kernel
theorem dX5_layShape_59 : decode cX5_layShape 59 = .ok (.laload, 1) := by decide +kernel
theorem dX5_layShape_60 : decode cX5_layShape 60 = .ok (.lload 8, 2) := by decide +kernel
theorem dX5_layShape_62 : decode cX5_layShape 62 = .ok (.iload_n 3, 1) := by decide +kernel
theorem dX5_layShape_63 : decode cX5_layShape 63 = .ok (.i2l, 1) := by decide +kernel
theorem dX5_layShape_64 : decode cX5_layShape 64 = .ok (.lmul, 1) := by decide +kernel
theorem dX5_layShape_65 : decode cX5_layShape 65 = .ok (.lload 4, 2) := by decide +kernel
theorem dX5_layShape_67 : decode cX5_layShape 67 = .ok (.lmul, 1) := by decide +kernel
theorem dX5_layShape_68 : decode cX5_layShape 68 = .ok (.lload 4, 2) := by decide +kernel
theorem dX5_layShape_70 : decode cX5_layShape 70 = .ok (.lmul, 1) := by decide +kernel
theorem dX5_layShape_71 : decode cX5_layShape 71 = .ok (.ladd, 1) := by decide +kernel
theorem dX5_layShape_72 : decode cX5_layShape 72 = .ok (.lastore, 1) := by decide +kernel
theorem dX5_layShape_73 : decode cX5_layShape 73 = .ok (.aload_n 1, 1) := by decide +kernel
theorem dX5_layShape_74 : decode cX5_layShape 74 = .ok (.iload_n 2, 1) := by decide +kernel
theorem dX5_layShape_75 : decode cX5_layShape 75 = .ok (.iconst 1, 1) := by decide +kernel
theorem dX5_layShape_76 : decode cX5_layShape 76 = .ok (.iadd, 1) := by decide +kernel
theorem dX5_layShape_77 : decode cX5_layShape 77 = .ok (.dup2, 1) := by decide +kernel
theorem dX5_layShape_78 : decode cX5_layShape 78 = .ok (.laload, 1) := by decide +kernel
theorem dX5_layShape_79 : decode cX5_layShape 79 = .ok (.lload 6, 2) := by decide +kernel
theorem dX5_layShape_81 : decode cX5_layShape 81 = .ok (.iload_n 3, 1) := by decide +kernel
theorem dX5_layShape_82 : decode cX5_layShape 82 = .ok (.i2l, 1) := by decide +kernel
theorem dX5_layShape_83 : decode cX5_layShape 83 = .ok (.lmul, 1) := by decide +kernel
theorem dX5_layShape_84 : decode cX5_layShape 84 = .ok (.iload_n 3, 1) := by decide +kernel
theorem dX5_layShape_85 : decode cX5_layShape 85 = .ok (.i2l, 1) := by decide +kernel
theorem dX5_layShape_86 : decode cX5_layShape 86 = .ok (.lmul, 1) := by decide +kernel
theorem dX5_layShape_87 : decode cX5_layShape 87 = .ok (.bipush 12, 2) := by decide +kernel
theorem dX5_layShape_89 : decode cX5_layShape 89 = .ok (.iconst 2, 1) := by decide +kernel
theorem dX5_layShape_90 : decode cX5_layShape 90 = .ok (.iload_n 3, 1) := by decide +kernel
theorem dX5_layShape_91 : decode cX5_layShape 91 = .ok (.imul, 1) := by decide +kernel
theorem dX5_layShape_92 : decode cX5_layShape 92 = .ok (.isub, 1) := by decide +kernel
theorem dX5_layShape_93 : decode cX5_layShape 93 = .ok (.i2l, 1) := by decide +kernel
theorem dX5_layShape_94 : decode cX5_layShape 94 = .ok (.lmul, 1) := by decide +kernel
theorem dX5_layShape_95 : decode cX5_layShape 95 = .ok (.ladd, 1) := by decide +kernel
theorem dX5_layShape_96 : decode cX5_layShape 96 = .ok (.lastore, 1) := by decide +kernel
theorem dX5_layShape_97 : decode cX5_layShape 97 = .ok (.aload_n 1, 1) := by decide +kernel
