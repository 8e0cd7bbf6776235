theorem dX9_clear_78 : decode cX9_clear 78 = .ok (.laload, 1) := by decide +kernel
theorem dX9_clear_79 : decode cX9_clear 79 = .ok (.lmul, 1) := by decide +kernel
theorem dX9_clear_80 : decode cX9_clear 80 = .ok (.lsub, 1) := by decide +kernel
theorem dX9_clear_81 : decode cX9_clear 81 = .ok (.lastore, 1) := by decide +kernel
theorem dX9_clear_82 : decode cX9_clear 82 = .ok (.lload 8, 2) := by decide +kernel
theorem dX9_clear_84 : decode cX9_clear 84 = .ok (.aload_n 0, 1) := by decide +kernel
theorem dX9_clear_85 : decode cX9_clear 85 = .ok (.getfield 66, 3) := by decide +kernel
theorem dX9_clear_88 : decode cX9_clear 88 = .ok (.bipush 6, 2) := by decide +kernel
theorem dX9_clear_90 : decode cX9_clear 90 = .ok (.iload_n 1, 1) := by decide +kernel
theorem dX9_clear_91 : decode cX9_clear 91 = .ok (.imul, 1) := by decide +kernel
theorem dX9_clear_92 : decode cX9_clear 92 = .ok (.iload 10, 2) := by decide +kernel
theorem dX9_clear_94 : decode cX9_clear 94 = .ok (.iadd, 1) := by decide +kernel
theorem dX9_clear_95 : decode cX9_clear 95 = .ok (.laload, 1) := by decide +kernel
theorem dX9_clear_96 : decode cX9_clear 96 = .ok (.invokestatic 227, 3) := by decide +kernel
theorem dX9_clear_99 : decode cX9_clear 99 = .ok (.lstore 8, 2) := by decide +kernel
theorem dX9_clear_101 : decode cX9_clear 101 = .ok (.iinc 10 1, 3) := by decide +kernel
theorem dX9_clear_104 : decode cX9_clear 104 = .ok (.goto (-72), 3) := by decide +kernel
theorem dX9_clear_107 : decode cX9_clear 107 = .ok (.iconst 0, 1) := by decide +kernel
theorem dX9_clear_108 : decode cX9_clear 108 = .ok (.istore 10, 2) := by decide +kernel
theorem dX9_clear_110 : decode cX9_clear 110 = .ok (.iload 10, 2) := by decide +kernel
theorem dX9_clear_112 : decode cX9_clear 112 = .ok (.bipush 6, 2) := by decide +kernel
theorem dX9_clear_114 : decode cX9_clear 114 = .ok (.if_icmp .ge 33, 3) := by decide +kernel
theorem dX9_clear_117 : decode cX9_clear 117 = .ok (.lload 8, 2) := by decide +kernel
theorem dX9_clear_119 : decode cX9_clear 119 = .ok (.lconst 1, 1) := by decide +kernel
theorem dX9_clear_120 : decode cX9_clear 120 = .ok (.lcmp, 1) := by decide +kernel
theorem dX9_clear_121 : decode cX9_clear 121 = .ok (.ifCond .le 26, 3) := by decide +kernel
theorem dX9_clear_124 : decode cX9_clear 124 = .ok (.aload_n 0, 1) := by decide +kernel
theorem dX9_clear_125 : decode cX9_clear 125 = .ok (.getfield 66, 3) := by decide +kernel
theorem dX9_clear_128 : decode cX9_clear 128 = .ok (.bipush 6, 2) := by decide +kernel
theorem dX9_clear_130 : decode cX9_clear 130 = .ok (.iload_n 1, 1) := by decide +kernel
theorem dX9_clear_131 : decode cX9_clear 131 = .ok (.imul, 1) := by decide +kernel
theorem dX9_clear_132 : decode cX9_clear 132 = .ok (.iload 10, 2) := by decide +kernel
theorem dX9_clear_134 : decode cX9_clear 134 = .ok (.iadd, 1) := by decide +kernel
theorem dX9_clear_135 : decode cX9_clear 135 = .ok (.dup2, 1) := by decide +kernel
theorem dX9_clear_136 : decode cX9_clear 136 = .ok (.laload, 1) := by decide +kernel
theorem dX9_clear_137 : decode cX9_clear 137 = .ok (.lload 8, 2) := by decide +kernel
theorem dX9_clear_139 : decode cX9_clear 139 = .ok (.ldiv, 1) := by decide +kernel
theorem dX9_clear_140 : decode cX9_clear 140 = .ok (.lastore, 1) := by decide +kernel
theorem dX9_clear_141 : decode cX9_clear 141 = .ok (.iinc 10 1, 3) := by decide +kernel
theorem dX9_clear_144 : decode cX9_clear 144 = .ok (.goto (-34), 3) := by decide +kernel
theorem dX9_clear_147 : decode cX9_clear 147 = .ok (.return_, 1) := by decide +kernel
theorem dX9_rank_0 : decode cX9_rank 0 = .ok (.iconst 0, 1) := by decide +kernel
theorem dX9_rank_1 : decode cX9_rank 1 = .ok (.istore_n 2, 1) := by decide +kernel
theorem dX9_rank_2 : decode cX9_rank 2 = .ok (.iload_n 2, 1) := by decide +kernel
theorem dX9_rank_3 : decode cX9_rank 3 = .ok (.bipush 6, 2) := by decide +kernel
theorem dX9_rank_5 : decode cX9_rank 5 = .ok (.iload_n 1, 1) := by decide +kernel
theorem dX9_rank_6 : decode cX9_rank 6 = .ok (.imul, 1) := by decide +kernel
theorem dX9_rank_7 : decode cX9_rank 7 = .ok (.if_icmp .ge 21, 3) := by decide +kernel
theorem dX9_rank_10 : decode cX9_rank 10 = .ok (.aload_n 0, 1) := by decide +kernel
theorem dX9_rank_11 : decode cX9_rank 11 = .ok (.getfield 66, 3) := by decide +kernel
theorem dX9_rank_14 : decode cX9_rank 14 = .ok (.iload_n 2, 1) := by decide +kernel
theorem dX9_rank_15 : decode cX9_rank 15 = .ok (.aload_n 0, 1) := by decide +kernel
theorem dX9_rank_16 : decode cX9_rank 16 = .ok (.getfield 63, 3) := by decide +kernel
theorem dX9_rank_19 : decode cX9_rank 19 = .ok (.iload_n 2, 1) := by decide +kernel
theorem dX9_rank_20 : decode cX9_rank 20 = .ok (.laload, 1) := by decide +kernel
theorem dX9_rank_21 : decode cX9_rank 21 = .ok (.lastore, 1) := by decide +kernel
theorem dX9_rank_22 : decode cX9_rank 22 = .ok (.iinc 2 1, 3) := by decide +kernel
theorem dX9_rank_25 : decode cX9_rank 25 = .ok (.goto (-23), 3) := by decide +kernel
theorem dX9_rank_28 : decode cX9_rank 28 = .ok (.iconst 0, 1) := by decide +kernel
theorem dX9_rank_29 : decode cX9_rank 29 = .ok (.istore_n 2, 1) := by decide +kernel
theorem dX9_rank_30 : decode cX9_rank 30 = .ok (.iconst 0, 1) := by decide +kernel
theorem dX9_rank_31 : decode cX9_rank 31 = .ok (.istore_n 3, 1) := by decide +kernel
theorem dX9_rank_32 : decode cX9_rank 32 = .ok (.iload_n 3, 1) := by decide +kernel
theorem dX9_rank_33 : decode cX9_rank 33 = .ok (.bipush 6, 2) := by decide +kernel
theorem dX9_rank_35 : decode cX9_rank 35 = .ok (.if_icmp .ge 148, 3) := by decide +kernel
theorem dX9_rank_38 : decode cX9_rank 38 = .ok (.iload_n 2, 1) := by decide +kernel
theorem dX9_rank_39 : decode cX9_rank 39 = .ok (.istore 4, 2) := by decide +kernel
theorem dX9_rank_41 : decode cX9_rank 41 = .ok (.iload 4, 2) := by decide +kernel
theorem dX9_rank_43 : decode cX9_rank 43 = .ok (.iload_n 1, 1) := by decide +kernel
theorem dX9_rank_44 : decode cX9_rank 44 = .ok (.if_icmp .ge 26, 3) := by decide +kernel
theorem dX9_rank_47 : decode cX9_rank 47 = .ok (.aload_n 0, 1) := by decide +kernel
theorem dX9_rank_48 : decode cX9_rank 48 = .ok (.getfield 66, 3) := by decide +kernel
theorem dX9_rank_51 : decode cX9_rank 51 = .ok (.bipush 6, 2) := by decide +kernel
theorem dX9_rank_53 : decode cX9_rank 53 = .ok (.iload 4, 2) := by decide +kernel
theorem dX9_rank_55 : decode cX9_rank 55 = .ok (.imul, 1) := by decide +kernel
theorem dX9_rank_56 : decode cX9_rank 56 = .ok (.iload_n 3, 1) := by decide +kernel
theorem dX9_rank_57 : decode cX9_rank 57 = .ok (.iadd, 1) := by decide +kernel
theorem dX9_rank_58 : decode cX9_rank 58 = .ok (.laload, 1) := by decide +kernel
theorem dX9_rank_59 : decode cX9_rank 59 = .ok (.lconst 0, 1) := by decide +kernel
theorem dX9_rank_60 : decode cX9_rank 60 = .ok (.lcmp, 1) := by decide +kernel
theorem dX9_rank_61 : decode cX9_rank 61 = .ok (.ifCond .ne 9, 3) := by decide +kernel
theorem dX9_rank_64 : decode cX9_rank 64 = .ok (.iinc 4 1, 3) := by decide +kernel
theorem dX9_rank_67 : decode cX9_rank 67 = .ok (.goto (-26), 3) := by decide +kernel
theorem dX9_rank_70 : decode cX9_rank 70 = .ok (.iload 4, 2) := by decide +kernel
theorem dX9_rank_72 : decode cX9_rank 72 = .ok (.iload_n 1, 1) := by decide +kernel
theorem dX9_rank_73 : decode cX9_rank 73 = .ok (.if_icmp .ne 6, 3) := by decide +kernel
theorem dX9_rank_76 : decode cX9_rank 76 = .ok (.goto 101, 3) := by decide +kernel
theorem dX9_rank_79 : decode cX9_rank 79 = .ok (.iconst 0, 1) := by decide +kernel
theorem dX9_rank_80 : decode cX9_rank 80 = .ok (.istore 5, 2) := by decide +kernel
theorem dX9_rank_82 : decode cX9_rank 82 = .ok (.iload 5, 2) := by decide +kernel
theorem dX9_rank_84 : decode cX9_rank 84 = .ok (.bipush 6, 2) := by decide +kernel
theorem dX9_rank_86 : decode cX9_rank 86 = .ok (.if_icmp .ge 63, 3) := by decide +kernel
theorem dX9_rank_89 : decode cX9_rank 89 = .ok (.aload_n 0, 1) := by decide +kernel
theorem dX9_rank_90 : decode cX9_rank 90 = .ok (.getfield 66, 3) := by decide +kernel
theorem dX9_rank_93 : decode cX9_rank 93 = .ok (.bipush 6, 2) := by decide +kernel
theorem dX9_rank_95 : decode cX9_rank 95 = .ok (.iload 4, 2) := by decide +kernel
theorem dX9_rank_97 : decode cX9_rank 97 = .ok (.imul, 1) := by decide +kernel
theorem dX9_rank_98 : decode cX9_rank 98 = .ok (.iload 5, 2) := by decide +kernel
theorem dX9_rank_100 : decode cX9_rank 100 = .ok (.iadd, 1) := by decide +kernel
theorem dX9_rank_101 : decode cX9_rank 101 = .ok (.laload, 1) := by decide +kernel
theorem dX9_rank_102 : decode cX9_rank 102 = .ok (.lstore 6, 2) := by decide +kernel
theorem dX9_rank_104 : decode cX9_rank 104 = .ok (.aload_n 0, 1) := by decide +kernel
theorem dX9_rank_105 : decode cX9_rank 105 = .ok (.getfield 66, 3) := by decide +kernel
theorem dX9_rank_108 : decode cX9_rank 108 = .ok (.bipush 6, 2) := by decide +kernel
theorem dX9_rank_110 : decode cX9_rank 110 = .ok (.iload 4, 2) := by decide +kernel
theorem dX9_rank_112 : decode cX9_rank 112 = .ok (.imul, 1) := by decide +kernel
theorem dX9_rank_113 : decode cX9_rank 113 = .ok (.iload 5, 2) := by decide +kernel
theorem dX9_rank_115 : decode cX9_rank 115 = .ok (.iadd, 1) := by decide +kernel
theorem dX9_rank_116 : decode cX9_rank 116 = .ok (.aload_n 0, 1) := by decide +kernel
theorem dX9_rank_117 : decode cX9_rank 117 = .ok (.getfield 66, 3) := by decide +kernel
theorem dX9_rank_120 : decode cX9_rank 120 = .ok (.bipush 6, 2) := by decide +kernel
theorem dX9_rank_122 : decode cX9_rank 122 = .ok (.iload_n 2, 1) := by decide +kernel
theorem dX9_rank_123 : decode cX9_rank 123 = .ok (.imul, 1) := by decide +kernel
theorem dX9_rank_124 : decode cX9_rank 124 = .ok (.iload 5, 2) := by decide +kernel
theorem dX9_rank_126 : decode cX9_rank 126 = .ok (.iadd, 1) := by decide +kernel
theorem dX9_rank_127 : decode cX9_rank 127 = .ok (.laload, 1) := by decide +kernel
theorem dX9_rank_128 : decode cX9_rank 128 = .ok (.lastore, 1) := by decide +kernel
theorem dX9_rank_129 : decode cX9_rank 129 = .ok (.aload_n 0, 1) := by decide +kernel
theorem dX9_rank_130 : decode cX9_rank 130 = .ok (.getfield 66, 3) := by decide +kernel
theorem dX9_rank_133 : decode cX9_rank 133 = .ok (.bipush 6, 2) := by decide +kernel
theorem dX9_rank_135 : decode cX9_rank 135 = .ok (.iload_n 2, 1) := by decide +kernel
theorem dX9_rank_136 : decode cX9_rank 136 = .ok (.imul, 1) := by decide +kernel
theorem dX9_rank_137 : decode cX9_rank 137 = .ok (.iload 5, 2) := by decide +kernel
theorem dX9_rank_139 : decode cX9_rank 139 = .ok (.iadd, 1) := by decide +kernel
theorem dX9_rank_140 : decode cX9_rank 140 = .ok (.lload 6, 2) := by decide +kernel
theorem dX9_rank_142 : decode cX9_rank 142 = .ok (.lastore, 1) := by decide +kernel
theorem dX9_rank_143 : decode cX9_rank 143 = .ok (.iinc 5 1, 3) := by decide +kernel
theorem dX9_rank_146 : decode cX9_rank 146 = .ok (.goto (-64), 3) := by decide +kernel
theorem dX9_rank_149 : decode cX9_rank 149 = .ok (.iload_n 2, 1) := by decide +kernel
theorem dX9_rank_150 : decode cX9_rank 150 = .ok (.iconst 1, 1) := by decide +kernel
theorem dX9_rank_151 : decode cX9_rank 151 = .ok (.iadd, 1) := by decide +kernel
theorem dX9_rank_152 : decode cX9_rank 152 = .ok (.istore 5, 2) := by decide +kernel
theorem dX9_rank_154 : decode cX9_rank 154 = .ok (.iload 5, 2) := by decide +kernel
theorem dX9_rank_156 : decode cX9_rank 156 = .ok (.iload_n 1, 1) := by decide +kernel
theorem dX9_rank_157 : decode cX9_rank 157 = .ok (.if_icmp .ge 17, 3) := by decide +kernel
theorem dX9_rank_160 : decode cX9_rank 160 = .ok (.aload_n 0, 1) := by decide +kernel
theorem dX9_rank_161 : decode cX9_rank 161 = .ok (.iload 5, 2) := by decide +kernel
theorem dX9_rank_163 : decode cX9_rank 163 = .ok (.iload_n 2, 1) := by decide +kernel
theorem dX9_rank_164 : decode cX9_rank 164 = .ok (.iload_n 3, 1) := by decide +kernel
theorem dX9_rank_165 : decode cX9_rank 165 = .ok (.invokevirtual 231, 3) := by decide +kernel
theorem dX9_rank_168 : decode cX9_rank 168 = .ok (.iinc 5 1, 3) := by decide +kernel
theorem dX9_rank_171 : decode cX9_rank 171 = .ok (.goto (-17), 3) := by decide +kernel
theorem dX9_rank_174 : decode cX9_rank 174 = .ok (.iinc 2 1, 3) := by decide +kernel
theorem dX9_rank_177 : decode cX9_rank 177 = .ok (.iinc 3 1, 3) := by decide +kernel
theorem dX9_rank_180 : decode cX9_rank 180 = .ok (.goto (-148), 3) := by decide +kernel
theorem dX9_rank_183 : decode cX9_rank 183 = .ok (.iload_n 2, 1) := by decide +kernel
theorem dX9_rank_184 : decode cX9_rank 184 = .ok (.ireturn, 1) := by decide +kernel
theorem dX9_nodeLines_0 : decode cX9_nodeLines 0 = .ok (.iload_n 1, 1) := by decide +kernel
theorem dX9_nodeLines_1 : decode cX9_nodeLines 1 = .ok (.aload_n 0, 1) := by decide +kernel
theorem dX9_nodeLines_2 : decode cX9_nodeLines 2 = .ok (.getfield 93, 3) := by decide +kernel
theorem dX9_nodeLines_5 : decode cX9_nodeLines 5 = .ok (.if_icmp .ge 7, 3) := by decide +kernel
theorem dX9_nodeLines_8 : decode cX9_nodeLines 8 = .ok (.iconst 1, 1) := by decide +kernel
theorem dX9_nodeLines_9 : decode cX9_nodeLines 9 = .ok (.goto 4, 3) := by decide +kernel
theorem dX9_nodeLines_12 : decode cX9_nodeLines 12 = .ok (.iconst 0, 1) := by decide +kernel
theorem dX9_nodeLines_13 : decode cX9_nodeLines 13 = .ok (.istore_n 2, 1) := by decide +kernel
theorem dX9_nodeLines_14 : decode cX9_nodeLines 14 = .ok (.iconst 2, 1) := by decide +kernel
theorem dX9_nodeLines_15 : decode cX9_nodeLines 15 = .ok (.iload_n 1, 1) := by decide +kernel
theorem dX9_nodeLines_16 : decode cX9_nodeLines 16 = .ok (.imul, 1) := by decide +kernel
theorem dX9_nodeLines_17 : decode cX9_nodeLines 17 = .ok (.iconst 2, 1) := by decide +kernel
theorem dX9_nodeLines_18 : decode cX9_nodeLines 18 = .ok (.isub, 1) := by decide +kernel
theorem dX9_nodeLines_19 : decode cX9_nodeLines 19 = .ok (.istore_n 3, 1) := by decide +kernel
theorem dX9_nodeLines_20 : decode cX9_nodeLines 20 = .ok (.iload_n 1, 1) := by decide +kernel
theorem dX9_nodeLines_21 : decode cX9_nodeLines 21 = .ok (.ifCond .le 31, 3) := by decide +kernel
theorem dX9_nodeLines_24 : decode cX9_nodeLines 24 = .ok (.iload_n 2, 1) := by decide +kernel
theorem dX9_nodeLines_25 : decode cX9_nodeLines 25 = .ok (.ifCond .eq 27, 3) := by decide +kernel
theorem dX9_nodeLines_28 : decode cX9_nodeLines 28 = .ok (.aload_n 0, 1) := by decide +kernel
theorem dX9_nodeLines_29 : decode cX9_nodeLines 29 = .ok (.iload_n 3, 1) := by decide +kernel
theorem dX9_nodeLines_30 : decode cX9_nodeLines 30 = .ok (.lconst 1, 1) := by decide +kernel
theorem dX9_nodeLines_31 : decode cX9_nodeLines 31 = .ok (.iload_n 3, 1) := by decide +kernel
theorem dX9_nodeLines_32 : decode cX9_nodeLines 32 = .ok (.iconst 1, 1) := by decide +kernel
theorem dX9_nodeLines_33 : decode cX9_nodeLines 33 = .ok (.iadd, 1) := by decide +kernel
theorem dX9_nodeLines_34 : decode cX9_nodeLines 34 = .ok (.aload_n 0, 1) := by decide +kernel
theorem dX9_nodeLines_35 : decode cX9_nodeLines 35 = .ok (.getfield 13, 3) := by decide +kernel
theorem dX9_nodeLines_38 : decode cX9_nodeLines 38 = .ok (.iload_n 1, 1) := by decide +kernel
theorem dX9_nodeLines_39 : decode cX9_nodeLines 39 = .ok (.iconst 1, 1) := by decide +kernel
theorem dX9_nodeLines_40 : decode cX9_nodeLines 40 = .ok (.isub, 1) := by decide +kernel
theorem dX9_nodeLines_41 : decode cX9_nodeLines 41 = .ok (.iaload, 1) := by decide +kernel
theorem dX9_nodeLines_42 : decode cX9_nodeLines 42 = .ok (.i2l, 1) := by decide +kernel
theorem dX9_nodeLines_43 : decode cX9_nodeLines 43 = .ok (.iconst 2, 1) := by decide +kernel
theorem dX9_nodeLines_44 : decode cX9_nodeLines 44 = .ok (.iload_n 1, 1) := by decide +kernel
theorem dX9_nodeLines_45 : decode cX9_nodeLines 45 = .ok (.imul, 1) := by decide +kernel
theorem dX9_nodeLines_46 : decode cX9_nodeLines 46 = .ok (.ldc2_w 176, 3) := by decide +kernel
theorem dX9_nodeLines_49 : decode cX9_nodeLines 49 = .ok (.invokevirtual 234, 3) := by decide +kernel
theorem dX9_nodeLines_52 : decode cX9_nodeLines 52 = .ok (.aload_n 0, 1) := by decide +kernel
theorem dX9_nodeLines_53 : decode cX9_nodeLines 53 = .ok (.getfield 23, 3) := by decide +kernel
theorem dX9_nodeLines_56 : decode cX9_nodeLines 56 = .ok (.iload_n 1, 1) := by decide +kernel
theorem dX9_nodeLines_57 : decode cX9_nodeLines 57 = .ok (.baload, 1) := by decide +kernel
theorem dX9_nodeLines_58 : decode cX9_nodeLines 58 = .ok (.ifCond .eq 51, 3) := by decide +kernel
theorem dX9_nodeLines_61 : decode cX9_nodeLines 61 = .ok (.aload_n 0, 1) := by decide +kernel
theorem dX9_nodeLines_62 : decode cX9_nodeLines 62 = .ok (.iload_n 2, 1) := by decide +kernel
theorem dX9_nodeLines_63 : decode cX9_nodeLines 63 = .ok (.ifCond .eq 9, 3) := by decide +kernel
theorem dX9_nodeLines_66 : decode cX9_nodeLines 66 = .ok (.iconst 2, 1) := by decide +kernel
theorem dX9_nodeLines_67 : decode cX9_nodeLines 67 = .ok (.iload_n 1, 1) := by decide +kernel
theorem dX9_nodeLines_68 : decode cX9_nodeLines 68 = .ok (.imul, 1) := by decide +kernel
theorem dX9_nodeLines_69 : decode cX9_nodeLines 69 = .ok (.goto 4, 3) := by decide +kernel
theorem dX9_nodeLines_72 : decode cX9_nodeLines 72 = .ok (.iload_n 3, 1) := by decide +kernel
theorem dX9_nodeLines_73 : decode cX9_nodeLines 73 = .ok (.lconst 1, 1) := by decide +kernel
theorem dX9_nodeLines_74 : decode cX9_nodeLines 74 = .ok (.iload_n 2, 1) := by decide +kernel
theorem dX9_nodeLines_75 : decode cX9_nodeLines 75 = .ok (.ifCond .eq 9, 3) := by decide +kernel
theorem dX9_nodeLines_78 : decode cX9_nodeLines 78 = .ok (.iconst 2, 1) := by decide +kernel
theorem dX9_nodeLines_79 : decode cX9_nodeLines 79 = .ok (.iload_n 1, 1) := by decide +kernel
theorem dX9_nodeLines_80 : decode cX9_nodeLines 80 = .ok (.imul, 1) := by decide +kernel
theorem dX9_nodeLines_81 : decode cX9_nodeLines 81 = .ok (.goto 6, 3) := by decide +kernel
theorem dX9_nodeLines_84 : decode cX9_nodeLines 84 = .ok (.iload_n 3, 1) := by decide +kernel
theorem dX9_nodeLines_85 : decode cX9_nodeLines 85 = .ok (.iconst 1, 1) := by decide +kernel
theorem dX9_nodeLines_86 : decode cX9_nodeLines 86 = .ok (.iadd, 1) := by decide +kernel
theorem dX9_nodeLines_87 : decode cX9_nodeLines 87 = .ok (.iload_n 2, 1) := by decide +kernel
theorem dX9_nodeLines_88 : decode cX9_nodeLines 88 = .ok (.ifCond .eq 7, 3) := by decide +kernel
theorem dX9_nodeLines_91 : decode cX9_nodeLines 91 = .ok (.lconst 0, 1) := by decide +kernel
theorem dX9_nodeLines_92 : decode cX9_nodeLines 92 = .ok (.goto 12, 3) := by decide +kernel
theorem dX9_nodeLines_95 : decode cX9_nodeLines 95 = .ok (.aload_n 0, 1) := by decide +kernel
theorem dX9_nodeLines_96 : decode cX9_nodeLines 96 = .ok (.getfield 13, 3) := by decide +kernel
theorem dX9_nodeLines_99 : decode cX9_nodeLines 99 = .ok (.iload_n 1, 1) := by decide +kernel
theorem dX9_nodeLines_100 : decode cX9_nodeLines 100 = .ok (.iconst 1, 1) := by decide +kernel
theorem dX9_nodeLines_101 : decode cX9_nodeLines 101 = .ok (.isub, 1) := by decide +kernel
theorem dX9_nodeLines_102 : decode cX9_nodeLines 102 = .ok (.iaload, 1) := by decide +kernel
theorem dX9_nodeLines_103 : decode cX9_nodeLines 103 = .ok (.i2l, 1) := by decide +kernel
theorem dX9_nodeLines_104 : decode cX9_nodeLines 104 = .ok (.iconst 0, 1) := by decide +kernel
theorem dX9_nodeLines_105 : decode cX9_nodeLines 105 = .ok (.lconst 0, 1) := by decide +kernel
theorem dX9_nodeLines_106 : decode cX9_nodeLines 106 = .ok (.invokevirtual 234, 3) := by decide +kernel
theorem dX9_nodeLines_109 : decode cX9_nodeLines 109 = .ok (.iload_n 1, 1) := by decide +kernel
theorem dX9_nodeLines_110 : decode cX9_nodeLines 110 = .ok (.ifCond .le 20, 3) := by decide +kernel
theorem dX9_nodeLines_113 : decode cX9_nodeLines 113 = .ok (.aload_n 0, 1) := by decide +kernel
theorem dX9_nodeLines_114 : decode cX9_nodeLines 114 = .ok (.getfield 19, 3) := by decide +kernel
theorem dX9_nodeLines_117 : decode cX9_nodeLines 117 = .ok (.iconst 2, 1) := by decide +kernel
theorem dX9_nodeLines_118 : decode cX9_nodeLines 118 = .ok (.iload_n 1, 1) := by decide +kernel
theorem dX9_nodeLines_119 : decode cX9_nodeLines 119 = .ok (.imul, 1) := by decide +kernel
theorem dX9_nodeLines_120 : decode cX9_nodeLines 120 = .ok (.iconst 1, 1) := by decide +kernel
theorem dX9_nodeLines_121 : decode cX9_nodeLines 121 = .ok (.isub, 1) := by decide +kernel
theorem dX9_nodeLines_122 : decode cX9_nodeLines 122 = .ok (.baload, 1) := by decide +kernel
theorem dX9_nodeLines_123 : decode cX9_nodeLines 123 = .ok (.ifCond .ne 7, 3) := by decide +kernel
theorem dX9_nodeLines_126 : decode cX9_nodeLines 126 = .ok (.iconst 1, 1) := by decide +kernel
theorem dX9_nodeLines_127 : decode cX9_nodeLines 127 = .ok (.goto 4, 3) := by decide +kernel
theorem dX9_nodeLines_130 : decode cX9_nodeLines 130 = .ok (.iconst 0, 1) := by decide +kernel
theorem dX9_nodeLines_131 : decode cX9_nodeLines 131 = .ok (.istore 4, 2) := by decide +kernel
theorem dX9_nodeLines_133 : decode cX9_nodeLines 133 = .ok (.iload_n 2, 1) := by decide +kernel
theorem dX9_nodeLines_134 : decode cX9_nodeLines 134 = .ok (.ifCond .eq 18, 3) := by decide +kernel
theorem dX9_nodeLines_137 : decode cX9_nodeLines 137 = .ok (.aload_n 0, 1) := by decide +kernel
theorem dX9_nodeLines_138 : decode cX9_nodeLines 138 = .ok (.getfield 19, 3) := by decide +kernel
theorem dX9_nodeLines_141 : decode cX9_nodeLines 141 = .ok (.iconst 2, 1) := by decide +kernel
theorem dX9_nodeLines_142 : decode cX9_nodeLines 142 = .ok (.iload_n 1, 1) := by decide +kernel
theorem dX9_nodeLines_143 : decode cX9_nodeLines 143 = .ok (.imul, 1) := by decide +kernel
theorem dX9_nodeLines_144 : decode cX9_nodeLines 144 = .ok (.baload, 1) := by decide +kernel
theorem dX9_nodeLines_145 : decode cX9_nodeLines 145 = .ok (.ifCond .ne 7, 3) := by decide +kernel
theorem dX9_nodeLines_148 : decode cX9_nodeLines 148 = .ok (.iconst 1, 1) := by decide +kernel
theorem dX9_nodeLines_149 : decode cX9_nodeLines 149 = .ok (.goto 4, 3) := by decide +kernel
theorem dX9_nodeLines_152 : decode cX9_nodeLines 152 = .ok (.iconst 0, 1) := by decide +kernel
theorem dX9_nodeLines_153 : decode cX9_nodeLines 153 = .ok (.istore 5, 2) := by decide +kernel
theorem dX9_nodeLines_155 : decode cX9_nodeLines 155 = .ok (.aload_n 0, 1) := by decide +kernel
theorem dX9_nodeLines_156 : decode cX9_nodeLines 156 = .ok (.getfield 26, 3) := by decide +kernel
theorem dX9_nodeLines_159 : decode cX9_nodeLines 159 = .ok (.iload_n 1, 1) := by decide +kernel
theorem dX9_nodeLines_160 : decode cX9_nodeLines 160 = .ok (.baload, 1) := by decide +kernel
theorem dX9_nodeLines_161 : decode cX9_nodeLines 161 = .ok (.ifCond .eq 20, 3) := by decide +kernel
theorem dX9_nodeLines_164 : decode cX9_nodeLines 164 = .ok (.iload 4, 2) := by decide +kernel
theorem dX9_nodeLines_166 : decode cX9_nodeLines 166 = .ok (.ifCond .eq 15, 3) := by decide +kernel
theorem dX9_nodeLines_169 : decode cX9_nodeLines 169 = .ok (.aload_n 0, 1) := by decide +kernel
theorem dX9_nodeLines_170 : decode cX9_nodeLines 170 = .ok (.iload_n 3, 1) := by decide +kernel
theorem dX9_nodeLines_171 : decode cX9_nodeLines 171 = .ok (.iconst 1, 1) := by decide +kernel
theorem dX9_nodeLines_172 : decode cX9_nodeLines 172 = .ok (.iadd, 1) := by decide +kernel
theorem dX9_nodeLines_173 : decode cX9_nodeLines 173 = .ok (.lconst 1, 1) := by decide +kernel
theorem dX9_nodeLines_174 : decode cX9_nodeLines 174 = .ok (.iconst 0, 1) := by decide +kernel
theorem dX9_nodeLines_175 : decode cX9_nodeLines 175 = .ok (.lconst 0, 1) := by decide +kernel
theorem dX9_nodeLines_176 : decode cX9_nodeLines 176 = .ok (.iconst 0, 1) := by decide +kernel
theorem dX9_nodeLines_177 : decode cX9_nodeLines 177 = .ok (.lconst 0, 1) := by decide +kernel
theorem dX9_nodeLines_178 : decode cX9_nodeLines 178 = .ok (.invokevirtual 234, 3) := by decide +kernel
theorem dX9_nodeLines_181 : decode cX9_nodeLines 181 = .ok (.aload_n 0, 1) := by decide +kernel
theorem dX9_nodeLines_182 : decode cX9_nodeLines 182 = .ok (.getfield 26, 3) := by decide +kernel
theorem dX9_nodeLines_185 : decode cX9_nodeLines 185 = .ok (.iload_n 1, 1) := by decide +kernel
theorem dX9_nodeLines_186 : decode cX9_nodeLines 186 = .ok (.baload, 1) := by decide +kernel
theorem dX9_nodeLines_187 : decode cX9_nodeLines 187 = .ok (.ifCond .eq 22, 3) := by decide +kernel
theorem dX9_nodeLines_190 : decode cX9_nodeLines 190 = .ok (.iload 5, 2) := by decide +kernel
theorem dX9_nodeLines_192 : decode cX9_nodeLines 192 = .ok (.ifCond .eq 17, 3) := by decide +kernel
theorem dX9_nodeLines_195 : decode cX9_nodeLines 195 = .ok (.aload_n 0, 1) := by decide +kernel
theorem dX9_nodeLines_196 : decode cX9_nodeLines 196 = .ok (.iconst 2, 1) := by decide +kernel
theorem dX9_nodeLines_197 : decode cX9_nodeLines 197 = .ok (.iload_n 1, 1) := by decide +kernel
theorem dX9_nodeLines_198 : decode cX9_nodeLines 198 = .ok (.imul, 1) := by decide +kernel
theorem dX9_nodeLines_199 : decode cX9_nodeLines 199 = .ok (.iconst 1, 1) := by decide +kernel
theorem dX9_nodeLines_200 : decode cX9_nodeLines 200 = .ok (.iadd, 1) := by decide +kernel
theorem dX9_nodeLines_201 : decode cX9_nodeLines 201 = .ok (.lconst 1, 1) := by decide +kernel
theorem dX9_nodeLines_202 : decode cX9_nodeLines 202 = .ok (.iconst 0, 1) := by decide +kernel
theorem dX9_nodeLines_203 : decode cX9_nodeLines 203 = .ok (.lconst 0, 1) := by decide +kernel
theorem dX9_nodeLines_204 : decode cX9_nodeLines 204 = .ok (.iconst 0, 1) := by decide +kernel
theorem dX9_nodeLines_205 : decode cX9_nodeLines 205 = .ok (.lconst 0, 1) := by decide +kernel
theorem dX9_nodeLines_206 : decode cX9_nodeLines 206 = .ok (.invokevirtual 234, 3) := by decide +kernel
theorem dX9_nodeLines_209 : decode cX9_nodeLines 209 = .ok (.aload_n 0, 1) := by decide +kernel
theorem dX9_nodeLines_210 : decode cX9_nodeLines 210 = .ok (.getfield 26, 3) := by decide +kernel
theorem dX9_nodeLines_213 : decode cX9_nodeLines 213 = .ok (.iload_n 1, 1) := by decide +kernel
theorem dX9_nodeLines_214 : decode cX9_nodeLines 214 = .ok (.baload, 1) := by decide +kernel
theorem dX9_nodeLines_215 : decode cX9_nodeLines 215 = .ok (.ifCond .ne 31, 3) := by decide +kernel
theorem dX9_nodeLines_218 : decode cX9_nodeLines 218 = .ok (.iload 4, 2) := by decide +kernel
theorem dX9_nodeLines_220 : decode cX9_nodeLines 220 = .ok (.ifCond .eq 26, 3) := by decide +kernel
theorem dX9_nodeLines_223 : decode cX9_nodeLines 223 = .ok (.iload 5, 2) := by decide +kernel
theorem dX9_nodeLines_225 : decode cX9_nodeLines 225 = .ok (.ifCond .eq 21, 3) := by decide +kernel
theorem dX9_nodeLines_228 : decode cX9_nodeLines 228 = .ok (.aload_n 0, 1) := by decide +kernel
theorem dX9_nodeLines_229 : decode cX9_nodeLines 229 = .ok (.iload_n 3, 1) := by decide +kernel
theorem dX9_nodeLines_230 : decode cX9_nodeLines 230 = .ok (.iconst 1, 1) := by decide +kernel
theorem dX9_nodeLines_231 : decode cX9_nodeLines 231 = .ok (.iadd, 1) := by decide +kernel
theorem dX9_nodeLines_232 : decode cX9_nodeLines 232 = .ok (.lconst 1, 1) := by decide +kernel
theorem dX9_nodeLines_233 : decode cX9_nodeLines 233 = .ok (.iconst 2, 1) := by decide +kernel
theorem dX9_nodeLines_234 : decode cX9_nodeLines 234 = .ok (.iload_n 1, 1) := by decide +kernel
theorem dX9_nodeLines_235 : decode cX9_nodeLines 235 = .ok (.imul, 1) := by decide +kernel
theorem dX9_nodeLines_236 : decode cX9_nodeLines 236 = .ok (.iconst 1, 1) := by decide +kernel
theorem dX9_nodeLines_237 : decode cX9_nodeLines 237 = .ok (.iadd, 1) := by decide +kernel
theorem dX9_nodeLines_238 : decode cX9_nodeLines 238 = .ok (.ldc2_w 176, 3) := by decide +kernel
theorem dX9_nodeLines_241 : decode cX9_nodeLines 241 = .ok (.iconst 0, 1) := by decide +kernel
theorem dX9_nodeLines_242 : decode cX9_nodeLines 242 = .ok (.lconst 0, 1) := by decide +kernel
theorem dX9_nodeLines_243 : decode cX9_nodeLines 243 = .ok (.invokevirtual 234, 3) := by decide +kernel
theorem dX9_nodeLines_246 : decode cX9_nodeLines 246 = .ok (.return_, 1) := by decide +kernel
theorem dX9_isFree_0 : decode cX9_isFree 0 = .ok (.aload_n 0, 1) := by decide +kernel
theorem dX9_isFree_1 : decode cX9_isFree 1 = .ok (.iload_n 1, 1) := by decide +kernel
theorem dX9_isFree_2 : decode cX9_isFree 2 = .ok (.lload_n 2, 1) := by decide +kernel
theorem dX9_isFree_3 : decode cX9_isFree 3 = .ok (.iload 4, 2) := by decide +kernel
theorem dX9_isFree_5 : decode cX9_isFree 5 = .ok (.lload 5, 2) := by decide +kernel
theorem dX9_isFree_7 : decode cX9_isFree 7 = .ok (.iconst 0, 1) := by decide +kernel
theorem dX9_isFree_8 : decode cX9_isFree 8 = .ok (.lconst 0, 1) := by decide +kernel
theorem dX9_isFree_9 : decode cX9_isFree 9 = .ok (.invokevirtual 234, 3) := by decide +kernel
theorem dX9_isFree_12 : decode cX9_isFree 12 = .ok (.aload_n 0, 1) := by decide +kernel
theorem dX9_isFree_13 : decode cX9_isFree 13 = .ok (.aload_n 0, 1) := by decide +kernel
theorem dX9_isFree_14 : decode cX9_isFree 14 = .ok (.getfield 224, 3) := by decide +kernel
theorem dX9_isFree_17 : decode cX9_isFree 17 = .ok (.invokevirtual 238, 3) := by decide +kernel
theorem dX9_isFree_20 : decode cX9_isFree 20 = .ok (.istore 8, 2) := by decide +kernel
theorem dX9_isFree_22 : decode cX9_isFree 22 = .ok (.aload_n 0, 1) := by decide +kernel
theorem dX9_isFree_23 : decode cX9_isFree 23 = .ok (.dup, 1) := by decide +kernel
theorem dX9_isFree_24 : decode cX9_isFree 24 = .ok (.getfield 224, 3) := by decide +kernel
theorem dX9_isFree_27 : decode cX9_isFree 27 = .ok (.iconst 1, 1) := by decide +kernel
theorem dX9_isFree_28 : decode cX9_isFree 28 = .ok (.isub, 1) := by decide +kernel
theorem dX9_isFree_29 : decode cX9_isFree 29 = .ok (.putfield 224, 3) := by decide +kernel
theorem dX9_isFree_32 : decode cX9_isFree 32 = .ok (.iload 8, 2) := by decide +kernel
theorem dX9_isFree_34 : decode cX9_isFree 34 = .ok (.iload 7, 2) := by decide +kernel
theorem dX9_isFree_36 : decode cX9_isFree 36 = .ok (.if_icmp .le 7, 3) := by decide +kernel
theorem dX9_isFree_39 : decode cX9_isFree 39 = .ok (.iconst 1, 1) := by decide +kernel
theorem dX9_isFree_40 : decode cX9_isFree 40 = .ok (.goto 4, 3) := by decide +kernel
theorem dX9_isFree_43 : decode cX9_isFree 43 = .ok (.iconst 0, 1) := by decide +kernel
theorem dX9_isFree_44 : decode cX9_isFree 44 = .ok (.ireturn, 1) := by decide +kernel
theorem dX9_rigid_0 : decode cX9_rigid 0 = .ok (.aload_n 0, 1) := by decide +kernel
theorem dX9_rigid_1 : decode cX9_rigid 1 = .ok (.iconst 0, 1) := by decide +kernel
theorem dX9_rigid_2 : decode cX9_rigid 2 = .ok (.putfield 224, 3) := by decide +kernel
theorem dX9_rigid_5 : decode cX9_rigid 5 = .ok (.iconst 0, 1) := by decide +kernel
theorem dX9_rigid_6 : decode cX9_rigid 6 = .ok (.istore_n 1, 1) := by decide +kernel
theorem dX9_rigid_7 : decode cX9_rigid 7 = .ok (.iload_n 1, 1) := by decide +kernel
theorem dX9_rigid_8 : decode cX9_rigid 8 = .ok (.aload_n 0, 1) := by decide +kernel
theorem dX9_rigid_9 : decode cX9_rigid 9 = .ok (.getfield 93, 3) := by decide +kernel
theorem dX9_rigid_12 : decode cX9_rigid 12 = .ok (.if_icmp .gt 14, 3) := by decide +kernel
theorem dX9_rigid_15 : decode cX9_rigid 15 = .ok (.aload_n 0, 1) := by decide +kernel
theorem dX9_rigid_16 : decode cX9_rigid 16 = .ok (.iload_n 1, 1) := by decide +kernel
theorem dX9_rigid_17 : decode cX9_rigid 17 = .ok (.invokevirtual 242, 3) := by decide +kernel
theorem dX9_rigid_20 : decode cX9_rigid 20 = .ok (.iinc 1 1, 3) := by decide +kernel
theorem dX9_rigid_23 : decode cX9_rigid 23 = .ok (.goto (-16), 3) := by decide +kernel
theorem dX9_rigid_26 : decode cX9_rigid 26 = .ok (.aload_n 0, 1) := by decide +kernel
theorem dX9_rigid_27 : decode cX9_rigid 27 = .ok (.aload_n 0, 1) := by decide +kernel
theorem dX9_rigid_28 : decode cX9_rigid 28 = .ok (.getfield 224, 3) := by decide +kernel
theorem dX9_rigid_31 : decode cX9_rigid 31 = .ok (.invokevirtual 238, 3) := by decide +kernel
theorem dX9_rigid_34 : decode cX9_rigid 34 = .ok (.istore_n 1, 1) := by decide +kernel
theorem dX9_rigid_35 : decode cX9_rigid 35 = .ok (.aload_n 0, 1) := by decide +kernel
theorem dX9_rigid_36 : decode cX9_rigid 36 = .ok (.iload_n 1, 1) := by decide +kernel
theorem dX9_rigid_37 : decode cX9_rigid 37 = .ok (.iconst 2, 1) := by decide +kernel
theorem dX9_rigid_38 : decode cX9_rigid 38 = .ok (.aload_n 0, 1) := by decide +kernel
theorem dX9_rigid_39 : decode cX9_rigid 39 = .ok (.getfield 93, 3) := by decide +kernel
theorem dX9_rigid_42 : decode cX9_rigid 42 = .ok (.imul, 1) := by decide +kernel
theorem dX9_rigid_43 : decode cX9_rigid 43 = .ok (.if_icmp .ge 7, 3) := by decide +kernel
theorem dX9_rigid_46 : decode cX9_rigid 46 = .ok (.iconst 1, 1) := by decide +kernel
theorem dX9_rigid_47 : decode cX9_rigid 47 = .ok (.goto 4, 3) := by decide +kernel
theorem dX9_rigid_50 : decode cX9_rigid 50 = .ok (.iconst 0, 1) := by decide +kernel
theorem dX9_rigid_51 : decode cX9_rigid 51 = .ok (.putfield 212, 3) := by decide +kernel
theorem dX9_rigid_54 : decode cX9_rigid 54 = .ok (.aload_n 0, 1) := by decide +kernel
theorem dX9_rigid_55 : decode cX9_rigid 55 = .ok (.iconst 0, 1) := by decide +kernel
theorem dX9_rigid_56 : decode cX9_rigid 56 = .ok (.putfield 245, 3) := by decide +kernel
theorem dX9_rigid_59 : decode cX9_rigid 59 = .ok (.iconst 0, 1) := by decide +kernel
theorem dX9_rigid_60 : decode cX9_rigid 60 = .ok (.istore_n 2, 1) := by decide +kernel
theorem dX9_rigid_61 : decode cX9_rigid 61 = .ok (.iload_n 2, 1) := by decide +kernel
theorem dX9_rigid_62 : decode cX9_rigid 62 = .ok (.aload_n 0, 1) := by decide +kernel
theorem dX9_rigid_63 : decode cX9_rigid 63 = .ok (.getfield 93, 3) := by decide +kernel
theorem dX9_rigid_66 : decode cX9_rigid 66 = .ok (.if_icmp .gt 190, 3) := by decide +kernel
theorem dX9_rigid_69 : decode cX9_rigid 69 = .ok (.aload_n 0, 1) := by decide +kernel
theorem dX9_rigid_70 : decode cX9_rigid 70 = .ok (.getfield 212, 3) := by decide +kernel
theorem dX9_rigid_73 : decode cX9_rigid 73 = .ok (.ifCond .eq 183, 3) := by decide +kernel
theorem dX9_rigid_76 : decode cX9_rigid 76 = .ok (.iload_n 2, 1) := by decide +kernel
theorem dX9_rigid_77 : decode cX9_rigid 77 = .ok (.aload_n 0, 1) := by decide +kernel
theorem dX9_rigid_78 : decode cX9_rigid 78 = .ok (.getfield 93, 3) := by decide +kernel
theorem dX9_rigid_81 : decode cX9_rigid 81 = .ok (.if_icmp .ge 7, 3) := by decide +kernel
theorem dX9_rigid_84 : decode cX9_rigid 84 = .ok (.iconst 1, 1) := by decide +kernel
theorem dX9_rigid_85 : decode cX9_rigid 85 = .ok (.goto 4, 3) := by decide +kernel
theorem dX9_rigid_88 : decode cX9_rigid 88 = .ok (.iconst 0, 1) := by decide +kernel
theorem dX9_rigid_89 : decode cX9_rigid 89 = .ok (.istore_n 3, 1) := by decide +kernel
theorem dX9_rigid_90 : decode cX9_rigid 90 = .ok (.iconst 2, 1) := by decide +kernel
theorem dX9_rigid_91 : decode cX9_rigid 91 = .ok (.iload_n 2, 1) := by decide +kernel
theorem dX9_rigid_92 : decode cX9_rigid 92 = .ok (.imul, 1) := by decide +kernel
theorem dX9_rigid_93 : decode cX9_rigid 93 = .ok (.iconst 2, 1) := by decide +kernel
theorem dX9_rigid_94 : decode cX9_rigid 94 = .ok (.isub, 1) := by decide +kernel
theorem dX9_rigid_95 : decode cX9_rigid 95 = .ok (.istore 4, 2) := by decide +kernel
theorem dX9_rigid_97 : decode cX9_rigid 97 = .ok (.iload_n 3, 1) := by decide +kernel
theorem dX9_rigid_98 : decode cX9_rigid 98 = .ok (.ifCond .eq 17, 3) := by decide +kernel
theorem dX9_rigid_101 : decode cX9_rigid 101 = .ok (.aload_n 0, 1) := by decide +kernel
theorem dX9_rigid_102 : decode cX9_rigid 102 = .ok (.iconst 2, 1) := by decide +kernel
theorem dX9_rigid_103 : decode cX9_rigid 103 = .ok (.iload_n 2, 1) := by decide +kernel
theorem dX9_rigid_104 : decode cX9_rigid 104 = .ok (.imul, 1) := by decide +kernel
theorem dX9_rigid_105 : decode cX9_rigid 105 = .ok (.lconst 1, 1) := by decide +kernel
theorem dX9_rigid_106 : decode cX9_rigid 106 = .ok (.iconst 0, 1) := by decide +kernel
theorem dX9_rigid_107 : decode cX9_rigid 107 = .ok (.lconst 0, 1) := by decide +kernel
theorem dX9_rigid_108 : decode cX9_rigid 108 = .ok (.iload_n 1, 1) := by decide +kernel
theorem dX9_rigid_109 : decode cX9_rigid 109 = .ok (.invokevirtual 248, 3) := by decide +kernel
theorem dX9_rigid_112 : decode cX9_rigid 112 = .ok (.goto 24, 3) := by decide +kernel
theorem dX9_rigid_115 : decode cX9_rigid 115 = .ok (.aload_n 0, 1) := by decide +kernel
theorem dX9_rigid_116 : decode cX9_rigid 116 = .ok (.iload 4, 2) := by decide +kernel
theorem dX9_rigid_118 : decode cX9_rigid 118 = .ok (.lconst 1, 1) := by decide +kernel
theorem dX9_rigid_119 : decode cX9_rigid 119 = .ok (.iload 4, 2) := by decide +kernel
theorem dX9_rigid_121 : decode cX9_rigid 121 = .ok (.iconst 1, 1) := by decide +kernel
theorem dX9_rigid_122 : decode cX9_rigid 122 = .ok (.iadd, 1) := by decide +kernel
theorem dX9_rigid_123 : decode cX9_rigid 123 = .ok (.aload_n 0, 1) := by decide +kernel
theorem dX9_rigid_124 : decode cX9_rigid 124 = .ok (.getfield 13, 3) := by decide +kernel
theorem dX9_rigid_127 : decode cX9_rigid 127 = .ok (.iload_n 2, 1) := by decide +kernel
theorem dX9_rigid_128 : decode cX9_rigid 128 = .ok (.iconst 1, 1) := by decide +kernel
theorem dX9_rigid_129 : decode cX9_rigid 129 = .ok (.isub, 1) := by decide +kernel
theorem dX9_rigid_130 : decode cX9_rigid 130 = .ok (.iaload, 1) := by decide +kernel
theorem dX9_rigid_131 : decode cX9_rigid 131 = .ok (.i2l, 1) := by decide +kernel
theorem dX9_rigid_132 : decode cX9_rigid 132 = .ok (.iload_n 1, 1) := by decide +kernel
theorem dX9_rigid_133 : decode cX9_rigid 133 = .ok (.invokevirtual 248, 3) := by decide +kernel
theorem dX9_rigid_136 : decode cX9_rigid 136 = .ok (.istore 5, 2) := by decide +kernel
theorem dX9_rigid_138 : decode cX9_rigid 138 = .ok (.iload 5, 2) := by decide +kernel
theorem dX9_rigid_140 : decode cX9_rigid 140 = .ok (.ifCond .ne 35, 3) := by decide +kernel
theorem dX9_rigid_143 : decode cX9_rigid 143 = .ok (.iload_n 2, 1) := by decide +kernel
theorem dX9_rigid_144 : decode cX9_rigid 144 = .ok (.ifCond .le 35, 3) := by decide +kernel
theorem dX9_rigid_147 : decode cX9_rigid 147 = .ok (.aload_n 0, 1) := by decide +kernel
theorem dX9_rigid_148 : decode cX9_rigid 148 = .ok (.getfield 19, 3) := by decide +kernel
theorem dX9_rigid_151 : decode cX9_rigid 151 = .ok (.iconst 2, 1) := by decide +kernel
theorem dX9_rigid_152 : decode cX9_rigid 152 = .ok (.iload_n 2, 1) := by decide +kernel
theorem dX9_rigid_153 : decode cX9_rigid 153 = .ok (.imul, 1) := by decide +kernel
theorem dX9_rigid_154 : decode cX9_rigid 154 = .ok (.iconst 1, 1) := by decide +kernel
theorem dX9_rigid_155 : decode cX9_rigid 155 = .ok (.isub, 1) := by decide +kernel
theorem dX9_rigid_156 : decode cX9_rigid 156 = .ok (.baload, 1) := by decide +kernel
theorem dX9_rigid_157 : decode cX9_rigid 157 = .ok (.ifCond .ne 22, 3) := by decide +kernel
theorem dX9_rigid_160 : decode cX9_rigid 160 = .ok (.aload_n 0, 1) := by decide +kernel
theorem dX9_rigid_161 : decode cX9_rigid 161 = .ok (.iload 4, 2) := by decide +kernel
theorem dX9_rigid_163 : decode cX9_rigid 163 = .ok (.iconst 1, 1) := by decide +kernel
theorem dX9_rigid_164 : decode cX9_rigid 164 = .ok (.iadd, 1) := by decide +kernel
theorem dX9_rigid_165 : decode cX9_rigid 165 = .ok (.lconst 1, 1) := by decide +kernel
theorem dX9_rigid_166 : decode cX9_rigid 166 = .ok (.iconst 0, 1) := by decide +kernel
theorem dX9_rigid_167 : decode cX9_rigid 167 = .ok (.lconst 0, 1) := by decide +kernel
theorem dX9_rigid_168 : decode cX9_rigid 168 = .ok (.iload_n 1, 1) := by decide +kernel
theorem dX9_rigid_169 : decode cX9_rigid 169 = .ok (.invokevirtual 248, 3) := by decide +kernel
theorem dX9_rigid_172 : decode cX9_rigid 172 = .ok (.ifCond .eq 7, 3) := by decide +kernel
theorem dX9_rigid_175 : decode cX9_rigid 175 = .ok (.iconst 1, 1) := by decide +kernel
theorem dX9_rigid_176 : decode cX9_rigid 176 = .ok (.goto 4, 3) := by decide +kernel
theorem dX9_rigid_179 : decode cX9_rigid 179 = .ok (.iconst 0, 1) := by decide +kernel
theorem dX9_rigid_180 : decode cX9_rigid 180 = .ok (.istore 5, 2) := by decide +kernel
theorem dX9_rigid_182 : decode cX9_rigid 182 = .ok (.iload 5, 2) := by decide +kernel
theorem dX9_rigid_184 : decode cX9_rigid 184 = .ok (.ifCond .ne 34, 3) := by decide +kernel
theorem dX9_rigid_187 : decode cX9_rigid 187 = .ok (.iload_n 3, 1) := by decide +kernel
theorem dX9_rigid_188 : decode cX9_rigid 188 = .ok (.ifCond .eq 34, 3) := by decide +kernel
theorem dX9_rigid_191 : decode cX9_rigid 191 = .ok (.aload_n 0, 1) := by decide +kernel
theorem dX9_rigid_192 : decode cX9_rigid 192 = .ok (.getfield 19, 3) := by decide +kernel
theorem dX9_rigid_195 : decode cX9_rigid 195 = .ok (.iconst 2, 1) := by decide +kernel
theorem dX9_rigid_196 : decode cX9_rigid 196 = .ok (.iload_n 2, 1) := by decide +kernel
theorem dX9_rigid_197 : decode cX9_rigid 197 = .ok (.imul, 1) := by decide +kernel
theorem dX9_rigid_198 : decode cX9_rigid 198 = .ok (.baload, 1) := by decide +kernel
theorem dX9_rigid_199 : decode cX9_rigid 199 = .ok (.ifCond .ne 23, 3) := by decide +kernel
theorem dX9_rigid_202 : decode cX9_rigid 202 = .ok (.aload_n 0, 1) := by decide +kernel
theorem dX9_rigid_203 : decode cX9_rigid 203 = .ok (.iconst 2, 1) := by decide +kernel
theorem dX9_rigid_204 : decode cX9_rigid 204 = .ok (.iload_n 2, 1) := by decide +kernel
theorem dX9_rigid_205 : decode cX9_rigid 205 = .ok (.imul, 1) := by decide +kernel
theorem dX9_rigid_206 : decode cX9_rigid 206 = .ok (.iconst 1, 1) := by decide +kernel
theorem dX9_rigid_207 : decode cX9_rigid 207 = .ok (.iadd, 1) := by decide +kernel
theorem dX9_rigid_208 : decode cX9_rigid 208 = .ok (.lconst 1, 1) := by decide +kernel
theorem dX9_rigid_209 : decode cX9_rigid 209 = .ok (.iconst 0, 1) := by decide +kernel
theorem dX9_rigid_210 : decode cX9_rigid 210 = .ok (.lconst 0, 1) := by decide +kernel
theorem dX9_rigid_211 : decode cX9_rigid 211 = .ok (.iload_n 1, 1) := by decide +kernel
theorem dX9_rigid_212 : decode cX9_rigid 212 = .ok (.invokevirtual 248, 3) := by decide +kernel
theorem dX9_rigid_215 : decode cX9_rigid 215 = .ok (.ifCond .eq 7, 3) := by decide +kernel
theorem dX9_rigid_218 : decode cX9_rigid 218 = .ok (.iconst 1, 1) := by decide +kernel
theorem dX9_rigid_219 : decode cX9_rigid 219 = .ok (.goto 4, 3) := by decide +kernel
theorem dX9_rigid_222 : decode cX9_rigid 222 = .ok (.iconst 0, 1) := by decide +kernel
theorem dX9_rigid_223 : decode cX9_rigid 223 = .ok (.istore 5, 2) := by decide +kernel
theorem dX9_rigid_225 : decode cX9_rigid 225 = .ok (.iload 5, 2) := by decide +kernel
theorem dX9_rigid_227 : decode cX9_rigid 227 = .ok (.ifCond .eq 23, 3) := by decide +kernel
theorem dX9_rigid_230 : decode cX9_rigid 230 = .ok (.aload_n 0, 1) := by decide +kernel
theorem dX9_rigid_231 : decode cX9_rigid 231 = .ok (.getfield 69, 3) := by decide +kernel
theorem dX9_rigid_234 : decode cX9_rigid 234 = .ok (.aload_n 0, 1) := by decide +kernel
theorem dX9_rigid_235 : decode cX9_rigid 235 = .ok (.getfield 245, 3) := by decide +kernel
theorem dX9_rigid_238 : decode cX9_rigid 238 = .ok (.iload_n 2, 1) := by decide +kernel
theorem dX9_rigid_239 : decode cX9_rigid 239 = .ok (.iastore, 1) := by decide +kernel
theorem dX9_rigid_240 : decode cX9_rigid 240 = .ok (.aload_n 0, 1) := by decide +kernel
theorem dX9_rigid_241 : decode cX9_rigid 241 = .ok (.dup, 1) := by decide +kernel
theorem dX9_rigid_242 : decode cX9_rigid 242 = .ok (.getfield 245, 3) := by decide +kernel
theorem dX9_rigid_245 : decode cX9_rigid 245 = .ok (.iconst 1, 1) := by decide +kernel
theorem dX9_rigid_246 : decode cX9_rigid 246 = .ok (.iadd, 1) := by decide +kernel
theorem dX9_rigid_247 : decode cX9_rigid 247 = .ok (.putfield 245, 3) := by decide +kernel
theorem dX9_rigid_250 : decode cX9_rigid 250 = .ok (.iinc 2 1, 3) := by decide +kernel
theorem dX9_rigid_253 : decode cX9_rigid 253 = .ok (.goto (-192), 3) := by decide +kernel
theorem dX9_rigid_256 : decode cX9_rigid 256 = .ok (.return_, 1) := by decide +kernel
theorem dX9_solve_0 : decode cX9_solve 0 = .ok (.aload_n 0, 1) := by decide +kernel
theorem dX9_solve_1 : decode cX9_solve 1 = .ok (.iconst 0, 1) := by decide +kernel
theorem dX9_solve_2 : decode cX9_solve 2 = .ok (.putfield 97, 3) := by decide +kernel
theorem dX9_solve_5 : decode cX9_solve 5 = .ok (.aload_n 0, 1) := by decide +kernel
theorem dX9_solve_6 : decode cX9_solve 6 = .ok (.invokevirtual 252, 3) := by decide +kernel
theorem dX9_solve_9 : decode cX9_solve 9 = .ok (.aload_n 0, 1) := by decide +kernel
theorem dX9_solve_10 : decode cX9_solve 10 = .ok (.getfield 212, 3) := by decide +kernel
theorem dX9_solve_13 : decode cX9_solve 13 = .ok (.ifCond .eq 10, 3) := by decide +kernel
theorem dX9_solve_16 : decode cX9_solve 16 = .ok (.aload_n 0, 1) := by decide +kernel
theorem dX9_solve_17 : decode cX9_solve 17 = .ok (.getfield 245, 3) := by decide +kernel
theorem dX9_solve_20 : decode cX9_solve 20 = .ok (.goto 4, 3) := by decide +kernel
theorem dX9_solve_23 : decode cX9_solve 23 = .ok (.iconst 0, 1) := by decide +kernel
theorem dX9_solve_24 : decode cX9_solve 24 = .ok (.ireturn, 1) := by decide +kernel
theorem dX9_loose_0 : decode cX9_loose 0 = .ok (.aload_n 0, 1) := by decide +kernel
theorem dX9_loose_1 : decode cX9_loose 1 = .ok (.iconst 0, 1) := by decide +kernel
theorem dX9_loose_2 : decode cX9_loose 2 = .ok (.putfield 97, 3) := by decide +kernel
theorem dX9_loose_5 : decode cX9_loose 5 = .ok (.aload_n 0, 1) := by decide +kernel
theorem dX9_loose_6 : decode cX9_loose 6 = .ok (.invokevirtual 252, 3) := by decide +kernel
theorem dX9_loose_9 : decode cX9_loose 9 = .ok (.aload_n 0, 1) := by decide +kernel
theorem dX9_loose_10 : decode cX9_loose 10 = .ok (.getfield 212, 3) := by decide +kernel
theorem dX9_loose_13 : decode cX9_loose 13 = .ok (.ifCond .eq 24, 3) := by decide +kernel
theorem dX9_loose_16 : decode cX9_loose 16 = .ok (.iload_n 1, 1) := by decide +kernel
theorem dX9_loose_17 : decode cX9_loose 17 = .ok (.ifCond .lt 20, 3) := by decide +kernel
theorem dX9_loose_20 : decode cX9_loose 20 = .ok (.iload_n 1, 1) := by decide +kernel
theorem dX9_loose_21 : decode cX9_loose 21 = .ok (.aload_n 0, 1) := by decide +kernel
theorem dX9_loose_22 : decode cX9_loose 22 = .ok (.getfield 245, 3) := by decide +kernel
theorem dX9_loose_25 : decode cX9_loose 25 = .ok (.if_icmp .ge 12, 3) := by decide +kernel
theorem dX9_loose_28 : decode cX9_loose 28 = .ok (.aload_n 0, 1) := by decide +kernel
theorem dX9_loose_29 : decode cX9_loose 29 = .ok (.getfield 69, 3) := by decide +kernel
theorem dX9_loose_32 : decode cX9_loose 32 = .ok (.iload_n 1, 1) := by decide +kernel
theorem dX9_loose_33 : decode cX9_loose 33 = .ok (.iaload, 1) := by decide +kernel
theorem dX9_loose_34 : decode cX9_loose 34 = .ok (.goto 4, 3) := by decide +kernel
theorem dX9_loose_37 : decode cX9_loose 37 = .ok (.iconst (-1), 1) := by decide +kernel
theorem dX9_loose_38 : decode cX9_loose 38 = .ok (.ireturn, 1) := by decide +kernel
theorem dX9_unit_0 : decode cX9_unit 0 = .ok (.aload_n 0, 1) := by decide +kernel
theorem dX9_unit_1 : decode cX9_unit 1 = .ok (.iconst 0, 1) := by decide +kernel
theorem dX9_unit_2 : decode cX9_unit 2 = .ok (.putfield 97, 3) := by decide +kernel
theorem dX9_unit_5 : decode cX9_unit 5 = .ok (.iload_n 1, 1) := by decide +kernel
theorem dX9_unit_6 : decode cX9_unit 6 = .ok (.bipush 32, 2) := by decide +kernel
theorem dX9_unit_8 : decode cX9_unit 8 = .ok (.if_icmp .lt 18, 3) := by decide +kernel
theorem dX9_unit_11 : decode cX9_unit 11 = .ok (.iload_n 1, 1) := by decide +kernel
theorem dX9_unit_12 : decode cX9_unit 12 = .ok (.bipush 126, 2) := by decide +kernel
theorem dX9_unit_14 : decode cX9_unit 14 = .ok (.if_icmp .gt 12, 3) := by decide +kernel
theorem dX9_unit_17 : decode cX9_unit 17 = .ok (.aload_n 0, 1) := by decide +kernel
theorem dX9_unit_18 : decode cX9_unit 18 = .ok (.getfield 255, 3) := by decide +kernel
theorem dX9_unit_21 : decode cX9_unit 21 = .ok (.bipush 50, 2) := by decide +kernel
theorem dX9_unit_23 : decode cX9_unit 23 = .ok (.if_icmp .ne 5, 3) := by decide +kernel
theorem dX9_unit_26 : decode cX9_unit 26 = .ok (.iconst 0, 1) := by decide +kernel
theorem dX9_unit_27 : decode cX9_unit 27 = .ok (.ireturn, 1) := by decide +kernel
theorem dX9_unit_28 : decode cX9_unit 28 = .ok (.aload_n 0, 1) := by decide +kernel
theorem dX9_unit_29 : decode cX9_unit 29 = .ok (.getfield 7, 3) := by decide +kernel
theorem dX9_unit_32 : decode cX9_unit 32 = .ok (.aload_n 0, 1) := by decide +kernel
theorem dX9_unit_33 : decode cX9_unit 33 = .ok (.getfield 255, 3) := by decide +kernel
theorem dX9_unit_36 : decode cX9_unit 36 = .ok (.iload_n 1, 1) := by decide +kernel
theorem dX9_unit_37 : decode cX9_unit 37 = .ok (.iastore, 1) := by decide +kernel
theorem dX9_unit_38 : decode cX9_unit 38 = .ok (.aload_n 0, 1) := by decide +kernel
theorem dX9_unit_39 : decode cX9_unit 39 = .ok (.dup, 1) := by decide +kernel
theorem dX9_unit_40 : decode cX9_unit 40 = .ok (.getfield 255, 3) := by decide +kernel
theorem dX9_unit_43 : decode cX9_unit 43 = .ok (.iconst 1, 1) := by decide +kernel
theorem dX9_unit_44 : decode cX9_unit 44 = .ok (.iadd, 1) := by decide +kernel
theorem dX9_unit_45 : decode cX9_unit 45 = .ok (.putfield 255, 3) := by decide +kernel
theorem dX9_unit_48 : decode cX9_unit 48 = .ok (.iconst 1, 1) := by decide +kernel
theorem dX9_unit_49 : decode cX9_unit 49 = .ok (.ireturn, 1) := by decide +kernel
theorem dX9_seen_0 : decode cX9_seen 0 = .ok (.aload_n 0, 1) := by decide +kernel
theorem dX9_seen_1 : decode cX9_seen 1 = .ok (.getfield 258, 3) := by decide +kernel
theorem dX9_seen_4 : decode cX9_seen 4 = .ok (.aload_n 0, 1) := by decide +kernel
theorem dX9_seen_5 : decode cX9_seen 5 = .ok (.getfield 255, 3) := by decide +kernel
theorem dX9_seen_8 : decode cX9_seen 8 = .ok (.if_icmp .ge 15, 3) := by decide +kernel
theorem dX9_seen_11 : decode cX9_seen 11 = .ok (.aload_n 0, 1) := by decide +kernel
theorem dX9_seen_12 : decode cX9_seen 12 = .ok (.getfield 7, 3) := by decide +kernel
theorem dX9_seen_15 : decode cX9_seen 15 = .ok (.aload_n 0, 1) := by decide +kernel
theorem dX9_seen_16 : decode cX9_seen 16 = .ok (.getfield 258, 3) := by decide +kernel
theorem dX9_seen_19 : decode cX9_seen 19 = .ok (.iaload, 1) := by decide +kernel
theorem dX9_seen_20 : decode cX9_seen 20 = .ok (.goto 4, 3) := by decide +kernel
theorem dX9_seen_23 : decode cX9_seen 23 = .ok (.iconst 0, 1) := by decide +kernel
theorem dX9_seen_24 : decode cX9_seen 24 = .ok (.ireturn, 1) := by decide +kernel
theorem dX9_isDigit_0 : decode cX9_isDigit 0 = .ok (.iload_n 0, 1) := by decide +kernel
theorem dX9_isDigit_1 : decode cX9_isDigit 1 = .ok (.bipush 48, 2) := by decide +kernel
theorem dX9_isDigit_3 : decode cX9_isDigit 3 = .ok (.if_icmp .lt 13, 3) := by decide +kernel
theorem dX9_isDigit_6 : decode cX9_isDigit 6 = .ok (.iload_n 0, 1) := by decide +kernel
theorem dX9_isDigit_7 : decode cX9_isDigit 7 = .ok (.bipush 57, 2) := by decide +kernel
theorem dX9_isDigit_9 : decode cX9_isDigit 9 = .ok (.if_icmp .gt 7, 3) := by decide +kernel
theorem dX9_isDigit_12 : decode cX9_isDigit 12 = .ok (.iconst 1, 1) := by decide +kernel
theorem dX9_isDigit_13 : decode cX9_isDigit 13 = .ok (.goto 4, 3) := by decide +kernel
theorem dX9_isDigit_16 : decode cX9_isDigit 16 = .ok (.iconst 0, 1) := by decide +kernel
theorem dX9_isDigit_17 : decode cX9_isDigit 17 = .ok (.ireturn, 1) := by decide +kernel
theorem dX9_readNode_0 : decode cX9_readNode 0 = .ok (.aload_n 0, 1) := by decide +kernel
theorem dX9_readNode_1 : decode cX9_readNode 1 = .ok (.invokevirtual 261, 3) := by decide +kernel
theorem dX9_readNode_4 : decode cX9_readNode 4 = .ok (.istore_n 2, 1) := by decide +kernel
theorem dX9_readNode_5 : decode cX9_readNode 5 = .ok (.aload_n 0, 1) := by decide +kernel
theorem dX9_readNode_6 : decode cX9_readNode 6 = .ok (.aload_n 0, 1) := by decide +kernel
theorem dX9_readNode_7 : decode cX9_readNode 7 = .ok (.getfield 264, 3) := by decide +kernel
theorem dX9_readNode_10 : decode cX9_readNode 10 = .ok (.ifCond .ne 27, 3) := by decide +kernel
theorem dX9_readNode_13 : decode cX9_readNode 13 = .ok (.iload_n 2, 1) := by decide +kernel
theorem dX9_readNode_14 : decode cX9_readNode 14 = .ok (.bipush 46, 2) := by decide +kernel
theorem dX9_readNode_16 : decode cX9_readNode 16 = .ok (.if_icmp .eq 25, 3) := by decide +kernel
theorem dX9_readNode_19 : decode cX9_readNode 19 = .ok (.iload_n 2, 1) := by decide +kernel
theorem dX9_readNode_20 : decode cX9_readNode 20 = .ok (.bipush 83, 2) := by decide +kernel
theorem dX9_readNode_22 : decode cX9_readNode 22 = .ok (.if_icmp .eq 19, 3) := by decide +kernel
theorem dX9_readNode_25 : decode cX9_readNode 25 = .ok (.iload_n 2, 1) := by decide +kernel
theorem dX9_readNode_26 : decode cX9_readNode 26 = .ok (.bipush 84, 2) := by decide +kernel
theorem dX9_readNode_28 : decode cX9_readNode 28 = .ok (.if_icmp .eq 13, 3) := by decide +kernel
theorem dX9_readNode_31 : decode cX9_readNode 31 = .ok (.iload_n 2, 1) := by decide +kernel
theorem dX9_readNode_32 : decode cX9_readNode 32 = .ok (.bipush 70, 2) := by decide +kernel
theorem dX9_readNode_34 : decode cX9_readNode 34 = .ok (.if_icmp .eq 7, 3) := by decide +kernel
theorem dX9_readNode_37 : decode cX9_readNode 37 = .ok (.iconst 1, 1) := by decide +kernel
theorem dX9_readNode_38 : decode cX9_readNode 38 = .ok (.goto 4, 3) := by decide +kernel
theorem dX9_readNode_41 : decode cX9_readNode 41 = .ok (.iconst 0, 1) := by decide +kernel
theorem dX9_readNode_42 : decode cX9_readNode 42 = .ok (.putfield 264, 3) := by decide +kernel
theorem dX9_readNode_45 : decode cX9_readNode 45 = .ok (.aload_n 0, 1) := by decide +kernel
theorem dX9_readNode_46 : decode cX9_readNode 46 = .ok (.getfield 264, 3) := by decide +kernel
