theorem dX2_take_6 : decode cX2_take 6 = .ok (.aload_n 1, 1) := by decide +kernel
theorem dX2_take_7 : decode cX2_take 7 = .ok (.getfield 13, 3) := by decide +kernel
theorem dX2_take_10 : decode cX2_take 10 = .ok (.invokevirtual 26, 3) := by decide +kernel
theorem dX2_take_13 : decode cX2_take 13 = .ok (.aload_n 1, 1) := by decide +kernel
theorem dX2_take_14 : decode cX2_take 14 = .ok (.getfield 9, 3) := by decide +kernel
theorem dX2_take_17 : decode cX2_take 17 = .ok (.iconst 0, 1) := by decide +kernel
theorem dX2_take_18 : decode cX2_take 18 = .ok (.aload_n 0, 1) := by decide +kernel
theorem dX2_take_19 : decode cX2_take 19 = .ok (.getfield 9, 3) := by decide +kernel
theorem dX2_take_22 : decode cX2_take 22 = .ok (.iconst 0, 1) := by decide +kernel
theorem dX2_take_23 : decode cX2_take 23 = .ok (.aload_n 1, 1) := by decide +kernel
theorem dX2_take_24 : decode cX2_take 24 = .ok (.getfield 13, 3) := by decide +kernel
theorem dX2_take_27 : decode cX2_take 27 = .ok (.invokestatic 30, 3) := by decide +kernel
theorem dX2_take_30 : decode cX2_take 30 = .ok (.aload_n 0, 1) := by decide +kernel
theorem dX2_take_31 : decode cX2_take 31 = .ok (.aload_n 1, 1) := by decide +kernel
theorem dX2_take_32 : decode cX2_take 32 = .ok (.getfield 13, 3) := by decide +kernel
theorem dX2_take_35 : decode cX2_take 35 = .ok (.putfield 13, 3) := by decide +kernel
theorem dX2_take_38 : decode cX2_take 38 = .ok (.aload_n 0, 1) := by decide +kernel
theorem dX2_take_39 : decode cX2_take 39 = .ok (.aload_n 1, 1) := by decide +kernel
theorem dX2_take_40 : decode cX2_take 40 = .ok (.getfield 23, 3) := by decide +kernel
theorem dX2_take_43 : decode cX2_take 43 = .ok (.putfield 23, 3) := by decide +kernel
theorem dX2_take_46 : decode cX2_take 46 = .ok (.return_, 1) := by decide +kernel
theorem dX2_takeLong_0 : decode cX2_takeLong 0 = .ok (.aload_n 0, 1) := by decide +kernel
theorem dX2_takeLong_1 : decode cX2_takeLong 1 = .ok (.lload_n 1, 1) := by decide +kernel
theorem dX2_takeLong_2 : decode cX2_takeLong 2 = .ok (.invokestatic 36, 3) := by decide +kernel
theorem dX2_takeLong_5 : decode cX2_takeLong 5 = .ok (.putfield 23, 3) := by decide +kernel
theorem dX2_takeLong_8 : decode cX2_takeLong 8 = .ok (.lload_n 1, 1) := by decide +kernel
theorem dX2_takeLong_9 : decode cX2_takeLong 9 = .ok (.lconst 0, 1) := by decide +kernel
theorem dX2_takeLong_10 : decode cX2_takeLong 10 = .ok (.lcmp, 1) := by decide +kernel
theorem dX2_takeLong_11 : decode cX2_takeLong 11 = .ok (.ifCond .ge 8, 3) := by decide +kernel
theorem dX2_takeLong_14 : decode cX2_takeLong 14 = .ok (.lload_n 1, 1) := by decide +kernel
theorem dX2_takeLong_15 : decode cX2_takeLong 15 = .ok (.lneg, 1) := by decide +kernel
theorem dX2_takeLong_16 : decode cX2_takeLong 16 = .ok (.goto 4, 3) := by decide +kernel
theorem dX2_takeLong_19 : decode cX2_takeLong 19 = .ok (.lload_n 1, 1) := by decide +kernel
theorem dX2_takeLong_20 : decode cX2_takeLong 20 = .ok (.lstore_n 3, 1) := by decide +kernel
theorem dX2_takeLong_21 : decode cX2_takeLong 21 = .ok (.aload_n 0, 1) := by decide +kernel
theorem dX2_takeLong_22 : decode cX2_takeLong 22 = .ok (.iconst 0, 1) := by decide +kernel
theorem dX2_takeLong_23 : decode cX2_takeLong 23 = .ok (.putfield 13, 3) := by decide +kernel
theorem dX2_takeLong_26 : decode cX2_takeLong 26 = .ok (.iconst 0, 1) := by decide +kernel
theorem dX2_takeLong_27 : decode cX2_takeLong 27 = .ok (.istore 5, 2) := by decide +kernel
theorem dX2_takeLong_29 : decode cX2_takeLong 29 = .ok (.iload 5, 2) := by decide +kernel
theorem dX2_takeLong_31 : decode cX2_takeLong 31 = .ok (.iconst 3, 1) := by decide +kernel
theorem dX2_takeLong_32 : decode cX2_takeLong 32 = .ok (.if_icmp .ge 42, 3) := by decide +kernel
theorem dX2_takeLong_35 : decode cX2_takeLong 35 = .ok (.lload_n 3, 1) := by decide +kernel
theorem dX2_takeLong_36 : decode cX2_takeLong 36 = .ok (.lconst 0, 1) := by decide +kernel
theorem dX2_takeLong_37 : decode cX2_takeLong 37 = .ok (.lcmp, 1) := by decide +kernel
theorem dX2_takeLong_38 : decode cX2_takeLong 38 = .ok (.ifCond .le 36, 3) := by decide +kernel
theorem dX2_takeLong_41 : decode cX2_takeLong 41 = .ok (.aload_n 0, 1) := by decide +kernel
theorem dX2_takeLong_42 : decode cX2_takeLong 42 = .ok (.getfield 9, 3) := by decide +kernel
theorem dX2_takeLong_45 : decode cX2_takeLong 45 = .ok (.iload 5, 2) := by decide +kernel
theorem dX2_takeLong_47 : decode cX2_takeLong 47 = .ok (.lload_n 3, 1) := by decide +kernel
theorem dX2_takeLong_48 : decode cX2_takeLong 48 = .ok (.ldc2_w 21, 3) := by decide +kernel
theorem dX2_takeLong_51 : decode cX2_takeLong 51 = .ok (.lrem, 1) := by decide +kernel
theorem dX2_takeLong_52 : decode cX2_takeLong 52 = .ok (.l2i, 1) := by decide +kernel
theorem dX2_takeLong_53 : decode cX2_takeLong 53 = .ok (.iastore, 1) := by decide +kernel
theorem dX2_takeLong_54 : decode cX2_takeLong 54 = .ok (.lload_n 3, 1) := by decide +kernel
theorem dX2_takeLong_55 : decode cX2_takeLong 55 = .ok (.ldc2_w 21, 3) := by decide +kernel
theorem dX2_takeLong_58 : decode cX2_takeLong 58 = .ok (.ldiv, 1) := by decide +kernel
theorem dX2_takeLong_59 : decode cX2_takeLong 59 = .ok (.lstore_n 3, 1) := by decide +kernel
theorem dX2_takeLong_60 : decode cX2_takeLong 60 = .ok (.aload_n 0, 1) := by decide +kernel
theorem dX2_takeLong_61 : decode cX2_takeLong 61 = .ok (.iload 5, 2) := by decide +kernel
theorem dX2_takeLong_63 : decode cX2_takeLong 63 = .ok (.iconst 1, 1) := by decide +kernel
theorem dX2_takeLong_64 : decode cX2_takeLong 64 = .ok (.iadd, 1) := by decide +kernel
theorem dX2_takeLong_65 : decode cX2_takeLong 65 = .ok (.putfield 13, 3) := by decide +kernel
theorem dX2_takeLong_68 : decode cX2_takeLong 68 = .ok (.iinc 5 1, 3) := by decide +kernel
theorem dX2_takeLong_71 : decode cX2_takeLong 71 = .ok (.goto (-42), 3) := by decide +kernel
theorem dX2_takeLong_74 : decode cX2_takeLong 74 = .ok (.return_, 1) := by decide +kernel
theorem dX2_addTimes_0 : decode cX2_addTimes 0 = .ok (.lload_n 2, 1) := by decide +kernel
theorem dX2_addTimes_1 : decode cX2_addTimes 1 = .ok (.lconst 0, 1) := by decide +kernel
theorem dX2_addTimes_2 : decode cX2_addTimes 2 = .ok (.lcmp, 1) := by decide +kernel
theorem dX2_addTimes_3 : decode cX2_addTimes 3 = .ok (.ifCond .ge 11, 3) := by decide +kernel
theorem dX2_addTimes_6 : decode cX2_addTimes 6 = .ok (.aload_n 1, 1) := by decide +kernel
theorem dX2_addTimes_7 : decode cX2_addTimes 7 = .ok (.getfield 23, 3) := by decide +kernel
theorem dX2_addTimes_10 : decode cX2_addTimes 10 = .ok (.ineg, 1) := by decide +kernel
theorem dX2_addTimes_11 : decode cX2_addTimes 11 = .ok (.goto 7, 3) := by decide +kernel
theorem dX2_addTimes_14 : decode cX2_addTimes 14 = .ok (.aload_n 1, 1) := by decide +kernel
theorem dX2_addTimes_15 : decode cX2_addTimes 15 = .ok (.getfield 23, 3) := by decide +kernel
theorem dX2_addTimes_18 : decode cX2_addTimes 18 = .ok (.istore 4, 2) := by decide +kernel
theorem dX2_addTimes_20 : decode cX2_addTimes 20 = .ok (.iload 4, 2) := by decide +kernel
theorem dX2_addTimes_22 : decode cX2_addTimes 22 = .ok (.ifCond .eq 9, 3) := by decide +kernel
theorem dX2_addTimes_25 : decode cX2_addTimes 25 = .ok (.lload_n 2, 1) := by decide +kernel
theorem dX2_addTimes_26 : decode cX2_addTimes 26 = .ok (.lconst 0, 1) := by decide +kernel
theorem dX2_addTimes_27 : decode cX2_addTimes 27 = .ok (.lcmp, 1) := by decide +kernel
theorem dX2_addTimes_28 : decode cX2_addTimes 28 = .ok (.ifCond .ne 4, 3) := by decide +kernel
theorem dX2_addTimes_31 : decode cX2_addTimes 31 = .ok (.return_, 1) := by decide +kernel
theorem dX2_addTimes_32 : decode cX2_addTimes 32 = .ok (.aload_n 0, 1) := by decide +kernel
theorem dX2_addTimes_33 : decode cX2_addTimes 33 = .ok (.getfield 23, 3) := by decide +kernel
theorem dX2_addTimes_36 : decode cX2_addTimes 36 = .ok (.ifCond .ne 9, 3) := by decide +kernel
theorem dX2_addTimes_39 : decode cX2_addTimes 39 = .ok (.aload_n 0, 1) := by decide +kernel
theorem dX2_addTimes_40 : decode cX2_addTimes 40 = .ok (.iload 4, 2) := by decide +kernel
theorem dX2_addTimes_42 : decode cX2_addTimes 42 = .ok (.putfield 23, 3) := by decide +kernel
theorem dX2_addTimes_45 : decode cX2_addTimes 45 = .ok (.lload_n 2, 1) := by decide +kernel
theorem dX2_addTimes_46 : decode cX2_addTimes 46 = .ok (.lconst 0, 1) := by decide +kernel
theorem dX2_addTimes_47 : decode cX2_addTimes 47 = .ok (.lcmp, 1) := by decide +kernel
theorem dX2_addTimes_48 : decode cX2_addTimes 48 = .ok (.ifCond .ge 8, 3) := by decide +kernel
theorem dX2_addTimes_51 : decode cX2_addTimes 51 = .ok (.lload_n 2, 1) := by decide +kernel
theorem dX2_addTimes_52 : decode cX2_addTimes 52 = .ok (.lneg, 1) := by decide +kernel
theorem dX2_addTimes_53 : decode cX2_addTimes 53 = .ok (.goto 4, 3) := by decide +kernel
theorem dX2_addTimes_56 : decode cX2_addTimes 56 = .ok (.lload_n 2, 1) := by decide +kernel
theorem dX2_addTimes_57 : decode cX2_addTimes 57 = .ok (.lstore 5, 2) := by decide +kernel
theorem dX2_addTimes_59 : decode cX2_addTimes 59 = .ok (.aload_n 0, 1) := by decide +kernel
theorem dX2_addTimes_60 : decode cX2_addTimes 60 = .ok (.getfield 23, 3) := by decide +kernel
theorem dX2_addTimes_63 : decode cX2_addTimes 63 = .ok (.iload 4, 2) := by decide +kernel
theorem dX2_addTimes_65 : decode cX2_addTimes 65 = .ok (.if_icmp .ne 8, 3) := by decide +kernel
theorem dX2_addTimes_68 : decode cX2_addTimes 68 = .ok (.lload 5, 2) := by decide +kernel
theorem dX2_addTimes_70 : decode cX2_addTimes 70 = .ok (.goto 6, 3) := by decide +kernel
theorem dX2_addTimes_73 : decode cX2_addTimes 73 = .ok (.lload 5, 2) := by decide +kernel
theorem dX2_addTimes_75 : decode cX2_addTimes 75 = .ok (.lneg, 1) := by decide +kernel
theorem dX2_addTimes_76 : decode cX2_addTimes 76 = .ok (.lstore 5, 2) := by decide +kernel
theorem dX2_addTimes_78 : decode cX2_addTimes 78 = .ok (.aload_n 0, 1) := by decide +kernel
theorem dX2_addTimes_79 : decode cX2_addTimes 79 = .ok (.getfield 13, 3) := by decide +kernel
theorem dX2_addTimes_82 : decode cX2_addTimes 82 = .ok (.aload_n 1, 1) := by decide +kernel
theorem dX2_addTimes_83 : decode cX2_addTimes 83 = .ok (.getfield 13, 3) := by decide +kernel
theorem dX2_addTimes_86 : decode cX2_addTimes 86 = .ok (.invokestatic 42, 3) := by decide +kernel
theorem dX2_addTimes_89 : decode cX2_addTimes 89 = .ok (.iconst 2, 1) := by decide +kernel
theorem dX2_addTimes_90 : decode cX2_addTimes 90 = .ok (.iadd, 1) := by decide +kernel
theorem dX2_addTimes_91 : decode cX2_addTimes 91 = .ok (.istore 7, 2) := by decide +kernel
theorem dX2_addTimes_93 : decode cX2_addTimes 93 = .ok (.aload_n 0, 1) := by decide +kernel
theorem dX2_addTimes_94 : decode cX2_addTimes 94 = .ok (.iload 7, 2) := by decide +kernel
theorem dX2_addTimes_96 : decode cX2_addTimes 96 = .ok (.invokevirtual 26, 3) := by decide +kernel
theorem dX2_addTimes_99 : decode cX2_addTimes 99 = .ok (.lconst 0, 1) := by decide +kernel
theorem dX2_addTimes_100 : decode cX2_addTimes 100 = .ok (.lstore 8, 2) := by decide +kernel
theorem dX2_addTimes_102 : decode cX2_addTimes 102 = .ok (.iconst 0, 1) := by decide +kernel
theorem dX2_addTimes_103 : decode cX2_addTimes 103 = .ok (.istore 10, 2) := by decide +kernel
theorem dX2_addTimes_105 : decode cX2_addTimes 105 = .ok (.iload 10, 2) := by decide +kernel
theorem dX2_addTimes_107 : decode cX2_addTimes 107 = .ok (.iload 7, 2) := by decide +kernel
theorem dX2_addTimes_109 : decode cX2_addTimes 109 = .ok (.if_icmp .ge 59, 3) := by decide +kernel
theorem dX2_addTimes_112 : decode cX2_addTimes 112 = .ok (.aload_n 0, 1) := by decide +kernel
theorem dX2_addTimes_113 : decode cX2_addTimes 113 = .ok (.getfield 9, 3) := by decide +kernel
theorem dX2_addTimes_116 : decode cX2_addTimes 116 = .ok (.iload 10, 2) := by decide +kernel
theorem dX2_addTimes_118 : decode cX2_addTimes 118 = .ok (.iaload, 1) := by decide +kernel
theorem dX2_addTimes_119 : decode cX2_addTimes 119 = .ok (.i2l, 1) := by decide +kernel
theorem dX2_addTimes_120 : decode cX2_addTimes 120 = .ok (.aload_n 1, 1) := by decide +kernel
theorem dX2_addTimes_121 : decode cX2_addTimes 121 = .ok (.iload 10, 2) := by decide +kernel
theorem dX2_addTimes_123 : decode cX2_addTimes 123 = .ok (.invokevirtual 17, 3) := by decide +kernel
theorem dX2_addTimes_126 : decode cX2_addTimes 126 = .ok (.lload 5, 2) := by decide +kernel
theorem dX2_addTimes_128 : decode cX2_addTimes 128 = .ok (.lmul, 1) := by decide +kernel
theorem dX2_addTimes_129 : decode cX2_addTimes 129 = .ok (.ladd, 1) := by decide +kernel
theorem dX2_addTimes_130 : decode cX2_addTimes 130 = .ok (.lload 8, 2) := by decide +kernel
theorem dX2_addTimes_132 : decode cX2_addTimes 132 = .ok (.ladd, 1) := by decide +kernel
theorem dX2_addTimes_133 : decode cX2_addTimes 133 = .ok (.lstore 11, 2) := by decide +kernel
theorem dX2_addTimes_135 : decode cX2_addTimes 135 = .ok (.lload 11, 2) := by decide +kernel
theorem dX2_addTimes_137 : decode cX2_addTimes 137 = .ok (.ldc2_w 21, 3) := by decide +kernel
theorem dX2_addTimes_140 : decode cX2_addTimes 140 = .ok (.invokestatic 48, 3) := by decide +kernel
theorem dX2_addTimes_143 : decode cX2_addTimes 143 = .ok (.lstore 8, 2) := by decide +kernel
theorem dX2_addTimes_145 : decode cX2_addTimes 145 = .ok (.aload_n 0, 1) := by decide +kernel
theorem dX2_addTimes_146 : decode cX2_addTimes 146 = .ok (.getfield 9, 3) := by decide +kernel
theorem dX2_addTimes_149 : decode cX2_addTimes 149 = .ok (.iload 10, 2) := by decide +kernel
theorem dX2_addTimes_151 : decode cX2_addTimes 151 = .ok (.lload 11, 2) := by decide +kernel
theorem dX2_addTimes_153 : decode cX2_addTimes 153 = .ok (.lload 8, 2) := by decide +kernel
theorem dX2_addTimes_155 : decode cX2_addTimes 155 = .ok (.ldc2_w 21, 3) := by decide +kernel
theorem dX2_addTimes_158 : decode cX2_addTimes 158 = .ok (.lmul, 1) := by decide +kernel
theorem dX2_addTimes_159 : decode cX2_addTimes 159 = .ok (.lsub, 1) := by decide +kernel
theorem dX2_addTimes_160 : decode cX2_addTimes 160 = .ok (.l2i, 1) := by decide +kernel
theorem dX2_addTimes_161 : decode cX2_addTimes 161 = .ok (.iastore, 1) := by decide +kernel
theorem dX2_addTimes_162 : decode cX2_addTimes 162 = .ok (.iinc 10 1, 3) := by decide +kernel
theorem dX2_addTimes_165 : decode cX2_addTimes 165 = .ok (.goto (-60), 3) := by decide +kernel
theorem dX2_addTimes_168 : decode cX2_addTimes 168 = .ok (.lload 8, 2) := by decide +kernel
theorem dX2_addTimes_170 : decode cX2_addTimes 170 = .ok (.lconst 0, 1) := by decide +kernel
theorem dX2_addTimes_171 : decode cX2_addTimes 171 = .ok (.lcmp, 1) := by decide +kernel
theorem dX2_addTimes_172 : decode cX2_addTimes 172 = .ok (.ifCond .ge 9, 3) := by decide +kernel
theorem dX2_addTimes_175 : decode cX2_addTimes 175 = .ok (.aload_n 0, 1) := by decide +kernel
theorem dX2_addTimes_176 : decode cX2_addTimes 176 = .ok (.iload 7, 2) := by decide +kernel
theorem dX2_addTimes_178 : decode cX2_addTimes 178 = .ok (.invokevirtual 52, 3) := by decide +kernel
theorem dX2_addTimes_181 : decode cX2_addTimes 181 = .ok (.aload_n 0, 1) := by decide +kernel
theorem dX2_addTimes_182 : decode cX2_addTimes 182 = .ok (.iload 7, 2) := by decide +kernel
theorem dX2_addTimes_184 : decode cX2_addTimes 184 = .ok (.invokevirtual 55, 3) := by decide +kernel
theorem dX2_addTimes_187 : decode cX2_addTimes 187 = .ok (.return_, 1) := by decide +kernel
theorem dX2_product_0 : decode cX2_product 0 = .ok (.aload_n 0, 1) := by decide +kernel
theorem dX2_product_1 : decode cX2_product 1 = .ok (.iconst 0, 1) := by decide +kernel
theorem dX2_product_2 : decode cX2_product 2 = .ok (.putfield 13, 3) := by decide +kernel
theorem dX2_product_5 : decode cX2_product 5 = .ok (.aload_n 1, 1) := by decide +kernel
theorem dX2_product_6 : decode cX2_product 6 = .ok (.getfield 13, 3) := by decide +kernel
theorem dX2_product_9 : decode cX2_product 9 = .ok (.aload_n 2, 1) := by decide +kernel
theorem dX2_product_10 : decode cX2_product 10 = .ok (.getfield 13, 3) := by decide +kernel
theorem dX2_product_13 : decode cX2_product 13 = .ok (.iadd, 1) := by decide +kernel
theorem dX2_product_14 : decode cX2_product 14 = .ok (.istore_n 3, 1) := by decide +kernel
theorem dX2_product_15 : decode cX2_product 15 = .ok (.aload_n 0, 1) := by decide +kernel
theorem dX2_product_16 : decode cX2_product 16 = .ok (.iload_n 3, 1) := by decide +kernel
theorem dX2_product_17 : decode cX2_product 17 = .ok (.invokevirtual 26, 3) := by decide +kernel
theorem dX2_product_20 : decode cX2_product 20 = .ok (.iconst 0, 1) := by decide +kernel
theorem dX2_product_21 : decode cX2_product 21 = .ok (.istore 4, 2) := by decide +kernel
theorem dX2_product_23 : decode cX2_product 23 = .ok (.iload 4, 2) := by decide +kernel
theorem dX2_product_25 : decode cX2_product 25 = .ok (.aload_n 1, 1) := by decide +kernel
theorem dX2_product_26 : decode cX2_product 26 = .ok (.getfield 13, 3) := by decide +kernel
theorem dX2_product_29 : decode cX2_product 29 = .ok (.if_icmp .ge 111, 3) := by decide +kernel
theorem dX2_product_32 : decode cX2_product 32 = .ok (.lconst 0, 1) := by decide +kernel
theorem dX2_product_33 : decode cX2_product 33 = .ok (.lstore 5, 2) := by decide +kernel
theorem dX2_product_35 : decode cX2_product 35 = .ok (.aload_n 1, 1) := by decide +kernel
theorem dX2_product_36 : decode cX2_product 36 = .ok (.getfield 9, 3) := by decide +kernel
theorem dX2_product_39 : decode cX2_product 39 = .ok (.iload 4, 2) := by decide +kernel
theorem dX2_product_41 : decode cX2_product 41 = .ok (.iaload, 1) := by decide +kernel
theorem dX2_product_42 : decode cX2_product 42 = .ok (.i2l, 1) := by decide +kernel
theorem dX2_product_43 : decode cX2_product 43 = .ok (.lstore 7, 2) := by decide +kernel
theorem dX2_product_45 : decode cX2_product 45 = .ok (.iconst 0, 1) := by decide +kernel
theorem dX2_product_46 : decode cX2_product 46 = .ok (.istore 9, 2) := by decide +kernel
theorem dX2_product_48 : decode cX2_product 48 = .ok (.iload 9, 2) := by decide +kernel
theorem dX2_product_50 : decode cX2_product 50 = .ok (.aload_n 2, 1) := by decide +kernel
theorem dX2_product_51 : decode cX2_product 51 = .ok (.getfield 13, 3) := by decide +kernel
theorem dX2_product_54 : decode cX2_product 54 = .ok (.if_icmp .ge 65, 3) := by decide +kernel
theorem dX2_product_57 : decode cX2_product 57 = .ok (.aload_n 0, 1) := by decide +kernel
theorem dX2_product_58 : decode cX2_product 58 = .ok (.getfield 9, 3) := by decide +kernel
theorem dX2_product_61 : decode cX2_product 61 = .ok (.iload 4, 2) := by decide +kernel
theorem dX2_product_63 : decode cX2_product 63 = .ok (.iload 9, 2) := by decide +kernel
theorem dX2_product_65 : decode cX2_product 65 = .ok (.iadd, 1) := by decide +kernel
theorem dX2_product_66 : decode cX2_product 66 = .ok (.iaload, 1) := by decide +kernel
theorem dX2_product_67 : decode cX2_product 67 = .ok (.i2l, 1) := by decide +kernel
theorem dX2_product_68 : decode cX2_product 68 = .ok (.lload 7, 2) := by decide +kernel
theorem dX2_product_70 : decode cX2_product 70 = .ok (.aload_n 2, 1) := by decide +kernel
theorem dX2_product_71 : decode cX2_product 71 = .ok (.getfield 9, 3) := by decide +kernel
theorem dX2_product_74 : decode cX2_product 74 = .ok (.iload 9, 2) := by decide +kernel
theorem dX2_product_76 : decode cX2_product 76 = .ok (.iaload, 1) := by decide +kernel
theorem dX2_product_77 : decode cX2_product 77 = .ok (.i2l, 1) := by decide +kernel
theorem dX2_product_78 : decode cX2_product 78 = .ok (.lmul, 1) := by decide +kernel
theorem dX2_product_79 : decode cX2_product 79 = .ok (.ladd, 1) := by decide +kernel
theorem dX2_product_80 : decode cX2_product 80 = .ok (.lload 5, 2) := by decide +kernel
theorem dX2_product_82 : decode cX2_product 82 = .ok (.ladd, 1) := by decide +kernel
theorem dX2_product_83 : decode cX2_product 83 = .ok (.lstore 10, 2) := by decide +kernel
theorem dX2_product_85 : decode cX2_product 85 = .ok (.lload 10, 2) := by decide +kernel
theorem dX2_product_87 : decode cX2_product 87 = .ok (.ldc2_w 21, 3) := by decide +kernel
theorem dX2_product_90 : decode cX2_product 90 = .ok (.ldiv, 1) := by decide +kernel
theorem dX2_product_91 : decode cX2_product 91 = .ok (.lstore 5, 2) := by decide +kernel
theorem dX2_product_93 : decode cX2_product 93 = .ok (.aload_n 0, 1) := by decide +kernel
theorem dX2_product_94 : decode cX2_product 94 = .ok (.getfield 9, 3) := by decide +kernel
theorem dX2_product_97 : decode cX2_product 97 = .ok (.iload 4, 2) := by decide +kernel
theorem dX2_product_99 : decode cX2_product 99 = .ok (.iload 9, 2) := by decide +kernel
theorem dX2_product_101 : decode cX2_product 101 = .ok (.iadd, 1) := by decide +kernel
theorem dX2_product_102 : decode cX2_product 102 = .ok (.lload 10, 2) := by decide +kernel
theorem dX2_product_104 : decode cX2_product 104 = .ok (.lload 5, 2) := by decide +kernel
theorem dX2_product_106 : decode cX2_product 106 = .ok (.ldc2_w 21, 3) := by decide +kernel
theorem dX2_product_109 : decode cX2_product 109 = .ok (.lmul, 1) := by decide +kernel
theorem dX2_product_110 : decode cX2_product 110 = .ok (.lsub, 1) := by decide +kernel
theorem dX2_product_111 : decode cX2_product 111 = .ok (.l2i, 1) := by decide +kernel
theorem dX2_product_112 : decode cX2_product 112 = .ok (.iastore, 1) := by decide +kernel
theorem dX2_product_113 : decode cX2_product 113 = .ok (.iinc 9 1, 3) := by decide +kernel
theorem dX2_product_116 : decode cX2_product 116 = .ok (.goto (-68), 3) := by decide +kernel
theorem dX2_product_119 : decode cX2_product 119 = .ok (.aload_n 0, 1) := by decide +kernel
theorem dX2_product_120 : decode cX2_product 120 = .ok (.getfield 9, 3) := by decide +kernel
theorem dX2_product_123 : decode cX2_product 123 = .ok (.iload 4, 2) := by decide +kernel
theorem dX2_product_125 : decode cX2_product 125 = .ok (.aload_n 2, 1) := by decide +kernel
theorem dX2_product_126 : decode cX2_product 126 = .ok (.getfield 13, 3) := by decide +kernel
theorem dX2_product_129 : decode cX2_product 129 = .ok (.iadd, 1) := by decide +kernel
theorem dX2_product_130 : decode cX2_product 130 = .ok (.lload 5, 2) := by decide +kernel
theorem dX2_product_132 : decode cX2_product 132 = .ok (.l2i, 1) := by decide +kernel
theorem dX2_product_133 : decode cX2_product 133 = .ok (.iastore, 1) := by decide +kernel
theorem dX2_product_134 : decode cX2_product 134 = .ok (.iinc 4 1, 3) := by decide +kernel
theorem dX2_product_137 : decode cX2_product 137 = .ok (.goto (-114), 3) := by decide +kernel
theorem dX2_product_140 : decode cX2_product 140 = .ok (.aload_n 0, 1) := by decide +kernel
theorem dX2_product_141 : decode cX2_product 141 = .ok (.aload_n 1, 1) := by decide +kernel
theorem dX2_product_142 : decode cX2_product 142 = .ok (.getfield 23, 3) := by decide +kernel
theorem dX2_product_145 : decode cX2_product 145 = .ok (.aload_n 2, 1) := by decide +kernel
theorem dX2_product_146 : decode cX2_product 146 = .ok (.getfield 23, 3) := by decide +kernel
theorem dX2_product_149 : decode cX2_product 149 = .ok (.imul, 1) := by decide +kernel
theorem dX2_product_150 : decode cX2_product 150 = .ok (.putfield 23, 3) := by decide +kernel
theorem dX2_product_153 : decode cX2_product 153 = .ok (.aload_n 0, 1) := by decide +kernel
theorem dX2_product_154 : decode cX2_product 154 = .ok (.iload_n 3, 1) := by decide +kernel
theorem dX2_product_155 : decode cX2_product 155 = .ok (.invokevirtual 55, 3) := by decide +kernel
theorem dX2_product_158 : decode cX2_product 158 = .ok (.return_, 1) := by decide +kernel
theorem dX2_split_0 : decode cX2_split 0 = .ok (.aload_n 0, 1) := by decide +kernel
theorem dX2_split_1 : decode cX2_split 1 = .ok (.getfield 13, 3) := by decide +kernel
theorem dX2_split_4 : decode cX2_split 4 = .ok (.aload_n 1, 1) := by decide +kernel
theorem dX2_split_5 : decode cX2_split 5 = .ok (.getfield 13, 3) := by decide +kernel
theorem dX2_split_8 : decode cX2_split 8 = .ok (.isub, 1) := by decide +kernel
theorem dX2_split_9 : decode cX2_split 9 = .ok (.istore_n 3, 1) := by decide +kernel
theorem dX2_split_10 : decode cX2_split 10 = .ok (.aload_n 2, 1) := by decide +kernel
theorem dX2_split_11 : decode cX2_split 11 = .ok (.iconst 0, 1) := by decide +kernel
theorem dX2_split_12 : decode cX2_split 12 = .ok (.putfield 13, 3) := by decide +kernel
theorem dX2_split_15 : decode cX2_split 15 = .ok (.aload_n 2, 1) := by decide +kernel
theorem dX2_split_16 : decode cX2_split 16 = .ok (.aload_n 0, 1) := by decide +kernel
theorem dX2_split_17 : decode cX2_split 17 = .ok (.getfield 23, 3) := by decide +kernel
theorem dX2_split_20 : decode cX2_split 20 = .ok (.aload_n 1, 1) := by decide +kernel
theorem dX2_split_21 : decode cX2_split 21 = .ok (.getfield 23, 3) := by decide +kernel
theorem dX2_split_24 : decode cX2_split 24 = .ok (.imul, 1) := by decide +kernel
theorem dX2_split_25 : decode cX2_split 25 = .ok (.putfield 23, 3) := by decide +kernel
theorem dX2_split_28 : decode cX2_split 28 = .ok (.aload_n 1, 1) := by decide +kernel
theorem dX2_split_29 : decode cX2_split 29 = .ok (.getfield 23, 3) := by decide +kernel
theorem dX2_split_32 : decode cX2_split 32 = .ok (.ifCond .eq 7, 3) := by decide +kernel
theorem dX2_split_35 : decode cX2_split 35 = .ok (.iload_n 3, 1) := by decide +kernel
theorem dX2_split_36 : decode cX2_split 36 = .ok (.ifCond .ge 9, 3) := by decide +kernel
theorem dX2_split_39 : decode cX2_split 39 = .ok (.aload_n 2, 1) := by decide +kernel
theorem dX2_split_40 : decode cX2_split 40 = .ok (.iconst 0, 1) := by decide +kernel
theorem dX2_split_41 : decode cX2_split 41 = .ok (.putfield 23, 3) := by decide +kernel
theorem dX2_split_44 : decode cX2_split 44 = .ok (.return_, 1) := by decide +kernel
theorem dX2_split_45 : decode cX2_split 45 = .ok (.aload_n 2, 1) := by decide +kernel
theorem dX2_split_46 : decode cX2_split 46 = .ok (.iload_n 3, 1) := by decide +kernel
theorem dX2_split_47 : decode cX2_split 47 = .ok (.iconst 1, 1) := by decide +kernel
theorem dX2_split_48 : decode cX2_split 48 = .ok (.iadd, 1) := by decide +kernel
theorem dX2_split_49 : decode cX2_split 49 = .ok (.invokevirtual 26, 3) := by decide +kernel
theorem dX2_split_52 : decode cX2_split 52 = .ok (.aload_n 0, 1) := by decide +kernel
theorem dX2_split_53 : decode cX2_split 53 = .ok (.aload_n 0, 1) := by decide +kernel
theorem dX2_split_54 : decode cX2_split 54 = .ok (.getfield 13, 3) := by decide +kernel
theorem dX2_split_57 : decode cX2_split 57 = .ok (.iconst 1, 1) := by decide +kernel
theorem dX2_split_58 : decode cX2_split 58 = .ok (.iadd, 1) := by decide +kernel
theorem dX2_split_59 : decode cX2_split 59 = .ok (.invokevirtual 26, 3) := by decide +kernel
theorem dX2_split_62 : decode cX2_split 62 = .ok (.aload_n 1, 1) := by decide +kernel
theorem dX2_split_63 : decode cX2_split 63 = .ok (.invokevirtual 58, 3) := by decide +kernel
theorem dX2_split_66 : decode cX2_split 66 = .ok (.lstore 4, 2) := by decide +kernel
theorem dX2_split_68 : decode cX2_split 68 = .ok (.aload_n 1, 1) := by decide +kernel
theorem dX2_split_69 : decode cX2_split 69 = .ok (.aload_n 1, 1) := by decide +kernel
theorem dX2_split_70 : decode cX2_split 70 = .ok (.getfield 13, 3) := by decide +kernel
theorem dX2_split_73 : decode cX2_split 73 = .ok (.iconst 1, 1) := by decide +kernel
theorem dX2_split_74 : decode cX2_split 74 = .ok (.isub, 1) := by decide +kernel
theorem dX2_split_75 : decode cX2_split 75 = .ok (.lconst 0, 1) := by decide +kernel
theorem dX2_split_76 : decode cX2_split 76 = .ok (.lload 4, 2) := by decide +kernel
theorem dX2_split_78 : decode cX2_split 78 = .ok (.invokevirtual 62, 3) := by decide +kernel
theorem dX2_split_81 : decode cX2_split 81 = .ok (.lstore 6, 2) := by decide +kernel
theorem dX2_split_83 : decode cX2_split 83 = .ok (.iload_n 3, 1) := by decide +kernel
theorem dX2_split_84 : decode cX2_split 84 = .ok (.istore 8, 2) := by decide +kernel
theorem dX2_split_86 : decode cX2_split 86 = .ok (.iload 8, 2) := by decide +kernel
theorem dX2_split_88 : decode cX2_split 88 = .ok (.ifCond .lt 77, 3) := by decide +kernel
theorem dX2_split_91 : decode cX2_split 91 = .ok (.lconst 0, 1) := by decide +kernel
theorem dX2_split_92 : decode cX2_split 92 = .ok (.lstore 9, 2) := by decide +kernel
theorem dX2_split_94 : decode cX2_split 94 = .ok (.iconst 0, 1) := by decide +kernel
theorem dX2_split_95 : decode cX2_split 95 = .ok (.istore 11, 2) := by decide +kernel
theorem dX2_split_97 : decode cX2_split 97 = .ok (.iload 11, 2) := by decide +kernel
theorem dX2_split_99 : decode cX2_split 99 = .ok (.bipush 8, 2) := by decide +kernel
theorem dX2_split_101 : decode cX2_split 101 = .ok (.if_icmp .ge 48, 3) := by decide +kernel
theorem dX2_split_104 : decode cX2_split 104 = .ok (.aload_n 0, 1) := by decide +kernel
theorem dX2_split_105 : decode cX2_split 105 = .ok (.aload_n 1, 1) := by decide +kernel
theorem dX2_split_106 : decode cX2_split 106 = .ok (.iload 8, 2) := by decide +kernel
theorem dX2_split_108 : decode cX2_split 108 = .ok (.lload 6, 2) := by decide +kernel
theorem dX2_split_110 : decode cX2_split 110 = .ok (.lload 4, 2) := by decide +kernel
theorem dX2_split_112 : decode cX2_split 112 = .ok (.invokevirtual 66, 3) := by decide +kernel
theorem dX2_split_115 : decode cX2_split 115 = .ok (.lstore 12, 2) := by decide +kernel
theorem dX2_split_117 : decode cX2_split 117 = .ok (.lload 12, 2) := by decide +kernel
theorem dX2_split_119 : decode cX2_split 119 = .ok (.lconst 0, 1) := by decide +kernel
theorem dX2_split_120 : decode cX2_split 120 = .ok (.lcmp, 1) := by decide +kernel
theorem dX2_split_121 : decode cX2_split 121 = .ok (.ifCond .ne 6, 3) := by decide +kernel
theorem dX2_split_124 : decode cX2_split 124 = .ok (.goto 25, 3) := by decide +kernel
theorem dX2_split_127 : decode cX2_split 127 = .ok (.aload_n 0, 1) := by decide +kernel
theorem dX2_split_128 : decode cX2_split 128 = .ok (.aload_n 1, 1) := by decide +kernel
theorem dX2_split_129 : decode cX2_split 129 = .ok (.lload 12, 2) := by decide +kernel
theorem dX2_split_131 : decode cX2_split 131 = .ok (.iload 8, 2) := by decide +kernel
theorem dX2_split_133 : decode cX2_split 133 = .ok (.invokevirtual 70, 3) := by decide +kernel
theorem dX2_split_136 : decode cX2_split 136 = .ok (.lload 9, 2) := by decide +kernel
theorem dX2_split_138 : decode cX2_split 138 = .ok (.lload 12, 2) := by decide +kernel
theorem dX2_split_140 : decode cX2_split 140 = .ok (.ladd, 1) := by decide +kernel
theorem dX2_split_141 : decode cX2_split 141 = .ok (.lstore 9, 2) := by decide +kernel
theorem dX2_split_143 : decode cX2_split 143 = .ok (.iinc 11 1, 3) := by decide +kernel
theorem dX2_split_146 : decode cX2_split 146 = .ok (.goto (-49), 3) := by decide +kernel
theorem dX2_split_149 : decode cX2_split 149 = .ok (.aload_n 2, 1) := by decide +kernel
theorem dX2_split_150 : decode cX2_split 150 = .ok (.getfield 9, 3) := by decide +kernel
theorem dX2_split_153 : decode cX2_split 153 = .ok (.iload 8, 2) := by decide +kernel
theorem dX2_split_155 : decode cX2_split 155 = .ok (.lload 9, 2) := by decide +kernel
theorem dX2_split_157 : decode cX2_split 157 = .ok (.l2i, 1) := by decide +kernel
theorem dX2_split_158 : decode cX2_split 158 = .ok (.iastore, 1) := by decide +kernel
theorem dX2_split_159 : decode cX2_split 159 = .ok (.iinc 8 (-1), 3) := by decide +kernel
theorem dX2_split_162 : decode cX2_split 162 = .ok (.goto (-76), 3) := by decide +kernel
theorem dX2_split_165 : decode cX2_split 165 = .ok (.aload_n 0, 1) := by decide +kernel
theorem dX2_split_166 : decode cX2_split 166 = .ok (.aload_n 0, 1) := by decide +kernel
theorem dX2_split_167 : decode cX2_split 167 = .ok (.getfield 13, 3) := by decide +kernel
theorem dX2_split_170 : decode cX2_split 170 = .ok (.invokevirtual 55, 3) := by decide +kernel
theorem dX2_split_173 : decode cX2_split 173 = .ok (.aload_n 2, 1) := by decide +kernel
theorem dX2_split_174 : decode cX2_split 174 = .ok (.iload_n 3, 1) := by decide +kernel
theorem dX2_split_175 : decode cX2_split 175 = .ok (.iconst 1, 1) := by decide +kernel
theorem dX2_split_176 : decode cX2_split 176 = .ok (.iadd, 1) := by decide +kernel
theorem dX2_split_177 : decode cX2_split 177 = .ok (.invokevirtual 55, 3) := by decide +kernel
theorem dX2_split_180 : decode cX2_split 180 = .ok (.return_, 1) := by decide +kernel
theorem dX2_tensOfTop_0 : decode cX2_tensOfTop 0 = .ok (.aload_n 0, 1) := by decide +kernel
theorem dX2_tensOfTop_1 : decode cX2_tensOfTop 1 = .ok (.aload_n 0, 1) := by decide +kernel
theorem dX2_tensOfTop_2 : decode cX2_tensOfTop 2 = .ok (.getfield 13, 3) := by decide +kernel
theorem dX2_tensOfTop_5 : decode cX2_tensOfTop 5 = .ok (.iconst 1, 1) := by decide +kernel
theorem dX2_tensOfTop_6 : decode cX2_tensOfTop 6 = .ok (.isub, 1) := by decide +kernel
theorem dX2_tensOfTop_7 : decode cX2_tensOfTop 7 = .ok (.invokevirtual 17, 3) := by decide +kernel
theorem dX2_tensOfTop_10 : decode cX2_tensOfTop 10 = .ok (.lstore_n 1, 1) := by decide +kernel
theorem dX2_tensOfTop_11 : decode cX2_tensOfTop 11 = .ok (.lconst 1, 1) := by decide +kernel
theorem dX2_tensOfTop_12 : decode cX2_tensOfTop 12 = .ok (.lstore_n 3, 1) := by decide +kernel
theorem dX2_tensOfTop_13 : decode cX2_tensOfTop 13 = .ok (.iconst 0, 1) := by decide +kernel
theorem dX2_tensOfTop_14 : decode cX2_tensOfTop 14 = .ok (.istore 5, 2) := by decide +kernel
theorem dX2_tensOfTop_16 : decode cX2_tensOfTop 16 = .ok (.iload 5, 2) := by decide +kernel
theorem dX2_tensOfTop_18 : decode cX2_tensOfTop 18 = .ok (.bipush 8, 2) := by decide +kernel
theorem dX2_tensOfTop_20 : decode cX2_tensOfTop 20 = .ok (.if_icmp .ge 29, 3) := by decide +kernel
theorem dX2_tensOfTop_23 : decode cX2_tensOfTop 23 = .ok (.lload_n 1, 1) := by decide +kernel
theorem dX2_tensOfTop_24 : decode cX2_tensOfTop 24 = .ok (.lload_n 3, 1) := by decide +kernel
theorem dX2_tensOfTop_25 : decode cX2_tensOfTop 25 = .ok (.lmul, 1) := by decide +kernel
theorem dX2_tensOfTop_26 : decode cX2_tensOfTop 26 = .ok (.ldc2_w 74, 3) := by decide +kernel
theorem dX2_tensOfTop_29 : decode cX2_tensOfTop 29 = .ok (.lmul, 1) := by decide +kernel
theorem dX2_tensOfTop_30 : decode cX2_tensOfTop 30 = .ok (.ldc2_w 21, 3) := by decide +kernel
theorem dX2_tensOfTop_33 : decode cX2_tensOfTop 33 = .ok (.lcmp, 1) := by decide +kernel
theorem dX2_tensOfTop_34 : decode cX2_tensOfTop 34 = .ok (.ifCond .ge 15, 3) := by decide +kernel
theorem dX2_tensOfTop_37 : decode cX2_tensOfTop 37 = .ok (.lload_n 3, 1) := by decide +kernel
theorem dX2_tensOfTop_38 : decode cX2_tensOfTop 38 = .ok (.ldc2_w 74, 3) := by decide +kernel
theorem dX2_tensOfTop_41 : decode cX2_tensOfTop 41 = .ok (.lmul, 1) := by decide +kernel
theorem dX2_tensOfTop_42 : decode cX2_tensOfTop 42 = .ok (.lstore_n 3, 1) := by decide +kernel
theorem dX2_tensOfTop_43 : decode cX2_tensOfTop 43 = .ok (.iinc 5 1, 3) := by decide +kernel
theorem dX2_tensOfTop_46 : decode cX2_tensOfTop 46 = .ok (.goto (-30), 3) := by decide +kernel
theorem dX2_tensOfTop_49 : decode cX2_tensOfTop 49 = .ok (.lload_n 3, 1) := by decide +kernel
theorem dX2_tensOfTop_50 : decode cX2_tensOfTop 50 = .ok (.lreturn, 1) := by decide +kernel
theorem dX2_front_0 : decode cX2_front 0 = .ok (.lload_n 2, 1) := by decide +kernel
theorem dX2_front_1 : decode cX2_front 1 = .ok (.ldc2_w 21, 3) := by decide +kernel
theorem dX2_front_4 : decode cX2_front 4 = .ok (.lmul, 1) := by decide +kernel
theorem dX2_front_5 : decode cX2_front 5 = .ok (.aload_n 0, 1) := by decide +kernel
theorem dX2_front_6 : decode cX2_front 6 = .ok (.getfield 9, 3) := by decide +kernel
theorem dX2_front_9 : decode cX2_front 9 = .ok (.iload_n 1, 1) := by decide +kernel
theorem dX2_front_10 : decode cX2_front 10 = .ok (.iaload, 1) := by decide +kernel
theorem dX2_front_11 : decode cX2_front 11 = .ok (.i2l, 1) := by decide +kernel
theorem dX2_front_12 : decode cX2_front 12 = .ok (.ladd, 1) := by decide +kernel
theorem dX2_front_13 : decode cX2_front 13 = .ok (.lload 4, 2) := by decide +kernel
theorem dX2_front_15 : decode cX2_front 15 = .ok (.lmul, 1) := by decide +kernel
theorem dX2_front_16 : decode cX2_front 16 = .ok (.lstore 6, 2) := by decide +kernel
theorem dX2_front_18 : decode cX2_front 18 = .ok (.iload_n 1, 1) := by decide +kernel
theorem dX2_front_19 : decode cX2_front 19 = .ok (.ifCond .le 32, 3) := by decide +kernel
theorem dX2_front_22 : decode cX2_front 22 = .ok (.lload 4, 2) := by decide +kernel
theorem dX2_front_24 : decode cX2_front 24 = .ok (.lconst 1, 1) := by decide +kernel
theorem dX2_front_25 : decode cX2_front 25 = .ok (.lcmp, 1) := by decide +kernel
theorem dX2_front_26 : decode cX2_front 26 = .ok (.ifCond .le 25, 3) := by decide +kernel
theorem dX2_front_29 : decode cX2_front 29 = .ok (.lload 6, 2) := by decide +kernel
theorem dX2_front_31 : decode cX2_front 31 = .ok (.aload_n 0, 1) := by decide +kernel
theorem dX2_front_32 : decode cX2_front 32 = .ok (.getfield 9, 3) := by decide +kernel
theorem dX2_front_35 : decode cX2_front 35 = .ok (.iload_n 1, 1) := by decide +kernel
theorem dX2_front_36 : decode cX2_front 36 = .ok (.iconst 1, 1) := by decide +kernel
theorem dX2_front_37 : decode cX2_front 37 = .ok (.isub, 1) := by decide +kernel
theorem dX2_front_38 : decode cX2_front 38 = .ok (.iaload, 1) := by decide +kernel
theorem dX2_front_39 : decode cX2_front 39 = .ok (.i2l, 1) := by decide +kernel
theorem dX2_front_40 : decode cX2_front 40 = .ok (.ldc2_w 21, 3) := by decide +kernel
theorem dX2_front_43 : decode cX2_front 43 = .ok (.lload 4, 2) := by decide +kernel
theorem dX2_front_45 : decode cX2_front 45 = .ok (.ldiv, 1) := by decide +kernel
theorem dX2_front_46 : decode cX2_front 46 = .ok (.ldiv, 1) := by decide +kernel
theorem dX2_front_47 : decode cX2_front 47 = .ok (.ladd, 1) := by decide +kernel
theorem dX2_front_48 : decode cX2_front 48 = .ok (.goto 5, 3) := by decide +kernel
theorem dX2_front_51 : decode cX2_front 51 = .ok (.lload 6, 2) := by decide +kernel
theorem dX2_front_53 : decode cX2_front 53 = .ok (.lreturn, 1) := by decide +kernel
theorem dX2_guess_0 : decode cX2_guess 0 = .ok (.iload_n 2, 1) := by decide +kernel
theorem dX2_guess_1 : decode cX2_guess 1 = .ok (.aload_n 1, 1) := by decide +kernel
theorem dX2_guess_2 : decode cX2_guess 2 = .ok (.getfield 13, 3) := by decide +kernel
theorem dX2_guess_5 : decode cX2_guess 5 = .ok (.iadd, 1) := by decide +kernel
theorem dX2_guess_6 : decode cX2_guess 6 = .ok (.istore 7, 2) := by decide +kernel
theorem dX2_guess_8 : decode cX2_guess 8 = .ok (.aload_n 0, 1) := by decide +kernel
theorem dX2_guess_9 : decode cX2_guess 9 = .ok (.iload 7, 2) := by decide +kernel
theorem dX2_guess_11 : decode cX2_guess 11 = .ok (.iconst 1, 1) := by decide +kernel
theorem dX2_guess_12 : decode cX2_guess 12 = .ok (.isub, 1) := by decide +kernel
theorem dX2_guess_13 : decode cX2_guess 13 = .ok (.aload_n 0, 1) := by decide +kernel
theorem dX2_guess_14 : decode cX2_guess 14 = .ok (.getfield 9, 3) := by decide +kernel
theorem dX2_guess_17 : decode cX2_guess 17 = .ok (.iload 7, 2) := by decide +kernel
theorem dX2_guess_19 : decode cX2_guess 19 = .ok (.iaload, 1) := by decide +kernel
theorem dX2_guess_20 : decode cX2_guess 20 = .ok (.i2l, 1) := by decide +kernel
theorem dX2_guess_21 : decode cX2_guess 21 = .ok (.lload 5, 2) := by decide +kernel
theorem dX2_guess_23 : decode cX2_guess 23 = .ok (.invokevirtual 62, 3) := by decide +kernel
theorem dX2_guess_26 : decode cX2_guess 26 = .ok (.lstore 8, 2) := by decide +kernel
theorem dX2_guess_28 : decode cX2_guess 28 = .ok (.lload_n 3, 1) := by decide +kernel
theorem dX2_guess_29 : decode cX2_guess 29 = .ok (.lconst 0, 1) := by decide +kernel
theorem dX2_guess_30 : decode cX2_guess 30 = .ok (.lcmp, 1) := by decide +kernel
theorem dX2_guess_31 : decode cX2_guess 31 = .ok (.ifCond .lt 10, 3) := by decide +kernel
theorem dX2_guess_34 : decode cX2_guess 34 = .ok (.lload 8, 2) := by decide +kernel
theorem dX2_guess_36 : decode cX2_guess 36 = .ok (.lload_n 3, 1) := by decide +kernel
theorem dX2_guess_37 : decode cX2_guess 37 = .ok (.lcmp, 1) := by decide +kernel
theorem dX2_guess_38 : decode cX2_guess 38 = .ok (.ifCond .ge 5, 3) := by decide +kernel
theorem dX2_guess_41 : decode cX2_guess 41 = .ok (.lconst 0, 1) := by decide +kernel
theorem dX2_guess_42 : decode cX2_guess 42 = .ok (.lreturn, 1) := by decide +kernel
theorem dX2_guess_43 : decode cX2_guess 43 = .ok (.lload 8, 2) := by decide +kernel
theorem dX2_guess_45 : decode cX2_guess 45 = .ok (.lload_n 3, 1) := by decide +kernel
theorem dX2_guess_46 : decode cX2_guess 46 = .ok (.lconst 1, 1) := by decide +kernel
theorem dX2_guess_47 : decode cX2_guess 47 = .ok (.ladd, 1) := by decide +kernel
theorem dX2_guess_48 : decode cX2_guess 48 = .ok (.ldiv, 1) := by decide +kernel
theorem dX2_guess_49 : decode cX2_guess 49 = .ok (.lstore 10, 2) := by decide +kernel
theorem dX2_guess_51 : decode cX2_guess 51 = .ok (.lload 10, 2) := by decide +kernel
theorem dX2_guess_53 : decode cX2_guess 53 = .ok (.lconst 0, 1) := by decide +kernel
theorem dX2_guess_54 : decode cX2_guess 54 = .ok (.lcmp, 1) := by decide +kernel
theorem dX2_guess_55 : decode cX2_guess 55 = .ok (.ifCond .ne 16, 3) := by decide +kernel
theorem dX2_guess_58 : decode cX2_guess 58 = .ok (.aload_n 0, 1) := by decide +kernel
theorem dX2_guess_59 : decode cX2_guess 59 = .ok (.aload_n 1, 1) := by decide +kernel
theorem dX2_guess_60 : decode cX2_guess 60 = .ok (.iload_n 2, 1) := by decide +kernel
theorem dX2_guess_61 : decode cX2_guess 61 = .ok (.invokevirtual 76, 3) := by decide +kernel
theorem dX2_guess_64 : decode cX2_guess 64 = .ok (.ifCond .eq 7, 3) := by decide +kernel
theorem dX2_guess_67 : decode cX2_guess 67 = .ok (.lconst 1, 1) := by decide +kernel
theorem dX2_guess_68 : decode cX2_guess 68 = .ok (.goto 5, 3) := by decide +kernel
theorem dX2_guess_71 : decode cX2_guess 71 = .ok (.lload 10, 2) := by decide +kernel
theorem dX2_guess_73 : decode cX2_guess 73 = .ok (.lreturn, 1) := by decide +kernel
theorem dX2_reaches_0 : decode cX2_reaches 0 = .ok (.aload_n 1, 1) := by decide +kernel
theorem dX2_reaches_1 : decode cX2_reaches 1 = .ok (.getfield 13, 3) := by decide +kernel
theorem dX2_reaches_4 : decode cX2_reaches 4 = .ok (.iconst 1, 1) := by decide +kernel
theorem dX2_reaches_5 : decode cX2_reaches 5 = .ok (.isub, 1) := by decide +kernel
theorem dX2_reaches_6 : decode cX2_reaches 6 = .ok (.istore_n 3, 1) := by decide +kernel
theorem dX2_reaches_7 : decode cX2_reaches 7 = .ok (.iload_n 3, 1) := by decide +kernel
theorem dX2_reaches_8 : decode cX2_reaches 8 = .ok (.ifCond .lt 42, 3) := by decide +kernel
theorem dX2_reaches_11 : decode cX2_reaches 11 = .ok (.aload_n 0, 1) := by decide +kernel
theorem dX2_reaches_12 : decode cX2_reaches 12 = .ok (.getfield 9, 3) := by decide +kernel
theorem dX2_reaches_15 : decode cX2_reaches 15 = .ok (.iload_n 2, 1) := by decide +kernel
theorem dX2_reaches_16 : decode cX2_reaches 16 = .ok (.iload_n 3, 1) := by decide +kernel
theorem dX2_reaches_17 : decode cX2_reaches 17 = .ok (.iadd, 1) := by decide +kernel
theorem dX2_reaches_18 : decode cX2_reaches 18 = .ok (.iaload, 1) := by decide +kernel
theorem dX2_reaches_19 : decode cX2_reaches 19 = .ok (.aload_n 1, 1) := by decide +kernel
theorem dX2_reaches_20 : decode cX2_reaches 20 = .ok (.getfield 9, 3) := by decide +kernel
theorem dX2_reaches_23 : decode cX2_reaches 23 = .ok (.iload_n 3, 1) := by decide +kernel
theorem dX2_reaches_24 : decode cX2_reaches 24 = .ok (.iaload, 1) := by decide +kernel
theorem dX2_reaches_25 : decode cX2_reaches 25 = .ok (.isub, 1) := by decide +kernel
theorem dX2_reaches_26 : decode cX2_reaches 26 = .ok (.istore 4, 2) := by decide +kernel
theorem dX2_reaches_28 : decode cX2_reaches 28 = .ok (.iload 4, 2) := by decide +kernel
theorem dX2_reaches_30 : decode cX2_reaches 30 = .ok (.ifCond .eq 14, 3) := by decide +kernel
theorem dX2_reaches_33 : decode cX2_reaches 33 = .ok (.iload 4, 2) := by decide +kernel
theorem dX2_reaches_35 : decode cX2_reaches 35 = .ok (.ifCond .le 7, 3) := by decide +kernel
theorem dX2_reaches_38 : decode cX2_reaches 38 = .ok (.iconst 1, 1) := by decide +kernel
theorem dX2_reaches_39 : decode cX2_reaches 39 = .ok (.goto 4, 3) := by decide +kernel
theorem dX2_reaches_42 : decode cX2_reaches 42 = .ok (.iconst 0, 1) := by decide +kernel
theorem dX2_reaches_43 : decode cX2_reaches 43 = .ok (.ireturn, 1) := by decide +kernel
theorem dX2_reaches_44 : decode cX2_reaches 44 = .ok (.iinc 3 (-1), 3) := by decide +kernel
theorem dX2_reaches_47 : decode cX2_reaches 47 = .ok (.goto (-40), 3) := by decide +kernel
theorem dX2_reaches_50 : decode cX2_reaches 50 = .ok (.iconst 1, 1) := by decide +kernel
theorem dX2_reaches_51 : decode cX2_reaches 51 = .ok (.ireturn, 1) := by decide +kernel
theorem dX2_takeAway_0 : decode cX2_takeAway 0 = .ok (.lconst 0, 1) := by decide +kernel
theorem dX2_takeAway_1 : decode cX2_takeAway 1 = .ok (.lstore 5, 2) := by decide +kernel
theorem dX2_takeAway_3 : decode cX2_takeAway 3 = .ok (.iconst 0, 1) := by decide +kernel
theorem dX2_takeAway_4 : decode cX2_takeAway 4 = .ok (.istore 7, 2) := by decide +kernel
theorem dX2_takeAway_6 : decode cX2_takeAway 6 = .ok (.iload 7, 2) := by decide +kernel
theorem dX2_takeAway_8 : decode cX2_takeAway 8 = .ok (.aload_n 1, 1) := by decide +kernel
theorem dX2_takeAway_9 : decode cX2_takeAway 9 = .ok (.getfield 13, 3) := by decide +kernel
theorem dX2_takeAway_12 : decode cX2_takeAway 12 = .ok (.if_icmp .gt 64, 3) := by decide +kernel
theorem dX2_takeAway_15 : decode cX2_takeAway 15 = .ok (.aload_n 0, 1) := by decide +kernel
theorem dX2_takeAway_16 : decode cX2_takeAway 16 = .ok (.getfield 9, 3) := by decide +kernel
theorem dX2_takeAway_19 : decode cX2_takeAway 19 = .ok (.iload 4, 2) := by decide +kernel
theorem dX2_takeAway_21 : decode cX2_takeAway 21 = .ok (.iload 7, 2) := by decide +kernel
theorem dX2_takeAway_23 : decode cX2_takeAway 23 = .ok (.iadd, 1) := by decide +kernel
theorem dX2_takeAway_24 : decode cX2_takeAway 24 = .ok (.iaload, 1) := by decide +kernel
theorem dX2_takeAway_25 : decode cX2_takeAway 25 = .ok (.i2l, 1) := by decide +kernel
theorem dX2_takeAway_26 : decode cX2_takeAway 26 = .ok (.aload_n 1, 1) := by decide +kernel
theorem dX2_takeAway_27 : decode cX2_takeAway 27 = .ok (.iload 7, 2) := by decide +kernel
theorem dX2_takeAway_29 : decode cX2_takeAway 29 = .ok (.invokevirtual 17, 3) := by decide +kernel
theorem dX2_takeAway_32 : decode cX2_takeAway 32 = .ok (.lload_n 2, 1) := by decide +kernel
theorem dX2_takeAway_33 : decode cX2_takeAway 33 = .ok (.lmul, 1) := by decide +kernel
theorem dX2_takeAway_34 : decode cX2_takeAway 34 = .ok (.lsub, 1) := by decide +kernel
theorem dX2_takeAway_35 : decode cX2_takeAway 35 = .ok (.lload 5, 2) := by decide +kernel
theorem dX2_takeAway_37 : decode cX2_takeAway 37 = .ok (.ladd, 1) := by decide +kernel
theorem dX2_takeAway_38 : decode cX2_takeAway 38 = .ok (.lstore 8, 2) := by decide +kernel
theorem dX2_takeAway_40 : decode cX2_takeAway 40 = .ok (.lload 8, 2) := by decide +kernel
theorem dX2_takeAway_42 : decode cX2_takeAway 42 = .ok (.ldc2_w 21, 3) := by decide +kernel
theorem dX2_takeAway_45 : decode cX2_takeAway 45 = .ok (.invokestatic 48, 3) := by decide +kernel
theorem dX2_takeAway_48 : decode cX2_takeAway 48 = .ok (.lstore 5, 2) := by decide +kernel
theorem dX2_takeAway_50 : decode cX2_takeAway 50 = .ok (.aload_n 0, 1) := by decide +kernel
theorem dX2_takeAway_51 : decode cX2_takeAway 51 = .ok (.getfield 9, 3) := by decide +kernel
theorem dX2_takeAway_54 : decode cX2_takeAway 54 = .ok (.iload 4, 2) := by decide +kernel
theorem dX2_takeAway_56 : decode cX2_takeAway 56 = .ok (.iload 7, 2) := by decide +kernel
theorem dX2_takeAway_58 : decode cX2_takeAway 58 = .ok (.iadd, 1) := by decide +kernel
theorem dX2_takeAway_59 : decode cX2_takeAway 59 = .ok (.lload 8, 2) := by decide +kernel
theorem dX2_takeAway_61 : decode cX2_takeAway 61 = .ok (.lload 5, 2) := by decide +kernel
theorem dX2_takeAway_63 : decode cX2_takeAway 63 = .ok (.ldc2_w 21, 3) := by decide +kernel
theorem dX2_takeAway_66 : decode cX2_takeAway 66 = .ok (.lmul, 1) := by decide +kernel
theorem dX2_takeAway_67 : decode cX2_takeAway 67 = .ok (.lsub, 1) := by decide +kernel
theorem dX2_takeAway_68 : decode cX2_takeAway 68 = .ok (.l2i, 1) := by decide +kernel
theorem dX2_takeAway_69 : decode cX2_takeAway 69 = .ok (.iastore, 1) := by decide +kernel
theorem dX2_takeAway_70 : decode cX2_takeAway 70 = .ok (.iinc 7 1, 3) := by decide +kernel
theorem dX2_takeAway_73 : decode cX2_takeAway 73 = .ok (.goto (-67), 3) := by decide +kernel
theorem dX2_takeAway_76 : decode cX2_takeAway 76 = .ok (.return_, 1) := by decide +kernel
theorem dX2_turnOver_0 : decode cX2_turnOver 0 = .ok (.lconst 1, 1) := by decide +kernel
theorem dX2_turnOver_1 : decode cX2_turnOver 1 = .ok (.lstore_n 2, 1) := by decide +kernel
theorem dX2_turnOver_2 : decode cX2_turnOver 2 = .ok (.iconst 0, 1) := by decide +kernel
theorem dX2_turnOver_3 : decode cX2_turnOver 3 = .ok (.istore 4, 2) := by decide +kernel
theorem dX2_turnOver_5 : decode cX2_turnOver 5 = .ok (.iload 4, 2) := by decide +kernel
theorem dX2_turnOver_7 : decode cX2_turnOver 7 = .ok (.iload_n 1, 1) := by decide +kernel
theorem dX2_turnOver_8 : decode cX2_turnOver 8 = .ok (.if_icmp .ge 60, 3) := by decide +kernel
theorem dX2_turnOver_11 : decode cX2_turnOver 11 = .ok (.ldc2_w 80, 3) := by decide +kernel
theorem dX2_turnOver_14 : decode cX2_turnOver 14 = .ok (.aload_n 0, 1) := by decide +kernel
theorem dX2_turnOver_15 : decode cX2_turnOver 15 = .ok (.getfield 9, 3) := by decide +kernel
theorem dX2_turnOver_18 : decode cX2_turnOver 18 = .ok (.iload 4, 2) := by decide +kernel
theorem dX2_turnOver_20 : decode cX2_turnOver 20 = .ok (.iaload, 1) := by decide +kernel
theorem dX2_turnOver_21 : decode cX2_turnOver 21 = .ok (.i2l, 1) := by decide +kernel
theorem dX2_turnOver_22 : decode cX2_turnOver 22 = .ok (.lsub, 1) := by decide +kernel
theorem dX2_turnOver_23 : decode cX2_turnOver 23 = .ok (.lload_n 2, 1) := by decide +kernel
theorem dX2_turnOver_24 : decode cX2_turnOver 24 = .ok (.ladd, 1) := by decide +kernel
theorem dX2_turnOver_25 : decode cX2_turnOver 25 = .ok (.lstore 5, 2) := by decide +kernel
theorem dX2_turnOver_27 : decode cX2_turnOver 27 = .ok (.lload 5, 2) := by decide +kernel
theorem dX2_turnOver_29 : decode cX2_turnOver 29 = .ok (.ldc2_w 21, 3) := by decide +kernel
theorem dX2_turnOver_32 : decode cX2_turnOver 32 = .ok (.lcmp, 1) := by decide +kernel
theorem dX2_turnOver_33 : decode cX2_turnOver 33 = .ok (.ifCond .lt 7, 3) := by decide +kernel
theorem dX2_turnOver_36 : decode cX2_turnOver 36 = .ok (.lconst 1, 1) := by decide +kernel
theorem dX2_turnOver_37 : decode cX2_turnOver 37 = .ok (.goto 4, 3) := by decide +kernel
theorem dX2_turnOver_40 : decode cX2_turnOver 40 = .ok (.lconst 0, 1) := by decide +kernel
theorem dX2_turnOver_41 : decode cX2_turnOver 41 = .ok (.lstore_n 2, 1) := by decide +kernel
theorem dX2_turnOver_42 : decode cX2_turnOver 42 = .ok (.aload_n 0, 1) := by decide +kernel
theorem dX2_turnOver_43 : decode cX2_turnOver 43 = .ok (.getfield 9, 3) := by decide +kernel
theorem dX2_turnOver_46 : decode cX2_turnOver 46 = .ok (.iload 4, 2) := by decide +kernel
theorem dX2_turnOver_48 : decode cX2_turnOver 48 = .ok (.lload_n 2, 1) := by decide +kernel
theorem dX2_turnOver_49 : decode cX2_turnOver 49 = .ok (.lconst 0, 1) := by decide +kernel
theorem dX2_turnOver_50 : decode cX2_turnOver 50 = .ok (.lcmp, 1) := by decide +kernel
theorem dX2_turnOver_51 : decode cX2_turnOver 51 = .ok (.ifCond .le 7, 3) := by decide +kernel
theorem dX2_turnOver_54 : decode cX2_turnOver 54 = .ok (.lconst 0, 1) := by decide +kernel
theorem dX2_turnOver_55 : decode cX2_turnOver 55 = .ok (.goto 5, 3) := by decide +kernel
theorem dX2_turnOver_58 : decode cX2_turnOver 58 = .ok (.lload 5, 2) := by decide +kernel
theorem dX2_turnOver_60 : decode cX2_turnOver 60 = .ok (.l2i, 1) := by decide +kernel
theorem dX2_turnOver_61 : decode cX2_turnOver 61 = .ok (.iastore, 1) := by decide +kernel
theorem dX2_turnOver_62 : decode cX2_turnOver 62 = .ok (.iinc 4 1, 3) := by decide +kernel
theorem dX2_turnOver_65 : decode cX2_turnOver 65 = .ok (.goto (-60), 3) := by decide +kernel
theorem dX2_turnOver_68 : decode cX2_turnOver 68 = .ok (.aload_n 0, 1) := by decide +kernel
theorem dX2_turnOver_69 : decode cX2_turnOver 69 = .ok (.aload_n 0, 1) := by decide +kernel
theorem dX2_turnOver_70 : decode cX2_turnOver 70 = .ok (.getfield 23, 3) := by decide +kernel
theorem dX2_turnOver_73 : decode cX2_turnOver 73 = .ok (.ineg, 1) := by decide +kernel
theorem dX2_turnOver_74 : decode cX2_turnOver 74 = .ok (.putfield 23, 3) := by decide +kernel
theorem dX2_turnOver_77 : decode cX2_turnOver 77 = .ok (.return_, 1) := by decide +kernel
theorem dX2_makeRoom_0 : decode cX2_makeRoom 0 = .ok (.iload_n 1, 1) := by decide +kernel
theorem dX2_makeRoom_1 : decode cX2_makeRoom 1 = .ok (.aload_n 0, 1) := by decide +kernel
theorem dX2_makeRoom_2 : decode cX2_makeRoom 2 = .ok (.getfield 9, 3) := by decide +kernel
theorem dX2_makeRoom_5 : decode cX2_makeRoom 5 = .ok (.arraylength, 1) := by decide +kernel
theorem dX2_makeRoom_6 : decode cX2_makeRoom 6 = .ok (.if_icmp .le 17, 3) := by decide +kernel
theorem dX2_makeRoom_9 : decode cX2_makeRoom 9 = .ok (.aload_n 0, 1) := by decide +kernel
theorem dX2_makeRoom_10 : decode cX2_makeRoom 10 = .ok (.aload_n 0, 1) := by decide +kernel
theorem dX2_makeRoom_11 : decode cX2_makeRoom 11 = .ok (.getfield 9, 3) := by decide +kernel
theorem dX2_makeRoom_14 : decode cX2_makeRoom 14 = .ok (.iconst 2, 1) := by decide +kernel
theorem dX2_makeRoom_15 : decode cX2_makeRoom 15 = .ok (.iload_n 1, 1) := by decide +kernel
theorem dX2_makeRoom_16 : decode cX2_makeRoom 16 = .ok (.imul, 1) := by decide +kernel
theorem dX2_makeRoom_17 : decode cX2_makeRoom 17 = .ok (.invokestatic 82, 3) := by decide +kernel
theorem dX2_makeRoom_20 : decode cX2_makeRoom 20 = .ok (.putfield 9, 3) := by decide +kernel
theorem dX2_makeRoom_23 : decode cX2_makeRoom 23 = .ok (.iload_n 1, 1) := by decide +kernel
