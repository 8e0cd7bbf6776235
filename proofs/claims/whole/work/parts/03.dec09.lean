theorem dX9_digit_341 : decode cX9_digit 341 = .ok (.lconst 1, 1) := by decide +kernel
theorem dX9_digit_342 : decode cX9_digit 342 = .ok (.lsub, 1) := by decide +kernel
theorem dX9_digit_343 : decode cX9_digit 343 = .ok (.lreturn, 1) := by decide +kernel
theorem dX9_reduce_0 : decode cX9_reduce 0 = .ok (.aload_n 0, 1) := by decide +kernel
theorem dX9_reduce_1 : decode cX9_reduce 1 = .ok (.getfield 47, 3) := by decide +kernel
theorem dX9_reduce_4 : decode cX9_reduce 4 = .ok (.iconst 1, 1) := by decide +kernel
theorem dX9_reduce_5 : decode cX9_reduce 5 = .ok (.iaload, 1) := by decide +kernel
theorem dX9_reduce_6 : decode cX9_reduce 6 = .ok (.ifCond .ge 23, 3) := by decide +kernel
theorem dX9_reduce_9 : decode cX9_reduce 9 = .ok (.aload_n 0, 1) := by decide +kernel
theorem dX9_reduce_10 : decode cX9_reduce 10 = .ok (.getfield 47, 3) := by decide +kernel
theorem dX9_reduce_13 : decode cX9_reduce 13 = .ok (.iconst 0, 1) := by decide +kernel
theorem dX9_reduce_14 : decode cX9_reduce 14 = .ok (.aload_n 0, 1) := by decide +kernel
theorem dX9_reduce_15 : decode cX9_reduce 15 = .ok (.getfield 47, 3) := by decide +kernel
theorem dX9_reduce_18 : decode cX9_reduce 18 = .ok (.iconst 0, 1) := by decide +kernel
theorem dX9_reduce_19 : decode cX9_reduce 19 = .ok (.iaload, 1) := by decide +kernel
theorem dX9_reduce_20 : decode cX9_reduce 20 = .ok (.ineg, 1) := by decide +kernel
theorem dX9_reduce_21 : decode cX9_reduce 21 = .ok (.iastore, 1) := by decide +kernel
theorem dX9_reduce_22 : decode cX9_reduce 22 = .ok (.aload_n 0, 1) := by decide +kernel
theorem dX9_reduce_23 : decode cX9_reduce 23 = .ok (.getfield 47, 3) := by decide +kernel
theorem dX9_reduce_26 : decode cX9_reduce 26 = .ok (.iconst 1, 1) := by decide +kernel
theorem dX9_reduce_27 : decode cX9_reduce 27 = .ok (.iconst 1, 1) := by decide +kernel
theorem dX9_reduce_28 : decode cX9_reduce 28 = .ok (.iastore, 1) := by decide +kernel
theorem dX9_reduce_29 : decode cX9_reduce 29 = .ok (.aload_n 0, 1) := by decide +kernel
theorem dX9_reduce_30 : decode cX9_reduce 30 = .ok (.getfield 47, 3) := by decide +kernel
theorem dX9_reduce_33 : decode cX9_reduce 33 = .ok (.iconst 0, 1) := by decide +kernel
theorem dX9_reduce_34 : decode cX9_reduce 34 = .ok (.iaload, 1) := by decide +kernel
theorem dX9_reduce_35 : decode cX9_reduce 35 = .ok (.istore_n 1, 1) := by decide +kernel
theorem dX9_reduce_36 : decode cX9_reduce 36 = .ok (.iload_n 1, 1) := by decide +kernel
theorem dX9_reduce_37 : decode cX9_reduce 37 = .ok (.ifCond .ne 10, 3) := by decide +kernel
theorem dX9_reduce_40 : decode cX9_reduce 40 = .ok (.aload_n 0, 1) := by decide +kernel
theorem dX9_reduce_41 : decode cX9_reduce 41 = .ok (.iconst 1, 1) := by decide +kernel
theorem dX9_reduce_42 : decode cX9_reduce 42 = .ok (.lconst 1, 1) := by decide +kernel
theorem dX9_reduce_43 : decode cX9_reduce 43 = .ok (.invokevirtual 121, 3) := by decide +kernel
theorem dX9_reduce_46 : decode cX9_reduce 46 = .ok (.return_, 1) := by decide +kernel
theorem dX9_reduce_47 : decode cX9_reduce 47 = .ok (.aload_n 0, 1) := by decide +kernel
theorem dX9_reduce_48 : decode cX9_reduce 48 = .ok (.iconst 0, 1) := by decide +kernel
theorem dX9_reduce_49 : decode cX9_reduce 49 = .ok (.bipush 11, 2) := by decide +kernel
theorem dX9_reduce_51 : decode cX9_reduce 51 = .ok (.invokevirtual 107, 3) := by decide +kernel
theorem dX9_reduce_54 : decode cX9_reduce 54 = .ok (.aload_n 0, 1) := by decide +kernel
theorem dX9_reduce_55 : decode cX9_reduce 55 = .ok (.iconst 1, 1) := by decide +kernel
theorem dX9_reduce_56 : decode cX9_reduce 56 = .ok (.bipush 12, 2) := by decide +kernel
theorem dX9_reduce_58 : decode cX9_reduce 58 = .ok (.invokevirtual 107, 3) := by decide +kernel
theorem dX9_reduce_61 : decode cX9_reduce 61 = .ok (.aload_n 0, 1) := by decide +kernel
theorem dX9_reduce_62 : decode cX9_reduce 62 = .ok (.getfield 47, 3) := by decide +kernel
theorem dX9_reduce_65 : decode cX9_reduce 65 = .ok (.bipush 12, 2) := by decide +kernel
theorem dX9_reduce_67 : decode cX9_reduce 67 = .ok (.iaload, 1) := by decide +kernel
theorem dX9_reduce_68 : decode cX9_reduce 68 = .ok (.ifCond .eq 40, 3) := by decide +kernel
theorem dX9_reduce_71 : decode cX9_reduce 71 = .ok (.aload_n 0, 1) := by decide +kernel
theorem dX9_reduce_72 : decode cX9_reduce 72 = .ok (.bipush 11, 2) := by decide +kernel
theorem dX9_reduce_74 : decode cX9_reduce 74 = .ok (.bipush 12, 2) := by decide +kernel
theorem dX9_reduce_76 : decode cX9_reduce 76 = .ok (.bipush 13, 2) := by decide +kernel
theorem dX9_reduce_78 : decode cX9_reduce 78 = .ok (.invokevirtual 136, 3) := by decide +kernel
theorem dX9_reduce_81 : decode cX9_reduce 81 = .ok (.aload_n 0, 1) := by decide +kernel
theorem dX9_reduce_82 : decode cX9_reduce 82 = .ok (.bipush 11, 2) := by decide +kernel
theorem dX9_reduce_84 : decode cX9_reduce 84 = .ok (.bipush 14, 2) := by decide +kernel
theorem dX9_reduce_86 : decode cX9_reduce 86 = .ok (.invokevirtual 107, 3) := by decide +kernel
theorem dX9_reduce_89 : decode cX9_reduce 89 = .ok (.aload_n 0, 1) := by decide +kernel
theorem dX9_reduce_90 : decode cX9_reduce 90 = .ok (.bipush 12, 2) := by decide +kernel
theorem dX9_reduce_92 : decode cX9_reduce 92 = .ok (.bipush 11, 2) := by decide +kernel
theorem dX9_reduce_94 : decode cX9_reduce 94 = .ok (.invokevirtual 107, 3) := by decide +kernel
theorem dX9_reduce_97 : decode cX9_reduce 97 = .ok (.aload_n 0, 1) := by decide +kernel
theorem dX9_reduce_98 : decode cX9_reduce 98 = .ok (.bipush 14, 2) := by decide +kernel
theorem dX9_reduce_100 : decode cX9_reduce 100 = .ok (.bipush 12, 2) := by decide +kernel
theorem dX9_reduce_102 : decode cX9_reduce 102 = .ok (.invokevirtual 107, 3) := by decide +kernel
theorem dX9_reduce_105 : decode cX9_reduce 105 = .ok (.goto (-44), 3) := by decide +kernel
theorem dX9_reduce_108 : decode cX9_reduce 108 = .ok (.iconst 0, 1) := by decide +kernel
theorem dX9_reduce_109 : decode cX9_reduce 109 = .ok (.istore_n 2, 1) := by decide +kernel
theorem dX9_reduce_110 : decode cX9_reduce 110 = .ok (.iload_n 2, 1) := by decide +kernel
theorem dX9_reduce_111 : decode cX9_reduce 111 = .ok (.iconst 2, 1) := by decide +kernel
theorem dX9_reduce_112 : decode cX9_reduce 112 = .ok (.if_icmp .ge 40, 3) := by decide +kernel
theorem dX9_reduce_115 : decode cX9_reduce 115 = .ok (.aload_n 0, 1) := by decide +kernel
theorem dX9_reduce_116 : decode cX9_reduce 116 = .ok (.iload_n 2, 1) := by decide +kernel
theorem dX9_reduce_117 : decode cX9_reduce 117 = .ok (.bipush 14, 2) := by decide +kernel
theorem dX9_reduce_119 : decode cX9_reduce 119 = .ok (.invokevirtual 107, 3) := by decide +kernel
theorem dX9_reduce_122 : decode cX9_reduce 122 = .ok (.aload_n 0, 1) := by decide +kernel
theorem dX9_reduce_123 : decode cX9_reduce 123 = .ok (.bipush 14, 2) := by decide +kernel
theorem dX9_reduce_125 : decode cX9_reduce 125 = .ok (.bipush 11, 2) := by decide +kernel
theorem dX9_reduce_127 : decode cX9_reduce 127 = .ok (.bipush 13, 2) := by decide +kernel
theorem dX9_reduce_129 : decode cX9_reduce 129 = .ok (.invokevirtual 136, 3) := by decide +kernel
theorem dX9_reduce_132 : decode cX9_reduce 132 = .ok (.aload_n 0, 1) := by decide +kernel
theorem dX9_reduce_133 : decode cX9_reduce 133 = .ok (.bipush 13, 2) := by decide +kernel
theorem dX9_reduce_135 : decode cX9_reduce 135 = .ok (.iload_n 2, 1) := by decide +kernel
theorem dX9_reduce_136 : decode cX9_reduce 136 = .ok (.invokevirtual 107, 3) := by decide +kernel
theorem dX9_reduce_139 : decode cX9_reduce 139 = .ok (.aload_n 0, 1) := by decide +kernel
theorem dX9_reduce_140 : decode cX9_reduce 140 = .ok (.getfield 47, 3) := by decide +kernel
theorem dX9_reduce_143 : decode cX9_reduce 143 = .ok (.iload_n 2, 1) := by decide +kernel
theorem dX9_reduce_144 : decode cX9_reduce 144 = .ok (.iconst 1, 1) := by decide +kernel
theorem dX9_reduce_145 : decode cX9_reduce 145 = .ok (.iastore, 1) := by decide +kernel
theorem dX9_reduce_146 : decode cX9_reduce 146 = .ok (.iinc 2 1, 3) := by decide +kernel
theorem dX9_reduce_149 : decode cX9_reduce 149 = .ok (.goto (-39), 3) := by decide +kernel
theorem dX9_reduce_152 : decode cX9_reduce 152 = .ok (.aload_n 0, 1) := by decide +kernel
theorem dX9_reduce_153 : decode cX9_reduce 153 = .ok (.getfield 47, 3) := by decide +kernel
theorem dX9_reduce_156 : decode cX9_reduce 156 = .ok (.iconst 0, 1) := by decide +kernel
theorem dX9_reduce_157 : decode cX9_reduce 157 = .ok (.iload_n 1, 1) := by decide +kernel
theorem dX9_reduce_158 : decode cX9_reduce 158 = .ok (.iastore, 1) := by decide +kernel
theorem dX9_reduce_159 : decode cX9_reduce 159 = .ok (.return_, 1) := by decide +kernel
theorem dX9_tell_0 : decode cX9_tell 0 = .ok (.iload_n 1, 1) := by decide +kernel
theorem dX9_tell_1 : decode cX9_tell 1 = .ok (.iconst (-1), 1) := by decide +kernel
theorem dX9_tell_2 : decode cX9_tell 2 = .ok (.if_icmp .ne 11, 3) := by decide +kernel
theorem dX9_tell_5 : decode cX9_tell 5 = .ok (.aload_n 0, 1) := by decide +kernel
theorem dX9_tell_6 : decode cX9_tell 6 = .ok (.getfield 47, 3) := by decide +kernel
theorem dX9_tell_9 : decode cX9_tell 9 = .ok (.iconst 0, 1) := by decide +kernel
theorem dX9_tell_10 : decode cX9_tell 10 = .ok (.iaload, 1) := by decide +kernel
theorem dX9_tell_11 : decode cX9_tell 11 = .ok (.i2l, 1) := by decide +kernel
theorem dX9_tell_12 : decode cX9_tell 12 = .ok (.lreturn, 1) := by decide +kernel
theorem dX9_tell_13 : decode cX9_tell 13 = .ok (.iload_n 1, 1) := by decide +kernel
theorem dX9_tell_14 : decode cX9_tell 14 = .ok (.iconst 2, 1) := by decide +kernel
theorem dX9_tell_15 : decode cX9_tell 15 = .ok (.irem, 1) := by decide +kernel
theorem dX9_tell_16 : decode cX9_tell 16 = .ok (.istore_n 2, 1) := by decide +kernel
theorem dX9_tell_17 : decode cX9_tell 17 = .ok (.iload_n 1, 1) := by decide +kernel
theorem dX9_tell_18 : decode cX9_tell 18 = .ok (.iconst 2, 1) := by decide +kernel
theorem dX9_tell_19 : decode cX9_tell 19 = .ok (.idiv, 1) := by decide +kernel
theorem dX9_tell_20 : decode cX9_tell 20 = .ok (.iconst 2, 1) := by decide +kernel
theorem dX9_tell_21 : decode cX9_tell 21 = .ok (.imul, 1) := by decide +kernel
theorem dX9_tell_22 : decode cX9_tell 22 = .ok (.istore_n 3, 1) := by decide +kernel
theorem dX9_tell_23 : decode cX9_tell 23 = .ok (.iload_n 3, 1) := by decide +kernel
theorem dX9_tell_24 : decode cX9_tell 24 = .ok (.aload_n 0, 1) := by decide +kernel
theorem dX9_tell_25 : decode cX9_tell 25 = .ok (.getfield 44, 3) := by decide +kernel
theorem dX9_tell_28 : decode cX9_tell 28 = .ok (.iload_n 2, 1) := by decide +kernel
theorem dX9_tell_29 : decode cX9_tell 29 = .ok (.iaload, 1) := by decide +kernel
theorem dX9_tell_30 : decode cX9_tell 30 = .ok (.if_icmp .ge 19, 3) := by decide +kernel
theorem dX9_tell_33 : decode cX9_tell 33 = .ok (.aload_n 0, 1) := by decide +kernel
theorem dX9_tell_34 : decode cX9_tell 34 = .ok (.getfield 41, 3) := by decide +kernel
theorem dX9_tell_37 : decode cX9_tell 37 = .ok (.sipush 400, 3) := by decide +kernel
theorem dX9_tell_40 : decode cX9_tell 40 = .ok (.iload_n 2, 1) := by decide +kernel
theorem dX9_tell_41 : decode cX9_tell 41 = .ok (.imul, 1) := by decide +kernel
theorem dX9_tell_42 : decode cX9_tell 42 = .ok (.iload_n 3, 1) := by decide +kernel
theorem dX9_tell_43 : decode cX9_tell 43 = .ok (.iadd, 1) := by decide +kernel
theorem dX9_tell_44 : decode cX9_tell 44 = .ok (.iaload, 1) := by decide +kernel
theorem dX9_tell_45 : decode cX9_tell 45 = .ok (.i2l, 1) := by decide +kernel
theorem dX9_tell_46 : decode cX9_tell 46 = .ok (.goto 4, 3) := by decide +kernel
theorem dX9_tell_49 : decode cX9_tell 49 = .ok (.lconst 0, 1) := by decide +kernel
theorem dX9_tell_50 : decode cX9_tell 50 = .ok (.lstore 4, 2) := by decide +kernel
theorem dX9_tell_52 : decode cX9_tell 52 = .ok (.lload 4, 2) := by decide +kernel
theorem dX9_tell_54 : decode cX9_tell 54 = .ok (.iload_n 3, 1) := by decide +kernel
theorem dX9_tell_55 : decode cX9_tell 55 = .ok (.iconst 1, 1) := by decide +kernel
theorem dX9_tell_56 : decode cX9_tell 56 = .ok (.iadd, 1) := by decide +kernel
theorem dX9_tell_57 : decode cX9_tell 57 = .ok (.aload_n 0, 1) := by decide +kernel
theorem dX9_tell_58 : decode cX9_tell 58 = .ok (.getfield 44, 3) := by decide +kernel
theorem dX9_tell_61 : decode cX9_tell 61 = .ok (.iload_n 2, 1) := by decide +kernel
theorem dX9_tell_62 : decode cX9_tell 62 = .ok (.iaload, 1) := by decide +kernel
theorem dX9_tell_63 : decode cX9_tell 63 = .ok (.if_icmp .ge 25, 3) := by decide +kernel
theorem dX9_tell_66 : decode cX9_tell 66 = .ok (.aload_n 0, 1) := by decide +kernel
theorem dX9_tell_67 : decode cX9_tell 67 = .ok (.getfield 41, 3) := by decide +kernel
theorem dX9_tell_70 : decode cX9_tell 70 = .ok (.sipush 400, 3) := by decide +kernel
theorem dX9_tell_73 : decode cX9_tell 73 = .ok (.iload_n 2, 1) := by decide +kernel
theorem dX9_tell_74 : decode cX9_tell 74 = .ok (.imul, 1) := by decide +kernel
theorem dX9_tell_75 : decode cX9_tell 75 = .ok (.iload_n 3, 1) := by decide +kernel
theorem dX9_tell_76 : decode cX9_tell 76 = .ok (.iadd, 1) := by decide +kernel
theorem dX9_tell_77 : decode cX9_tell 77 = .ok (.iconst 1, 1) := by decide +kernel
theorem dX9_tell_78 : decode cX9_tell 78 = .ok (.iadd, 1) := by decide +kernel
theorem dX9_tell_79 : decode cX9_tell 79 = .ok (.iaload, 1) := by decide +kernel
theorem dX9_tell_80 : decode cX9_tell 80 = .ok (.i2l, 1) := by decide +kernel
theorem dX9_tell_81 : decode cX9_tell 81 = .ok (.ldc2_w 100, 3) := by decide +kernel
theorem dX9_tell_84 : decode cX9_tell 84 = .ok (.lmul, 1) := by decide +kernel
theorem dX9_tell_85 : decode cX9_tell 85 = .ok (.goto 4, 3) := by decide +kernel
theorem dX9_tell_88 : decode cX9_tell 88 = .ok (.lconst 0, 1) := by decide +kernel
theorem dX9_tell_89 : decode cX9_tell 89 = .ok (.ladd, 1) := by decide +kernel
theorem dX9_tell_90 : decode cX9_tell 90 = .ok (.lreturn, 1) := by decide +kernel
theorem dX9_load_0 : decode cX9_load 0 = .ok (.iconst 0, 1) := by decide +kernel
theorem dX9_load_1 : decode cX9_load 1 = .ok (.istore_n 3, 1) := by decide +kernel
theorem dX9_load_2 : decode cX9_load 2 = .ok (.iload_n 3, 1) := by decide +kernel
theorem dX9_load_3 : decode cX9_load 3 = .ok (.aload_n 0, 1) := by decide +kernel
theorem dX9_load_4 : decode cX9_load 4 = .ok (.getfield 53, 3) := by decide +kernel
theorem dX9_load_7 : decode cX9_load 7 = .ok (.iload_n 1, 1) := by decide +kernel
theorem dX9_load_8 : decode cX9_load 8 = .ok (.iaload, 1) := by decide +kernel
theorem dX9_load_9 : decode cX9_load 9 = .ok (.if_icmp .ge 32, 3) := by decide +kernel
theorem dX9_load_12 : decode cX9_load 12 = .ok (.aload_n 0, 1) := by decide +kernel
theorem dX9_load_13 : decode cX9_load 13 = .ok (.getfield 41, 3) := by decide +kernel
theorem dX9_load_16 : decode cX9_load 16 = .ok (.sipush 400, 3) := by decide +kernel
theorem dX9_load_19 : decode cX9_load 19 = .ok (.iload_n 2, 1) := by decide +kernel
theorem dX9_load_20 : decode cX9_load 20 = .ok (.imul, 1) := by decide +kernel
theorem dX9_load_21 : decode cX9_load 21 = .ok (.iload_n 3, 1) := by decide +kernel
theorem dX9_load_22 : decode cX9_load 22 = .ok (.iadd, 1) := by decide +kernel
theorem dX9_load_23 : decode cX9_load 23 = .ok (.aload_n 0, 1) := by decide +kernel
theorem dX9_load_24 : decode cX9_load 24 = .ok (.getfield 50, 3) := by decide +kernel
theorem dX9_load_27 : decode cX9_load 27 = .ok (.bipush 24, 2) := by decide +kernel
theorem dX9_load_29 : decode cX9_load 29 = .ok (.iload_n 1, 1) := by decide +kernel
theorem dX9_load_30 : decode cX9_load 30 = .ok (.imul, 1) := by decide +kernel
theorem dX9_load_31 : decode cX9_load 31 = .ok (.iload_n 3, 1) := by decide +kernel
theorem dX9_load_32 : decode cX9_load 32 = .ok (.iadd, 1) := by decide +kernel
theorem dX9_load_33 : decode cX9_load 33 = .ok (.iaload, 1) := by decide +kernel
theorem dX9_load_34 : decode cX9_load 34 = .ok (.iastore, 1) := by decide +kernel
theorem dX9_load_35 : decode cX9_load 35 = .ok (.iinc 3 1, 3) := by decide +kernel
theorem dX9_load_38 : decode cX9_load 38 = .ok (.goto (-36), 3) := by decide +kernel
theorem dX9_load_41 : decode cX9_load 41 = .ok (.aload_n 0, 1) := by decide +kernel
theorem dX9_load_42 : decode cX9_load 42 = .ok (.getfield 44, 3) := by decide +kernel
theorem dX9_load_45 : decode cX9_load 45 = .ok (.iload_n 2, 1) := by decide +kernel
theorem dX9_load_46 : decode cX9_load 46 = .ok (.aload_n 0, 1) := by decide +kernel
theorem dX9_load_47 : decode cX9_load 47 = .ok (.getfield 53, 3) := by decide +kernel
theorem dX9_load_50 : decode cX9_load 50 = .ok (.iload_n 1, 1) := by decide +kernel
theorem dX9_load_51 : decode cX9_load 51 = .ok (.iaload, 1) := by decide +kernel
theorem dX9_load_52 : decode cX9_load 52 = .ok (.iastore, 1) := by decide +kernel
theorem dX9_load_53 : decode cX9_load 53 = .ok (.aload_n 0, 1) := by decide +kernel
theorem dX9_load_54 : decode cX9_load 54 = .ok (.getfield 47, 3) := by decide +kernel
theorem dX9_load_57 : decode cX9_load 57 = .ok (.iload_n 2, 1) := by decide +kernel
theorem dX9_load_58 : decode cX9_load 58 = .ok (.aload_n 0, 1) := by decide +kernel
theorem dX9_load_59 : decode cX9_load 59 = .ok (.getfield 56, 3) := by decide +kernel
theorem dX9_load_62 : decode cX9_load 62 = .ok (.iload_n 1, 1) := by decide +kernel
theorem dX9_load_63 : decode cX9_load 63 = .ok (.iaload, 1) := by decide +kernel
theorem dX9_load_64 : decode cX9_load 64 = .ok (.iastore, 1) := by decide +kernel
theorem dX9_load_65 : decode cX9_load 65 = .ok (.return_, 1) := by decide +kernel
theorem dX9_store_0 : decode cX9_store 0 = .ok (.iconst 0, 1) := by decide +kernel
theorem dX9_store_1 : decode cX9_store 1 = .ok (.istore_n 3, 1) := by decide +kernel
theorem dX9_store_2 : decode cX9_store 2 = .ok (.iload_n 3, 1) := by decide +kernel
theorem dX9_store_3 : decode cX9_store 3 = .ok (.aload_n 0, 1) := by decide +kernel
theorem dX9_store_4 : decode cX9_store 4 = .ok (.getfield 44, 3) := by decide +kernel
theorem dX9_store_7 : decode cX9_store 7 = .ok (.iload_n 1, 1) := by decide +kernel
theorem dX9_store_8 : decode cX9_store 8 = .ok (.iaload, 1) := by decide +kernel
theorem dX9_store_9 : decode cX9_store 9 = .ok (.if_icmp .ge 32, 3) := by decide +kernel
theorem dX9_store_12 : decode cX9_store 12 = .ok (.aload_n 0, 1) := by decide +kernel
theorem dX9_store_13 : decode cX9_store 13 = .ok (.getfield 50, 3) := by decide +kernel
theorem dX9_store_16 : decode cX9_store 16 = .ok (.bipush 24, 2) := by decide +kernel
theorem dX9_store_18 : decode cX9_store 18 = .ok (.iload_n 2, 1) := by decide +kernel
theorem dX9_store_19 : decode cX9_store 19 = .ok (.imul, 1) := by decide +kernel
theorem dX9_store_20 : decode cX9_store 20 = .ok (.iload_n 3, 1) := by decide +kernel
theorem dX9_store_21 : decode cX9_store 21 = .ok (.iadd, 1) := by decide +kernel
theorem dX9_store_22 : decode cX9_store 22 = .ok (.aload_n 0, 1) := by decide +kernel
theorem dX9_store_23 : decode cX9_store 23 = .ok (.getfield 41, 3) := by decide +kernel
theorem dX9_store_26 : decode cX9_store 26 = .ok (.sipush 400, 3) := by decide +kernel
theorem dX9_store_29 : decode cX9_store 29 = .ok (.iload_n 1, 1) := by decide +kernel
theorem dX9_store_30 : decode cX9_store 30 = .ok (.imul, 1) := by decide +kernel
theorem dX9_store_31 : decode cX9_store 31 = .ok (.iload_n 3, 1) := by decide +kernel
theorem dX9_store_32 : decode cX9_store 32 = .ok (.iadd, 1) := by decide +kernel
theorem dX9_store_33 : decode cX9_store 33 = .ok (.iaload, 1) := by decide +kernel
theorem dX9_store_34 : decode cX9_store 34 = .ok (.iastore, 1) := by decide +kernel
theorem dX9_store_35 : decode cX9_store 35 = .ok (.iinc 3 1, 3) := by decide +kernel
theorem dX9_store_38 : decode cX9_store 38 = .ok (.goto (-36), 3) := by decide +kernel
theorem dX9_store_41 : decode cX9_store 41 = .ok (.aload_n 0, 1) := by decide +kernel
theorem dX9_store_42 : decode cX9_store 42 = .ok (.getfield 53, 3) := by decide +kernel
theorem dX9_store_45 : decode cX9_store 45 = .ok (.iload_n 2, 1) := by decide +kernel
theorem dX9_store_46 : decode cX9_store 46 = .ok (.aload_n 0, 1) := by decide +kernel
theorem dX9_store_47 : decode cX9_store 47 = .ok (.getfield 44, 3) := by decide +kernel
theorem dX9_store_50 : decode cX9_store 50 = .ok (.iload_n 1, 1) := by decide +kernel
theorem dX9_store_51 : decode cX9_store 51 = .ok (.iaload, 1) := by decide +kernel
theorem dX9_store_52 : decode cX9_store 52 = .ok (.iastore, 1) := by decide +kernel
theorem dX9_store_53 : decode cX9_store 53 = .ok (.aload_n 0, 1) := by decide +kernel
theorem dX9_store_54 : decode cX9_store 54 = .ok (.getfield 56, 3) := by decide +kernel
theorem dX9_store_57 : decode cX9_store 57 = .ok (.iload_n 2, 1) := by decide +kernel
theorem dX9_store_58 : decode cX9_store 58 = .ok (.aload_n 0, 1) := by decide +kernel
theorem dX9_store_59 : decode cX9_store 59 = .ok (.getfield 47, 3) := by decide +kernel
theorem dX9_store_62 : decode cX9_store 62 = .ok (.iload_n 1, 1) := by decide +kernel
theorem dX9_store_63 : decode cX9_store 63 = .ok (.iaload, 1) := by decide +kernel
theorem dX9_store_64 : decode cX9_store 64 = .ok (.iastore, 1) := by decide +kernel
theorem dX9_store_65 : decode cX9_store 65 = .ok (.return_, 1) := by decide +kernel
theorem dX9_column_0 : decode cX9_column 0 = .ok (.iconst 4, 1) := by decide +kernel
theorem dX9_column_1 : decode cX9_column 1 = .ok (.aload_n 0, 1) := by decide +kernel
theorem dX9_column_2 : decode cX9_column 2 = .ok (.getfield 93, 3) := by decide +kernel
theorem dX9_column_5 : decode cX9_column 5 = .ok (.imul, 1) := by decide +kernel
theorem dX9_column_6 : decode cX9_column 6 = .ok (.iconst 5, 1) := by decide +kernel
theorem dX9_column_7 : decode cX9_column 7 = .ok (.iload_n 1, 1) := by decide +kernel
theorem dX9_column_8 : decode cX9_column 8 = .ok (.imul, 1) := by decide +kernel
theorem dX9_column_9 : decode cX9_column 9 = .ok (.iadd, 1) := by decide +kernel
theorem dX9_column_10 : decode cX9_column 10 = .ok (.iload_n 2, 1) := by decide +kernel
theorem dX9_column_11 : decode cX9_column 11 = .ok (.iadd, 1) := by decide +kernel
theorem dX9_column_12 : decode cX9_column 12 = .ok (.ireturn, 1) := by decide +kernel
theorem dX9_settling_0 : decode cX9_settling 0 = .ok (.bipush 9, 2) := by decide +kernel
theorem dX9_settling_2 : decode cX9_settling 2 = .ok (.aload_n 0, 1) := by decide +kernel
theorem dX9_settling_3 : decode cX9_settling 3 = .ok (.getfield 93, 3) := by decide +kernel
theorem dX9_settling_6 : decode cX9_settling 6 = .ok (.imul, 1) := by decide +kernel
theorem dX9_settling_7 : decode cX9_settling 7 = .ok (.ireturn, 1) := by decide +kernel
theorem dX9_term_0 : decode cX9_term 0 = .ok (.aload_n 0, 1) := by decide +kernel
theorem dX9_term_1 : decode cX9_term 1 = .ok (.getfield 59, 3) := by decide +kernel
theorem dX9_term_4 : decode cX9_term 4 = .ok (.bipush 28, 2) := by decide +kernel
theorem dX9_term_6 : decode cX9_term 6 = .ok (.aload_n 0, 1) := by decide +kernel
theorem dX9_term_7 : decode cX9_term 7 = .ok (.getfield 139, 3) := by decide +kernel
theorem dX9_term_10 : decode cX9_term 10 = .ok (.imul, 1) := by decide +kernel
theorem dX9_term_11 : decode cX9_term 11 = .ok (.iload_n 1, 1) := by decide +kernel
theorem dX9_term_12 : decode cX9_term 12 = .ok (.iadd, 1) := by decide +kernel
theorem dX9_term_13 : decode cX9_term 13 = .ok (.dup2, 1) := by decide +kernel
theorem dX9_term_14 : decode cX9_term 14 = .ok (.laload, 1) := by decide +kernel
theorem dX9_term_15 : decode cX9_term 15 = .ok (.lload_n 2, 1) := by decide +kernel
theorem dX9_term_16 : decode cX9_term 16 = .ok (.ladd, 1) := by decide +kernel
theorem dX9_term_17 : decode cX9_term 17 = .ok (.lastore, 1) := by decide +kernel
theorem dX9_term_18 : decode cX9_term 18 = .ok (.return_, 1) := by decide +kernel
theorem dX9_loads_0 : decode cX9_loads 0 = .ok (.iconst 1, 1) := by decide +kernel
theorem dX9_loads_1 : decode cX9_loads 1 = .ok (.istore 5, 2) := by decide +kernel
theorem dX9_loads_3 : decode cX9_loads 3 = .ok (.iload 5, 2) := by decide +kernel
theorem dX9_loads_5 : decode cX9_loads 5 = .ok (.iconst 4, 1) := by decide +kernel
theorem dX9_loads_6 : decode cX9_loads 6 = .ok (.if_icmp .ge 94, 3) := by decide +kernel
theorem dX9_loads_9 : decode cX9_loads 9 = .ok (.aload_n 0, 1) := by decide +kernel
theorem dX9_loads_10 : decode cX9_loads 10 = .ok (.getfield 13, 3) := by decide +kernel
theorem dX9_loads_13 : decode cX9_loads 13 = .ok (.iload_n 1, 1) := by decide +kernel
theorem dX9_loads_14 : decode cX9_loads 14 = .ok (.iaload, 1) := by decide +kernel
theorem dX9_loads_15 : decode cX9_loads 15 = .ok (.i2l, 1) := by decide +kernel
theorem dX9_loads_16 : decode cX9_loads 16 = .ok (.ldc2_w 142, 3) := by decide +kernel
theorem dX9_loads_19 : decode cX9_loads 19 = .ok (.iload 5, 2) := by decide +kernel
theorem dX9_loads_21 : decode cX9_loads 21 = .ok (.i2l, 1) := by decide +kernel
theorem dX9_loads_22 : decode cX9_loads 22 = .ok (.lsub, 1) := by decide +kernel
theorem dX9_loads_23 : decode cX9_loads 23 = .ok (.lmul, 1) := by decide +kernel
theorem dX9_loads_24 : decode cX9_loads 24 = .ok (.lstore 6, 2) := by decide +kernel
theorem dX9_loads_26 : decode cX9_loads 26 = .ok (.iload_n 2, 1) := by decide +kernel
theorem dX9_loads_27 : decode cX9_loads 27 = .ok (.ifCond .ne 7, 3) := by decide +kernel
theorem dX9_loads_30 : decode cX9_loads 30 = .ok (.lconst 1, 1) := by decide +kernel
theorem dX9_loads_31 : decode cX9_loads 31 = .ok (.goto 34, 3) := by decide +kernel
theorem dX9_loads_34 : decode cX9_loads 34 = .ok (.iload_n 2, 1) := by decide +kernel
theorem dX9_loads_35 : decode cX9_loads 35 = .ok (.iconst 1, 1) := by decide +kernel
theorem dX9_loads_36 : decode cX9_loads 36 = .ok (.if_icmp .ne 8, 3) := by decide +kernel
theorem dX9_loads_39 : decode cX9_loads 39 = .ok (.lload 6, 2) := by decide +kernel
theorem dX9_loads_41 : decode cX9_loads 41 = .ok (.goto 24, 3) := by decide +kernel
theorem dX9_loads_44 : decode cX9_loads 44 = .ok (.iload_n 2, 1) := by decide +kernel
theorem dX9_loads_45 : decode cX9_loads 45 = .ok (.iconst 2, 1) := by decide +kernel
theorem dX9_loads_46 : decode cX9_loads 46 = .ok (.if_icmp .ne 11, 3) := by decide +kernel
theorem dX9_loads_49 : decode cX9_loads 49 = .ok (.lload 6, 2) := by decide +kernel
theorem dX9_loads_51 : decode cX9_loads 51 = .ok (.lload 6, 2) := by decide +kernel
theorem dX9_loads_53 : decode cX9_loads 53 = .ok (.lmul, 1) := by decide +kernel
theorem dX9_loads_54 : decode cX9_loads 54 = .ok (.goto 11, 3) := by decide +kernel
theorem dX9_loads_57 : decode cX9_loads 57 = .ok (.lload 6, 2) := by decide +kernel
theorem dX9_loads_59 : decode cX9_loads 59 = .ok (.lload 6, 2) := by decide +kernel
theorem dX9_loads_61 : decode cX9_loads 61 = .ok (.lmul, 1) := by decide +kernel
theorem dX9_loads_62 : decode cX9_loads 62 = .ok (.lload 6, 2) := by decide +kernel
theorem dX9_loads_64 : decode cX9_loads 64 = .ok (.lmul, 1) := by decide +kernel
theorem dX9_loads_65 : decode cX9_loads 65 = .ok (.lstore 8, 2) := by decide +kernel
theorem dX9_loads_67 : decode cX9_loads 67 = .ok (.aload_n 0, 1) := by decide +kernel
theorem dX9_loads_68 : decode cX9_loads 68 = .ok (.getfield 59, 3) := by decide +kernel
theorem dX9_loads_71 : decode cX9_loads 71 = .ok (.bipush 28, 2) := by decide +kernel
theorem dX9_loads_73 : decode cX9_loads 73 = .ok (.aload_n 0, 1) := by decide +kernel
theorem dX9_loads_74 : decode cX9_loads 74 = .ok (.getfield 139, 3) := by decide +kernel
theorem dX9_loads_77 : decode cX9_loads 77 = .ok (.imul, 1) := by decide +kernel
theorem dX9_loads_78 : decode cX9_loads 78 = .ok (.aload_n 0, 1) := by decide +kernel
theorem dX9_loads_79 : decode cX9_loads 79 = .ok (.iload_n 1, 1) := by decide +kernel
theorem dX9_loads_80 : decode cX9_loads 80 = .ok (.iload 5, 2) := by decide +kernel
theorem dX9_loads_82 : decode cX9_loads 82 = .ok (.invokevirtual 144, 3) := by decide +kernel
theorem dX9_loads_85 : decode cX9_loads 85 = .ok (.iadd, 1) := by decide +kernel
theorem dX9_loads_86 : decode cX9_loads 86 = .ok (.dup2, 1) := by decide +kernel
theorem dX9_loads_87 : decode cX9_loads 87 = .ok (.laload, 1) := by decide +kernel
theorem dX9_loads_88 : decode cX9_loads 88 = .ok (.lload_n 3, 1) := by decide +kernel
theorem dX9_loads_89 : decode cX9_loads 89 = .ok (.lload 8, 2) := by decide +kernel
theorem dX9_loads_91 : decode cX9_loads 91 = .ok (.lmul, 1) := by decide +kernel
theorem dX9_loads_92 : decode cX9_loads 92 = .ok (.lsub, 1) := by decide +kernel
theorem dX9_loads_93 : decode cX9_loads 93 = .ok (.lastore, 1) := by decide +kernel
theorem dX9_loads_94 : decode cX9_loads 94 = .ok (.iinc 5 1, 3) := by decide +kernel
theorem dX9_loads_97 : decode cX9_loads 97 = .ok (.goto (-94), 3) := by decide +kernel
theorem dX9_loads_100 : decode cX9_loads 100 = .ok (.return_, 1) := by decide +kernel
theorem dX9_rightMove_0 : decode cX9_rightMove 0 = .ok (.aload_n 0, 1) := by decide +kernel
theorem dX9_rightMove_1 : decode cX9_rightMove 1 = .ok (.getfield 13, 3) := by decide +kernel
theorem dX9_rightMove_4 : decode cX9_rightMove 4 = .ok (.iload_n 1, 1) := by decide +kernel
theorem dX9_rightMove_5 : decode cX9_rightMove 5 = .ok (.iaload, 1) := by decide +kernel
theorem dX9_rightMove_6 : decode cX9_rightMove 6 = .ok (.i2l, 1) := by decide +kernel
theorem dX9_rightMove_7 : decode cX9_rightMove 7 = .ok (.lstore_n 2, 1) := by decide +kernel
theorem dX9_rightMove_8 : decode cX9_rightMove 8 = .ok (.aload_n 0, 1) := by decide +kernel
theorem dX9_rightMove_9 : decode cX9_rightMove 9 = .ok (.iconst 4, 1) := by decide +kernel
theorem dX9_rightMove_10 : decode cX9_rightMove 10 = .ok (.iload_n 1, 1) := by decide +kernel
theorem dX9_rightMove_11 : decode cX9_rightMove 11 = .ok (.imul, 1) := by decide +kernel
theorem dX9_rightMove_12 : decode cX9_rightMove 12 = .ok (.ldc2_w 147, 3) := by decide +kernel
theorem dX9_rightMove_15 : decode cX9_rightMove 15 = .ok (.aload_n 0, 1) := by decide +kernel
theorem dX9_rightMove_16 : decode cX9_rightMove 16 = .ok (.getfield 16, 3) := by decide +kernel
theorem dX9_rightMove_19 : decode cX9_rightMove 19 = .ok (.iload_n 1, 1) := by decide +kernel
theorem dX9_rightMove_20 : decode cX9_rightMove 20 = .ok (.iaload, 1) := by decide +kernel
theorem dX9_rightMove_21 : decode cX9_rightMove 21 = .ok (.i2l, 1) := by decide +kernel
theorem dX9_rightMove_22 : decode cX9_rightMove 22 = .ok (.lmul, 1) := by decide +kernel
theorem dX9_rightMove_23 : decode cX9_rightMove 23 = .ok (.invokevirtual 149, 3) := by decide +kernel
theorem dX9_rightMove_26 : decode cX9_rightMove 26 = .ok (.aload_n 0, 1) := by decide +kernel
theorem dX9_rightMove_27 : decode cX9_rightMove 27 = .ok (.iconst 4, 1) := by decide +kernel
theorem dX9_rightMove_28 : decode cX9_rightMove 28 = .ok (.iload_n 1, 1) := by decide +kernel
theorem dX9_rightMove_29 : decode cX9_rightMove 29 = .ok (.imul, 1) := by decide +kernel
theorem dX9_rightMove_30 : decode cX9_rightMove 30 = .ok (.iconst 1, 1) := by decide +kernel
theorem dX9_rightMove_31 : decode cX9_rightMove 31 = .ok (.iadd, 1) := by decide +kernel
theorem dX9_rightMove_32 : decode cX9_rightMove 32 = .ok (.ldc2_w 147, 3) := by decide +kernel
theorem dX9_rightMove_35 : decode cX9_rightMove 35 = .ok (.aload_n 0, 1) := by decide +kernel
theorem dX9_rightMove_36 : decode cX9_rightMove 36 = .ok (.getfield 16, 3) := by decide +kernel
theorem dX9_rightMove_39 : decode cX9_rightMove 39 = .ok (.iload_n 1, 1) := by decide +kernel
theorem dX9_rightMove_40 : decode cX9_rightMove 40 = .ok (.iaload, 1) := by decide +kernel
theorem dX9_rightMove_41 : decode cX9_rightMove 41 = .ok (.i2l, 1) := by decide +kernel
theorem dX9_rightMove_42 : decode cX9_rightMove 42 = .ok (.lmul, 1) := by decide +kernel
theorem dX9_rightMove_43 : decode cX9_rightMove 43 = .ok (.lload_n 2, 1) := by decide +kernel
theorem dX9_rightMove_44 : decode cX9_rightMove 44 = .ok (.lmul, 1) := by decide +kernel
theorem dX9_rightMove_45 : decode cX9_rightMove 45 = .ok (.invokevirtual 149, 3) := by decide +kernel
theorem dX9_rightMove_48 : decode cX9_rightMove 48 = .ok (.aload_n 0, 1) := by decide +kernel
theorem dX9_rightMove_49 : decode cX9_rightMove 49 = .ok (.iconst 4, 1) := by decide +kernel
theorem dX9_rightMove_50 : decode cX9_rightMove 50 = .ok (.iload_n 1, 1) := by decide +kernel
theorem dX9_rightMove_51 : decode cX9_rightMove 51 = .ok (.imul, 1) := by decide +kernel
theorem dX9_rightMove_52 : decode cX9_rightMove 52 = .ok (.iconst 2, 1) := by decide +kernel
theorem dX9_rightMove_53 : decode cX9_rightMove 53 = .ok (.iadd, 1) := by decide +kernel
theorem dX9_rightMove_54 : decode cX9_rightMove 54 = .ok (.ldc2_w 152, 3) := by decide +kernel
theorem dX9_rightMove_57 : decode cX9_rightMove 57 = .ok (.lload_n 2, 1) := by decide +kernel
theorem dX9_rightMove_58 : decode cX9_rightMove 58 = .ok (.lmul, 1) := by decide +kernel
theorem dX9_rightMove_59 : decode cX9_rightMove 59 = .ok (.lload_n 2, 1) := by decide +kernel
theorem dX9_rightMove_60 : decode cX9_rightMove 60 = .ok (.lmul, 1) := by decide +kernel
theorem dX9_rightMove_61 : decode cX9_rightMove 61 = .ok (.invokevirtual 149, 3) := by decide +kernel
theorem dX9_rightMove_64 : decode cX9_rightMove 64 = .ok (.aload_n 0, 1) := by decide +kernel
theorem dX9_rightMove_65 : decode cX9_rightMove 65 = .ok (.iconst 4, 1) := by decide +kernel
theorem dX9_rightMove_66 : decode cX9_rightMove 66 = .ok (.iload_n 1, 1) := by decide +kernel
theorem dX9_rightMove_67 : decode cX9_rightMove 67 = .ok (.imul, 1) := by decide +kernel
theorem dX9_rightMove_68 : decode cX9_rightMove 68 = .ok (.iconst 3, 1) := by decide +kernel
theorem dX9_rightMove_69 : decode cX9_rightMove 69 = .ok (.iadd, 1) := by decide +kernel
theorem dX9_rightMove_70 : decode cX9_rightMove 70 = .ok (.ldc2_w 154, 3) := by decide +kernel
theorem dX9_rightMove_73 : decode cX9_rightMove 73 = .ok (.lload_n 2, 1) := by decide +kernel
theorem dX9_rightMove_74 : decode cX9_rightMove 74 = .ok (.lmul, 1) := by decide +kernel
theorem dX9_rightMove_75 : decode cX9_rightMove 75 = .ok (.lload_n 2, 1) := by decide +kernel
theorem dX9_rightMove_76 : decode cX9_rightMove 76 = .ok (.lmul, 1) := by decide +kernel
theorem dX9_rightMove_77 : decode cX9_rightMove 77 = .ok (.lload_n 2, 1) := by decide +kernel
theorem dX9_rightMove_78 : decode cX9_rightMove 78 = .ok (.lmul, 1) := by decide +kernel
theorem dX9_rightMove_79 : decode cX9_rightMove 79 = .ok (.invokevirtual 149, 3) := by decide +kernel
theorem dX9_rightMove_82 : decode cX9_rightMove 82 = .ok (.aload_n 0, 1) := by decide +kernel
theorem dX9_rightMove_83 : decode cX9_rightMove 83 = .ok (.iload_n 1, 1) := by decide +kernel
theorem dX9_rightMove_84 : decode cX9_rightMove 84 = .ok (.iconst 3, 1) := by decide +kernel
theorem dX9_rightMove_85 : decode cX9_rightMove 85 = .ok (.lconst 1, 1) := by decide +kernel
theorem dX9_rightMove_86 : decode cX9_rightMove 86 = .ok (.invokevirtual 156, 3) := by decide +kernel
theorem dX9_rightMove_89 : decode cX9_rightMove 89 = .ok (.return_, 1) := by decide +kernel
theorem dX9_rightTurn_0 : decode cX9_rightTurn 0 = .ok (.aload_n 0, 1) := by decide +kernel
theorem dX9_rightTurn_1 : decode cX9_rightTurn 1 = .ok (.getfield 13, 3) := by decide +kernel
theorem dX9_rightTurn_4 : decode cX9_rightTurn 4 = .ok (.iload_n 1, 1) := by decide +kernel
theorem dX9_rightTurn_5 : decode cX9_rightTurn 5 = .ok (.iaload, 1) := by decide +kernel
theorem dX9_rightTurn_6 : decode cX9_rightTurn 6 = .ok (.i2l, 1) := by decide +kernel
theorem dX9_rightTurn_7 : decode cX9_rightTurn 7 = .ok (.lstore_n 2, 1) := by decide +kernel
theorem dX9_rightTurn_8 : decode cX9_rightTurn 8 = .ok (.aload_n 0, 1) := by decide +kernel
theorem dX9_rightTurn_9 : decode cX9_rightTurn 9 = .ok (.iconst 4, 1) := by decide +kernel
theorem dX9_rightTurn_10 : decode cX9_rightTurn 10 = .ok (.iload_n 1, 1) := by decide +kernel
theorem dX9_rightTurn_11 : decode cX9_rightTurn 11 = .ok (.imul, 1) := by decide +kernel
theorem dX9_rightTurn_12 : decode cX9_rightTurn 12 = .ok (.iconst 1, 1) := by decide +kernel
theorem dX9_rightTurn_13 : decode cX9_rightTurn 13 = .ok (.iadd, 1) := by decide +kernel
theorem dX9_rightTurn_14 : decode cX9_rightTurn 14 = .ok (.ldc2_w 160, 3) := by decide +kernel
theorem dX9_rightTurn_17 : decode cX9_rightTurn 17 = .ok (.aload_n 0, 1) := by decide +kernel
theorem dX9_rightTurn_18 : decode cX9_rightTurn 18 = .ok (.getfield 16, 3) := by decide +kernel
theorem dX9_rightTurn_21 : decode cX9_rightTurn 21 = .ok (.iload_n 1, 1) := by decide +kernel
theorem dX9_rightTurn_22 : decode cX9_rightTurn 22 = .ok (.iaload, 1) := by decide +kernel
theorem dX9_rightTurn_23 : decode cX9_rightTurn 23 = .ok (.i2l, 1) := by decide +kernel
theorem dX9_rightTurn_24 : decode cX9_rightTurn 24 = .ok (.lmul, 1) := by decide +kernel
theorem dX9_rightTurn_25 : decode cX9_rightTurn 25 = .ok (.invokevirtual 149, 3) := by decide +kernel
theorem dX9_rightTurn_28 : decode cX9_rightTurn 28 = .ok (.aload_n 0, 1) := by decide +kernel
theorem dX9_rightTurn_29 : decode cX9_rightTurn 29 = .ok (.iconst 4, 1) := by decide +kernel
theorem dX9_rightTurn_30 : decode cX9_rightTurn 30 = .ok (.iload_n 1, 1) := by decide +kernel
theorem dX9_rightTurn_31 : decode cX9_rightTurn 31 = .ok (.imul, 1) := by decide +kernel
theorem dX9_rightTurn_32 : decode cX9_rightTurn 32 = .ok (.iconst 2, 1) := by decide +kernel
theorem dX9_rightTurn_33 : decode cX9_rightTurn 33 = .ok (.iadd, 1) := by decide +kernel
theorem dX9_rightTurn_34 : decode cX9_rightTurn 34 = .ok (.ldc2_w 162, 3) := by decide +kernel
theorem dX9_rightTurn_37 : decode cX9_rightTurn 37 = .ok (.lload_n 2, 1) := by decide +kernel
theorem dX9_rightTurn_38 : decode cX9_rightTurn 38 = .ok (.lmul, 1) := by decide +kernel
theorem dX9_rightTurn_39 : decode cX9_rightTurn 39 = .ok (.invokevirtual 149, 3) := by decide +kernel
theorem dX9_rightTurn_42 : decode cX9_rightTurn 42 = .ok (.aload_n 0, 1) := by decide +kernel
theorem dX9_rightTurn_43 : decode cX9_rightTurn 43 = .ok (.iconst 4, 1) := by decide +kernel
theorem dX9_rightTurn_44 : decode cX9_rightTurn 44 = .ok (.iload_n 1, 1) := by decide +kernel
theorem dX9_rightTurn_45 : decode cX9_rightTurn 45 = .ok (.imul, 1) := by decide +kernel
theorem dX9_rightTurn_46 : decode cX9_rightTurn 46 = .ok (.iconst 3, 1) := by decide +kernel
theorem dX9_rightTurn_47 : decode cX9_rightTurn 47 = .ok (.iadd, 1) := by decide +kernel
theorem dX9_rightTurn_48 : decode cX9_rightTurn 48 = .ok (.ldc2_w 164, 3) := by decide +kernel
theorem dX9_rightTurn_51 : decode cX9_rightTurn 51 = .ok (.lload_n 2, 1) := by decide +kernel
theorem dX9_rightTurn_52 : decode cX9_rightTurn 52 = .ok (.lmul, 1) := by decide +kernel
theorem dX9_rightTurn_53 : decode cX9_rightTurn 53 = .ok (.lload_n 2, 1) := by decide +kernel
theorem dX9_rightTurn_54 : decode cX9_rightTurn 54 = .ok (.lmul, 1) := by decide +kernel
theorem dX9_rightTurn_55 : decode cX9_rightTurn 55 = .ok (.invokevirtual 149, 3) := by decide +kernel
theorem dX9_rightTurn_58 : decode cX9_rightTurn 58 = .ok (.aload_n 0, 1) := by decide +kernel
theorem dX9_rightTurn_59 : decode cX9_rightTurn 59 = .ok (.iload_n 1, 1) := by decide +kernel
theorem dX9_rightTurn_60 : decode cX9_rightTurn 60 = .ok (.iconst 2, 1) := by decide +kernel
theorem dX9_rightTurn_61 : decode cX9_rightTurn 61 = .ok (.lconst 1, 1) := by decide +kernel
theorem dX9_rightTurn_62 : decode cX9_rightTurn 62 = .ok (.invokevirtual 156, 3) := by decide +kernel
theorem dX9_rightTurn_65 : decode cX9_rightTurn 65 = .ok (.return_, 1) := by decide +kernel
theorem dX9_rightMoment_0 : decode cX9_rightMoment 0 = .ok (.aload_n 0, 1) := by decide +kernel
theorem dX9_rightMoment_1 : decode cX9_rightMoment 1 = .ok (.iconst 4, 1) := by decide +kernel
theorem dX9_rightMoment_2 : decode cX9_rightMoment 2 = .ok (.iload_n 1, 1) := by decide +kernel
theorem dX9_rightMoment_3 : decode cX9_rightMoment 3 = .ok (.imul, 1) := by decide +kernel
theorem dX9_rightMoment_4 : decode cX9_rightMoment 4 = .ok (.iconst 2, 1) := by decide +kernel
theorem dX9_rightMoment_5 : decode cX9_rightMoment 5 = .ok (.iadd, 1) := by decide +kernel
theorem dX9_rightMoment_6 : decode cX9_rightMoment 6 = .ok (.ldc2_w 142, 3) := by decide +kernel
theorem dX9_rightMoment_9 : decode cX9_rightMoment 9 = .ok (.lload_n 2, 1) := by decide +kernel
theorem dX9_rightMoment_10 : decode cX9_rightMoment 10 = .ok (.lmul, 1) := by decide +kernel
theorem dX9_rightMoment_11 : decode cX9_rightMoment 11 = .ok (.invokevirtual 149, 3) := by decide +kernel
theorem dX9_rightMoment_14 : decode cX9_rightMoment 14 = .ok (.aload_n 0, 1) := by decide +kernel
theorem dX9_rightMoment_15 : decode cX9_rightMoment 15 = .ok (.iconst 4, 1) := by decide +kernel
theorem dX9_rightMoment_16 : decode cX9_rightMoment 16 = .ok (.iload_n 1, 1) := by decide +kernel
theorem dX9_rightMoment_17 : decode cX9_rightMoment 17 = .ok (.imul, 1) := by decide +kernel
theorem dX9_rightMoment_18 : decode cX9_rightMoment 18 = .ok (.iconst 3, 1) := by decide +kernel
theorem dX9_rightMoment_19 : decode cX9_rightMoment 19 = .ok (.iadd, 1) := by decide +kernel
theorem dX9_rightMoment_20 : decode cX9_rightMoment 20 = .ok (.ldc2_w 142, 3) := by decide +kernel
theorem dX9_rightMoment_23 : decode cX9_rightMoment 23 = .ok (.lload_n 2, 1) := by decide +kernel
theorem dX9_rightMoment_24 : decode cX9_rightMoment 24 = .ok (.lmul, 1) := by decide +kernel
theorem dX9_rightMoment_25 : decode cX9_rightMoment 25 = .ok (.aload_n 0, 1) := by decide +kernel
theorem dX9_rightMoment_26 : decode cX9_rightMoment 26 = .ok (.getfield 13, 3) := by decide +kernel
theorem dX9_rightMoment_29 : decode cX9_rightMoment 29 = .ok (.iload_n 1, 1) := by decide +kernel
theorem dX9_rightMoment_30 : decode cX9_rightMoment 30 = .ok (.iaload, 1) := by decide +kernel
theorem dX9_rightMoment_31 : decode cX9_rightMoment 31 = .ok (.i2l, 1) := by decide +kernel
theorem dX9_rightMoment_32 : decode cX9_rightMoment 32 = .ok (.lmul, 1) := by decide +kernel
theorem dX9_rightMoment_33 : decode cX9_rightMoment 33 = .ok (.invokevirtual 149, 3) := by decide +kernel
theorem dX9_rightMoment_36 : decode cX9_rightMoment 36 = .ok (.aload_n 0, 1) := by decide +kernel
theorem dX9_rightMoment_37 : decode cX9_rightMoment 37 = .ok (.iload_n 1, 1) := by decide +kernel
theorem dX9_rightMoment_38 : decode cX9_rightMoment 38 = .ok (.iconst 1, 1) := by decide +kernel
theorem dX9_rightMoment_39 : decode cX9_rightMoment 39 = .ok (.lload_n 2, 1) := by decide +kernel
theorem dX9_rightMoment_40 : decode cX9_rightMoment 40 = .ok (.lneg, 1) := by decide +kernel
theorem dX9_rightMoment_41 : decode cX9_rightMoment 41 = .ok (.invokevirtual 156, 3) := by decide +kernel
theorem dX9_rightMoment_44 : decode cX9_rightMoment 44 = .ok (.return_, 1) := by decide +kernel
theorem dX9_heightAt_0 : decode cX9_heightAt 0 = .ok (.iload_n 1, 1) := by decide +kernel
theorem dX9_heightAt_1 : decode cX9_heightAt 1 = .ok (.aload_n 0, 1) := by decide +kernel
theorem dX9_heightAt_2 : decode cX9_heightAt 2 = .ok (.getfield 93, 3) := by decide +kernel
theorem dX9_heightAt_5 : decode cX9_heightAt 5 = .ok (.if_icmp .ge 7, 3) := by decide +kernel
theorem dX9_heightAt_8 : decode cX9_heightAt 8 = .ok (.iconst 1, 1) := by decide +kernel
theorem dX9_heightAt_9 : decode cX9_heightAt 9 = .ok (.goto 4, 3) := by decide +kernel
theorem dX9_heightAt_12 : decode cX9_heightAt 12 = .ok (.iconst 0, 1) := by decide +kernel
theorem dX9_heightAt_13 : decode cX9_heightAt 13 = .ok (.istore_n 2, 1) := by decide +kernel
theorem dX9_heightAt_14 : decode cX9_heightAt 14 = .ok (.iload_n 1, 1) := by decide +kernel
theorem dX9_heightAt_15 : decode cX9_heightAt 15 = .ok (.ifCond .le 44, 3) := by decide +kernel
theorem dX9_heightAt_18 : decode cX9_heightAt 18 = .ok (.iload_n 2, 1) := by decide +kernel
theorem dX9_heightAt_19 : decode cX9_heightAt 19 = .ok (.ifCond .eq 40, 3) := by decide +kernel
theorem dX9_heightAt_22 : decode cX9_heightAt 22 = .ok (.aload_n 0, 1) := by decide +kernel
theorem dX9_heightAt_23 : decode cX9_heightAt 23 = .ok (.iload_n 1, 1) := by decide +kernel
theorem dX9_heightAt_24 : decode cX9_heightAt 24 = .ok (.iconst 1, 1) := by decide +kernel
theorem dX9_heightAt_25 : decode cX9_heightAt 25 = .ok (.isub, 1) := by decide +kernel
theorem dX9_heightAt_26 : decode cX9_heightAt 26 = .ok (.invokevirtual 166, 3) := by decide +kernel
theorem dX9_heightAt_29 : decode cX9_heightAt 29 = .ok (.aload_n 0, 1) := by decide +kernel
theorem dX9_heightAt_30 : decode cX9_heightAt 30 = .ok (.iconst 4, 1) := by decide +kernel
theorem dX9_heightAt_31 : decode cX9_heightAt 31 = .ok (.iload_n 1, 1) := by decide +kernel
theorem dX9_heightAt_32 : decode cX9_heightAt 32 = .ok (.imul, 1) := by decide +kernel
theorem dX9_heightAt_33 : decode cX9_heightAt 33 = .ok (.ldc2_w 170, 3) := by decide +kernel
theorem dX9_heightAt_36 : decode cX9_heightAt 36 = .ok (.aload_n 0, 1) := by decide +kernel
theorem dX9_heightAt_37 : decode cX9_heightAt 37 = .ok (.getfield 16, 3) := by decide +kernel
theorem dX9_heightAt_40 : decode cX9_heightAt 40 = .ok (.iload_n 1, 1) := by decide +kernel
theorem dX9_heightAt_41 : decode cX9_heightAt 41 = .ok (.iconst 1, 1) := by decide +kernel
theorem dX9_heightAt_42 : decode cX9_heightAt 42 = .ok (.isub, 1) := by decide +kernel
theorem dX9_heightAt_43 : decode cX9_heightAt 43 = .ok (.iaload, 1) := by decide +kernel
theorem dX9_heightAt_44 : decode cX9_heightAt 44 = .ok (.i2l, 1) := by decide +kernel
theorem dX9_heightAt_45 : decode cX9_heightAt 45 = .ok (.lmul, 1) := by decide +kernel
theorem dX9_heightAt_46 : decode cX9_heightAt 46 = .ok (.invokevirtual 149, 3) := by decide +kernel
theorem dX9_heightAt_49 : decode cX9_heightAt 49 = .ok (.aload_n 0, 1) := by decide +kernel
theorem dX9_heightAt_50 : decode cX9_heightAt 50 = .ok (.dup, 1) := by decide +kernel
theorem dX9_heightAt_51 : decode cX9_heightAt 51 = .ok (.getfield 139, 3) := by decide +kernel
theorem dX9_heightAt_54 : decode cX9_heightAt 54 = .ok (.iconst 1, 1) := by decide +kernel
theorem dX9_heightAt_55 : decode cX9_heightAt 55 = .ok (.iadd, 1) := by decide +kernel
theorem dX9_heightAt_56 : decode cX9_heightAt 56 = .ok (.putfield 139, 3) := by decide +kernel
theorem dX9_heightAt_59 : decode cX9_heightAt 59 = .ok (.aload_n 0, 1) := by decide +kernel
theorem dX9_heightAt_60 : decode cX9_heightAt 60 = .ok (.getfield 23, 3) := by decide +kernel
theorem dX9_heightAt_63 : decode cX9_heightAt 63 = .ok (.iload_n 1, 1) := by decide +kernel
theorem dX9_heightAt_64 : decode cX9_heightAt 64 = .ok (.baload, 1) := by decide +kernel
theorem dX9_heightAt_65 : decode cX9_heightAt 65 = .ok (.ifCond .eq 72, 3) := by decide +kernel
theorem dX9_heightAt_68 : decode cX9_heightAt 68 = .ok (.iload_n 2, 1) := by decide +kernel
theorem dX9_heightAt_69 : decode cX9_heightAt 69 = .ok (.ifCond .eq 29, 3) := by decide +kernel
theorem dX9_heightAt_72 : decode cX9_heightAt 72 = .ok (.aload_n 0, 1) := by decide +kernel
theorem dX9_heightAt_73 : decode cX9_heightAt 73 = .ok (.iconst 4, 1) := by decide +kernel
theorem dX9_heightAt_74 : decode cX9_heightAt 74 = .ok (.iload_n 1, 1) := by decide +kernel
theorem dX9_heightAt_75 : decode cX9_heightAt 75 = .ok (.imul, 1) := by decide +kernel
theorem dX9_heightAt_76 : decode cX9_heightAt 76 = .ok (.lconst 1, 1) := by decide +kernel
theorem dX9_heightAt_77 : decode cX9_heightAt 77 = .ok (.invokevirtual 149, 3) := by decide +kernel
theorem dX9_heightAt_80 : decode cX9_heightAt 80 = .ok (.aload_n 0, 1) := by decide +kernel
theorem dX9_heightAt_81 : decode cX9_heightAt 81 = .ok (.aload_n 0, 1) := by decide +kernel
theorem dX9_heightAt_82 : decode cX9_heightAt 82 = .ok (.invokevirtual 172, 3) := by decide +kernel
theorem dX9_heightAt_85 : decode cX9_heightAt 85 = .ok (.aload_n 0, 1) := by decide +kernel
theorem dX9_heightAt_86 : decode cX9_heightAt 86 = .ok (.getfield 29, 3) := by decide +kernel
theorem dX9_heightAt_89 : decode cX9_heightAt 89 = .ok (.iload_n 1, 1) := by decide +kernel
theorem dX9_heightAt_90 : decode cX9_heightAt 90 = .ok (.iaload, 1) := by decide +kernel
theorem dX9_heightAt_91 : decode cX9_heightAt 91 = .ok (.i2l, 1) := by decide +kernel
theorem dX9_heightAt_92 : decode cX9_heightAt 92 = .ok (.invokevirtual 149, 3) := by decide +kernel
theorem dX9_heightAt_95 : decode cX9_heightAt 95 = .ok (.goto 109, 3) := by decide +kernel
theorem dX9_heightAt_98 : decode cX9_heightAt 98 = .ok (.aload_n 0, 1) := by decide +kernel
theorem dX9_heightAt_99 : decode cX9_heightAt 99 = .ok (.iload_n 1, 1) := by decide +kernel
theorem dX9_heightAt_100 : decode cX9_heightAt 100 = .ok (.iconst 1, 1) := by decide +kernel
theorem dX9_heightAt_101 : decode cX9_heightAt 101 = .ok (.isub, 1) := by decide +kernel
theorem dX9_heightAt_102 : decode cX9_heightAt 102 = .ok (.invokevirtual 166, 3) := by decide +kernel
theorem dX9_heightAt_105 : decode cX9_heightAt 105 = .ok (.aload_n 0, 1) := by decide +kernel
theorem dX9_heightAt_106 : decode cX9_heightAt 106 = .ok (.aload_n 0, 1) := by decide +kernel
theorem dX9_heightAt_107 : decode cX9_heightAt 107 = .ok (.invokevirtual 172, 3) := by decide +kernel
theorem dX9_heightAt_110 : decode cX9_heightAt 110 = .ok (.ldc2_w 147, 3) := by decide +kernel
theorem dX9_heightAt_113 : decode cX9_heightAt 113 = .ok (.aload_n 0, 1) := by decide +kernel
theorem dX9_heightAt_114 : decode cX9_heightAt 114 = .ok (.getfield 16, 3) := by decide +kernel
theorem dX9_heightAt_117 : decode cX9_heightAt 117 = .ok (.iload_n 1, 1) := by decide +kernel
theorem dX9_heightAt_118 : decode cX9_heightAt 118 = .ok (.iconst 1, 1) := by decide +kernel
theorem dX9_heightAt_119 : decode cX9_heightAt 119 = .ok (.isub, 1) := by decide +kernel
theorem dX9_heightAt_120 : decode cX9_heightAt 120 = .ok (.iaload, 1) := by decide +kernel
theorem dX9_heightAt_121 : decode cX9_heightAt 121 = .ok (.i2l, 1) := by decide +kernel
theorem dX9_heightAt_122 : decode cX9_heightAt 122 = .ok (.lmul, 1) := by decide +kernel
theorem dX9_heightAt_123 : decode cX9_heightAt 123 = .ok (.aload_n 0, 1) := by decide +kernel
theorem dX9_heightAt_124 : decode cX9_heightAt 124 = .ok (.getfield 29, 3) := by decide +kernel
theorem dX9_heightAt_127 : decode cX9_heightAt 127 = .ok (.iload_n 1, 1) := by decide +kernel
theorem dX9_heightAt_128 : decode cX9_heightAt 128 = .ok (.iaload, 1) := by decide +kernel
theorem dX9_heightAt_129 : decode cX9_heightAt 129 = .ok (.i2l, 1) := by decide +kernel
theorem dX9_heightAt_130 : decode cX9_heightAt 130 = .ok (.lmul, 1) := by decide +kernel
theorem dX9_heightAt_131 : decode cX9_heightAt 131 = .ok (.invokevirtual 149, 3) := by decide +kernel
theorem dX9_heightAt_134 : decode cX9_heightAt 134 = .ok (.goto 70, 3) := by decide +kernel
theorem dX9_heightAt_137 : decode cX9_heightAt 137 = .ok (.iload_n 2, 1) := by decide +kernel
theorem dX9_heightAt_138 : decode cX9_heightAt 138 = .ok (.ifCond .eq 26, 3) := by decide +kernel
theorem dX9_heightAt_141 : decode cX9_heightAt 141 = .ok (.aload_n 0, 1) := by decide +kernel
theorem dX9_heightAt_142 : decode cX9_heightAt 142 = .ok (.iconst 4, 1) := by decide +kernel
theorem dX9_heightAt_143 : decode cX9_heightAt 143 = .ok (.iload_n 1, 1) := by decide +kernel
theorem dX9_heightAt_144 : decode cX9_heightAt 144 = .ok (.imul, 1) := by decide +kernel
theorem dX9_heightAt_145 : decode cX9_heightAt 145 = .ok (.iconst 3, 1) := by decide +kernel
theorem dX9_heightAt_146 : decode cX9_heightAt 146 = .ok (.iadd, 1) := by decide +kernel
theorem dX9_heightAt_147 : decode cX9_heightAt 147 = .ok (.lconst 1, 1) := by decide +kernel
theorem dX9_heightAt_148 : decode cX9_heightAt 148 = .ok (.invokevirtual 149, 3) := by decide +kernel
theorem dX9_heightAt_151 : decode cX9_heightAt 151 = .ok (.aload_n 0, 1) := by decide +kernel
theorem dX9_heightAt_152 : decode cX9_heightAt 152 = .ok (.aload_n 0, 1) := by decide +kernel
theorem dX9_heightAt_153 : decode cX9_heightAt 153 = .ok (.iload_n 1, 1) := by decide +kernel
theorem dX9_heightAt_154 : decode cX9_heightAt 154 = .ok (.iconst 0, 1) := by decide +kernel
theorem dX9_heightAt_155 : decode cX9_heightAt 155 = .ok (.invokevirtual 144, 3) := by decide +kernel
theorem dX9_heightAt_158 : decode cX9_heightAt 158 = .ok (.ldc2_w 176, 3) := by decide +kernel
theorem dX9_heightAt_161 : decode cX9_heightAt 161 = .ok (.invokevirtual 149, 3) := by decide +kernel
theorem dX9_heightAt_164 : decode cX9_heightAt 164 = .ok (.iload_n 1, 1) := by decide +kernel
theorem dX9_heightAt_165 : decode cX9_heightAt 165 = .ok (.ifCond .le 39, 3) := by decide +kernel
theorem dX9_heightAt_168 : decode cX9_heightAt 168 = .ok (.aload_n 0, 1) := by decide +kernel
theorem dX9_heightAt_169 : decode cX9_heightAt 169 = .ok (.iconst 4, 1) := by decide +kernel
theorem dX9_heightAt_170 : decode cX9_heightAt 170 = .ok (.iload_n 1, 1) := by decide +kernel
theorem dX9_heightAt_171 : decode cX9_heightAt 171 = .ok (.imul, 1) := by decide +kernel
theorem dX9_heightAt_172 : decode cX9_heightAt 172 = .ok (.iconst 1, 1) := by decide +kernel
theorem dX9_heightAt_173 : decode cX9_heightAt 173 = .ok (.isub, 1) := by decide +kernel
theorem dX9_heightAt_174 : decode cX9_heightAt 174 = .ok (.ldc2_w 176, 3) := by decide +kernel
theorem dX9_heightAt_177 : decode cX9_heightAt 177 = .ok (.invokevirtual 149, 3) := by decide +kernel
theorem dX9_heightAt_180 : decode cX9_heightAt 180 = .ok (.aload_n 0, 1) := by decide +kernel
theorem dX9_heightAt_181 : decode cX9_heightAt 181 = .ok (.iload_n 1, 1) := by decide +kernel
theorem dX9_heightAt_182 : decode cX9_heightAt 182 = .ok (.iconst 1, 1) := by decide +kernel
theorem dX9_heightAt_183 : decode cX9_heightAt 183 = .ok (.isub, 1) := by decide +kernel
theorem dX9_heightAt_184 : decode cX9_heightAt 184 = .ok (.iconst 0, 1) := by decide +kernel
theorem dX9_heightAt_185 : decode cX9_heightAt 185 = .ok (.lconst 1, 1) := by decide +kernel
theorem dX9_heightAt_186 : decode cX9_heightAt 186 = .ok (.invokevirtual 156, 3) := by decide +kernel
