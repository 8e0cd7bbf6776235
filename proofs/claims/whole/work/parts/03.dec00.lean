theorem dX0_init_0 : decode cX0_init 0 = .ok (.aload_n 0, 1) := by decide +kernel
theorem dX0_init_1 : decode cX0_init 1 = .ok (.invokespecial 3, 3) := by decide +kernel
theorem dX0_init_4 : decode cX0_init 4 = .ok (.aload_n 0, 1) := by decide +kernel
theorem dX0_init_5 : decode cX0_init 5 = .ok (.new 9, 3) := by decide +kernel
theorem dX0_init_8 : decode cX0_init 8 = .ok (.dup, 1) := by decide +kernel
theorem dX0_init_9 : decode cX0_init 9 = .ok (.invokespecial 11, 3) := by decide +kernel
theorem dX0_init_12 : decode cX0_init 12 = .ok (.putfield 12, 3) := by decide +kernel
theorem dX0_init_15 : decode cX0_init 15 = .ok (.aload_n 0, 1) := by decide +kernel
theorem dX0_init_16 : decode cX0_init 16 = .ok (.new 18, 3) := by decide +kernel
theorem dX0_init_19 : decode cX0_init 19 = .ok (.dup, 1) := by decide +kernel
theorem dX0_init_20 : decode cX0_init 20 = .ok (.invokespecial 20, 3) := by decide +kernel
theorem dX0_init_23 : decode cX0_init 23 = .ok (.putfield 21, 3) := by decide +kernel
theorem dX0_init_26 : decode cX0_init 26 = .ok (.aload_n 0, 1) := by decide +kernel
theorem dX0_init_27 : decode cX0_init 27 = .ok (.new 18, 3) := by decide +kernel
theorem dX0_init_30 : decode cX0_init 30 = .ok (.dup, 1) := by decide +kernel
theorem dX0_init_31 : decode cX0_init 31 = .ok (.invokespecial 20, 3) := by decide +kernel
theorem dX0_init_34 : decode cX0_init 34 = .ok (.putfield 25, 3) := by decide +kernel
theorem dX0_init_37 : decode cX0_init 37 = .ok (.aload_n 0, 1) := by decide +kernel
theorem dX0_init_38 : decode cX0_init 38 = .ok (.new 18, 3) := by decide +kernel
theorem dX0_init_41 : decode cX0_init 41 = .ok (.dup, 1) := by decide +kernel
theorem dX0_init_42 : decode cX0_init 42 = .ok (.invokespecial 20, 3) := by decide +kernel
theorem dX0_init_45 : decode cX0_init 45 = .ok (.putfield 28, 3) := by decide +kernel
theorem dX0_init_48 : decode cX0_init 48 = .ok (.aload_n 0, 1) := by decide +kernel
theorem dX0_init_49 : decode cX0_init 49 = .ok (.new 18, 3) := by decide +kernel
theorem dX0_init_52 : decode cX0_init 52 = .ok (.dup, 1) := by decide +kernel
theorem dX0_init_53 : decode cX0_init 53 = .ok (.invokespecial 20, 3) := by decide +kernel
theorem dX0_init_56 : decode cX0_init 56 = .ok (.putfield 31, 3) := by decide +kernel
theorem dX0_init_59 : decode cX0_init 59 = .ok (.aload_n 0, 1) := by decide +kernel
theorem dX0_init_60 : decode cX0_init 60 = .ok (.new 18, 3) := by decide +kernel
theorem dX0_init_63 : decode cX0_init 63 = .ok (.dup, 1) := by decide +kernel
theorem dX0_init_64 : decode cX0_init 64 = .ok (.invokespecial 20, 3) := by decide +kernel
theorem dX0_init_67 : decode cX0_init 67 = .ok (.putfield 34, 3) := by decide +kernel
theorem dX0_init_70 : decode cX0_init 70 = .ok (.aload_n 0, 1) := by decide +kernel
theorem dX0_init_71 : decode cX0_init 71 = .ok (.new 18, 3) := by decide +kernel
theorem dX0_init_74 : decode cX0_init 74 = .ok (.dup, 1) := by decide +kernel
theorem dX0_init_75 : decode cX0_init 75 = .ok (.invokespecial 20, 3) := by decide +kernel
theorem dX0_init_78 : decode cX0_init 78 = .ok (.putfield 37, 3) := by decide +kernel
theorem dX0_init_81 : decode cX0_init 81 = .ok (.aload_n 0, 1) := by decide +kernel
theorem dX0_init_82 : decode cX0_init 82 = .ok (.new 18, 3) := by decide +kernel
theorem dX0_init_85 : decode cX0_init 85 = .ok (.dup, 1) := by decide +kernel
theorem dX0_init_86 : decode cX0_init 86 = .ok (.invokespecial 20, 3) := by decide +kernel
theorem dX0_init_89 : decode cX0_init 89 = .ok (.putfield 40, 3) := by decide +kernel
theorem dX0_init_92 : decode cX0_init 92 = .ok (.aload_n 0, 1) := by decide +kernel
theorem dX0_init_93 : decode cX0_init 93 = .ok (.new 18, 3) := by decide +kernel
theorem dX0_init_96 : decode cX0_init 96 = .ok (.dup, 1) := by decide +kernel
theorem dX0_init_97 : decode cX0_init 97 = .ok (.invokespecial 20, 3) := by decide +kernel
theorem dX0_init_100 : decode cX0_init 100 = .ok (.putfield 43, 3) := by decide +kernel
theorem dX0_init_103 : decode cX0_init 103 = .ok (.aload_n 0, 1) := by decide +kernel
theorem dX0_init_104 : decode cX0_init 104 = .ok (.new 18, 3) := by decide +kernel
theorem dX0_init_107 : decode cX0_init 107 = .ok (.dup, 1) := by decide +kernel
theorem dX0_init_108 : decode cX0_init 108 = .ok (.invokespecial 20, 3) := by decide +kernel
theorem dX0_init_111 : decode cX0_init 111 = .ok (.putfield 46, 3) := by decide +kernel
theorem dX0_init_114 : decode cX0_init 114 = .ok (.return_, 1) := by decide +kernel
theorem dX0_measure_0 : decode cX0_measure 0 = .ok (.aload_n 0, 1) := by decide +kernel
theorem dX0_measure_1 : decode cX0_measure 1 = .ok (.getfield 28, 3) := by decide +kernel
theorem dX0_measure_4 : decode cX0_measure 4 = .ok (.lconst 0, 1) := by decide +kernel
theorem dX0_measure_5 : decode cX0_measure 5 = .ok (.invokevirtual 49, 3) := by decide +kernel
theorem dX0_measure_8 : decode cX0_measure 8 = .ok (.aload_n 0, 1) := by decide +kernel
theorem dX0_measure_9 : decode cX0_measure 9 = .ok (.getfield 31, 3) := by decide +kernel
theorem dX0_measure_12 : decode cX0_measure 12 = .ok (.lconst 0, 1) := by decide +kernel
theorem dX0_measure_13 : decode cX0_measure 13 = .ok (.invokevirtual 49, 3) := by decide +kernel
theorem dX0_measure_16 : decode cX0_measure 16 = .ok (.aload_n 0, 1) := by decide +kernel
theorem dX0_measure_17 : decode cX0_measure 17 = .ok (.getfield 34, 3) := by decide +kernel
theorem dX0_measure_20 : decode cX0_measure 20 = .ok (.lconst 1, 1) := by decide +kernel
theorem dX0_measure_21 : decode cX0_measure 21 = .ok (.invokevirtual 49, 3) := by decide +kernel
theorem dX0_measure_24 : decode cX0_measure 24 = .ok (.iconst 0, 1) := by decide +kernel
theorem dX0_measure_25 : decode cX0_measure 25 = .ok (.istore 5, 2) := by decide +kernel
theorem dX0_measure_27 : decode cX0_measure 27 = .ok (.iload 5, 2) := by decide +kernel
theorem dX0_measure_29 : decode cX0_measure 29 = .ok (.aload_n 2, 1) := by decide +kernel
theorem dX0_measure_30 : decode cX0_measure 30 = .ok (.getfield 53, 3) := by decide +kernel
theorem dX0_measure_33 : decode cX0_measure 33 = .ok (.if_icmp .ge 80, 3) := by decide +kernel
theorem dX0_measure_36 : decode cX0_measure 36 = .ok (.iconst 0, 1) := by decide +kernel
theorem dX0_measure_37 : decode cX0_measure 37 = .ok (.istore 6, 2) := by decide +kernel
theorem dX0_measure_39 : decode cX0_measure 39 = .ok (.iload 6, 2) := by decide +kernel
theorem dX0_measure_41 : decode cX0_measure 41 = .ok (.iconst 4, 1) := by decide +kernel
theorem dX0_measure_42 : decode cX0_measure 42 = .ok (.if_icmp .gt 65, 3) := by decide +kernel
theorem dX0_measure_45 : decode cX0_measure 45 = .ok (.aload_n 0, 1) := by decide +kernel
theorem dX0_measure_46 : decode cX0_measure 46 = .ok (.getfield 21, 3) := by decide +kernel
theorem dX0_measure_49 : decode cX0_measure 49 = .ok (.aload_n 0, 1) := by decide +kernel
theorem dX0_measure_50 : decode cX0_measure 50 = .ok (.getfield 25, 3) := by decide +kernel
theorem dX0_measure_53 : decode cX0_measure 53 = .ok (.invokevirtual 59, 3) := by decide +kernel
theorem dX0_measure_56 : decode cX0_measure 56 = .ok (.aload_n 1, 1) := by decide +kernel
theorem dX0_measure_57 : decode cX0_measure 57 = .ok (.iload 5, 2) := by decide +kernel
theorem dX0_measure_59 : decode cX0_measure 59 = .ok (.iload 6, 2) := by decide +kernel
theorem dX0_measure_61 : decode cX0_measure 61 = .ok (.invokevirtual 63, 3) := by decide +kernel
theorem dX0_measure_64 : decode cX0_measure 64 = .ok (.aload_n 1, 1) := by decide +kernel
theorem dX0_measure_65 : decode cX0_measure 65 = .ok (.aload_n 0, 1) := by decide +kernel
theorem dX0_measure_66 : decode cX0_measure 66 = .ok (.getfield 25, 3) := by decide +kernel
theorem dX0_measure_69 : decode cX0_measure 69 = .ok (.invokevirtual 69, 3) := by decide +kernel
theorem dX0_measure_72 : decode cX0_measure 72 = .ok (.aload_n 0, 1) := by decide +kernel
theorem dX0_measure_73 : decode cX0_measure 73 = .ok (.getfield 25, 3) := by decide +kernel
theorem dX0_measure_76 : decode cX0_measure 76 = .ok (.dup, 1) := by decide +kernel
theorem dX0_measure_77 : decode cX0_measure 77 = .ok (.getfield 72, 3) := by decide +kernel
theorem dX0_measure_80 : decode cX0_measure 80 = .ok (.iload_n 3, 1) := by decide +kernel
theorem dX0_measure_81 : decode cX0_measure 81 = .ok (.imul, 1) := by decide +kernel
theorem dX0_measure_82 : decode cX0_measure 82 = .ok (.putfield 72, 3) := by decide +kernel
theorem dX0_measure_85 : decode cX0_measure 85 = .ok (.iload 6, 2) := by decide +kernel
theorem dX0_measure_87 : decode cX0_measure 87 = .ok (.ifCond .le 14, 3) := by decide +kernel
theorem dX0_measure_90 : decode cX0_measure 90 = .ok (.aload_n 0, 1) := by decide +kernel
theorem dX0_measure_91 : decode cX0_measure 91 = .ok (.aload_n 2, 1) := by decide +kernel
theorem dX0_measure_92 : decode cX0_measure 92 = .ok (.getfield 75, 3) := by decide +kernel
theorem dX0_measure_95 : decode cX0_measure 95 = .ok (.iload 5, 2) := by decide +kernel
theorem dX0_measure_97 : decode cX0_measure 97 = .ok (.laload, 1) := by decide +kernel
theorem dX0_measure_98 : decode cX0_measure 98 = .ok (.invokevirtual 79, 3) := by decide +kernel
theorem dX0_measure_101 : decode cX0_measure 101 = .ok (.iinc 6 1, 3) := by decide +kernel
theorem dX0_measure_104 : decode cX0_measure 104 = .ok (.goto (-65), 3) := by decide +kernel
theorem dX0_measure_107 : decode cX0_measure 107 = .ok (.iinc 5 1, 3) := by decide +kernel
theorem dX0_measure_110 : decode cX0_measure 110 = .ok (.goto (-83), 3) := by decide +kernel
theorem dX0_measure_113 : decode cX0_measure 113 = .ok (.aload 4, 2) := by decide +kernel
theorem dX0_measure_115 : decode cX0_measure 115 = .ok (.getfield 82, 3) := by decide +kernel
theorem dX0_measure_118 : decode cX0_measure 118 = .ok (.aload_n 0, 1) := by decide +kernel
theorem dX0_measure_119 : decode cX0_measure 119 = .ok (.getfield 28, 3) := by decide +kernel
theorem dX0_measure_122 : decode cX0_measure 122 = .ok (.aload_n 0, 1) := by decide +kernel
theorem dX0_measure_123 : decode cX0_measure 123 = .ok (.getfield 34, 3) := by decide +kernel
theorem dX0_measure_126 : decode cX0_measure 126 = .ok (.invokevirtual 87, 3) := by decide +kernel
theorem dX0_measure_129 : decode cX0_measure 129 = .ok (.aload 4, 2) := by decide +kernel
theorem dX0_measure_131 : decode cX0_measure 131 = .ok (.getfield 82, 3) := by decide +kernel
theorem dX0_measure_134 : decode cX0_measure 134 = .ok (.aload_n 0, 1) := by decide +kernel
theorem dX0_measure_135 : decode cX0_measure 135 = .ok (.getfield 31, 3) := by decide +kernel
theorem dX0_measure_138 : decode cX0_measure 138 = .ok (.lconst 1, 1) := by decide +kernel
theorem dX0_measure_139 : decode cX0_measure 139 = .ok (.invokevirtual 91, 3) := by decide +kernel
theorem dX0_measure_142 : decode cX0_measure 142 = .ok (.aload_n 1, 1) := by decide +kernel
theorem dX0_measure_143 : decode cX0_measure 143 = .ok (.aload_n 0, 1) := by decide +kernel
theorem dX0_measure_144 : decode cX0_measure 144 = .ok (.getfield 43, 3) := by decide +kernel
theorem dX0_measure_147 : decode cX0_measure 147 = .ok (.invokevirtual 95, 3) := by decide +kernel
theorem dX0_measure_150 : decode cX0_measure 150 = .ok (.aload_n 0, 1) := by decide +kernel
theorem dX0_measure_151 : decode cX0_measure 151 = .ok (.getfield 46, 3) := by decide +kernel
theorem dX0_measure_154 : decode cX0_measure 154 = .ok (.aload_n 0, 1) := by decide +kernel
theorem dX0_measure_155 : decode cX0_measure 155 = .ok (.getfield 43, 3) := by decide +kernel
theorem dX0_measure_158 : decode cX0_measure 158 = .ok (.aload_n 0, 1) := by decide +kernel
theorem dX0_measure_159 : decode cX0_measure 159 = .ok (.getfield 34, 3) := by decide +kernel
theorem dX0_measure_162 : decode cX0_measure 162 = .ok (.invokevirtual 87, 3) := by decide +kernel
theorem dX0_measure_165 : decode cX0_measure 165 = .ok (.aload 4, 2) := by decide +kernel
theorem dX0_measure_167 : decode cX0_measure 167 = .ok (.getfield 98, 3) := by decide +kernel
theorem dX0_measure_170 : decode cX0_measure 170 = .ok (.lconst 0, 1) := by decide +kernel
theorem dX0_measure_171 : decode cX0_measure 171 = .ok (.invokevirtual 49, 3) := by decide +kernel
theorem dX0_measure_174 : decode cX0_measure 174 = .ok (.aload 4, 2) := by decide +kernel
theorem dX0_measure_176 : decode cX0_measure 176 = .ok (.getfield 98, 3) := by decide +kernel
theorem dX0_measure_179 : decode cX0_measure 179 = .ok (.aload_n 0, 1) := by decide +kernel
theorem dX0_measure_180 : decode cX0_measure 180 = .ok (.getfield 46, 3) := by decide +kernel
theorem dX0_measure_183 : decode cX0_measure 183 = .ok (.ldc2_w 101, 3) := by decide +kernel
theorem dX0_measure_186 : decode cX0_measure 186 = .ok (.invokevirtual 91, 3) := by decide +kernel
theorem dX0_measure_189 : decode cX0_measure 189 = .ok (.return_, 1) := by decide +kernel
theorem dX0_join_0 : decode cX0_join 0 = .ok (.aload_n 0, 1) := by decide +kernel
theorem dX0_join_1 : decode cX0_join 1 = .ok (.getfield 21, 3) := by decide +kernel
theorem dX0_join_4 : decode cX0_join 4 = .ok (.getfield 72, 3) := by decide +kernel
theorem dX0_join_7 : decode cX0_join 7 = .ok (.ifCond .lt 38, 3) := by decide +kernel
theorem dX0_join_10 : decode cX0_join 10 = .ok (.aload_n 0, 1) := by decide +kernel
theorem dX0_join_11 : decode cX0_join 11 = .ok (.getfield 25, 3) := by decide +kernel
theorem dX0_join_14 : decode cX0_join 14 = .ok (.getfield 72, 3) := by decide +kernel
theorem dX0_join_17 : decode cX0_join 17 = .ok (.ifCond .lt 28, 3) := by decide +kernel
theorem dX0_join_20 : decode cX0_join 20 = .ok (.aload_n 0, 1) := by decide +kernel
theorem dX0_join_21 : decode cX0_join 21 = .ok (.getfield 28, 3) := by decide +kernel
theorem dX0_join_24 : decode cX0_join 24 = .ok (.aload_n 0, 1) := by decide +kernel
theorem dX0_join_25 : decode cX0_join 25 = .ok (.getfield 21, 3) := by decide +kernel
theorem dX0_join_28 : decode cX0_join 28 = .ok (.lload_n 1, 1) := by decide +kernel
theorem dX0_join_29 : decode cX0_join 29 = .ok (.invokevirtual 91, 3) := by decide +kernel
theorem dX0_join_32 : decode cX0_join 32 = .ok (.aload_n 0, 1) := by decide +kernel
theorem dX0_join_33 : decode cX0_join 33 = .ok (.getfield 28, 3) := by decide +kernel
theorem dX0_join_36 : decode cX0_join 36 = .ok (.aload_n 0, 1) := by decide +kernel
theorem dX0_join_37 : decode cX0_join 37 = .ok (.getfield 25, 3) := by decide +kernel
theorem dX0_join_40 : decode cX0_join 40 = .ok (.lload_n 1, 1) := by decide +kernel
theorem dX0_join_41 : decode cX0_join 41 = .ok (.invokevirtual 91, 3) := by decide +kernel
theorem dX0_join_44 : decode cX0_join 44 = .ok (.return_, 1) := by decide +kernel
theorem dX0_join_45 : decode cX0_join 45 = .ok (.aload_n 0, 1) := by decide +kernel
theorem dX0_join_46 : decode cX0_join 46 = .ok (.getfield 21, 3) := by decide +kernel
theorem dX0_join_49 : decode cX0_join 49 = .ok (.getfield 72, 3) := by decide +kernel
theorem dX0_join_52 : decode cX0_join 52 = .ok (.aload_n 0, 1) := by decide +kernel
theorem dX0_join_53 : decode cX0_join 53 = .ok (.getfield 25, 3) := by decide +kernel
theorem dX0_join_56 : decode cX0_join 56 = .ok (.getfield 72, 3) := by decide +kernel
theorem dX0_join_59 : decode cX0_join 59 = .ok (.imul, 1) := by decide +kernel
theorem dX0_join_60 : decode cX0_join 60 = .ok (.ifCond .lt 4, 3) := by decide +kernel
theorem dX0_join_63 : decode cX0_join 63 = .ok (.return_, 1) := by decide +kernel
theorem dX0_join_64 : decode cX0_join 64 = .ok (.aload_n 0, 1) := by decide +kernel
theorem dX0_join_65 : decode cX0_join 65 = .ok (.getfield 21, 3) := by decide +kernel
theorem dX0_join_68 : decode cX0_join 68 = .ok (.getfield 72, 3) := by decide +kernel
theorem dX0_join_71 : decode cX0_join 71 = .ok (.ifCond .le 10, 3) := by decide +kernel
theorem dX0_join_74 : decode cX0_join 74 = .ok (.aload_n 0, 1) := by decide +kernel
theorem dX0_join_75 : decode cX0_join 75 = .ok (.getfield 21, 3) := by decide +kernel
theorem dX0_join_78 : decode cX0_join 78 = .ok (.goto 7, 3) := by decide +kernel
theorem dX0_join_81 : decode cX0_join 81 = .ok (.aload_n 0, 1) := by decide +kernel
theorem dX0_join_82 : decode cX0_join 82 = .ok (.getfield 25, 3) := by decide +kernel
theorem dX0_join_85 : decode cX0_join 85 = .ok (.astore_n 3, 1) := by decide +kernel
theorem dX0_join_86 : decode cX0_join 86 = .ok (.aload_n 0, 1) := by decide +kernel
theorem dX0_join_87 : decode cX0_join 87 = .ok (.getfield 21, 3) := by decide +kernel
theorem dX0_join_90 : decode cX0_join 90 = .ok (.getfield 72, 3) := by decide +kernel
theorem dX0_join_93 : decode cX0_join 93 = .ok (.ifCond .le 10, 3) := by decide +kernel
theorem dX0_join_96 : decode cX0_join 96 = .ok (.aload_n 0, 1) := by decide +kernel
theorem dX0_join_97 : decode cX0_join 97 = .ok (.getfield 25, 3) := by decide +kernel
theorem dX0_join_100 : decode cX0_join 100 = .ok (.goto 7, 3) := by decide +kernel
theorem dX0_join_103 : decode cX0_join 103 = .ok (.aload_n 0, 1) := by decide +kernel
theorem dX0_join_104 : decode cX0_join 104 = .ok (.getfield 21, 3) := by decide +kernel
theorem dX0_join_107 : decode cX0_join 107 = .ok (.astore 4, 2) := by decide +kernel
theorem dX0_join_109 : decode cX0_join 109 = .ok (.aload_n 0, 1) := by decide +kernel
theorem dX0_join_110 : decode cX0_join 110 = .ok (.getfield 12, 3) := by decide +kernel
theorem dX0_join_113 : decode cX0_join 113 = .ok (.aload_n 3, 1) := by decide +kernel
theorem dX0_join_114 : decode cX0_join 114 = .ok (.aload 4, 2) := by decide +kernel
theorem dX0_join_116 : decode cX0_join 116 = .ok (.invokevirtual 103, 3) := by decide +kernel
theorem dX0_join_119 : decode cX0_join 119 = .ok (.astore 5, 2) := by decide +kernel
theorem dX0_join_121 : decode cX0_join 121 = .ok (.aload_n 0, 1) := by decide +kernel
theorem dX0_join_122 : decode cX0_join 122 = .ok (.getfield 43, 3) := by decide +kernel
theorem dX0_join_125 : decode cX0_join 125 = .ok (.aload_n 3, 1) := by decide +kernel
theorem dX0_join_126 : decode cX0_join 126 = .ok (.invokevirtual 59, 3) := by decide +kernel
theorem dX0_join_129 : decode cX0_join 129 = .ok (.aload_n 0, 1) := by decide +kernel
theorem dX0_join_130 : decode cX0_join 130 = .ok (.getfield 43, 3) := by decide +kernel
theorem dX0_join_133 : decode cX0_join 133 = .ok (.aload 5, 2) := by decide +kernel
theorem dX0_join_135 : decode cX0_join 135 = .ok (.aload_n 0, 1) := by decide +kernel
theorem dX0_join_136 : decode cX0_join 136 = .ok (.getfield 37, 3) := by decide +kernel
theorem dX0_join_139 : decode cX0_join 139 = .ok (.invokevirtual 107, 3) := by decide +kernel
theorem dX0_join_142 : decode cX0_join 142 = .ok (.aload_n 0, 1) := by decide +kernel
theorem dX0_join_143 : decode cX0_join 143 = .ok (.getfield 43, 3) := by decide +kernel
theorem dX0_join_146 : decode cX0_join 146 = .ok (.aload_n 3, 1) := by decide +kernel
theorem dX0_join_147 : decode cX0_join 147 = .ok (.invokevirtual 59, 3) := by decide +kernel
theorem dX0_join_150 : decode cX0_join 150 = .ok (.aload_n 0, 1) := by decide +kernel
theorem dX0_join_151 : decode cX0_join 151 = .ok (.getfield 43, 3) := by decide +kernel
theorem dX0_join_154 : decode cX0_join 154 = .ok (.aload 4, 2) := by decide +kernel
theorem dX0_join_156 : decode cX0_join 156 = .ok (.ldc2_w 110, 3) := by decide +kernel
theorem dX0_join_159 : decode cX0_join 159 = .ok (.invokevirtual 91, 3) := by decide +kernel
theorem dX0_join_162 : decode cX0_join 162 = .ok (.aload_n 0, 1) := by decide +kernel
theorem dX0_join_163 : decode cX0_join 163 = .ok (.getfield 43, 3) := by decide +kernel
theorem dX0_join_166 : decode cX0_join 166 = .ok (.aload 5, 2) := by decide +kernel
theorem dX0_join_168 : decode cX0_join 168 = .ok (.aload_n 0, 1) := by decide +kernel
theorem dX0_join_169 : decode cX0_join 169 = .ok (.getfield 40, 3) := by decide +kernel
theorem dX0_join_172 : decode cX0_join 172 = .ok (.invokevirtual 107, 3) := by decide +kernel
theorem dX0_join_175 : decode cX0_join 175 = .ok (.aload_n 0, 1) := by decide +kernel
theorem dX0_join_176 : decode cX0_join 176 = .ok (.getfield 43, 3) := by decide +kernel
theorem dX0_join_179 : decode cX0_join 179 = .ok (.aload_n 0, 1) := by decide +kernel
theorem dX0_join_180 : decode cX0_join 180 = .ok (.getfield 37, 3) := by decide +kernel
theorem dX0_join_183 : decode cX0_join 183 = .ok (.aload_n 0, 1) := by decide +kernel
theorem dX0_join_184 : decode cX0_join 184 = .ok (.getfield 37, 3) := by decide +kernel
theorem dX0_join_187 : decode cX0_join 187 = .ok (.invokevirtual 87, 3) := by decide +kernel
theorem dX0_join_190 : decode cX0_join 190 = .ok (.aload_n 0, 1) := by decide +kernel
theorem dX0_join_191 : decode cX0_join 191 = .ok (.getfield 46, 3) := by decide +kernel
theorem dX0_join_194 : decode cX0_join 194 = .ok (.aload_n 0, 1) := by decide +kernel
theorem dX0_join_195 : decode cX0_join 195 = .ok (.getfield 43, 3) := by decide +kernel
theorem dX0_join_198 : decode cX0_join 198 = .ok (.aload 5, 2) := by decide +kernel
theorem dX0_join_200 : decode cX0_join 200 = .ok (.invokevirtual 87, 3) := by decide +kernel
theorem dX0_join_203 : decode cX0_join 203 = .ok (.aload_n 0, 1) := by decide +kernel
theorem dX0_join_204 : decode cX0_join 204 = .ok (.getfield 43, 3) := by decide +kernel
theorem dX0_join_207 : decode cX0_join 207 = .ok (.aload_n 0, 1) := by decide +kernel
theorem dX0_join_208 : decode cX0_join 208 = .ok (.getfield 46, 3) := by decide +kernel
theorem dX0_join_211 : decode cX0_join 211 = .ok (.aload_n 0, 1) := by decide +kernel
theorem dX0_join_212 : decode cX0_join 212 = .ok (.getfield 34, 3) := by decide +kernel
theorem dX0_join_215 : decode cX0_join 215 = .ok (.invokevirtual 87, 3) := by decide +kernel
theorem dX0_join_218 : decode cX0_join 218 = .ok (.aload_n 0, 1) := by decide +kernel
theorem dX0_join_219 : decode cX0_join 219 = .ok (.getfield 46, 3) := by decide +kernel
theorem dX0_join_222 : decode cX0_join 222 = .ok (.aload_n 0, 1) := by decide +kernel
theorem dX0_join_223 : decode cX0_join 223 = .ok (.getfield 31, 3) := by decide +kernel
theorem dX0_join_226 : decode cX0_join 226 = .ok (.aload_n 0, 1) := by decide +kernel
theorem dX0_join_227 : decode cX0_join 227 = .ok (.getfield 40, 3) := by decide +kernel
theorem dX0_join_230 : decode cX0_join 230 = .ok (.invokevirtual 87, 3) := by decide +kernel
theorem dX0_join_233 : decode cX0_join 233 = .ok (.aload_n 0, 1) := by decide +kernel
theorem dX0_join_234 : decode cX0_join 234 = .ok (.getfield 46, 3) := by decide +kernel
theorem dX0_join_237 : decode cX0_join 237 = .ok (.aload_n 0, 1) := by decide +kernel
theorem dX0_join_238 : decode cX0_join 238 = .ok (.getfield 43, 3) := by decide +kernel
theorem dX0_join_241 : decode cX0_join 241 = .ok (.lload_n 1, 1) := by decide +kernel
theorem dX0_join_242 : decode cX0_join 242 = .ok (.invokevirtual 91, 3) := by decide +kernel
theorem dX0_join_245 : decode cX0_join 245 = .ok (.aload_n 0, 1) := by decide +kernel
theorem dX0_join_246 : decode cX0_join 246 = .ok (.getfield 31, 3) := by decide +kernel
theorem dX0_join_249 : decode cX0_join 249 = .ok (.aload_n 0, 1) := by decide +kernel
theorem dX0_join_250 : decode cX0_join 250 = .ok (.getfield 46, 3) := by decide +kernel
theorem dX0_join_253 : decode cX0_join 253 = .ok (.invokevirtual 59, 3) := by decide +kernel
theorem dX0_join_256 : decode cX0_join 256 = .ok (.aload_n 0, 1) := by decide +kernel
theorem dX0_join_257 : decode cX0_join 257 = .ok (.getfield 43, 3) := by decide +kernel
theorem dX0_join_260 : decode cX0_join 260 = .ok (.aload_n 0, 1) := by decide +kernel
theorem dX0_join_261 : decode cX0_join 261 = .ok (.getfield 34, 3) := by decide +kernel
theorem dX0_join_264 : decode cX0_join 264 = .ok (.aload_n 0, 1) := by decide +kernel
theorem dX0_join_265 : decode cX0_join 265 = .ok (.getfield 40, 3) := by decide +kernel
theorem dX0_join_268 : decode cX0_join 268 = .ok (.invokevirtual 87, 3) := by decide +kernel
theorem dX0_join_271 : decode cX0_join 271 = .ok (.aload_n 0, 1) := by decide +kernel
theorem dX0_join_272 : decode cX0_join 272 = .ok (.getfield 34, 3) := by decide +kernel
theorem dX0_join_275 : decode cX0_join 275 = .ok (.aload_n 0, 1) := by decide +kernel
theorem dX0_join_276 : decode cX0_join 276 = .ok (.getfield 43, 3) := by decide +kernel
theorem dX0_join_279 : decode cX0_join 279 = .ok (.invokevirtual 59, 3) := by decide +kernel
theorem dX0_join_282 : decode cX0_join 282 = .ok (.return_, 1) := by decide +kernel
theorem dX1_init_0 : decode cX1_init 0 = .ok (.aload_n 0, 1) := by decide +kernel
theorem dX1_init_1 : decode cX1_init 1 = .ok (.invokespecial 1, 3) := by decide +kernel
theorem dX1_init_4 : decode cX1_init 4 = .ok (.aload_n 0, 1) := by decide +kernel
theorem dX1_init_5 : decode cX1_init 5 = .ok (.iconst 3, 1) := by decide +kernel
theorem dX1_init_6 : decode cX1_init 6 = .ok (.newarray .long, 2) := by decide +kernel
theorem dX1_init_8 : decode cX1_init 8 = .ok (.putfield 9, 3) := by decide +kernel
theorem dX1_init_11 : decode cX1_init 11 = .ok (.aload_n 0, 1) := by decide +kernel
theorem dX1_init_12 : decode cX1_init 12 = .ok (.iconst 3, 1) := by decide +kernel
theorem dX1_init_13 : decode cX1_init 13 = .ok (.newarray .long, 2) := by decide +kernel
theorem dX1_init_15 : decode cX1_init 15 = .ok (.putfield 13, 3) := by decide +kernel
theorem dX1_init_18 : decode cX1_init 18 = .ok (.aload_n 0, 1) := by decide +kernel
theorem dX1_init_19 : decode cX1_init 19 = .ok (.bipush 6, 2) := by decide +kernel
theorem dX1_init_21 : decode cX1_init 21 = .ok (.newarray .boolean, 2) := by decide +kernel
theorem dX1_init_23 : decode cX1_init 23 = .ok (.putfield 16, 3) := by decide +kernel
theorem dX1_init_26 : decode cX1_init 26 = .ok (.aload_n 0, 1) := by decide +kernel
theorem dX1_init_27 : decode cX1_init 27 = .ok (.iconst 4, 1) := by decide +kernel
theorem dX1_init_28 : decode cX1_init 28 = .ok (.newarray .boolean, 2) := by decide +kernel
theorem dX1_init_30 : decode cX1_init 30 = .ok (.putfield 20, 3) := by decide +kernel
theorem dX1_init_33 : decode cX1_init 33 = .ok (.aload_n 0, 1) := by decide +kernel
theorem dX1_init_34 : decode cX1_init 34 = .ok (.iconst 4, 1) := by decide +kernel
theorem dX1_init_35 : decode cX1_init 35 = .ok (.newarray .boolean, 2) := by decide +kernel
theorem dX1_init_37 : decode cX1_init 37 = .ok (.putfield 23, 3) := by decide +kernel
theorem dX1_init_40 : decode cX1_init 40 = .ok (.aload_n 0, 1) := by decide +kernel
theorem dX1_init_41 : decode cX1_init 41 = .ok (.iconst 4, 1) := by decide +kernel
theorem dX1_init_42 : decode cX1_init 42 = .ok (.newarray .long, 2) := by decide +kernel
theorem dX1_init_44 : decode cX1_init 44 = .ok (.putfield 26, 3) := by decide +kernel
theorem dX1_init_47 : decode cX1_init 47 = .ok (.aload_n 0, 1) := by decide +kernel
theorem dX1_init_48 : decode cX1_init 48 = .ok (.getfield 9, 3) := by decide +kernel
theorem dX1_init_51 : decode cX1_init 51 = .ok (.lconst 1, 1) := by decide +kernel
theorem dX1_init_52 : decode cX1_init 52 = .ok (.invokestatic 29, 3) := by decide +kernel
theorem dX1_init_55 : decode cX1_init 55 = .ok (.aload_n 0, 1) := by decide +kernel
theorem dX1_init_56 : decode cX1_init 56 = .ok (.getfield 13, 3) := by decide +kernel
theorem dX1_init_59 : decode cX1_init 59 = .ok (.lconst 1, 1) := by decide +kernel
theorem dX1_init_60 : decode cX1_init 60 = .ok (.invokestatic 29, 3) := by decide +kernel
theorem dX1_init_63 : decode cX1_init 63 = .ok (.aload_n 0, 1) := by decide +kernel
theorem dX1_init_64 : decode cX1_init 64 = .ok (.getfield 20, 3) := by decide +kernel
theorem dX1_init_67 : decode cX1_init 67 = .ok (.iconst 0, 1) := by decide +kernel
theorem dX1_init_68 : decode cX1_init 68 = .ok (.iconst 1, 1) := by decide +kernel
theorem dX1_init_69 : decode cX1_init 69 = .ok (.bastore, 1) := by decide +kernel
theorem dX1_init_70 : decode cX1_init 70 = .ok (.aload_n 0, 1) := by decide +kernel
theorem dX1_init_71 : decode cX1_init 71 = .ok (.getfield 23, 3) := by decide +kernel
theorem dX1_init_74 : decode cX1_init 74 = .ok (.iconst 0, 1) := by decide +kernel
theorem dX1_init_75 : decode cX1_init 75 = .ok (.iconst 1, 1) := by decide +kernel
theorem dX1_init_76 : decode cX1_init 76 = .ok (.bastore, 1) := by decide +kernel
theorem dX1_init_77 : decode cX1_init 77 = .ok (.aload_n 0, 1) := by decide +kernel
theorem dX1_init_78 : decode cX1_init 78 = .ok (.iconst 1, 1) := by decide +kernel
theorem dX1_init_79 : decode cX1_init 79 = .ok (.putfield 35, 3) := by decide +kernel
theorem dX1_init_82 : decode cX1_init 82 = .ok (.return_, 1) := by decide +kernel
theorem dX1_isNumber_0 : decode cX1_isNumber 0 = .ok (.lload_n 0, 1) := by decide +kernel
theorem dX1_isNumber_1 : decode cX1_isNumber 1 = .ok (.lconst 1, 1) := by decide +kernel
theorem dX1_isNumber_2 : decode cX1_isNumber 2 = .ok (.lcmp, 1) := by decide +kernel
theorem dX1_isNumber_3 : decode cX1_isNumber 3 = .ok (.ifCond .lt 15, 3) := by decide +kernel
theorem dX1_isNumber_6 : decode cX1_isNumber 6 = .ok (.lload_n 0, 1) := by decide +kernel
theorem dX1_isNumber_7 : decode cX1_isNumber 7 = .ok (.ldc2_w 39, 3) := by decide +kernel
theorem dX1_isNumber_10 : decode cX1_isNumber 10 = .ok (.lcmp, 1) := by decide +kernel
theorem dX1_isNumber_11 : decode cX1_isNumber 11 = .ok (.ifCond .gt 7, 3) := by decide +kernel
theorem dX1_isNumber_14 : decode cX1_isNumber 14 = .ok (.iconst 1, 1) := by decide +kernel
theorem dX1_isNumber_15 : decode cX1_isNumber 15 = .ok (.goto 4, 3) := by decide +kernel
theorem dX1_isNumber_18 : decode cX1_isNumber 18 = .ok (.iconst 0, 1) := by decide +kernel
theorem dX1_isNumber_19 : decode cX1_isNumber 19 = .ok (.ireturn, 1) := by decide +kernel
theorem dX1_clear_0 : decode cX1_clear 0 = .ok (.aload_n 0, 1) := by decide +kernel
theorem dX1_clear_1 : decode cX1_clear 1 = .ok (.iconst 0, 1) := by decide +kernel
theorem dX1_clear_2 : decode cX1_clear 2 = .ok (.putfield 35, 3) := by decide +kernel
theorem dX1_clear_5 : decode cX1_clear 5 = .ok (.aload_n 0, 1) := by decide +kernel
theorem dX1_clear_6 : decode cX1_clear 6 = .ok (.getfield 9, 3) := by decide +kernel
theorem dX1_clear_9 : decode cX1_clear 9 = .ok (.lconst 1, 1) := by decide +kernel
theorem dX1_clear_10 : decode cX1_clear 10 = .ok (.invokestatic 29, 3) := by decide +kernel
theorem dX1_clear_13 : decode cX1_clear 13 = .ok (.aload_n 0, 1) := by decide +kernel
theorem dX1_clear_14 : decode cX1_clear 14 = .ok (.getfield 13, 3) := by decide +kernel
theorem dX1_clear_17 : decode cX1_clear 17 = .ok (.lconst 1, 1) := by decide +kernel
theorem dX1_clear_18 : decode cX1_clear 18 = .ok (.invokestatic 29, 3) := by decide +kernel
theorem dX1_clear_21 : decode cX1_clear 21 = .ok (.aload_n 0, 1) := by decide +kernel
theorem dX1_clear_22 : decode cX1_clear 22 = .ok (.getfield 26, 3) := by decide +kernel
theorem dX1_clear_25 : decode cX1_clear 25 = .ok (.lconst 0, 1) := by decide +kernel
theorem dX1_clear_26 : decode cX1_clear 26 = .ok (.invokestatic 29, 3) := by decide +kernel
theorem dX1_clear_29 : decode cX1_clear 29 = .ok (.iconst 0, 1) := by decide +kernel
theorem dX1_clear_30 : decode cX1_clear 30 = .ok (.istore_n 1, 1) := by decide +kernel
theorem dX1_clear_31 : decode cX1_clear 31 = .ok (.iload_n 1, 1) := by decide +kernel
theorem dX1_clear_32 : decode cX1_clear 32 = .ok (.aload_n 0, 1) := by decide +kernel
theorem dX1_clear_33 : decode cX1_clear 33 = .ok (.getfield 16, 3) := by decide +kernel
theorem dX1_clear_36 : decode cX1_clear 36 = .ok (.arraylength, 1) := by decide +kernel
theorem dX1_clear_37 : decode cX1_clear 37 = .ok (.if_icmp .ge 16, 3) := by decide +kernel
theorem dX1_clear_40 : decode cX1_clear 40 = .ok (.aload_n 0, 1) := by decide +kernel
theorem dX1_clear_41 : decode cX1_clear 41 = .ok (.getfield 16, 3) := by decide +kernel
theorem dX1_clear_44 : decode cX1_clear 44 = .ok (.iload_n 1, 1) := by decide +kernel
theorem dX1_clear_45 : decode cX1_clear 45 = .ok (.iconst 0, 1) := by decide +kernel
theorem dX1_clear_46 : decode cX1_clear 46 = .ok (.bastore, 1) := by decide +kernel
theorem dX1_clear_47 : decode cX1_clear 47 = .ok (.iinc 1 1, 3) := by decide +kernel
theorem dX1_clear_50 : decode cX1_clear 50 = .ok (.goto (-19), 3) := by decide +kernel
theorem dX1_clear_53 : decode cX1_clear 53 = .ok (.iconst 0, 1) := by decide +kernel
theorem dX1_clear_54 : decode cX1_clear 54 = .ok (.istore_n 1, 1) := by decide +kernel
theorem dX1_clear_55 : decode cX1_clear 55 = .ok (.iload_n 1, 1) := by decide +kernel
theorem dX1_clear_56 : decode cX1_clear 56 = .ok (.aload_n 0, 1) := by decide +kernel
theorem dX1_clear_57 : decode cX1_clear 57 = .ok (.getfield 20, 3) := by decide +kernel
theorem dX1_clear_60 : decode cX1_clear 60 = .ok (.arraylength, 1) := by decide +kernel
theorem dX1_clear_61 : decode cX1_clear 61 = .ok (.if_icmp .ge 23, 3) := by decide +kernel
theorem dX1_clear_64 : decode cX1_clear 64 = .ok (.aload_n 0, 1) := by decide +kernel
theorem dX1_clear_65 : decode cX1_clear 65 = .ok (.getfield 20, 3) := by decide +kernel
theorem dX1_clear_68 : decode cX1_clear 68 = .ok (.iload_n 1, 1) := by decide +kernel
theorem dX1_clear_69 : decode cX1_clear 69 = .ok (.iconst 0, 1) := by decide +kernel
theorem dX1_clear_70 : decode cX1_clear 70 = .ok (.bastore, 1) := by decide +kernel
theorem dX1_clear_71 : decode cX1_clear 71 = .ok (.aload_n 0, 1) := by decide +kernel
theorem dX1_clear_72 : decode cX1_clear 72 = .ok (.getfield 23, 3) := by decide +kernel
theorem dX1_clear_75 : decode cX1_clear 75 = .ok (.iload_n 1, 1) := by decide +kernel
theorem dX1_clear_76 : decode cX1_clear 76 = .ok (.iconst 0, 1) := by decide +kernel
theorem dX1_clear_77 : decode cX1_clear 77 = .ok (.bastore, 1) := by decide +kernel
theorem dX1_clear_78 : decode cX1_clear 78 = .ok (.iinc 1 1, 3) := by decide +kernel
theorem dX1_clear_81 : decode cX1_clear 81 = .ok (.goto (-26), 3) := by decide +kernel
theorem dX1_clear_84 : decode cX1_clear 84 = .ok (.return_, 1) := by decide +kernel
theorem dX1_take_0 : decode cX1_take 0 = .ok (.aload_n 0, 1) := by decide +kernel
theorem dX1_take_1 : decode cX1_take 1 = .ok (.aload_n 1, 1) := by decide +kernel
theorem dX1_take_2 : decode cX1_take 2 = .ok (.getfield 35, 3) := by decide +kernel
theorem dX1_take_5 : decode cX1_take 5 = .ok (.putfield 35, 3) := by decide +kernel
theorem dX1_take_8 : decode cX1_take 8 = .ok (.iconst 0, 1) := by decide +kernel
theorem dX1_take_9 : decode cX1_take 9 = .ok (.istore_n 2, 1) := by decide +kernel
theorem dX1_take_10 : decode cX1_take 10 = .ok (.iload_n 2, 1) := by decide +kernel
theorem dX1_take_11 : decode cX1_take 11 = .ok (.iconst 3, 1) := by decide +kernel
theorem dX1_take_12 : decode cX1_take 12 = .ok (.if_icmp .ge 33, 3) := by decide +kernel
theorem dX1_take_15 : decode cX1_take 15 = .ok (.aload_n 0, 1) := by decide +kernel
theorem dX1_take_16 : decode cX1_take 16 = .ok (.getfield 9, 3) := by decide +kernel
theorem dX1_take_19 : decode cX1_take 19 = .ok (.iload_n 2, 1) := by decide +kernel
theorem dX1_take_20 : decode cX1_take 20 = .ok (.aload_n 1, 1) := by decide +kernel
theorem dX1_take_21 : decode cX1_take 21 = .ok (.getfield 9, 3) := by decide +kernel
theorem dX1_take_24 : decode cX1_take 24 = .ok (.iload_n 2, 1) := by decide +kernel
theorem dX1_take_25 : decode cX1_take 25 = .ok (.laload, 1) := by decide +kernel
theorem dX1_take_26 : decode cX1_take 26 = .ok (.lastore, 1) := by decide +kernel
theorem dX1_take_27 : decode cX1_take 27 = .ok (.aload_n 0, 1) := by decide +kernel
theorem dX1_take_28 : decode cX1_take 28 = .ok (.getfield 13, 3) := by decide +kernel
theorem dX1_take_31 : decode cX1_take 31 = .ok (.iload_n 2, 1) := by decide +kernel
theorem dX1_take_32 : decode cX1_take 32 = .ok (.aload_n 1, 1) := by decide +kernel
theorem dX1_take_33 : decode cX1_take 33 = .ok (.getfield 13, 3) := by decide +kernel
theorem dX1_take_36 : decode cX1_take 36 = .ok (.iload_n 2, 1) := by decide +kernel
theorem dX1_take_37 : decode cX1_take 37 = .ok (.laload, 1) := by decide +kernel
theorem dX1_take_38 : decode cX1_take 38 = .ok (.lastore, 1) := by decide +kernel
theorem dX1_take_39 : decode cX1_take 39 = .ok (.iinc 2 1, 3) := by decide +kernel
theorem dX1_take_42 : decode cX1_take 42 = .ok (.goto (-32), 3) := by decide +kernel
theorem dX1_take_45 : decode cX1_take 45 = .ok (.iconst 0, 1) := by decide +kernel
theorem dX1_take_46 : decode cX1_take 46 = .ok (.istore_n 2, 1) := by decide +kernel
theorem dX1_take_47 : decode cX1_take 47 = .ok (.iload_n 2, 1) := by decide +kernel
theorem dX1_take_48 : decode cX1_take 48 = .ok (.bipush 6, 2) := by decide +kernel
theorem dX1_take_50 : decode cX1_take 50 = .ok (.if_icmp .ge 21, 3) := by decide +kernel
theorem dX1_take_53 : decode cX1_take 53 = .ok (.aload_n 0, 1) := by decide +kernel
theorem dX1_take_54 : decode cX1_take 54 = .ok (.getfield 16, 3) := by decide +kernel
theorem dX1_take_57 : decode cX1_take 57 = .ok (.iload_n 2, 1) := by decide +kernel
theorem dX1_take_58 : decode cX1_take 58 = .ok (.aload_n 1, 1) := by decide +kernel
theorem dX1_take_59 : decode cX1_take 59 = .ok (.getfield 16, 3) := by decide +kernel
theorem dX1_take_62 : decode cX1_take 62 = .ok (.iload_n 2, 1) := by decide +kernel
theorem dX1_take_63 : decode cX1_take 63 = .ok (.baload, 1) := by decide +kernel
theorem dX1_take_64 : decode cX1_take 64 = .ok (.bastore, 1) := by decide +kernel
theorem dX1_take_65 : decode cX1_take 65 = .ok (.iinc 2 1, 3) := by decide +kernel
theorem dX1_take_68 : decode cX1_take 68 = .ok (.goto (-21), 3) := by decide +kernel
theorem dX1_take_71 : decode cX1_take 71 = .ok (.iconst 0, 1) := by decide +kernel
theorem dX1_take_72 : decode cX1_take 72 = .ok (.istore_n 2, 1) := by decide +kernel
theorem dX1_take_73 : decode cX1_take 73 = .ok (.iload_n 2, 1) := by decide +kernel
theorem dX1_take_74 : decode cX1_take 74 = .ok (.iconst 3, 1) := by decide +kernel
theorem dX1_take_75 : decode cX1_take 75 = .ok (.if_icmp .gt 45, 3) := by decide +kernel
theorem dX1_take_78 : decode cX1_take 78 = .ok (.aload_n 0, 1) := by decide +kernel
theorem dX1_take_79 : decode cX1_take 79 = .ok (.getfield 20, 3) := by decide +kernel
theorem dX1_take_82 : decode cX1_take 82 = .ok (.iload_n 2, 1) := by decide +kernel
theorem dX1_take_83 : decode cX1_take 83 = .ok (.aload_n 1, 1) := by decide +kernel
theorem dX1_take_84 : decode cX1_take 84 = .ok (.getfield 20, 3) := by decide +kernel
theorem dX1_take_87 : decode cX1_take 87 = .ok (.iload_n 2, 1) := by decide +kernel
theorem dX1_take_88 : decode cX1_take 88 = .ok (.baload, 1) := by decide +kernel
theorem dX1_take_89 : decode cX1_take 89 = .ok (.bastore, 1) := by decide +kernel
theorem dX1_take_90 : decode cX1_take 90 = .ok (.aload_n 0, 1) := by decide +kernel
theorem dX1_take_91 : decode cX1_take 91 = .ok (.getfield 23, 3) := by decide +kernel
theorem dX1_take_94 : decode cX1_take 94 = .ok (.iload_n 2, 1) := by decide +kernel
theorem dX1_take_95 : decode cX1_take 95 = .ok (.aload_n 1, 1) := by decide +kernel
theorem dX1_take_96 : decode cX1_take 96 = .ok (.getfield 23, 3) := by decide +kernel
theorem dX1_take_99 : decode cX1_take 99 = .ok (.iload_n 2, 1) := by decide +kernel
theorem dX1_take_100 : decode cX1_take 100 = .ok (.baload, 1) := by decide +kernel
theorem dX1_take_101 : decode cX1_take 101 = .ok (.bastore, 1) := by decide +kernel
theorem dX1_take_102 : decode cX1_take 102 = .ok (.aload_n 0, 1) := by decide +kernel
theorem dX1_take_103 : decode cX1_take 103 = .ok (.getfield 26, 3) := by decide +kernel
theorem dX1_take_106 : decode cX1_take 106 = .ok (.iload_n 2, 1) := by decide +kernel
theorem dX1_take_107 : decode cX1_take 107 = .ok (.aload_n 1, 1) := by decide +kernel
theorem dX1_take_108 : decode cX1_take 108 = .ok (.getfield 26, 3) := by decide +kernel
theorem dX1_take_111 : decode cX1_take 111 = .ok (.iload_n 2, 1) := by decide +kernel
theorem dX1_take_112 : decode cX1_take 112 = .ok (.laload, 1) := by decide +kernel
theorem dX1_take_113 : decode cX1_take 113 = .ok (.lastore, 1) := by decide +kernel
theorem dX1_take_114 : decode cX1_take 114 = .ok (.iinc 2 1, 3) := by decide +kernel
theorem dX1_take_117 : decode cX1_take 117 = .ok (.goto (-44), 3) := by decide +kernel
theorem dX1_take_120 : decode cX1_take 120 = .ok (.return_, 1) := by decide +kernel
theorem dX1_hinges_0 : decode cX1_hinges 0 = .ok (.iconst 0, 1) := by decide +kernel
theorem dX1_hinges_1 : decode cX1_hinges 1 = .ok (.istore_n 1, 1) := by decide +kernel
theorem dX1_hinges_2 : decode cX1_hinges 2 = .ok (.iconst 0, 1) := by decide +kernel
theorem dX1_hinges_3 : decode cX1_hinges 3 = .ok (.istore_n 2, 1) := by decide +kernel
theorem dX1_hinges_4 : decode cX1_hinges 4 = .ok (.iload_n 2, 1) := by decide +kernel
theorem dX1_hinges_5 : decode cX1_hinges 5 = .ok (.iconst 2, 1) := by decide +kernel
theorem dX1_hinges_6 : decode cX1_hinges 6 = .ok (.aload_n 0, 1) := by decide +kernel
theorem dX1_hinges_7 : decode cX1_hinges 7 = .ok (.getfield 35, 3) := by decide +kernel
theorem dX1_hinges_10 : decode cX1_hinges 10 = .ok (.imul, 1) := by decide +kernel
theorem dX1_hinges_11 : decode cX1_hinges 11 = .ok (.if_icmp .ge 26, 3) := by decide +kernel
theorem dX1_hinges_14 : decode cX1_hinges 14 = .ok (.iload_n 1, 1) := by decide +kernel
theorem dX1_hinges_15 : decode cX1_hinges 15 = .ok (.aload_n 0, 1) := by decide +kernel
theorem dX1_hinges_16 : decode cX1_hinges 16 = .ok (.getfield 16, 3) := by decide +kernel
theorem dX1_hinges_19 : decode cX1_hinges 19 = .ok (.iload_n 2, 1) := by decide +kernel
theorem dX1_hinges_20 : decode cX1_hinges 20 = .ok (.baload, 1) := by decide +kernel
theorem dX1_hinges_21 : decode cX1_hinges 21 = .ok (.ifCond .eq 7, 3) := by decide +kernel
theorem dX1_hinges_24 : decode cX1_hinges 24 = .ok (.iconst 1, 1) := by decide +kernel
theorem dX1_hinges_25 : decode cX1_hinges 25 = .ok (.goto 4, 3) := by decide +kernel
theorem dX1_hinges_28 : decode cX1_hinges 28 = .ok (.iconst 0, 1) := by decide +kernel
theorem dX1_hinges_29 : decode cX1_hinges 29 = .ok (.iadd, 1) := by decide +kernel
theorem dX1_hinges_30 : decode cX1_hinges 30 = .ok (.istore_n 1, 1) := by decide +kernel
theorem dX1_hinges_31 : decode cX1_hinges 31 = .ok (.iinc 2 1, 3) := by decide +kernel
theorem dX1_hinges_34 : decode cX1_hinges 34 = .ok (.goto (-30), 3) := by decide +kernel
theorem dX1_hinges_37 : decode cX1_hinges 37 = .ok (.iload_n 1, 1) := by decide +kernel
theorem dX1_hinges_38 : decode cX1_hinges 38 = .ok (.ireturn, 1) := by decide +kernel
theorem dX1_heldNodes_0 : decode cX1_heldNodes 0 = .ok (.iconst 0, 1) := by decide +kernel
theorem dX1_heldNodes_1 : decode cX1_heldNodes 1 = .ok (.istore_n 1, 1) := by decide +kernel
theorem dX1_heldNodes_2 : decode cX1_heldNodes 2 = .ok (.iconst 0, 1) := by decide +kernel
theorem dX1_heldNodes_3 : decode cX1_heldNodes 3 = .ok (.istore_n 2, 1) := by decide +kernel
theorem dX1_heldNodes_4 : decode cX1_heldNodes 4 = .ok (.iload_n 2, 1) := by decide +kernel
theorem dX1_heldNodes_5 : decode cX1_heldNodes 5 = .ok (.aload_n 0, 1) := by decide +kernel
theorem dX1_heldNodes_6 : decode cX1_heldNodes 6 = .ok (.getfield 35, 3) := by decide +kernel
theorem dX1_heldNodes_9 : decode cX1_heldNodes 9 = .ok (.if_icmp .gt 26, 3) := by decide +kernel
theorem dX1_heldNodes_12 : decode cX1_heldNodes 12 = .ok (.iload_n 1, 1) := by decide +kernel
theorem dX1_heldNodes_13 : decode cX1_heldNodes 13 = .ok (.aload_n 0, 1) := by decide +kernel
theorem dX1_heldNodes_14 : decode cX1_heldNodes 14 = .ok (.getfield 20, 3) := by decide +kernel
theorem dX1_heldNodes_17 : decode cX1_heldNodes 17 = .ok (.iload_n 2, 1) := by decide +kernel
theorem dX1_heldNodes_18 : decode cX1_heldNodes 18 = .ok (.baload, 1) := by decide +kernel
theorem dX1_heldNodes_19 : decode cX1_heldNodes 19 = .ok (.ifCond .eq 7, 3) := by decide +kernel
theorem dX1_heldNodes_22 : decode cX1_heldNodes 22 = .ok (.iconst 1, 1) := by decide +kernel
theorem dX1_heldNodes_23 : decode cX1_heldNodes 23 = .ok (.goto 4, 3) := by decide +kernel
theorem dX1_heldNodes_26 : decode cX1_heldNodes 26 = .ok (.iconst 0, 1) := by decide +kernel
theorem dX1_heldNodes_27 : decode cX1_heldNodes 27 = .ok (.iadd, 1) := by decide +kernel
theorem dX1_heldNodes_28 : decode cX1_heldNodes 28 = .ok (.istore_n 1, 1) := by decide +kernel
theorem dX1_heldNodes_29 : decode cX1_heldNodes 29 = .ok (.iinc 2 1, 3) := by decide +kernel
theorem dX1_heldNodes_32 : decode cX1_heldNodes 32 = .ok (.goto (-28), 3) := by decide +kernel
theorem dX1_heldNodes_35 : decode cX1_heldNodes 35 = .ok (.iload_n 1, 1) := by decide +kernel
theorem dX1_heldNodes_36 : decode cX1_heldNodes 36 = .ok (.ireturn, 1) := by decide +kernel
theorem dX1_wholeLength_0 : decode cX1_wholeLength 0 = .ok (.lconst 0, 1) := by decide +kernel
theorem dX1_wholeLength_1 : decode cX1_wholeLength 1 = .ok (.lstore_n 1, 1) := by decide +kernel
theorem dX1_wholeLength_2 : decode cX1_wholeLength 2 = .ok (.iconst 0, 1) := by decide +kernel
theorem dX1_wholeLength_3 : decode cX1_wholeLength 3 = .ok (.istore_n 3, 1) := by decide +kernel
theorem dX1_wholeLength_4 : decode cX1_wholeLength 4 = .ok (.iload_n 3, 1) := by decide +kernel
theorem dX1_wholeLength_5 : decode cX1_wholeLength 5 = .ok (.aload_n 0, 1) := by decide +kernel
theorem dX1_wholeLength_6 : decode cX1_wholeLength 6 = .ok (.getfield 35, 3) := by decide +kernel
theorem dX1_wholeLength_9 : decode cX1_wholeLength 9 = .ok (.if_icmp .ge 18, 3) := by decide +kernel
theorem dX1_wholeLength_12 : decode cX1_wholeLength 12 = .ok (.lload_n 1, 1) := by decide +kernel
theorem dX1_wholeLength_13 : decode cX1_wholeLength 13 = .ok (.aload_n 0, 1) := by decide +kernel
theorem dX1_wholeLength_14 : decode cX1_wholeLength 14 = .ok (.getfield 9, 3) := by decide +kernel
theorem dX1_wholeLength_17 : decode cX1_wholeLength 17 = .ok (.iload_n 3, 1) := by decide +kernel
theorem dX1_wholeLength_18 : decode cX1_wholeLength 18 = .ok (.laload, 1) := by decide +kernel
theorem dX1_wholeLength_19 : decode cX1_wholeLength 19 = .ok (.ladd, 1) := by decide +kernel
theorem dX1_wholeLength_20 : decode cX1_wholeLength 20 = .ok (.lstore_n 1, 1) := by decide +kernel
theorem dX1_wholeLength_21 : decode cX1_wholeLength 21 = .ok (.iinc 3 1, 3) := by decide +kernel
theorem dX1_wholeLength_24 : decode cX1_wholeLength 24 = .ok (.goto (-20), 3) := by decide +kernel
theorem dX1_wholeLength_27 : decode cX1_wholeLength 27 = .ok (.lload_n 1, 1) := by decide +kernel
theorem dX1_wholeLength_28 : decode cX1_wholeLength 28 = .ok (.lreturn, 1) := by decide +kernel
theorem dX2_init_0 : decode cX2_init 0 = .ok (.aload_n 0, 1) := by decide +kernel
theorem dX2_init_1 : decode cX2_init 1 = .ok (.invokespecial 1, 3) := by decide +kernel
theorem dX2_init_4 : decode cX2_init 4 = .ok (.aload_n 0, 1) := by decide +kernel
theorem dX2_init_5 : decode cX2_init 5 = .ok (.bipush 16, 2) := by decide +kernel
theorem dX2_init_7 : decode cX2_init 7 = .ok (.newarray .int, 2) := by decide +kernel
theorem dX2_init_9 : decode cX2_init 9 = .ok (.putfield 9, 3) := by decide +kernel
theorem dX2_init_12 : decode cX2_init 12 = .ok (.return_, 1) := by decide +kernel
theorem dX2_limbAt_0 : decode cX2_limbAt 0 = .ok (.iload_n 1, 1) := by decide +kernel
theorem dX2_limbAt_1 : decode cX2_limbAt 1 = .ok (.ifCond .lt 21, 3) := by decide +kernel
theorem dX2_limbAt_4 : decode cX2_limbAt 4 = .ok (.iload_n 1, 1) := by decide +kernel
theorem dX2_limbAt_5 : decode cX2_limbAt 5 = .ok (.aload_n 0, 1) := by decide +kernel
theorem dX2_limbAt_6 : decode cX2_limbAt 6 = .ok (.getfield 13, 3) := by decide +kernel
theorem dX2_limbAt_9 : decode cX2_limbAt 9 = .ok (.if_icmp .ge 13, 3) := by decide +kernel
theorem dX2_limbAt_12 : decode cX2_limbAt 12 = .ok (.aload_n 0, 1) := by decide +kernel
theorem dX2_limbAt_13 : decode cX2_limbAt 13 = .ok (.getfield 9, 3) := by decide +kernel
theorem dX2_limbAt_16 : decode cX2_limbAt 16 = .ok (.iload_n 1, 1) := by decide +kernel
theorem dX2_limbAt_17 : decode cX2_limbAt 17 = .ok (.iaload, 1) := by decide +kernel
theorem dX2_limbAt_18 : decode cX2_limbAt 18 = .ok (.i2l, 1) := by decide +kernel
theorem dX2_limbAt_19 : decode cX2_limbAt 19 = .ok (.goto 4, 3) := by decide +kernel
theorem dX2_limbAt_22 : decode cX2_limbAt 22 = .ok (.lconst 0, 1) := by decide +kernel
theorem dX2_limbAt_23 : decode cX2_limbAt 23 = .ok (.lreturn, 1) := by decide +kernel
theorem dX2_lowest_0 : decode cX2_lowest 0 = .ok (.aload_n 0, 1) := by decide +kernel
theorem dX2_lowest_1 : decode cX2_lowest 1 = .ok (.iconst 1, 1) := by decide +kernel
theorem dX2_lowest_2 : decode cX2_lowest 2 = .ok (.invokevirtual 17, 3) := by decide +kernel
theorem dX2_lowest_5 : decode cX2_lowest 5 = .ok (.ldc2_w 21, 3) := by decide +kernel
theorem dX2_lowest_8 : decode cX2_lowest 8 = .ok (.lmul, 1) := by decide +kernel
theorem dX2_lowest_9 : decode cX2_lowest 9 = .ok (.aload_n 0, 1) := by decide +kernel
theorem dX2_lowest_10 : decode cX2_lowest 10 = .ok (.iconst 0, 1) := by decide +kernel
theorem dX2_lowest_11 : decode cX2_lowest 11 = .ok (.invokevirtual 17, 3) := by decide +kernel
theorem dX2_lowest_14 : decode cX2_lowest 14 = .ok (.ladd, 1) := by decide +kernel
theorem dX2_lowest_15 : decode cX2_lowest 15 = .ok (.lreturn, 1) := by decide +kernel
theorem dX2_isSame_0 : decode cX2_isSame 0 = .ok (.aload_n 0, 1) := by decide +kernel
theorem dX2_isSame_1 : decode cX2_isSame 1 = .ok (.getfield 23, 3) := by decide +kernel
theorem dX2_isSame_4 : decode cX2_isSame 4 = .ok (.aload_n 1, 1) := by decide +kernel
theorem dX2_isSame_5 : decode cX2_isSame 5 = .ok (.getfield 23, 3) := by decide +kernel
theorem dX2_isSame_8 : decode cX2_isSame 8 = .ok (.if_icmp .ne 18, 3) := by decide +kernel
theorem dX2_isSame_11 : decode cX2_isSame 11 = .ok (.aload_n 0, 1) := by decide +kernel
theorem dX2_isSame_12 : decode cX2_isSame 12 = .ok (.getfield 13, 3) := by decide +kernel
theorem dX2_isSame_15 : decode cX2_isSame 15 = .ok (.aload_n 1, 1) := by decide +kernel
theorem dX2_isSame_16 : decode cX2_isSame 16 = .ok (.getfield 13, 3) := by decide +kernel
theorem dX2_isSame_19 : decode cX2_isSame 19 = .ok (.if_icmp .ne 7, 3) := by decide +kernel
theorem dX2_isSame_22 : decode cX2_isSame 22 = .ok (.iconst 1, 1) := by decide +kernel
theorem dX2_isSame_23 : decode cX2_isSame 23 = .ok (.goto 4, 3) := by decide +kernel
theorem dX2_isSame_26 : decode cX2_isSame 26 = .ok (.iconst 0, 1) := by decide +kernel
theorem dX2_isSame_27 : decode cX2_isSame 27 = .ok (.istore_n 2, 1) := by decide +kernel
theorem dX2_isSame_28 : decode cX2_isSame 28 = .ok (.iconst 0, 1) := by decide +kernel
theorem dX2_isSame_29 : decode cX2_isSame 29 = .ok (.istore_n 3, 1) := by decide +kernel
theorem dX2_isSame_30 : decode cX2_isSame 30 = .ok (.iload_n 3, 1) := by decide +kernel
theorem dX2_isSame_31 : decode cX2_isSame 31 = .ok (.aload_n 0, 1) := by decide +kernel
theorem dX2_isSame_32 : decode cX2_isSame 32 = .ok (.getfield 13, 3) := by decide +kernel
theorem dX2_isSame_35 : decode cX2_isSame 35 = .ok (.if_icmp .ge 35, 3) := by decide +kernel
theorem dX2_isSame_38 : decode cX2_isSame 38 = .ok (.iload_n 2, 1) := by decide +kernel
theorem dX2_isSame_39 : decode cX2_isSame 39 = .ok (.ifCond .eq 31, 3) := by decide +kernel
theorem dX2_isSame_42 : decode cX2_isSame 42 = .ok (.aload_n 0, 1) := by decide +kernel
theorem dX2_isSame_43 : decode cX2_isSame 43 = .ok (.getfield 9, 3) := by decide +kernel
theorem dX2_isSame_46 : decode cX2_isSame 46 = .ok (.iload_n 3, 1) := by decide +kernel
theorem dX2_isSame_47 : decode cX2_isSame 47 = .ok (.iaload, 1) := by decide +kernel
theorem dX2_isSame_48 : decode cX2_isSame 48 = .ok (.i2l, 1) := by decide +kernel
theorem dX2_isSame_49 : decode cX2_isSame 49 = .ok (.aload_n 1, 1) := by decide +kernel
theorem dX2_isSame_50 : decode cX2_isSame 50 = .ok (.iload_n 3, 1) := by decide +kernel
theorem dX2_isSame_51 : decode cX2_isSame 51 = .ok (.invokevirtual 17, 3) := by decide +kernel
theorem dX2_isSame_54 : decode cX2_isSame 54 = .ok (.lcmp, 1) := by decide +kernel
theorem dX2_isSame_55 : decode cX2_isSame 55 = .ok (.ifCond .ne 7, 3) := by decide +kernel
theorem dX2_isSame_58 : decode cX2_isSame 58 = .ok (.iconst 1, 1) := by decide +kernel
theorem dX2_isSame_59 : decode cX2_isSame 59 = .ok (.goto 4, 3) := by decide +kernel
theorem dX2_isSame_62 : decode cX2_isSame 62 = .ok (.iconst 0, 1) := by decide +kernel
theorem dX2_isSame_63 : decode cX2_isSame 63 = .ok (.istore_n 2, 1) := by decide +kernel
theorem dX2_isSame_64 : decode cX2_isSame 64 = .ok (.iinc 3 1, 3) := by decide +kernel
theorem dX2_isSame_67 : decode cX2_isSame 67 = .ok (.goto (-37), 3) := by decide +kernel
theorem dX2_isSame_70 : decode cX2_isSame 70 = .ok (.iload_n 2, 1) := by decide +kernel
theorem dX2_isSame_71 : decode cX2_isSame 71 = .ok (.ireturn, 1) := by decide +kernel
theorem dX2_take_0 : decode cX2_take 0 = .ok (.aload_n 0, 1) := by decide +kernel
theorem dX2_take_1 : decode cX2_take 1 = .ok (.iconst 0, 1) := by decide +kernel
theorem dX2_take_2 : decode cX2_take 2 = .ok (.putfield 13, 3) := by decide +kernel
theorem dX2_take_5 : decode cX2_take 5 = .ok (.aload_n 0, 1) := by decide +kernel
