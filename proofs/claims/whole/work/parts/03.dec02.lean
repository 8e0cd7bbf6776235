theorem dX2_makeRoom_24 : decode cX2_makeRoom 24 = .ok (.aload_n 0, 1) := by decide +kernel
theorem dX2_makeRoom_25 : decode cX2_makeRoom 25 = .ok (.getfield 13, 3) := by decide +kernel
theorem dX2_makeRoom_28 : decode cX2_makeRoom 28 = .ok (.if_icmp .le 16, 3) := by decide +kernel
theorem dX2_makeRoom_31 : decode cX2_makeRoom 31 = .ok (.aload_n 0, 1) := by decide +kernel
theorem dX2_makeRoom_32 : decode cX2_makeRoom 32 = .ok (.getfield 9, 3) := by decide +kernel
theorem dX2_makeRoom_35 : decode cX2_makeRoom 35 = .ok (.aload_n 0, 1) := by decide +kernel
theorem dX2_makeRoom_36 : decode cX2_makeRoom 36 = .ok (.getfield 13, 3) := by decide +kernel
theorem dX2_makeRoom_39 : decode cX2_makeRoom 39 = .ok (.iload_n 1, 1) := by decide +kernel
theorem dX2_makeRoom_40 : decode cX2_makeRoom 40 = .ok (.iconst 0, 1) := by decide +kernel
theorem dX2_makeRoom_41 : decode cX2_makeRoom 41 = .ok (.invokestatic 88, 3) := by decide +kernel
theorem dX2_makeRoom_44 : decode cX2_makeRoom 44 = .ok (.return_, 1) := by decide +kernel
theorem dX2_trim_0 : decode cX2_trim 0 = .ok (.aload_n 0, 1) := by decide +kernel
theorem dX2_trim_1 : decode cX2_trim 1 = .ok (.iload_n 1, 1) := by decide +kernel
theorem dX2_trim_2 : decode cX2_trim 2 = .ok (.putfield 13, 3) := by decide +kernel
theorem dX2_trim_5 : decode cX2_trim 5 = .ok (.aload_n 0, 1) := by decide +kernel
theorem dX2_trim_6 : decode cX2_trim 6 = .ok (.getfield 13, 3) := by decide +kernel
theorem dX2_trim_9 : decode cX2_trim 9 = .ok (.ifCond .le 30, 3) := by decide +kernel
theorem dX2_trim_12 : decode cX2_trim 12 = .ok (.aload_n 0, 1) := by decide +kernel
theorem dX2_trim_13 : decode cX2_trim 13 = .ok (.getfield 9, 3) := by decide +kernel
theorem dX2_trim_16 : decode cX2_trim 16 = .ok (.aload_n 0, 1) := by decide +kernel
theorem dX2_trim_17 : decode cX2_trim 17 = .ok (.getfield 13, 3) := by decide +kernel
theorem dX2_trim_20 : decode cX2_trim 20 = .ok (.iconst 1, 1) := by decide +kernel
theorem dX2_trim_21 : decode cX2_trim 21 = .ok (.isub, 1) := by decide +kernel
theorem dX2_trim_22 : decode cX2_trim 22 = .ok (.iaload, 1) := by decide +kernel
theorem dX2_trim_23 : decode cX2_trim 23 = .ok (.ifCond .ne 16, 3) := by decide +kernel
theorem dX2_trim_26 : decode cX2_trim 26 = .ok (.aload_n 0, 1) := by decide +kernel
theorem dX2_trim_27 : decode cX2_trim 27 = .ok (.dup, 1) := by decide +kernel
theorem dX2_trim_28 : decode cX2_trim 28 = .ok (.getfield 13, 3) := by decide +kernel
theorem dX2_trim_31 : decode cX2_trim 31 = .ok (.iconst 1, 1) := by decide +kernel
theorem dX2_trim_32 : decode cX2_trim 32 = .ok (.isub, 1) := by decide +kernel
theorem dX2_trim_33 : decode cX2_trim 33 = .ok (.putfield 13, 3) := by decide +kernel
theorem dX2_trim_36 : decode cX2_trim 36 = .ok (.goto (-31), 3) := by decide +kernel
theorem dX2_trim_39 : decode cX2_trim 39 = .ok (.aload_n 0, 1) := by decide +kernel
theorem dX2_trim_40 : decode cX2_trim 40 = .ok (.getfield 13, 3) := by decide +kernel
theorem dX2_trim_43 : decode cX2_trim 43 = .ok (.ifCond .ne 8, 3) := by decide +kernel
theorem dX2_trim_46 : decode cX2_trim 46 = .ok (.aload_n 0, 1) := by decide +kernel
theorem dX2_trim_47 : decode cX2_trim 47 = .ok (.iconst 0, 1) := by decide +kernel
theorem dX2_trim_48 : decode cX2_trim 48 = .ok (.putfield 23, 3) := by decide +kernel
theorem dX2_trim_51 : decode cX2_trim 51 = .ok (.return_, 1) := by decide +kernel
theorem dX3_init_0 : decode cX3_init 0 = .ok (.aload_n 0, 1) := by decide +kernel
theorem dX3_init_1 : decode cX3_init 1 = .ok (.invokespecial 1, 3) := by decide +kernel
theorem dX3_init_4 : decode cX3_init 4 = .ok (.aload_n 0, 1) := by decide +kernel
theorem dX3_init_5 : decode cX3_init 5 = .ok (.new 7, 3) := by decide +kernel
theorem dX3_init_8 : decode cX3_init 8 = .ok (.dup, 1) := by decide +kernel
theorem dX3_init_9 : decode cX3_init 9 = .ok (.invokespecial 9, 3) := by decide +kernel
theorem dX3_init_12 : decode cX3_init 12 = .ok (.putfield 10, 3) := by decide +kernel
theorem dX3_init_15 : decode cX3_init 15 = .ok (.aload_n 0, 1) := by decide +kernel
theorem dX3_init_16 : decode cX3_init 16 = .ok (.new 7, 3) := by decide +kernel
theorem dX3_init_19 : decode cX3_init 19 = .ok (.dup, 1) := by decide +kernel
theorem dX3_init_20 : decode cX3_init 20 = .ok (.invokespecial 9, 3) := by decide +kernel
theorem dX3_init_23 : decode cX3_init 23 = .ok (.putfield 16, 3) := by decide +kernel
theorem dX3_init_26 : decode cX3_init 26 = .ok (.aload_n 0, 1) := by decide +kernel
theorem dX3_init_27 : decode cX3_init 27 = .ok (.new 7, 3) := by decide +kernel
theorem dX3_init_30 : decode cX3_init 30 = .ok (.dup, 1) := by decide +kernel
theorem dX3_init_31 : decode cX3_init 31 = .ok (.invokespecial 9, 3) := by decide +kernel
theorem dX3_init_34 : decode cX3_init 34 = .ok (.putfield 19, 3) := by decide +kernel
theorem dX3_init_37 : decode cX3_init 37 = .ok (.return_, 1) := by decide +kernel
theorem dX3_ofLongs_0 : decode cX3_ofLongs 0 = .ok (.lload_n 0, 1) := by decide +kernel
theorem dX3_ofLongs_1 : decode cX3_ofLongs 1 = .ok (.lstore 4, 2) := by decide +kernel
theorem dX3_ofLongs_3 : decode cX3_ofLongs 3 = .ok (.lload_n 2, 1) := by decide +kernel
theorem dX3_ofLongs_4 : decode cX3_ofLongs 4 = .ok (.lstore 6, 2) := by decide +kernel
theorem dX3_ofLongs_6 : decode cX3_ofLongs 6 = .ok (.iconst 0, 1) := by decide +kernel
theorem dX3_ofLongs_7 : decode cX3_ofLongs 7 = .ok (.istore 8, 2) := by decide +kernel
theorem dX3_ofLongs_9 : decode cX3_ofLongs 9 = .ok (.iload 8, 2) := by decide +kernel
theorem dX3_ofLongs_11 : decode cX3_ofLongs 11 = .ok (.ldc 22, 2) := by decide +kernel
theorem dX3_ofLongs_13 : decode cX3_ofLongs 13 = .ok (.if_icmp .ge 31, 3) := by decide +kernel
theorem dX3_ofLongs_16 : decode cX3_ofLongs 16 = .ok (.lload 6, 2) := by decide +kernel
theorem dX3_ofLongs_18 : decode cX3_ofLongs 18 = .ok (.lconst 0, 1) := by decide +kernel
theorem dX3_ofLongs_19 : decode cX3_ofLongs 19 = .ok (.lcmp, 1) := by decide +kernel
theorem dX3_ofLongs_20 : decode cX3_ofLongs 20 = .ok (.ifCond .eq 24, 3) := by decide +kernel
theorem dX3_ofLongs_23 : decode cX3_ofLongs 23 = .ok (.lload 4, 2) := by decide +kernel
theorem dX3_ofLongs_25 : decode cX3_ofLongs 25 = .ok (.lload 6, 2) := by decide +kernel
theorem dX3_ofLongs_27 : decode cX3_ofLongs 27 = .ok (.lrem, 1) := by decide +kernel
theorem dX3_ofLongs_28 : decode cX3_ofLongs 28 = .ok (.lstore 9, 2) := by decide +kernel
theorem dX3_ofLongs_30 : decode cX3_ofLongs 30 = .ok (.lload 6, 2) := by decide +kernel
theorem dX3_ofLongs_32 : decode cX3_ofLongs 32 = .ok (.lstore 4, 2) := by decide +kernel
theorem dX3_ofLongs_34 : decode cX3_ofLongs 34 = .ok (.lload 9, 2) := by decide +kernel
theorem dX3_ofLongs_36 : decode cX3_ofLongs 36 = .ok (.lstore 6, 2) := by decide +kernel
theorem dX3_ofLongs_38 : decode cX3_ofLongs 38 = .ok (.iinc 8 1, 3) := by decide +kernel
theorem dX3_ofLongs_41 : decode cX3_ofLongs 41 = .ok (.goto (-32), 3) := by decide +kernel
theorem dX3_ofLongs_44 : decode cX3_ofLongs 44 = .ok (.lload 4, 2) := by decide +kernel
theorem dX3_ofLongs_46 : decode cX3_ofLongs 46 = .ok (.lreturn, 1) := by decide +kernel
theorem dX3_of_0 : decode cX3_of 0 = .ok (.aload_n 0, 1) := by decide +kernel
theorem dX3_of_1 : decode cX3_of 1 = .ok (.getfield 16, 3) := by decide +kernel
theorem dX3_of_4 : decode cX3_of 4 = .ok (.aload_n 1, 1) := by decide +kernel
theorem dX3_of_5 : decode cX3_of 5 = .ok (.invokevirtual 23, 3) := by decide +kernel
theorem dX3_of_8 : decode cX3_of 8 = .ok (.aload_n 0, 1) := by decide +kernel
theorem dX3_of_9 : decode cX3_of 9 = .ok (.getfield 19, 3) := by decide +kernel
theorem dX3_of_12 : decode cX3_of 12 = .ok (.aload_n 2, 1) := by decide +kernel
theorem dX3_of_13 : decode cX3_of 13 = .ok (.invokevirtual 23, 3) := by decide +kernel
theorem dX3_of_16 : decode cX3_of 16 = .ok (.iconst 0, 1) := by decide +kernel
theorem dX3_of_17 : decode cX3_of 17 = .ok (.istore_n 3, 1) := by decide +kernel
theorem dX3_of_18 : decode cX3_of 18 = .ok (.iload_n 3, 1) := by decide +kernel
theorem dX3_of_19 : decode cX3_of 19 = .ok (.ldc 22, 2) := by decide +kernel
theorem dX3_of_21 : decode cX3_of 21 = .ok (.if_icmp .ge 61, 3) := by decide +kernel
theorem dX3_of_24 : decode cX3_of 24 = .ok (.aload_n 0, 1) := by decide +kernel
theorem dX3_of_25 : decode cX3_of 25 = .ok (.getfield 19, 3) := by decide +kernel
theorem dX3_of_28 : decode cX3_of 28 = .ok (.getfield 27, 3) := by decide +kernel
theorem dX3_of_31 : decode cX3_of 31 = .ok (.ifCond .eq 51, 3) := by decide +kernel
theorem dX3_of_34 : decode cX3_of 34 = .ok (.aload_n 0, 1) := by decide +kernel
theorem dX3_of_35 : decode cX3_of 35 = .ok (.invokevirtual 31, 3) := by decide +kernel
theorem dX3_of_38 : decode cX3_of 38 = .ok (.ifCond .ne 44, 3) := by decide +kernel
theorem dX3_of_41 : decode cX3_of 41 = .ok (.aload_n 0, 1) := by decide +kernel
theorem dX3_of_42 : decode cX3_of 42 = .ok (.getfield 16, 3) := by decide +kernel
theorem dX3_of_45 : decode cX3_of 45 = .ok (.aload_n 0, 1) := by decide +kernel
theorem dX3_of_46 : decode cX3_of 46 = .ok (.getfield 19, 3) := by decide +kernel
theorem dX3_of_49 : decode cX3_of 49 = .ok (.aload_n 0, 1) := by decide +kernel
theorem dX3_of_50 : decode cX3_of 50 = .ok (.getfield 10, 3) := by decide +kernel
theorem dX3_of_53 : decode cX3_of 53 = .ok (.invokevirtual 35, 3) := by decide +kernel
theorem dX3_of_56 : decode cX3_of 56 = .ok (.aload_n 0, 1) := by decide +kernel
theorem dX3_of_57 : decode cX3_of 57 = .ok (.getfield 16, 3) := by decide +kernel
theorem dX3_of_60 : decode cX3_of 60 = .ok (.astore 4, 2) := by decide +kernel
theorem dX3_of_62 : decode cX3_of 62 = .ok (.aload_n 0, 1) := by decide +kernel
theorem dX3_of_63 : decode cX3_of 63 = .ok (.aload_n 0, 1) := by decide +kernel
theorem dX3_of_64 : decode cX3_of 64 = .ok (.getfield 19, 3) := by decide +kernel
theorem dX3_of_67 : decode cX3_of 67 = .ok (.putfield 16, 3) := by decide +kernel
theorem dX3_of_70 : decode cX3_of 70 = .ok (.aload_n 0, 1) := by decide +kernel
theorem dX3_of_71 : decode cX3_of 71 = .ok (.aload 4, 2) := by decide +kernel
theorem dX3_of_73 : decode cX3_of 73 = .ok (.putfield 19, 3) := by decide +kernel
theorem dX3_of_76 : decode cX3_of 76 = .ok (.iinc 3 1, 3) := by decide +kernel
theorem dX3_of_79 : decode cX3_of 79 = .ok (.goto (-61), 3) := by decide +kernel
theorem dX3_of_82 : decode cX3_of 82 = .ok (.aload_n 0, 1) := by decide +kernel
theorem dX3_of_83 : decode cX3_of 83 = .ok (.invokevirtual 31, 3) := by decide +kernel
theorem dX3_of_86 : decode cX3_of 86 = .ok (.ifCond .eq 27, 3) := by decide +kernel
theorem dX3_of_89 : decode cX3_of 89 = .ok (.aload_n 0, 1) := by decide +kernel
theorem dX3_of_90 : decode cX3_of 90 = .ok (.getfield 16, 3) := by decide +kernel
theorem dX3_of_93 : decode cX3_of 93 = .ok (.aload_n 0, 1) := by decide +kernel
theorem dX3_of_94 : decode cX3_of 94 = .ok (.getfield 16, 3) := by decide +kernel
theorem dX3_of_97 : decode cX3_of 97 = .ok (.invokevirtual 39, 3) := by decide +kernel
theorem dX3_of_100 : decode cX3_of 100 = .ok (.aload_n 0, 1) := by decide +kernel
theorem dX3_of_101 : decode cX3_of 101 = .ok (.getfield 19, 3) := by decide +kernel
theorem dX3_of_104 : decode cX3_of 104 = .ok (.invokevirtual 39, 3) := by decide +kernel
theorem dX3_of_107 : decode cX3_of 107 = .ok (.invokestatic 43, 3) := by decide +kernel
theorem dX3_of_110 : decode cX3_of 110 = .ok (.invokevirtual 47, 3) := by decide +kernel
theorem dX3_of_113 : decode cX3_of 113 = .ok (.aload_n 0, 1) := by decide +kernel
theorem dX3_of_114 : decode cX3_of 114 = .ok (.getfield 16, 3) := by decide +kernel
theorem dX3_of_117 : decode cX3_of 117 = .ok (.aload_n 0, 1) := by decide +kernel
theorem dX3_of_118 : decode cX3_of 118 = .ok (.getfield 16, 3) := by decide +kernel
theorem dX3_of_121 : decode cX3_of 121 = .ok (.getfield 51, 3) := by decide +kernel
theorem dX3_of_124 : decode cX3_of 124 = .ok (.ifCond .le 7, 3) := by decide +kernel
theorem dX3_of_127 : decode cX3_of 127 = .ok (.iconst 1, 1) := by decide +kernel
theorem dX3_of_128 : decode cX3_of 128 = .ok (.goto 4, 3) := by decide +kernel
theorem dX3_of_131 : decode cX3_of 131 = .ok (.iconst 0, 1) := by decide +kernel
theorem dX3_of_132 : decode cX3_of 132 = .ok (.putfield 27, 3) := by decide +kernel
theorem dX3_of_135 : decode cX3_of 135 = .ok (.aload_n 0, 1) := by decide +kernel
theorem dX3_of_136 : decode cX3_of 136 = .ok (.getfield 16, 3) := by decide +kernel
theorem dX3_of_139 : decode cX3_of 139 = .ok (.areturn, 1) := by decide +kernel
theorem dX3_areShort_0 : decode cX3_areShort 0 = .ok (.aload_n 0, 1) := by decide +kernel
theorem dX3_areShort_1 : decode cX3_areShort 1 = .ok (.getfield 16, 3) := by decide +kernel
theorem dX3_areShort_4 : decode cX3_areShort 4 = .ok (.getfield 51, 3) := by decide +kernel
theorem dX3_areShort_7 : decode cX3_areShort 7 = .ok (.iconst 2, 1) := by decide +kernel
theorem dX3_areShort_8 : decode cX3_areShort 8 = .ok (.if_icmp .gt 18, 3) := by decide +kernel
theorem dX3_areShort_11 : decode cX3_areShort 11 = .ok (.aload_n 0, 1) := by decide +kernel
theorem dX3_areShort_12 : decode cX3_areShort 12 = .ok (.getfield 19, 3) := by decide +kernel
theorem dX3_areShort_15 : decode cX3_areShort 15 = .ok (.getfield 51, 3) := by decide +kernel
theorem dX3_areShort_18 : decode cX3_areShort 18 = .ok (.iconst 2, 1) := by decide +kernel
theorem dX3_areShort_19 : decode cX3_areShort 19 = .ok (.if_icmp .gt 7, 3) := by decide +kernel
theorem dX3_areShort_22 : decode cX3_areShort 22 = .ok (.iconst 1, 1) := by decide +kernel
theorem dX3_areShort_23 : decode cX3_areShort 23 = .ok (.goto 4, 3) := by decide +kernel
theorem dX3_areShort_26 : decode cX3_areShort 26 = .ok (.iconst 0, 1) := by decide +kernel
theorem dX3_areShort_27 : decode cX3_areShort 27 = .ok (.ireturn, 1) := by decide +kernel
theorem dX4_init_0 : decode cX4_init 0 = .ok (.aload_n 0, 1) := by decide +kernel
theorem dX4_init_1 : decode cX4_init 1 = .ok (.invokespecial 3, 3) := by decide +kernel
theorem dX4_init_4 : decode cX4_init 4 = .ok (.aload_n 0, 1) := by decide +kernel
theorem dX4_init_5 : decode cX4_init 5 = .ok (.iconst 4, 1) := by decide +kernel
theorem dX4_init_6 : decode cX4_init 6 = .ok (.newarray .int, 2) := by decide +kernel
theorem dX4_init_8 : decode cX4_init 8 = .ok (.putfield 9, 3) := by decide +kernel
theorem dX4_init_11 : decode cX4_init 11 = .ok (.aload_n 0, 1) := by decide +kernel
theorem dX4_init_12 : decode cX4_init 12 = .ok (.bipush 6, 2) := by decide +kernel
theorem dX4_init_14 : decode cX4_init 14 = .ok (.newarray .int, 2) := by decide +kernel
theorem dX4_init_16 : decode cX4_init 16 = .ok (.putfield 17, 3) := by decide +kernel
theorem dX4_init_19 : decode cX4_init 19 = .ok (.aload_n 0, 1) := by decide +kernel
theorem dX4_init_20 : decode cX4_init 20 = .ok (.bipush 10, 2) := by decide +kernel
theorem dX4_init_22 : decode cX4_init 22 = .ok (.newarray .boolean, 2) := by decide +kernel
theorem dX4_init_24 : decode cX4_init 24 = .ok (.putfield 20, 3) := by decide +kernel
theorem dX4_init_27 : decode cX4_init 27 = .ok (.aload_n 0, 1) := by decide +kernel
theorem dX4_init_28 : decode cX4_init 28 = .ok (.bipush 10, 2) := by decide +kernel
theorem dX4_init_30 : decode cX4_init 30 = .ok (.newarray .boolean, 2) := by decide +kernel
theorem dX4_init_32 : decode cX4_init 32 = .ok (.putfield 24, 3) := by decide +kernel
theorem dX4_init_35 : decode cX4_init 35 = .ok (.aload_n 0, 1) := by decide +kernel
theorem dX4_init_36 : decode cX4_init 36 = .ok (.iconst 4, 1) := by decide +kernel
theorem dX4_init_37 : decode cX4_init 37 = .ok (.newarray .boolean, 2) := by decide +kernel
theorem dX4_init_39 : decode cX4_init 39 = .ok (.putfield 27, 3) := by decide +kernel
theorem dX4_init_42 : decode cX4_init 42 = .ok (.aload_n 0, 1) := by decide +kernel
theorem dX4_init_43 : decode cX4_init 43 = .ok (.bipush 100, 2) := by decide +kernel
theorem dX4_init_45 : decode cX4_init 45 = .ok (.newarray .long, 2) := by decide +kernel
theorem dX4_init_47 : decode cX4_init 47 = .ok (.putfield 30, 3) := by decide +kernel
theorem dX4_init_50 : decode cX4_init 50 = .ok (.aload_n 0, 1) := by decide +kernel
theorem dX4_init_51 : decode cX4_init 51 = .ok (.bipush 55, 2) := by decide +kernel
theorem dX4_init_53 : decode cX4_init 53 = .ok (.anewarray 34, 3) := by decide +kernel
theorem dX4_init_56 : decode cX4_init 56 = .ok (.putfield 36, 3) := by decide +kernel
theorem dX4_init_59 : decode cX4_init 59 = .ok (.aload_n 0, 1) := by decide +kernel
theorem dX4_init_60 : decode cX4_init 60 = .ok (.new 34, 3) := by decide +kernel
theorem dX4_init_63 : decode cX4_init 63 = .ok (.dup, 1) := by decide +kernel
theorem dX4_init_64 : decode cX4_init 64 = .ok (.invokespecial 40, 3) := by decide +kernel
theorem dX4_init_67 : decode cX4_init 67 = .ok (.putfield 41, 3) := by decide +kernel
theorem dX4_init_70 : decode cX4_init 70 = .ok (.aload_n 0, 1) := by decide +kernel
theorem dX4_init_71 : decode cX4_init 71 = .ok (.new 34, 3) := by decide +kernel
theorem dX4_init_74 : decode cX4_init 74 = .ok (.dup, 1) := by decide +kernel
theorem dX4_init_75 : decode cX4_init 75 = .ok (.invokespecial 40, 3) := by decide +kernel
theorem dX4_init_78 : decode cX4_init 78 = .ok (.putfield 45, 3) := by decide +kernel
theorem dX4_init_81 : decode cX4_init 81 = .ok (.aload_n 0, 1) := by decide +kernel
theorem dX4_init_82 : decode cX4_init 82 = .ok (.new 34, 3) := by decide +kernel
theorem dX4_init_85 : decode cX4_init 85 = .ok (.dup, 1) := by decide +kernel
theorem dX4_init_86 : decode cX4_init 86 = .ok (.invokespecial 40, 3) := by decide +kernel
theorem dX4_init_89 : decode cX4_init 89 = .ok (.putfield 48, 3) := by decide +kernel
theorem dX4_init_92 : decode cX4_init 92 = .ok (.aload_n 0, 1) := by decide +kernel
theorem dX4_init_93 : decode cX4_init 93 = .ok (.new 34, 3) := by decide +kernel
theorem dX4_init_96 : decode cX4_init 96 = .ok (.dup, 1) := by decide +kernel
theorem dX4_init_97 : decode cX4_init 97 = .ok (.invokespecial 40, 3) := by decide +kernel
theorem dX4_init_100 : decode cX4_init 100 = .ok (.putfield 51, 3) := by decide +kernel
theorem dX4_init_103 : decode cX4_init 103 = .ok (.aload_n 0, 1) := by decide +kernel
theorem dX4_init_104 : decode cX4_init 104 = .ok (.aload_n 1, 1) := by decide +kernel
theorem dX4_init_105 : decode cX4_init 105 = .ok (.putfield 54, 3) := by decide +kernel
theorem dX4_init_108 : decode cX4_init 108 = .ok (.iconst 0, 1) := by decide +kernel
theorem dX4_init_109 : decode cX4_init 109 = .ok (.istore_n 2, 1) := by decide +kernel
theorem dX4_init_110 : decode cX4_init 110 = .ok (.iload_n 2, 1) := by decide +kernel
theorem dX4_init_111 : decode cX4_init 111 = .ok (.aload_n 0, 1) := by decide +kernel
theorem dX4_init_112 : decode cX4_init 112 = .ok (.getfield 36, 3) := by decide +kernel
theorem dX4_init_115 : decode cX4_init 115 = .ok (.arraylength, 1) := by decide +kernel
theorem dX4_init_116 : decode cX4_init 116 = .ok (.if_icmp .ge 22, 3) := by decide +kernel
theorem dX4_init_119 : decode cX4_init 119 = .ok (.aload_n 0, 1) := by decide +kernel
theorem dX4_init_120 : decode cX4_init 120 = .ok (.getfield 36, 3) := by decide +kernel
theorem dX4_init_123 : decode cX4_init 123 = .ok (.iload_n 2, 1) := by decide +kernel
theorem dX4_init_124 : decode cX4_init 124 = .ok (.new 34, 3) := by decide +kernel
theorem dX4_init_127 : decode cX4_init 127 = .ok (.dup, 1) := by decide +kernel
theorem dX4_init_128 : decode cX4_init 128 = .ok (.invokespecial 40, 3) := by decide +kernel
theorem dX4_init_131 : decode cX4_init 131 = .ok (.aastore, 1) := by decide +kernel
theorem dX4_init_132 : decode cX4_init 132 = .ok (.iinc 2 1, 3) := by decide +kernel
theorem dX4_init_135 : decode cX4_init 135 = .ok (.goto (-25), 3) := by decide +kernel
theorem dX4_init_138 : decode cX4_init 138 = .ok (.return_, 1) := by decide +kernel
theorem dX4_forget_0 : decode cX4_forget 0 = .ok (.aload_n 0, 1) := by decide +kernel
theorem dX4_forget_1 : decode cX4_forget 1 = .ok (.iconst 0, 1) := by decide +kernel
theorem dX4_forget_2 : decode cX4_forget 2 = .ok (.putfield 58, 3) := by decide +kernel
theorem dX4_forget_5 : decode cX4_forget 5 = .ok (.return_, 1) := by decide +kernel
theorem dX4_prepare_0 : decode cX4_prepare 0 = .ok (.aload_n 0, 1) := by decide +kernel
theorem dX4_prepare_1 : decode cX4_prepare 1 = .ok (.getfield 58, 3) := by decide +kernel
theorem dX4_prepare_4 : decode cX4_prepare 4 = .ok (.ifCond .ne 47, 3) := by decide +kernel
theorem dX4_prepare_7 : decode cX4_prepare 7 = .ok (.aload_n 0, 1) := by decide +kernel
theorem dX4_prepare_8 : decode cX4_prepare 8 = .ok (.invokevirtual 62, 3) := by decide +kernel
theorem dX4_prepare_11 : decode cX4_prepare 11 = .ok (.aload_n 0, 1) := by decide +kernel
theorem dX4_prepare_12 : decode cX4_prepare 12 = .ok (.invokevirtual 65, 3) := by decide +kernel
theorem dX4_prepare_15 : decode cX4_prepare 15 = .ok (.aload_n 0, 1) := by decide +kernel
theorem dX4_prepare_16 : decode cX4_prepare 16 = .ok (.invokevirtual 68, 3) := by decide +kernel
theorem dX4_prepare_19 : decode cX4_prepare 19 = .ok (.aload_n 0, 1) := by decide +kernel
theorem dX4_prepare_20 : decode cX4_prepare 20 = .ok (.invokevirtual 71, 3) := by decide +kernel
theorem dX4_prepare_23 : decode cX4_prepare 23 = .ok (.iconst 0, 1) := by decide +kernel
theorem dX4_prepare_24 : decode cX4_prepare 24 = .ok (.istore_n 1, 1) := by decide +kernel
theorem dX4_prepare_25 : decode cX4_prepare 25 = .ok (.iload_n 1, 1) := by decide +kernel
theorem dX4_prepare_26 : decode cX4_prepare 26 = .ok (.bipush 10, 2) := by decide +kernel
theorem dX4_prepare_28 : decode cX4_prepare 28 = .ok (.if_icmp .ge 14, 3) := by decide +kernel
theorem dX4_prepare_31 : decode cX4_prepare 31 = .ok (.aload_n 0, 1) := by decide +kernel
theorem dX4_prepare_32 : decode cX4_prepare 32 = .ok (.iload_n 1, 1) := by decide +kernel
theorem dX4_prepare_33 : decode cX4_prepare 33 = .ok (.invokevirtual 74, 3) := by decide +kernel
theorem dX4_prepare_36 : decode cX4_prepare 36 = .ok (.iinc 1 1, 3) := by decide +kernel
theorem dX4_prepare_39 : decode cX4_prepare 39 = .ok (.goto (-14), 3) := by decide +kernel
theorem dX4_prepare_42 : decode cX4_prepare 42 = .ok (.aload_n 0, 1) := by decide +kernel
theorem dX4_prepare_43 : decode cX4_prepare 43 = .ok (.invokevirtual 78, 3) := by decide +kernel
theorem dX4_prepare_46 : decode cX4_prepare 46 = .ok (.aload_n 0, 1) := by decide +kernel
theorem dX4_prepare_47 : decode cX4_prepare 47 = .ok (.iconst 1, 1) := by decide +kernel
theorem dX4_prepare_48 : decode cX4_prepare 48 = .ok (.putfield 58, 3) := by decide +kernel
theorem dX4_prepare_51 : decode cX4_prepare 51 = .ok (.return_, 1) := by decide +kernel
theorem dX4_scale_0 : decode cX4_scale 0 = .ok (.aload_n 0, 1) := by decide +kernel
theorem dX4_scale_1 : decode cX4_scale 1 = .ok (.getfield 81, 3) := by decide +kernel
theorem dX4_scale_4 : decode cX4_scale 4 = .ok (.lreturn, 1) := by decide +kernel
theorem dX4_pullOf_0 : decode cX4_pullOf 0 = .ok (.aload_n 0, 1) := by decide +kernel
theorem dX4_pullOf_1 : decode cX4_pullOf 1 = .ok (.getfield 30, 3) := by decide +kernel
theorem dX4_pullOf_4 : decode cX4_pullOf 4 = .ok (.iload_n 1, 1) := by decide +kernel
theorem dX4_pullOf_5 : decode cX4_pullOf 5 = .ok (.bipush 10, 2) := by decide +kernel
theorem dX4_pullOf_7 : decode cX4_pullOf 7 = .ok (.imul, 1) := by decide +kernel
theorem dX4_pullOf_8 : decode cX4_pullOf 8 = .ok (.iload_n 2, 1) := by decide +kernel
theorem dX4_pullOf_9 : decode cX4_pullOf 9 = .ok (.iadd, 1) := by decide +kernel
theorem dX4_pullOf_10 : decode cX4_pullOf 10 = .ok (.laload, 1) := by decide +kernel
theorem dX4_pullOf_11 : decode cX4_pullOf 11 = .ok (.lreturn, 1) := by decide +kernel
theorem dX4_slotOfEnd_0 : decode cX4_slotOfEnd 0 = .ok (.aload_n 0, 1) := by decide +kernel
theorem dX4_slotOfEnd_1 : decode cX4_slotOfEnd 1 = .ok (.getfield 17, 3) := by decide +kernel
theorem dX4_slotOfEnd_4 : decode cX4_slotOfEnd 4 = .ok (.iload_n 1, 1) := by decide +kernel
theorem dX4_slotOfEnd_5 : decode cX4_slotOfEnd 5 = .ok (.iaload, 1) := by decide +kernel
theorem dX4_slotOfEnd_6 : decode cX4_slotOfEnd 6 = .ok (.ireturn, 1) := by decide +kernel
theorem dX4_divisor_0 : decode cX4_divisor 0 = .ok (.aload_n 0, 1) := by decide +kernel
theorem dX4_divisor_1 : decode cX4_divisor 1 = .ok (.getfield 41, 3) := by decide +kernel
theorem dX4_divisor_4 : decode cX4_divisor 4 = .ok (.areturn, 1) := by decide +kernel
theorem dX4_looseNodes_0 : decode cX4_looseNodes 0 = .ok (.iconst 0, 1) := by decide +kernel
theorem dX4_looseNodes_1 : decode cX4_looseNodes 1 = .ok (.istore_n 1, 1) := by decide +kernel
theorem dX4_looseNodes_2 : decode cX4_looseNodes 2 = .ok (.iconst 0, 1) := by decide +kernel
theorem dX4_looseNodes_3 : decode cX4_looseNodes 3 = .ok (.istore_n 2, 1) := by decide +kernel
theorem dX4_looseNodes_4 : decode cX4_looseNodes 4 = .ok (.iload_n 2, 1) := by decide +kernel
theorem dX4_looseNodes_5 : decode cX4_looseNodes 5 = .ok (.iconst 4, 1) := by decide +kernel
theorem dX4_looseNodes_6 : decode cX4_looseNodes 6 = .ok (.if_icmp .ge 26, 3) := by decide +kernel
theorem dX4_looseNodes_9 : decode cX4_looseNodes 9 = .ok (.iload_n 1, 1) := by decide +kernel
theorem dX4_looseNodes_10 : decode cX4_looseNodes 10 = .ok (.aload_n 0, 1) := by decide +kernel
theorem dX4_looseNodes_11 : decode cX4_looseNodes 11 = .ok (.getfield 27, 3) := by decide +kernel
theorem dX4_looseNodes_14 : decode cX4_looseNodes 14 = .ok (.iload_n 2, 1) := by decide +kernel
theorem dX4_looseNodes_15 : decode cX4_looseNodes 15 = .ok (.baload, 1) := by decide +kernel
theorem dX4_looseNodes_16 : decode cX4_looseNodes 16 = .ok (.ifCond .eq 7, 3) := by decide +kernel
theorem dX4_looseNodes_19 : decode cX4_looseNodes 19 = .ok (.iconst 1, 1) := by decide +kernel
theorem dX4_looseNodes_20 : decode cX4_looseNodes 20 = .ok (.goto 4, 3) := by decide +kernel
theorem dX4_looseNodes_23 : decode cX4_looseNodes 23 = .ok (.iconst 0, 1) := by decide +kernel
theorem dX4_looseNodes_24 : decode cX4_looseNodes 24 = .ok (.iadd, 1) := by decide +kernel
theorem dX4_looseNodes_25 : decode cX4_looseNodes 25 = .ok (.istore_n 1, 1) := by decide +kernel
theorem dX4_looseNodes_26 : decode cX4_looseNodes 26 = .ok (.iinc 2 1, 3) := by decide +kernel
theorem dX4_looseNodes_29 : decode cX4_looseNodes 29 = .ok (.goto (-25), 3) := by decide +kernel
theorem dX4_looseNodes_32 : decode cX4_looseNodes 32 = .ok (.iload_n 1, 1) := by decide +kernel
theorem dX4_looseNodes_33 : decode cX4_looseNodes 33 = .ok (.ireturn, 1) := by decide +kernel
theorem dX4_looseNode_0 : decode cX4_looseNode 0 = .ok (.iload_n 1, 1) := by decide +kernel
theorem dX4_looseNode_1 : decode cX4_looseNode 1 = .ok (.istore_n 2, 1) := by decide +kernel
theorem dX4_looseNode_2 : decode cX4_looseNode 2 = .ok (.iconst 0, 1) := by decide +kernel
theorem dX4_looseNode_3 : decode cX4_looseNode 3 = .ok (.istore_n 3, 1) := by decide +kernel
theorem dX4_looseNode_4 : decode cX4_looseNode 4 = .ok (.iload_n 3, 1) := by decide +kernel
theorem dX4_looseNode_5 : decode cX4_looseNode 5 = .ok (.iconst 4, 1) := by decide +kernel
theorem dX4_looseNode_6 : decode cX4_looseNode 6 = .ok (.if_icmp .ge 27, 3) := by decide +kernel
theorem dX4_looseNode_9 : decode cX4_looseNode 9 = .ok (.aload_n 0, 1) := by decide +kernel
theorem dX4_looseNode_10 : decode cX4_looseNode 10 = .ok (.getfield 27, 3) := by decide +kernel
theorem dX4_looseNode_13 : decode cX4_looseNode 13 = .ok (.iload_n 3, 1) := by decide +kernel
theorem dX4_looseNode_14 : decode cX4_looseNode 14 = .ok (.baload, 1) := by decide +kernel
theorem dX4_looseNode_15 : decode cX4_looseNode 15 = .ok (.ifCond .eq 12, 3) := by decide +kernel
theorem dX4_looseNode_18 : decode cX4_looseNode 18 = .ok (.iload_n 2, 1) := by decide +kernel
theorem dX4_looseNode_19 : decode cX4_looseNode 19 = .ok (.ifCond .ne 5, 3) := by decide +kernel
theorem dX4_looseNode_22 : decode cX4_looseNode 22 = .ok (.iload_n 3, 1) := by decide +kernel
theorem dX4_looseNode_23 : decode cX4_looseNode 23 = .ok (.ireturn, 1) := by decide +kernel
theorem dX4_looseNode_24 : decode cX4_looseNode 24 = .ok (.iinc 2 (-1), 3) := by decide +kernel
theorem dX4_looseNode_27 : decode cX4_looseNode 27 = .ok (.iinc 3 1, 3) := by decide +kernel
theorem dX4_looseNode_30 : decode cX4_looseNode 30 = .ok (.goto (-26), 3) := by decide +kernel
theorem dX4_looseNode_33 : decode cX4_looseNode 33 = .ok (.iconst (-1), 1) := by decide +kernel
theorem dX4_looseNode_34 : decode cX4_looseNode 34 = .ok (.ireturn, 1) := by decide +kernel
theorem dX4_pair_0 : decode cX4_pair 0 = .ok (.aload_n 3, 1) := by decide +kernel
theorem dX4_pair_1 : decode cX4_pair 1 = .ok (.lconst 0, 1) := by decide +kernel
theorem dX4_pair_2 : decode cX4_pair 2 = .ok (.invokevirtual 85, 3) := by decide +kernel
theorem dX4_pair_5 : decode cX4_pair 5 = .ok (.iconst 0, 1) := by decide +kernel
theorem dX4_pair_6 : decode cX4_pair 6 = .ok (.istore 4, 2) := by decide +kernel
theorem dX4_pair_8 : decode cX4_pair 8 = .ok (.iload 4, 2) := by decide +kernel
theorem dX4_pair_10 : decode cX4_pair 10 = .ok (.bipush 10, 2) := by decide +kernel
theorem dX4_pair_12 : decode cX4_pair 12 = .ok (.if_icmp .ge 94, 3) := by decide +kernel
theorem dX4_pair_15 : decode cX4_pair 15 = .ok (.aload_n 0, 1) := by decide +kernel
theorem dX4_pair_16 : decode cX4_pair 16 = .ok (.getfield 20, 3) := by decide +kernel
theorem dX4_pair_19 : decode cX4_pair 19 = .ok (.iload 4, 2) := by decide +kernel
theorem dX4_pair_21 : decode cX4_pair 21 = .ok (.baload, 1) := by decide +kernel
theorem dX4_pair_22 : decode cX4_pair 22 = .ok (.ifCond .eq 78, 3) := by decide +kernel
theorem dX4_pair_25 : decode cX4_pair 25 = .ok (.aload_n 1, 1) := by decide +kernel
theorem dX4_pair_26 : decode cX4_pair 26 = .ok (.iload 4, 2) := by decide +kernel
theorem dX4_pair_28 : decode cX4_pair 28 = .ok (.laload, 1) := by decide +kernel
theorem dX4_pair_29 : decode cX4_pair 29 = .ok (.lconst 0, 1) := by decide +kernel
theorem dX4_pair_30 : decode cX4_pair 30 = .ok (.lcmp, 1) := by decide +kernel
theorem dX4_pair_31 : decode cX4_pair 31 = .ok (.ifCond .eq 69, 3) := by decide +kernel
theorem dX4_pair_34 : decode cX4_pair 34 = .ok (.aload_n 0, 1) := by decide +kernel
theorem dX4_pair_35 : decode cX4_pair 35 = .ok (.getfield 48, 3) := by decide +kernel
theorem dX4_pair_38 : decode cX4_pair 38 = .ok (.lconst 0, 1) := by decide +kernel
theorem dX4_pair_39 : decode cX4_pair 39 = .ok (.invokevirtual 85, 3) := by decide +kernel
theorem dX4_pair_42 : decode cX4_pair 42 = .ok (.iconst 0, 1) := by decide +kernel
theorem dX4_pair_43 : decode cX4_pair 43 = .ok (.istore 5, 2) := by decide +kernel
theorem dX4_pair_45 : decode cX4_pair 45 = .ok (.iload 5, 2) := by decide +kernel
theorem dX4_pair_47 : decode cX4_pair 47 = .ok (.bipush 10, 2) := by decide +kernel
theorem dX4_pair_49 : decode cX4_pair 49 = .ok (.if_icmp .ge 39, 3) := by decide +kernel
theorem dX4_pair_52 : decode cX4_pair 52 = .ok (.aload_n 0, 1) := by decide +kernel
theorem dX4_pair_53 : decode cX4_pair 53 = .ok (.getfield 20, 3) := by decide +kernel
theorem dX4_pair_56 : decode cX4_pair 56 = .ok (.iload 5, 2) := by decide +kernel
theorem dX4_pair_58 : decode cX4_pair 58 = .ok (.baload, 1) := by decide +kernel
theorem dX4_pair_59 : decode cX4_pair 59 = .ok (.ifCond .eq 23, 3) := by decide +kernel
theorem dX4_pair_62 : decode cX4_pair 62 = .ok (.aload_n 0, 1) := by decide +kernel
theorem dX4_pair_63 : decode cX4_pair 63 = .ok (.getfield 48, 3) := by decide +kernel
theorem dX4_pair_66 : decode cX4_pair 66 = .ok (.aload_n 0, 1) := by decide +kernel
theorem dX4_pair_67 : decode cX4_pair 67 = .ok (.iload 4, 2) := by decide +kernel
theorem dX4_pair_69 : decode cX4_pair 69 = .ok (.iload 5, 2) := by decide +kernel
theorem dX4_pair_71 : decode cX4_pair 71 = .ok (.invokevirtual 89, 3) := by decide +kernel
theorem dX4_pair_74 : decode cX4_pair 74 = .ok (.aload_n 2, 1) := by decide +kernel
theorem dX4_pair_75 : decode cX4_pair 75 = .ok (.iload 5, 2) := by decide +kernel
theorem dX4_pair_77 : decode cX4_pair 77 = .ok (.laload, 1) := by decide +kernel
theorem dX4_pair_78 : decode cX4_pair 78 = .ok (.lneg, 1) := by decide +kernel
theorem dX4_pair_79 : decode cX4_pair 79 = .ok (.invokevirtual 93, 3) := by decide +kernel
theorem dX4_pair_82 : decode cX4_pair 82 = .ok (.iinc 5 1, 3) := by decide +kernel
theorem dX4_pair_85 : decode cX4_pair 85 = .ok (.goto (-40), 3) := by decide +kernel
theorem dX4_pair_88 : decode cX4_pair 88 = .ok (.aload_n 3, 1) := by decide +kernel
theorem dX4_pair_89 : decode cX4_pair 89 = .ok (.aload_n 0, 1) := by decide +kernel
theorem dX4_pair_90 : decode cX4_pair 90 = .ok (.getfield 48, 3) := by decide +kernel
theorem dX4_pair_93 : decode cX4_pair 93 = .ok (.aload_n 1, 1) := by decide +kernel
theorem dX4_pair_94 : decode cX4_pair 94 = .ok (.iload 4, 2) := by decide +kernel
theorem dX4_pair_96 : decode cX4_pair 96 = .ok (.laload, 1) := by decide +kernel
theorem dX4_pair_97 : decode cX4_pair 97 = .ok (.invokevirtual 93, 3) := by decide +kernel
theorem dX4_pair_100 : decode cX4_pair 100 = .ok (.iinc 4 1, 3) := by decide +kernel
theorem dX4_pair_103 : decode cX4_pair 103 = .ok (.goto (-95), 3) := by decide +kernel
theorem dX4_pair_106 : decode cX4_pair 106 = .ok (.return_, 1) := by decide +kernel
theorem dX4_cellOf_0 : decode cX4_cellOf 0 = .ok (.iload_n 1, 1) := by decide +kernel
theorem dX4_cellOf_1 : decode cX4_cellOf 1 = .ok (.iload_n 2, 1) := by decide +kernel
theorem dX4_cellOf_2 : decode cX4_cellOf 2 = .ok (.if_icmp .lt 20, 3) := by decide +kernel
theorem dX4_cellOf_5 : decode cX4_cellOf 5 = .ok (.aload_n 0, 1) := by decide +kernel
theorem dX4_cellOf_6 : decode cX4_cellOf 6 = .ok (.getfield 36, 3) := by decide +kernel
theorem dX4_cellOf_9 : decode cX4_cellOf 9 = .ok (.iload_n 1, 1) := by decide +kernel
theorem dX4_cellOf_10 : decode cX4_cellOf 10 = .ok (.iload_n 1, 1) := by decide +kernel
theorem dX4_cellOf_11 : decode cX4_cellOf 11 = .ok (.iconst 1, 1) := by decide +kernel
theorem dX4_cellOf_12 : decode cX4_cellOf 12 = .ok (.iadd, 1) := by decide +kernel
theorem dX4_cellOf_13 : decode cX4_cellOf 13 = .ok (.imul, 1) := by decide +kernel
theorem dX4_cellOf_14 : decode cX4_cellOf 14 = .ok (.iconst 2, 1) := by decide +kernel
theorem dX4_cellOf_15 : decode cX4_cellOf 15 = .ok (.idiv, 1) := by decide +kernel
theorem dX4_cellOf_16 : decode cX4_cellOf 16 = .ok (.iload_n 2, 1) := by decide +kernel
theorem dX4_cellOf_17 : decode cX4_cellOf 17 = .ok (.iadd, 1) := by decide +kernel
theorem dX4_cellOf_18 : decode cX4_cellOf 18 = .ok (.aaload, 1) := by decide +kernel
theorem dX4_cellOf_19 : decode cX4_cellOf 19 = .ok (.goto 17, 3) := by decide +kernel
theorem dX4_cellOf_22 : decode cX4_cellOf 22 = .ok (.aload_n 0, 1) := by decide +kernel
theorem dX4_cellOf_23 : decode cX4_cellOf 23 = .ok (.getfield 36, 3) := by decide +kernel
theorem dX4_cellOf_26 : decode cX4_cellOf 26 = .ok (.iload_n 2, 1) := by decide +kernel
theorem dX4_cellOf_27 : decode cX4_cellOf 27 = .ok (.iload_n 2, 1) := by decide +kernel
theorem dX4_cellOf_28 : decode cX4_cellOf 28 = .ok (.iconst 1, 1) := by decide +kernel
theorem dX4_cellOf_29 : decode cX4_cellOf 29 = .ok (.iadd, 1) := by decide +kernel
theorem dX4_cellOf_30 : decode cX4_cellOf 30 = .ok (.imul, 1) := by decide +kernel
theorem dX4_cellOf_31 : decode cX4_cellOf 31 = .ok (.iconst 2, 1) := by decide +kernel
theorem dX4_cellOf_32 : decode cX4_cellOf 32 = .ok (.idiv, 1) := by decide +kernel
theorem dX4_cellOf_33 : decode cX4_cellOf 33 = .ok (.iload_n 1, 1) := by decide +kernel
theorem dX4_cellOf_34 : decode cX4_cellOf 34 = .ok (.iadd, 1) := by decide +kernel
theorem dX4_cellOf_35 : decode cX4_cellOf 35 = .ok (.aaload, 1) := by decide +kernel
theorem dX4_cellOf_36 : decode cX4_cellOf 36 = .ok (.areturn, 1) := by decide +kernel
theorem dX4_findScale_0 : decode cX4_findScale 0 = .ok (.aload_n 0, 1) := by decide +kernel
theorem dX4_findScale_1 : decode cX4_findScale 1 = .ok (.lconst 1, 1) := by decide +kernel
theorem dX4_findScale_2 : decode cX4_findScale 2 = .ok (.putfield 81, 3) := by decide +kernel
theorem dX4_findScale_5 : decode cX4_findScale 5 = .ok (.iconst 0, 1) := by decide +kernel
theorem dX4_findScale_6 : decode cX4_findScale 6 = .ok (.istore_n 1, 1) := by decide +kernel
theorem dX4_findScale_7 : decode cX4_findScale 7 = .ok (.iload_n 1, 1) := by decide +kernel
theorem dX4_findScale_8 : decode cX4_findScale 8 = .ok (.aload_n 0, 1) := by decide +kernel
theorem dX4_findScale_9 : decode cX4_findScale 9 = .ok (.getfield 54, 3) := by decide +kernel
theorem dX4_findScale_12 : decode cX4_findScale 12 = .ok (.getfield 97, 3) := by decide +kernel
theorem dX4_findScale_15 : decode cX4_findScale 15 = .ok (.if_icmp .ge 52, 3) := by decide +kernel
theorem dX4_findScale_18 : decode cX4_findScale 18 = .ok (.aload_n 0, 1) := by decide +kernel
theorem dX4_findScale_19 : decode cX4_findScale 19 = .ok (.getfield 81, 3) := by decide +kernel
theorem dX4_findScale_22 : decode cX4_findScale 22 = .ok (.aload_n 0, 1) := by decide +kernel
theorem dX4_findScale_23 : decode cX4_findScale 23 = .ok (.getfield 54, 3) := by decide +kernel
theorem dX4_findScale_26 : decode cX4_findScale 26 = .ok (.getfield 101, 3) := by decide +kernel
theorem dX4_findScale_29 : decode cX4_findScale 29 = .ok (.iload_n 1, 1) := by decide +kernel
theorem dX4_findScale_30 : decode cX4_findScale 30 = .ok (.laload, 1) := by decide +kernel
theorem dX4_findScale_31 : decode cX4_findScale 31 = .ok (.invokestatic 104, 3) := by decide +kernel
theorem dX4_findScale_34 : decode cX4_findScale 34 = .ok (.lstore_n 2, 1) := by decide +kernel
theorem dX4_findScale_35 : decode cX4_findScale 35 = .ok (.lload_n 2, 1) := by decide +kernel
theorem dX4_findScale_36 : decode cX4_findScale 36 = .ok (.lconst 0, 1) := by decide +kernel
theorem dX4_findScale_37 : decode cX4_findScale 37 = .ok (.lcmp, 1) := by decide +kernel
theorem dX4_findScale_38 : decode cX4_findScale 38 = .ok (.ifCond .le 23, 3) := by decide +kernel
theorem dX4_findScale_41 : decode cX4_findScale 41 = .ok (.aload_n 0, 1) := by decide +kernel
theorem dX4_findScale_42 : decode cX4_findScale 42 = .ok (.aload_n 0, 1) := by decide +kernel
theorem dX4_findScale_43 : decode cX4_findScale 43 = .ok (.getfield 81, 3) := by decide +kernel
theorem dX4_findScale_46 : decode cX4_findScale 46 = .ok (.lload_n 2, 1) := by decide +kernel
theorem dX4_findScale_47 : decode cX4_findScale 47 = .ok (.ldiv, 1) := by decide +kernel
theorem dX4_findScale_48 : decode cX4_findScale 48 = .ok (.aload_n 0, 1) := by decide +kernel
theorem dX4_findScale_49 : decode cX4_findScale 49 = .ok (.getfield 54, 3) := by decide +kernel
theorem dX4_findScale_52 : decode cX4_findScale 52 = .ok (.getfield 101, 3) := by decide +kernel
theorem dX4_findScale_55 : decode cX4_findScale 55 = .ok (.iload_n 1, 1) := by decide +kernel
theorem dX4_findScale_56 : decode cX4_findScale 56 = .ok (.laload, 1) := by decide +kernel
theorem dX4_findScale_57 : decode cX4_findScale 57 = .ok (.lmul, 1) := by decide +kernel
theorem dX4_findScale_58 : decode cX4_findScale 58 = .ok (.putfield 81, 3) := by decide +kernel
theorem dX4_findScale_61 : decode cX4_findScale 61 = .ok (.iinc 1 1, 3) := by decide +kernel
theorem dX4_findScale_64 : decode cX4_findScale 64 = .ok (.goto (-57), 3) := by decide +kernel
theorem dX4_findScale_67 : decode cX4_findScale 67 = .ok (.return_, 1) := by decide +kernel
theorem dX4_layOut_0 : decode cX4_layOut 0 = .ok (.iconst 0, 1) := by decide +kernel
theorem dX4_layOut_1 : decode cX4_layOut 1 = .ok (.istore_n 1, 1) := by decide +kernel
theorem dX4_layOut_2 : decode cX4_layOut 2 = .ok (.iload_n 1, 1) := by decide +kernel
theorem dX4_layOut_3 : decode cX4_layOut 3 = .ok (.bipush 10, 2) := by decide +kernel
theorem dX4_layOut_5 : decode cX4_layOut 5 = .ok (.if_icmp .ge 48, 3) := by decide +kernel
theorem dX4_layOut_8 : decode cX4_layOut 8 = .ok (.aload_n 0, 1) := by decide +kernel
theorem dX4_layOut_9 : decode cX4_layOut 9 = .ok (.getfield 20, 3) := by decide +kernel
theorem dX4_layOut_12 : decode cX4_layOut 12 = .ok (.iload_n 1, 1) := by decide +kernel
theorem dX4_layOut_13 : decode cX4_layOut 13 = .ok (.iload_n 1, 1) := by decide +kernel
theorem dX4_layOut_14 : decode cX4_layOut 14 = .ok (.aload_n 0, 1) := by decide +kernel
theorem dX4_layOut_15 : decode cX4_layOut 15 = .ok (.getfield 54, 3) := by decide +kernel
theorem dX4_layOut_18 : decode cX4_layOut 18 = .ok (.getfield 97, 3) := by decide +kernel
theorem dX4_layOut_21 : decode cX4_layOut 21 = .ok (.if_icmp .gt 24, 3) := by decide +kernel
theorem dX4_layOut_24 : decode cX4_layOut 24 = .ok (.iload_n 1, 1) := by decide +kernel
theorem dX4_layOut_25 : decode cX4_layOut 25 = .ok (.iconst 4, 1) := by decide +kernel
theorem dX4_layOut_26 : decode cX4_layOut 26 = .ok (.if_icmp .ge 19, 3) := by decide +kernel
theorem dX4_layOut_29 : decode cX4_layOut 29 = .ok (.aload_n 0, 1) := by decide +kernel
theorem dX4_layOut_30 : decode cX4_layOut 30 = .ok (.getfield 54, 3) := by decide +kernel
theorem dX4_layOut_33 : decode cX4_layOut 33 = .ok (.getfield 110, 3) := by decide +kernel
theorem dX4_layOut_36 : decode cX4_layOut 36 = .ok (.iload_n 1, 1) := by decide +kernel
theorem dX4_layOut_37 : decode cX4_layOut 37 = .ok (.baload, 1) := by decide +kernel
theorem dX4_layOut_38 : decode cX4_layOut 38 = .ok (.ifCond .ne 7, 3) := by decide +kernel
theorem dX4_layOut_41 : decode cX4_layOut 41 = .ok (.iconst 1, 1) := by decide +kernel
theorem dX4_layOut_42 : decode cX4_layOut 42 = .ok (.goto 4, 3) := by decide +kernel
theorem dX4_layOut_45 : decode cX4_layOut 45 = .ok (.iconst 0, 1) := by decide +kernel
theorem dX4_layOut_46 : decode cX4_layOut 46 = .ok (.bastore, 1) := by decide +kernel
theorem dX4_layOut_47 : decode cX4_layOut 47 = .ok (.iinc 1 1, 3) := by decide +kernel
theorem dX4_layOut_50 : decode cX4_layOut 50 = .ok (.goto (-48), 3) := by decide +kernel
theorem dX4_layOut_53 : decode cX4_layOut 53 = .ok (.iconst 0, 1) := by decide +kernel
theorem dX4_layOut_54 : decode cX4_layOut 54 = .ok (.istore_n 1, 1) := by decide +kernel
theorem dX4_layOut_55 : decode cX4_layOut 55 = .ok (.iload_n 1, 1) := by decide +kernel
theorem dX4_layOut_56 : decode cX4_layOut 56 = .ok (.iconst 2, 1) := by decide +kernel
theorem dX4_layOut_57 : decode cX4_layOut 57 = .ok (.aload_n 0, 1) := by decide +kernel
theorem dX4_layOut_58 : decode cX4_layOut 58 = .ok (.getfield 54, 3) := by decide +kernel
theorem dX4_layOut_61 : decode cX4_layOut 61 = .ok (.getfield 97, 3) := by decide +kernel
theorem dX4_layOut_64 : decode cX4_layOut 64 = .ok (.imul, 1) := by decide +kernel
theorem dX4_layOut_65 : decode cX4_layOut 65 = .ok (.if_icmp .ge 140, 3) := by decide +kernel
theorem dX4_layOut_68 : decode cX4_layOut 68 = .ok (.iload_n 1, 1) := by decide +kernel
theorem dX4_layOut_69 : decode cX4_layOut 69 = .ok (.iconst 2, 1) := by decide +kernel
theorem dX4_layOut_70 : decode cX4_layOut 70 = .ok (.irem, 1) := by decide +kernel
theorem dX4_layOut_71 : decode cX4_layOut 71 = .ok (.ifCond .ne 7, 3) := by decide +kernel
theorem dX4_layOut_74 : decode cX4_layOut 74 = .ok (.iconst 1, 1) := by decide +kernel
theorem dX4_layOut_75 : decode cX4_layOut 75 = .ok (.goto 4, 3) := by decide +kernel
theorem dX4_layOut_78 : decode cX4_layOut 78 = .ok (.iconst 0, 1) := by decide +kernel
theorem dX4_layOut_79 : decode cX4_layOut 79 = .ok (.istore_n 2, 1) := by decide +kernel
theorem dX4_layOut_80 : decode cX4_layOut 80 = .ok (.iload_n 2, 1) := by decide +kernel
theorem dX4_layOut_81 : decode cX4_layOut 81 = .ok (.ifCond .eq 37, 3) := by decide +kernel
theorem dX4_layOut_84 : decode cX4_layOut 84 = .ok (.iload_n 1, 1) := by decide +kernel
theorem dX4_layOut_85 : decode cX4_layOut 85 = .ok (.ifCond .le 33, 3) := by decide +kernel
theorem dX4_layOut_88 : decode cX4_layOut 88 = .ok (.aload_n 0, 1) := by decide +kernel
theorem dX4_layOut_89 : decode cX4_layOut 89 = .ok (.getfield 54, 3) := by decide +kernel
theorem dX4_layOut_92 : decode cX4_layOut 92 = .ok (.getfield 113, 3) := by decide +kernel
theorem dX4_layOut_95 : decode cX4_layOut 95 = .ok (.iload_n 1, 1) := by decide +kernel
theorem dX4_layOut_96 : decode cX4_layOut 96 = .ok (.baload, 1) := by decide +kernel
theorem dX4_layOut_97 : decode cX4_layOut 97 = .ok (.ifCond .ne 21, 3) := by decide +kernel
theorem dX4_layOut_100 : decode cX4_layOut 100 = .ok (.aload_n 0, 1) := by decide +kernel
theorem dX4_layOut_101 : decode cX4_layOut 101 = .ok (.getfield 54, 3) := by decide +kernel
theorem dX4_layOut_104 : decode cX4_layOut 104 = .ok (.getfield 113, 3) := by decide +kernel
theorem dX4_layOut_107 : decode cX4_layOut 107 = .ok (.iload_n 1, 1) := by decide +kernel
theorem dX4_layOut_108 : decode cX4_layOut 108 = .ok (.iconst 1, 1) := by decide +kernel
theorem dX4_layOut_109 : decode cX4_layOut 109 = .ok (.isub, 1) := by decide +kernel
theorem dX4_layOut_110 : decode cX4_layOut 110 = .ok (.baload, 1) := by decide +kernel
theorem dX4_layOut_111 : decode cX4_layOut 111 = .ok (.ifCond .ne 7, 3) := by decide +kernel
theorem dX4_layOut_114 : decode cX4_layOut 114 = .ok (.iconst 1, 1) := by decide +kernel
theorem dX4_layOut_115 : decode cX4_layOut 115 = .ok (.goto 4, 3) := by decide +kernel
theorem dX4_layOut_118 : decode cX4_layOut 118 = .ok (.iconst 0, 1) := by decide +kernel
theorem dX4_layOut_119 : decode cX4_layOut 119 = .ok (.istore_n 3, 1) := by decide +kernel
theorem dX4_layOut_120 : decode cX4_layOut 120 = .ok (.aload_n 0, 1) := by decide +kernel
theorem dX4_layOut_121 : decode cX4_layOut 121 = .ok (.getfield 17, 3) := by decide +kernel
theorem dX4_layOut_124 : decode cX4_layOut 124 = .ok (.iload_n 1, 1) := by decide +kernel
theorem dX4_layOut_125 : decode cX4_layOut 125 = .ok (.iload_n 3, 1) := by decide +kernel
theorem dX4_layOut_126 : decode cX4_layOut 126 = .ok (.ifCond .eq 11, 3) := by decide +kernel
theorem dX4_layOut_129 : decode cX4_layOut 129 = .ok (.iconst 4, 1) := by decide +kernel
theorem dX4_layOut_130 : decode cX4_layOut 130 = .ok (.iload_n 1, 1) := by decide +kernel
theorem dX4_layOut_131 : decode cX4_layOut 131 = .ok (.iadd, 1) := by decide +kernel
theorem dX4_layOut_132 : decode cX4_layOut 132 = .ok (.iconst 1, 1) := by decide +kernel
theorem dX4_layOut_133 : decode cX4_layOut 133 = .ok (.isub, 1) := by decide +kernel
theorem dX4_layOut_134 : decode cX4_layOut 134 = .ok (.goto 6, 3) := by decide +kernel
theorem dX4_layOut_137 : decode cX4_layOut 137 = .ok (.iconst 4, 1) := by decide +kernel
theorem dX4_layOut_138 : decode cX4_layOut 138 = .ok (.iload_n 1, 1) := by decide +kernel
theorem dX4_layOut_139 : decode cX4_layOut 139 = .ok (.iadd, 1) := by decide +kernel
theorem dX4_layOut_140 : decode cX4_layOut 140 = .ok (.iastore, 1) := by decide +kernel
theorem dX4_layOut_141 : decode cX4_layOut 141 = .ok (.iload_n 2, 1) := by decide +kernel
theorem dX4_layOut_142 : decode cX4_layOut 142 = .ok (.ifCond .eq 9, 3) := by decide +kernel
theorem dX4_layOut_145 : decode cX4_layOut 145 = .ok (.iload_n 1, 1) := by decide +kernel
theorem dX4_layOut_146 : decode cX4_layOut 146 = .ok (.iconst 2, 1) := by decide +kernel
theorem dX4_layOut_147 : decode cX4_layOut 147 = .ok (.idiv, 1) := by decide +kernel
theorem dX4_layOut_148 : decode cX4_layOut 148 = .ok (.goto 8, 3) := by decide +kernel
theorem dX4_layOut_151 : decode cX4_layOut 151 = .ok (.iload_n 1, 1) := by decide +kernel
theorem dX4_layOut_152 : decode cX4_layOut 152 = .ok (.iconst 2, 1) := by decide +kernel
theorem dX4_layOut_153 : decode cX4_layOut 153 = .ok (.idiv, 1) := by decide +kernel
theorem dX4_layOut_154 : decode cX4_layOut 154 = .ok (.iconst 1, 1) := by decide +kernel
theorem dX4_layOut_155 : decode cX4_layOut 155 = .ok (.iadd, 1) := by decide +kernel
theorem dX4_layOut_156 : decode cX4_layOut 156 = .ok (.istore 4, 2) := by decide +kernel
theorem dX4_layOut_158 : decode cX4_layOut 158 = .ok (.aload_n 0, 1) := by decide +kernel
theorem dX4_layOut_159 : decode cX4_layOut 159 = .ok (.getfield 20, 3) := by decide +kernel
theorem dX4_layOut_162 : decode cX4_layOut 162 = .ok (.aload_n 0, 1) := by decide +kernel
theorem dX4_layOut_163 : decode cX4_layOut 163 = .ok (.getfield 17, 3) := by decide +kernel
theorem dX4_layOut_166 : decode cX4_layOut 166 = .ok (.iload_n 1, 1) := by decide +kernel
theorem dX4_layOut_167 : decode cX4_layOut 167 = .ok (.iaload, 1) := by decide +kernel
theorem dX4_layOut_168 : decode cX4_layOut 168 = .ok (.aload_n 0, 1) := by decide +kernel
theorem dX4_layOut_169 : decode cX4_layOut 169 = .ok (.getfield 54, 3) := by decide +kernel
theorem dX4_layOut_172 : decode cX4_layOut 172 = .ok (.getfield 113, 3) := by decide +kernel
theorem dX4_layOut_175 : decode cX4_layOut 175 = .ok (.iload_n 1, 1) := by decide +kernel
theorem dX4_layOut_176 : decode cX4_layOut 176 = .ok (.baload, 1) := by decide +kernel
theorem dX4_layOut_177 : decode cX4_layOut 177 = .ok (.ifCond .ne 16, 3) := by decide +kernel
theorem dX4_layOut_180 : decode cX4_layOut 180 = .ok (.aload_n 0, 1) := by decide +kernel
theorem dX4_layOut_181 : decode cX4_layOut 181 = .ok (.getfield 54, 3) := by decide +kernel
theorem dX4_layOut_184 : decode cX4_layOut 184 = .ok (.getfield 116, 3) := by decide +kernel
theorem dX4_layOut_187 : decode cX4_layOut 187 = .ok (.iload 4, 2) := by decide +kernel
theorem dX4_layOut_189 : decode cX4_layOut 189 = .ok (.baload, 1) := by decide +kernel
theorem dX4_layOut_190 : decode cX4_layOut 190 = .ok (.ifCond .ne 7, 3) := by decide +kernel
theorem dX4_layOut_193 : decode cX4_layOut 193 = .ok (.iconst 1, 1) := by decide +kernel
theorem dX4_layOut_194 : decode cX4_layOut 194 = .ok (.goto 4, 3) := by decide +kernel
theorem dX4_layOut_197 : decode cX4_layOut 197 = .ok (.iconst 0, 1) := by decide +kernel
theorem dX4_layOut_198 : decode cX4_layOut 198 = .ok (.bastore, 1) := by decide +kernel
theorem dX4_layOut_199 : decode cX4_layOut 199 = .ok (.iinc 1 1, 3) := by decide +kernel
theorem dX4_layOut_202 : decode cX4_layOut 202 = .ok (.goto (-147), 3) := by decide +kernel
theorem dX4_layOut_205 : decode cX4_layOut 205 = .ok (.return_, 1) := by decide +kernel
theorem dX4_assemble_0 : decode cX4_assemble 0 = .ok (.aload_n 0, 1) := by decide +kernel
theorem dX4_assemble_1 : decode cX4_assemble 1 = .ok (.getfield 30, 3) := by decide +kernel
theorem dX4_assemble_4 : decode cX4_assemble 4 = .ok (.lconst 0, 1) := by decide +kernel
theorem dX4_assemble_5 : decode cX4_assemble 5 = .ok (.invokestatic 119, 3) := by decide +kernel
theorem dX4_assemble_8 : decode cX4_assemble 8 = .ok (.iconst 0, 1) := by decide +kernel
theorem dX4_assemble_9 : decode cX4_assemble 9 = .ok (.istore_n 1, 1) := by decide +kernel
theorem dX4_assemble_10 : decode cX4_assemble 10 = .ok (.iload_n 1, 1) := by decide +kernel
theorem dX4_assemble_11 : decode cX4_assemble 11 = .ok (.aload_n 0, 1) := by decide +kernel
theorem dX4_assemble_12 : decode cX4_assemble 12 = .ok (.getfield 54, 3) := by decide +kernel
theorem dX4_assemble_15 : decode cX4_assemble 15 = .ok (.getfield 97, 3) := by decide +kernel
theorem dX4_assemble_18 : decode cX4_assemble 18 = .ok (.if_icmp .ge 206, 3) := by decide +kernel
theorem dX4_assemble_21 : decode cX4_assemble 21 = .ok (.aload_n 0, 1) := by decide +kernel
theorem dX4_assemble_22 : decode cX4_assemble 22 = .ok (.getfield 9, 3) := by decide +kernel
theorem dX4_assemble_25 : decode cX4_assemble 25 = .ok (.iconst 0, 1) := by decide +kernel
theorem dX4_assemble_26 : decode cX4_assemble 26 = .ok (.iload_n 1, 1) := by decide +kernel
theorem dX4_assemble_27 : decode cX4_assemble 27 = .ok (.iastore, 1) := by decide +kernel
theorem dX4_assemble_28 : decode cX4_assemble 28 = .ok (.aload_n 0, 1) := by decide +kernel
theorem dX4_assemble_29 : decode cX4_assemble 29 = .ok (.getfield 9, 3) := by decide +kernel
theorem dX4_assemble_32 : decode cX4_assemble 32 = .ok (.iconst 1, 1) := by decide +kernel
theorem dX4_assemble_33 : decode cX4_assemble 33 = .ok (.aload_n 0, 1) := by decide +kernel
theorem dX4_assemble_34 : decode cX4_assemble 34 = .ok (.getfield 17, 3) := by decide +kernel
theorem dX4_assemble_37 : decode cX4_assemble 37 = .ok (.iconst 2, 1) := by decide +kernel
theorem dX4_assemble_38 : decode cX4_assemble 38 = .ok (.iload_n 1, 1) := by decide +kernel
theorem dX4_assemble_39 : decode cX4_assemble 39 = .ok (.imul, 1) := by decide +kernel
theorem dX4_assemble_40 : decode cX4_assemble 40 = .ok (.iaload, 1) := by decide +kernel
theorem dX4_assemble_41 : decode cX4_assemble 41 = .ok (.iastore, 1) := by decide +kernel
theorem dX4_assemble_42 : decode cX4_assemble 42 = .ok (.aload_n 0, 1) := by decide +kernel
theorem dX4_assemble_43 : decode cX4_assemble 43 = .ok (.getfield 9, 3) := by decide +kernel
theorem dX4_assemble_46 : decode cX4_assemble 46 = .ok (.iconst 2, 1) := by decide +kernel
theorem dX4_assemble_47 : decode cX4_assemble 47 = .ok (.iload_n 1, 1) := by decide +kernel
theorem dX4_assemble_48 : decode cX4_assemble 48 = .ok (.iconst 1, 1) := by decide +kernel
theorem dX4_assemble_49 : decode cX4_assemble 49 = .ok (.iadd, 1) := by decide +kernel
theorem dX4_assemble_50 : decode cX4_assemble 50 = .ok (.iastore, 1) := by decide +kernel
