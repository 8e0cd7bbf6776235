theorem dX5_layShape_98 : decode cX5_layShape 98 = .ok (.aload_n 0, 1) := by decide +kernel
theorem dX5_layShape_99 : decode cX5_layShape 99 = .ok (.getfield 37, 3) := by decide +kernel
theorem dX5_layShape_102 : decode cX5_layShape 102 = .ok (.iconst 2, 1) := by decide +kernel
theorem dX5_layShape_103 : decode cX5_layShape 103 = .ok (.iload_n 2, 1) := by decide +kernel
theorem dX5_layShape_104 : decode cX5_layShape 104 = .ok (.imul, 1) := by decide +kernel
theorem dX5_layShape_105 : decode cX5_layShape 105 = .ok (.iconst 1, 1) := by decide +kernel
theorem dX5_layShape_106 : decode cX5_layShape 106 = .ok (.iadd, 1) := by decide +kernel
theorem dX5_layShape_107 : decode cX5_layShape 107 = .ok (.invokevirtual 126, 3) := by decide +kernel
theorem dX5_layShape_110 : decode cX5_layShape 110 = .ok (.dup2, 1) := by decide +kernel
theorem dX5_layShape_111 : decode cX5_layShape 111 = .ok (.laload, 1) := by decide +kernel
theorem dX5_layShape_112 : decode cX5_layShape 112 = .ok (.lload 8, 2) := by decide +kernel
theorem dX5_layShape_114 : decode cX5_layShape 114 = .ok (.iload_n 3, 1) := by decide +kernel
theorem dX5_layShape_115 : decode cX5_layShape 115 = .ok (.i2l, 1) := by decide +kernel
theorem dX5_layShape_116 : decode cX5_layShape 116 = .ok (.lmul, 1) := by decide +kernel
theorem dX5_layShape_117 : decode cX5_layShape 117 = .ok (.iload_n 3, 1) := by decide +kernel
theorem dX5_layShape_118 : decode cX5_layShape 118 = .ok (.i2l, 1) := by decide +kernel
theorem dX5_layShape_119 : decode cX5_layShape 119 = .ok (.lmul, 1) := by decide +kernel
theorem dX5_layShape_120 : decode cX5_layShape 120 = .ok (.lload 4, 2) := by decide +kernel
theorem dX5_layShape_122 : decode cX5_layShape 122 = .ok (.lmul, 1) := by decide +kernel
theorem dX5_layShape_123 : decode cX5_layShape 123 = .ok (.lsub, 1) := by decide +kernel
theorem dX5_layShape_124 : decode cX5_layShape 124 = .ok (.lastore, 1) := by decide +kernel
theorem dX5_layShape_125 : decode cX5_layShape 125 = .ok (.return_, 1) := by decide +kernel
theorem dX5_layEnds_0 : decode cX5_layEnds 0 = .ok (.aload_n 0, 1) := by decide +kernel
theorem dX5_layEnds_1 : decode cX5_layEnds 1 = .ok (.getfield 11, 3) := by decide +kernel
theorem dX5_layEnds_4 : decode cX5_layEnds 4 = .ok (.aload_n 0, 1) := by decide +kernel
theorem dX5_layEnds_5 : decode cX5_layEnds 5 = .ok (.getfield 45, 3) := by decide +kernel
theorem dX5_layEnds_8 : decode cX5_layEnds 8 = .ok (.dup2, 1) := by decide +kernel
theorem dX5_layEnds_9 : decode cX5_layEnds 9 = .ok (.laload, 1) := by decide +kernel
theorem dX5_layEnds_10 : decode cX5_layEnds 10 = .ok (.lload_n 1, 1) := by decide +kernel
theorem dX5_layEnds_11 : decode cX5_layEnds 11 = .ok (.ladd, 1) := by decide +kernel
theorem dX5_layEnds_12 : decode cX5_layEnds 12 = .ok (.lastore, 1) := by decide +kernel
theorem dX5_layEnds_13 : decode cX5_layEnds 13 = .ok (.aload_n 0, 1) := by decide +kernel
theorem dX5_layEnds_14 : decode cX5_layEnds 14 = .ok (.getfield 11, 3) := by decide +kernel
theorem dX5_layEnds_17 : decode cX5_layEnds 17 = .ok (.aload_n 0, 1) := by decide +kernel
theorem dX5_layEnds_18 : decode cX5_layEnds 18 = .ok (.getfield 37, 3) := by decide +kernel
theorem dX5_layEnds_21 : decode cX5_layEnds 21 = .ok (.iconst 2, 1) := by decide +kernel
theorem dX5_layEnds_22 : decode cX5_layEnds 22 = .ok (.aload_n 0, 1) := by decide +kernel
theorem dX5_layEnds_23 : decode cX5_layEnds 23 = .ok (.getfield 45, 3) := by decide +kernel
theorem dX5_layEnds_26 : decode cX5_layEnds 26 = .ok (.imul, 1) := by decide +kernel
theorem dX5_layEnds_27 : decode cX5_layEnds 27 = .ok (.invokevirtual 126, 3) := by decide +kernel
theorem dX5_layEnds_30 : decode cX5_layEnds 30 = .ok (.dup2, 1) := by decide +kernel
theorem dX5_layEnds_31 : decode cX5_layEnds 31 = .ok (.laload, 1) := by decide +kernel
theorem dX5_layEnds_32 : decode cX5_layEnds 32 = .ok (.lload_n 3, 1) := by decide +kernel
theorem dX5_layEnds_33 : decode cX5_layEnds 33 = .ok (.ladd, 1) := by decide +kernel
theorem dX5_layEnds_34 : decode cX5_layEnds 34 = .ok (.lastore, 1) := by decide +kernel
theorem dX5_layEnds_35 : decode cX5_layEnds 35 = .ok (.aload_n 0, 1) := by decide +kernel
theorem dX5_layEnds_36 : decode cX5_layEnds 36 = .ok (.getfield 11, 3) := by decide +kernel
theorem dX5_layEnds_39 : decode cX5_layEnds 39 = .ok (.aload_n 0, 1) := by decide +kernel
theorem dX5_layEnds_40 : decode cX5_layEnds 40 = .ok (.getfield 45, 3) := by decide +kernel
theorem dX5_layEnds_43 : decode cX5_layEnds 43 = .ok (.iconst 1, 1) := by decide +kernel
theorem dX5_layEnds_44 : decode cX5_layEnds 44 = .ok (.iadd, 1) := by decide +kernel
theorem dX5_layEnds_45 : decode cX5_layEnds 45 = .ok (.dup2, 1) := by decide +kernel
theorem dX5_layEnds_46 : decode cX5_layEnds 46 = .ok (.laload, 1) := by decide +kernel
theorem dX5_layEnds_47 : decode cX5_layEnds 47 = .ok (.lload_n 1, 1) := by decide +kernel
theorem dX5_layEnds_48 : decode cX5_layEnds 48 = .ok (.lsub, 1) := by decide +kernel
theorem dX5_layEnds_49 : decode cX5_layEnds 49 = .ok (.lastore, 1) := by decide +kernel
theorem dX5_layEnds_50 : decode cX5_layEnds 50 = .ok (.aload_n 0, 1) := by decide +kernel
theorem dX5_layEnds_51 : decode cX5_layEnds 51 = .ok (.getfield 11, 3) := by decide +kernel
theorem dX5_layEnds_54 : decode cX5_layEnds 54 = .ok (.aload_n 0, 1) := by decide +kernel
theorem dX5_layEnds_55 : decode cX5_layEnds 55 = .ok (.getfield 37, 3) := by decide +kernel
theorem dX5_layEnds_58 : decode cX5_layEnds 58 = .ok (.iconst 2, 1) := by decide +kernel
theorem dX5_layEnds_59 : decode cX5_layEnds 59 = .ok (.aload_n 0, 1) := by decide +kernel
theorem dX5_layEnds_60 : decode cX5_layEnds 60 = .ok (.getfield 45, 3) := by decide +kernel
theorem dX5_layEnds_63 : decode cX5_layEnds 63 = .ok (.imul, 1) := by decide +kernel
theorem dX5_layEnds_64 : decode cX5_layEnds 64 = .ok (.iconst 1, 1) := by decide +kernel
theorem dX5_layEnds_65 : decode cX5_layEnds 65 = .ok (.iadd, 1) := by decide +kernel
theorem dX5_layEnds_66 : decode cX5_layEnds 66 = .ok (.invokevirtual 126, 3) := by decide +kernel
theorem dX5_layEnds_69 : decode cX5_layEnds 69 = .ok (.dup2, 1) := by decide +kernel
theorem dX5_layEnds_70 : decode cX5_layEnds 70 = .ok (.laload, 1) := by decide +kernel
theorem dX5_layEnds_71 : decode cX5_layEnds 71 = .ok (.lload 5, 2) := by decide +kernel
theorem dX5_layEnds_73 : decode cX5_layEnds 73 = .ok (.ladd, 1) := by decide +kernel
theorem dX5_layEnds_74 : decode cX5_layEnds 74 = .ok (.lastore, 1) := by decide +kernel
theorem dX5_layEnds_75 : decode cX5_layEnds 75 = .ok (.return_, 1) := by decide +kernel
theorem dX5_ratio_0 : decode cX5_ratio 0 = .ok (.aload_n 0, 1) := by decide +kernel
theorem dX5_ratio_1 : decode cX5_ratio 1 = .ok (.getfield 33, 3) := by decide +kernel
theorem dX5_ratio_4 : decode cX5_ratio 4 = .ok (.getfield 123, 3) := by decide +kernel
theorem dX5_ratio_7 : decode cX5_ratio 7 = .ok (.aload_n 0, 1) := by decide +kernel
theorem dX5_ratio_8 : decode cX5_ratio 8 = .ok (.getfield 45, 3) := by decide +kernel
theorem dX5_ratio_11 : decode cX5_ratio 11 = .ok (.laload, 1) := by decide +kernel
theorem dX5_ratio_12 : decode cX5_ratio 12 = .ok (.lstore_n 1, 1) := by decide +kernel
theorem dX5_ratio_13 : decode cX5_ratio 13 = .ok (.lload_n 1, 1) := by decide +kernel
theorem dX5_ratio_14 : decode cX5_ratio 14 = .ok (.lconst 0, 1) := by decide +kernel
theorem dX5_ratio_15 : decode cX5_ratio 15 = .ok (.lcmp, 1) := by decide +kernel
theorem dX5_ratio_16 : decode cX5_ratio 16 = .ok (.ifCond .le 15, 3) := by decide +kernel
theorem dX5_ratio_19 : decode cX5_ratio 19 = .ok (.aload_n 0, 1) := by decide +kernel
theorem dX5_ratio_20 : decode cX5_ratio 20 = .ok (.getfield 37, 3) := by decide +kernel
theorem dX5_ratio_23 : decode cX5_ratio 23 = .ok (.invokevirtual 120, 3) := by decide +kernel
theorem dX5_ratio_26 : decode cX5_ratio 26 = .ok (.lload_n 1, 1) := by decide +kernel
theorem dX5_ratio_27 : decode cX5_ratio 27 = .ok (.ldiv, 1) := by decide +kernel
theorem dX5_ratio_28 : decode cX5_ratio 28 = .ok (.goto 4, 3) := by decide +kernel
theorem dX5_ratio_31 : decode cX5_ratio 31 = .ok (.lconst 1, 1) := by decide +kernel
theorem dX5_ratio_32 : decode cX5_ratio 32 = .ok (.lreturn, 1) := by decide +kernel
theorem dX5_aimAtMoment_0 : decode cX5_aimAtMoment 0 = .ok (.aload_n 0, 1) := by decide +kernel
theorem dX5_aimAtMoment_1 : decode cX5_aimAtMoment 1 = .ok (.bipush 12, 2) := by decide +kernel
theorem dX5_aimAtMoment_3 : decode cX5_aimAtMoment 3 = .ok (.bipush 6, 2) := by decide +kernel
theorem dX5_aimAtMoment_5 : decode cX5_aimAtMoment 5 = .ok (.aload_n 0, 1) := by decide +kernel
theorem dX5_aimAtMoment_6 : decode cX5_aimAtMoment 6 = .ok (.getfield 48, 3) := by decide +kernel
theorem dX5_aimAtMoment_9 : decode cX5_aimAtMoment 9 = .ok (.imul, 1) := by decide +kernel
theorem dX5_aimAtMoment_10 : decode cX5_aimAtMoment 10 = .ok (.isub, 1) := by decide +kernel
theorem dX5_aimAtMoment_11 : decode cX5_aimAtMoment 11 = .ok (.i2l, 1) := by decide +kernel
theorem dX5_aimAtMoment_12 : decode cX5_aimAtMoment 12 = .ok (.aload_n 0, 1) := by decide +kernel
theorem dX5_aimAtMoment_13 : decode cX5_aimAtMoment 13 = .ok (.invokevirtual 130, 3) := by decide +kernel
theorem dX5_aimAtMoment_16 : decode cX5_aimAtMoment 16 = .ok (.lmul, 1) := by decide +kernel
theorem dX5_aimAtMoment_17 : decode cX5_aimAtMoment 17 = .ok (.bipush 8, 2) := by decide +kernel
theorem dX5_aimAtMoment_19 : decode cX5_aimAtMoment 19 = .ok (.iconst 3, 1) := by decide +kernel
theorem dX5_aimAtMoment_20 : decode cX5_aimAtMoment 20 = .ok (.aload_n 0, 1) := by decide +kernel
theorem dX5_aimAtMoment_21 : decode cX5_aimAtMoment 21 = .ok (.getfield 48, 3) := by decide +kernel
theorem dX5_aimAtMoment_24 : decode cX5_aimAtMoment 24 = .ok (.imul, 1) := by decide +kernel
theorem dX5_aimAtMoment_25 : decode cX5_aimAtMoment 25 = .ok (.isub, 1) := by decide +kernel
theorem dX5_aimAtMoment_26 : decode cX5_aimAtMoment 26 = .ok (.i2l, 1) := by decide +kernel
theorem dX5_aimAtMoment_27 : decode cX5_aimAtMoment 27 = .ok (.iconst 4, 1) := by decide +kernel
theorem dX5_aimAtMoment_28 : decode cX5_aimAtMoment 28 = .ok (.iconst 3, 1) := by decide +kernel
theorem dX5_aimAtMoment_29 : decode cX5_aimAtMoment 29 = .ok (.aload_n 0, 1) := by decide +kernel
theorem dX5_aimAtMoment_30 : decode cX5_aimAtMoment 30 = .ok (.getfield 48, 3) := by decide +kernel
theorem dX5_aimAtMoment_33 : decode cX5_aimAtMoment 33 = .ok (.imul, 1) := by decide +kernel
theorem dX5_aimAtMoment_34 : decode cX5_aimAtMoment 34 = .ok (.isub, 1) := by decide +kernel
theorem dX5_aimAtMoment_35 : decode cX5_aimAtMoment 35 = .ok (.i2l, 1) := by decide +kernel
theorem dX5_aimAtMoment_36 : decode cX5_aimAtMoment 36 = .ok (.invokevirtual 133, 3) := by decide +kernel
theorem dX5_aimAtMoment_39 : decode cX5_aimAtMoment 39 = .ok (.aload_n 0, 1) := by decide +kernel
theorem dX5_aimAtMoment_40 : decode cX5_aimAtMoment 40 = .ok (.ldc2_w 137, 3) := by decide +kernel
theorem dX5_aimAtMoment_43 : decode cX5_aimAtMoment 43 = .ok (.aload_n 0, 1) := by decide +kernel
theorem dX5_aimAtMoment_44 : decode cX5_aimAtMoment 44 = .ok (.getfield 33, 3) := by decide +kernel
theorem dX5_aimAtMoment_47 : decode cX5_aimAtMoment 47 = .ok (.getfield 139, 3) := by decide +kernel
theorem dX5_aimAtMoment_50 : decode cX5_aimAtMoment 50 = .ok (.aload_n 0, 1) := by decide +kernel
theorem dX5_aimAtMoment_51 : decode cX5_aimAtMoment 51 = .ok (.getfield 45, 3) := by decide +kernel
theorem dX5_aimAtMoment_54 : decode cX5_aimAtMoment 54 = .ok (.laload, 1) := by decide +kernel
theorem dX5_aimAtMoment_55 : decode cX5_aimAtMoment 55 = .ok (.lmul, 1) := by decide +kernel
theorem dX5_aimAtMoment_56 : decode cX5_aimAtMoment 56 = .ok (.aload_n 0, 1) := by decide +kernel
theorem dX5_aimAtMoment_57 : decode cX5_aimAtMoment 57 = .ok (.invokevirtual 130, 3) := by decide +kernel
theorem dX5_aimAtMoment_60 : decode cX5_aimAtMoment 60 = .ok (.lmul, 1) := by decide +kernel
theorem dX5_aimAtMoment_61 : decode cX5_aimAtMoment 61 = .ok (.putfield 97, 3) := by decide +kernel
theorem dX5_aimAtMoment_64 : decode cX5_aimAtMoment 64 = .ok (.aload_n 0, 1) := by decide +kernel
theorem dX5_aimAtMoment_65 : decode cX5_aimAtMoment 65 = .ok (.ldc2_w 142, 3) := by decide +kernel
theorem dX5_aimAtMoment_68 : decode cX5_aimAtMoment 68 = .ok (.putfield 113, 3) := by decide +kernel
theorem dX5_aimAtMoment_71 : decode cX5_aimAtMoment 71 = .ok (.return_, 1) := by decide +kernel
theorem dX5_aimAtShear_0 : decode cX5_aimAtShear 0 = .ok (.aload_n 0, 1) := by decide +kernel
theorem dX5_aimAtShear_1 : decode cX5_aimAtShear 1 = .ok (.ldc2_w 137, 3) := by decide +kernel
theorem dX5_aimAtShear_4 : decode cX5_aimAtShear 4 = .ok (.aload_n 0, 1) := by decide +kernel
theorem dX5_aimAtShear_5 : decode cX5_aimAtShear 5 = .ok (.invokevirtual 130, 3) := by decide +kernel
theorem dX5_aimAtShear_8 : decode cX5_aimAtShear 8 = .ok (.lmul, 1) := by decide +kernel
theorem dX5_aimAtShear_9 : decode cX5_aimAtShear 9 = .ok (.lconst 1, 1) := by decide +kernel
theorem dX5_aimAtShear_10 : decode cX5_aimAtShear 10 = .ok (.lconst 1, 1) := by decide +kernel
theorem dX5_aimAtShear_11 : decode cX5_aimAtShear 11 = .ok (.invokevirtual 133, 3) := by decide +kernel
theorem dX5_aimAtShear_14 : decode cX5_aimAtShear 14 = .ok (.aload_n 0, 1) := by decide +kernel
theorem dX5_aimAtShear_15 : decode cX5_aimAtShear 15 = .ok (.ldc2_w 144, 3) := by decide +kernel
theorem dX5_aimAtShear_18 : decode cX5_aimAtShear 18 = .ok (.aload_n 0, 1) := by decide +kernel
theorem dX5_aimAtShear_19 : decode cX5_aimAtShear 19 = .ok (.getfield 33, 3) := by decide +kernel
theorem dX5_aimAtShear_22 : decode cX5_aimAtShear 22 = .ok (.getfield 139, 3) := by decide +kernel
theorem dX5_aimAtShear_25 : decode cX5_aimAtShear 25 = .ok (.aload_n 0, 1) := by decide +kernel
theorem dX5_aimAtShear_26 : decode cX5_aimAtShear 26 = .ok (.getfield 45, 3) := by decide +kernel
theorem dX5_aimAtShear_29 : decode cX5_aimAtShear 29 = .ok (.laload, 1) := by decide +kernel
theorem dX5_aimAtShear_30 : decode cX5_aimAtShear 30 = .ok (.lmul, 1) := by decide +kernel
theorem dX5_aimAtShear_31 : decode cX5_aimAtShear 31 = .ok (.aload_n 0, 1) := by decide +kernel
theorem dX5_aimAtShear_32 : decode cX5_aimAtShear 32 = .ok (.invokevirtual 130, 3) := by decide +kernel
theorem dX5_aimAtShear_35 : decode cX5_aimAtShear 35 = .ok (.lmul, 1) := by decide +kernel
theorem dX5_aimAtShear_36 : decode cX5_aimAtShear 36 = .ok (.aload_n 0, 1) := by decide +kernel
theorem dX5_aimAtShear_37 : decode cX5_aimAtShear 37 = .ok (.invokevirtual 130, 3) := by decide +kernel
theorem dX5_aimAtShear_40 : decode cX5_aimAtShear 40 = .ok (.lmul, 1) := by decide +kernel
theorem dX5_aimAtShear_41 : decode cX5_aimAtShear 41 = .ok (.putfield 97, 3) := by decide +kernel
theorem dX5_aimAtShear_44 : decode cX5_aimAtShear 44 = .ok (.aload_n 0, 1) := by decide +kernel
theorem dX5_aimAtShear_45 : decode cX5_aimAtShear 45 = .ok (.ldc2_w 146, 3) := by decide +kernel
theorem dX5_aimAtShear_48 : decode cX5_aimAtShear 48 = .ok (.aload_n 0, 1) := by decide +kernel
theorem dX5_aimAtShear_49 : decode cX5_aimAtShear 49 = .ok (.getfield 37, 3) := by decide +kernel
theorem dX5_aimAtShear_52 : decode cX5_aimAtShear 52 = .ok (.invokevirtual 120, 3) := by decide +kernel
theorem dX5_aimAtShear_55 : decode cX5_aimAtShear 55 = .ok (.lmul, 1) := by decide +kernel
theorem dX5_aimAtShear_56 : decode cX5_aimAtShear 56 = .ok (.putfield 113, 3) := by decide +kernel
theorem dX5_aimAtShear_59 : decode cX5_aimAtShear 59 = .ok (.return_, 1) := by decide +kernel
theorem dX5_aimAtMove_0 : decode cX5_aimAtMove 0 = .ok (.aload_n 0, 1) := by decide +kernel
theorem dX5_aimAtMove_1 : decode cX5_aimAtMove 1 = .ok (.aload_n 0, 1) := by decide +kernel
theorem dX5_aimAtMove_2 : decode cX5_aimAtMove 2 = .ok (.getfield 11, 3) := by decide +kernel
theorem dX5_aimAtMove_5 : decode cX5_aimAtMove 5 = .ok (.aload_n 0, 1) := by decide +kernel
theorem dX5_aimAtMove_6 : decode cX5_aimAtMove 6 = .ok (.getfield 45, 3) := by decide +kernel
theorem dX5_aimAtMove_9 : decode cX5_aimAtMove 9 = .ok (.aload_n 0, 1) := by decide +kernel
theorem dX5_aimAtMove_10 : decode cX5_aimAtMove 10 = .ok (.getfield 48, 3) := by decide +kernel
theorem dX5_aimAtMove_13 : decode cX5_aimAtMove 13 = .ok (.invokevirtual 85, 3) := by decide +kernel
theorem dX5_aimAtMove_16 : decode cX5_aimAtMove 16 = .ok (.aload_n 0, 1) := by decide +kernel
theorem dX5_aimAtMove_17 : decode cX5_aimAtMove 17 = .ok (.ldc2_w 148, 3) := by decide +kernel
theorem dX5_aimAtMove_20 : decode cX5_aimAtMove 20 = .ok (.aload_n 0, 1) := by decide +kernel
theorem dX5_aimAtMove_21 : decode cX5_aimAtMove 21 = .ok (.getfield 33, 3) := by decide +kernel
theorem dX5_aimAtMove_24 : decode cX5_aimAtMove 24 = .ok (.getfield 139, 3) := by decide +kernel
theorem dX5_aimAtMove_27 : decode cX5_aimAtMove 27 = .ok (.aload_n 0, 1) := by decide +kernel
theorem dX5_aimAtMove_28 : decode cX5_aimAtMove 28 = .ok (.getfield 45, 3) := by decide +kernel
theorem dX5_aimAtMove_31 : decode cX5_aimAtMove 31 = .ok (.laload, 1) := by decide +kernel
theorem dX5_aimAtMove_32 : decode cX5_aimAtMove 32 = .ok (.lmul, 1) := by decide +kernel
theorem dX5_aimAtMove_33 : decode cX5_aimAtMove 33 = .ok (.aload_n 0, 1) := by decide +kernel
theorem dX5_aimAtMove_34 : decode cX5_aimAtMove 34 = .ok (.getfield 37, 3) := by decide +kernel
theorem dX5_aimAtMove_37 : decode cX5_aimAtMove 37 = .ok (.invokevirtual 120, 3) := by decide +kernel
theorem dX5_aimAtMove_40 : decode cX5_aimAtMove 40 = .ok (.lmul, 1) := by decide +kernel
theorem dX5_aimAtMove_41 : decode cX5_aimAtMove 41 = .ok (.putfield 97, 3) := by decide +kernel
theorem dX5_aimAtMove_44 : decode cX5_aimAtMove 44 = .ok (.aload_n 0, 1) := by decide +kernel
theorem dX5_aimAtMove_45 : decode cX5_aimAtMove 45 = .ok (.ldc2_w 150, 3) := by decide +kernel
theorem dX5_aimAtMove_48 : decode cX5_aimAtMove 48 = .ok (.aload_n 0, 1) := by decide +kernel
theorem dX5_aimAtMove_49 : decode cX5_aimAtMove 49 = .ok (.getfield 33, 3) := by decide +kernel
theorem dX5_aimAtMove_52 : decode cX5_aimAtMove 52 = .ok (.getfield 139, 3) := by decide +kernel
theorem dX5_aimAtMove_55 : decode cX5_aimAtMove 55 = .ok (.aload_n 0, 1) := by decide +kernel
theorem dX5_aimAtMove_56 : decode cX5_aimAtMove 56 = .ok (.getfield 45, 3) := by decide +kernel
theorem dX5_aimAtMove_59 : decode cX5_aimAtMove 59 = .ok (.laload, 1) := by decide +kernel
theorem dX5_aimAtMove_60 : decode cX5_aimAtMove 60 = .ok (.lmul, 1) := by decide +kernel
theorem dX5_aimAtMove_61 : decode cX5_aimAtMove 61 = .ok (.putfield 113, 3) := by decide +kernel
theorem dX5_aimAtMove_64 : decode cX5_aimAtMove 64 = .ok (.return_, 1) := by decide +kernel
theorem dX5_aimAtReactions_0 : decode cX5_aimAtReactions 0 = .ok (.aload_n 0, 1) := by decide +kernel
theorem dX5_aimAtReactions_1 : decode cX5_aimAtReactions 1 = .ok (.ldc2_w 152, 3) := by decide +kernel
theorem dX5_aimAtReactions_4 : decode cX5_aimAtReactions 4 = .ok (.putfield 97, 3) := by decide +kernel
theorem dX5_aimAtReactions_7 : decode cX5_aimAtReactions 7 = .ok (.aload_n 0, 1) := by decide +kernel
theorem dX5_aimAtReactions_8 : decode cX5_aimAtReactions 8 = .ok (.ldc2_w 146, 3) := by decide +kernel
theorem dX5_aimAtReactions_11 : decode cX5_aimAtReactions 11 = .ok (.aload_n 0, 1) := by decide +kernel
theorem dX5_aimAtReactions_12 : decode cX5_aimAtReactions 12 = .ok (.getfield 37, 3) := by decide +kernel
theorem dX5_aimAtReactions_15 : decode cX5_aimAtReactions 15 = .ok (.invokevirtual 120, 3) := by decide +kernel
theorem dX5_aimAtReactions_18 : decode cX5_aimAtReactions 18 = .ok (.lmul, 1) := by decide +kernel
theorem dX5_aimAtReactions_19 : decode cX5_aimAtReactions 19 = .ok (.putfield 113, 3) := by decide +kernel
theorem dX5_aimAtReactions_22 : decode cX5_aimAtReactions 22 = .ok (.iconst 0, 1) := by decide +kernel
theorem dX5_aimAtReactions_23 : decode cX5_aimAtReactions 23 = .ok (.istore_n 1, 1) := by decide +kernel
theorem dX5_aimAtReactions_24 : decode cX5_aimAtReactions 24 = .ok (.iload_n 1, 1) := by decide +kernel
theorem dX5_aimAtReactions_25 : decode cX5_aimAtReactions 25 = .ok (.aload_n 0, 1) := by decide +kernel
theorem dX5_aimAtReactions_26 : decode cX5_aimAtReactions 26 = .ok (.getfield 22, 3) := by decide +kernel
theorem dX5_aimAtReactions_29 : decode cX5_aimAtReactions 29 = .ok (.arraylength, 1) := by decide +kernel
theorem dX5_aimAtReactions_30 : decode cX5_aimAtReactions 30 = .ok (.if_icmp .ge 16, 3) := by decide +kernel
theorem dX5_aimAtReactions_33 : decode cX5_aimAtReactions 33 = .ok (.aload_n 0, 1) := by decide +kernel
theorem dX5_aimAtReactions_34 : decode cX5_aimAtReactions 34 = .ok (.getfield 22, 3) := by decide +kernel
theorem dX5_aimAtReactions_37 : decode cX5_aimAtReactions 37 = .ok (.iload_n 1, 1) := by decide +kernel
theorem dX5_aimAtReactions_38 : decode cX5_aimAtReactions 38 = .ok (.iconst 0, 1) := by decide +kernel
theorem dX5_aimAtReactions_39 : decode cX5_aimAtReactions 39 = .ok (.bastore, 1) := by decide +kernel
theorem dX5_aimAtReactions_40 : decode cX5_aimAtReactions 40 = .ok (.iinc 1 1, 3) := by decide +kernel
theorem dX5_aimAtReactions_43 : decode cX5_aimAtReactions 43 = .ok (.goto (-19), 3) := by decide +kernel
theorem dX5_aimAtReactions_46 : decode cX5_aimAtReactions 46 = .ok (.return_, 1) := by decide +kernel
theorem dX5_addReaction_0 : decode cX5_addReaction 0 = .ok (.aload_n 0, 1) := by decide +kernel
theorem dX5_addReaction_1 : decode cX5_addReaction 1 = .ok (.getfield 22, 3) := by decide +kernel
theorem dX5_addReaction_4 : decode cX5_addReaction 4 = .ok (.iload_n 1, 1) := by decide +kernel
theorem dX5_addReaction_5 : decode cX5_addReaction 5 = .ok (.iconst 1, 1) := by decide +kernel
theorem dX5_addReaction_6 : decode cX5_addReaction 6 = .ok (.bastore, 1) := by decide +kernel
theorem dX5_addReaction_7 : decode cX5_addReaction 7 = .ok (.iconst 0, 1) := by decide +kernel
theorem dX5_addReaction_8 : decode cX5_addReaction 8 = .ok (.istore_n 2, 1) := by decide +kernel
theorem dX5_addReaction_9 : decode cX5_addReaction 9 = .ok (.iload_n 2, 1) := by decide +kernel
theorem dX5_addReaction_10 : decode cX5_addReaction 10 = .ok (.bipush 10, 2) := by decide +kernel
theorem dX5_addReaction_12 : decode cX5_addReaction 12 = .ok (.if_icmp .ge 27, 3) := by decide +kernel
theorem dX5_addReaction_15 : decode cX5_addReaction 15 = .ok (.aload_n 0, 1) := by decide +kernel
theorem dX5_addReaction_16 : decode cX5_addReaction 16 = .ok (.getfield 11, 3) := by decide +kernel
theorem dX5_addReaction_19 : decode cX5_addReaction 19 = .ok (.iload_n 2, 1) := by decide +kernel
theorem dX5_addReaction_20 : decode cX5_addReaction 20 = .ok (.dup2, 1) := by decide +kernel
theorem dX5_addReaction_21 : decode cX5_addReaction 21 = .ok (.laload, 1) := by decide +kernel
theorem dX5_addReaction_22 : decode cX5_addReaction 22 = .ok (.aload_n 0, 1) := by decide +kernel
theorem dX5_addReaction_23 : decode cX5_addReaction 23 = .ok (.getfield 37, 3) := by decide +kernel
theorem dX5_addReaction_26 : decode cX5_addReaction 26 = .ok (.iload_n 1, 1) := by decide +kernel
theorem dX5_addReaction_27 : decode cX5_addReaction 27 = .ok (.iload_n 2, 1) := by decide +kernel
theorem dX5_addReaction_28 : decode cX5_addReaction 28 = .ok (.invokevirtual 116, 3) := by decide +kernel
theorem dX5_addReaction_31 : decode cX5_addReaction 31 = .ok (.ladd, 1) := by decide +kernel
theorem dX5_addReaction_32 : decode cX5_addReaction 32 = .ok (.lastore, 1) := by decide +kernel
theorem dX5_addReaction_33 : decode cX5_addReaction 33 = .ok (.iinc 2 1, 3) := by decide +kernel
theorem dX5_addReaction_36 : decode cX5_addReaction 36 = .ok (.goto (-27), 3) := by decide +kernel
theorem dX5_addReaction_39 : decode cX5_addReaction 39 = .ok (.return_, 1) := by decide +kernel
theorem dX5_ownPart_0 : decode cX5_ownPart 0 = .ok (.aload_n 0, 1) := by decide +kernel
theorem dX5_ownPart_1 : decode cX5_ownPart 1 = .ok (.getfield 41, 3) := by decide +kernel
theorem dX5_ownPart_4 : decode cX5_ownPart 4 = .ok (.iconst 3, 1) := by decide +kernel
theorem dX5_ownPart_5 : decode cX5_ownPart 5 = .ok (.if_icmp .ne 8, 3) := by decide +kernel
theorem dX5_ownPart_8 : decode cX5_ownPart 8 = .ok (.aload_n 0, 1) := by decide +kernel
theorem dX5_ownPart_9 : decode cX5_ownPart 9 = .ok (.invokevirtual 154, 3) := by decide +kernel
theorem dX5_ownPart_12 : decode cX5_ownPart 12 = .ok (.lreturn, 1) := by decide +kernel
theorem dX5_ownPart_13 : decode cX5_ownPart 13 = .ok (.aload_n 0, 1) := by decide +kernel
theorem dX5_ownPart_14 : decode cX5_ownPart 14 = .ok (.getfield 79, 3) := by decide +kernel
theorem dX5_ownPart_17 : decode cX5_ownPart 17 = .ok (.aload_n 0, 1) := by decide +kernel
theorem dX5_ownPart_18 : decode cX5_ownPart 18 = .ok (.getfield 45, 3) := by decide +kernel
theorem dX5_ownPart_21 : decode cX5_ownPart 21 = .ok (.if_icmp .eq 5, 3) := by decide +kernel
theorem dX5_ownPart_24 : decode cX5_ownPart 24 = .ok (.lconst 0, 1) := by decide +kernel
theorem dX5_ownPart_25 : decode cX5_ownPart 25 = .ok (.lreturn, 1) := by decide +kernel
theorem dX5_ownPart_26 : decode cX5_ownPart 26 = .ok (.iconst 4, 1) := by decide +kernel
theorem dX5_ownPart_27 : decode cX5_ownPart 27 = .ok (.aload_n 0, 1) := by decide +kernel
theorem dX5_ownPart_28 : decode cX5_ownPart 28 = .ok (.getfield 82, 3) := by decide +kernel
theorem dX5_ownPart_31 : decode cX5_ownPart 31 = .ok (.isub, 1) := by decide +kernel
theorem dX5_ownPart_32 : decode cX5_ownPart 32 = .ok (.i2l, 1) := by decide +kernel
theorem dX5_ownPart_33 : decode cX5_ownPart 33 = .ok (.lstore_n 1, 1) := by decide +kernel
theorem dX5_ownPart_34 : decode cX5_ownPart 34 = .ok (.lload_n 1, 1) := by decide +kernel
theorem dX5_ownPart_35 : decode cX5_ownPart 35 = .ok (.lload_n 1, 1) := by decide +kernel
theorem dX5_ownPart_36 : decode cX5_ownPart 36 = .ok (.lmul, 1) := by decide +kernel
theorem dX5_ownPart_37 : decode cX5_ownPart 37 = .ok (.iconst 4, 1) := by decide +kernel
theorem dX5_ownPart_38 : decode cX5_ownPart 38 = .ok (.iconst 2, 1) := by decide +kernel
theorem dX5_ownPart_39 : decode cX5_ownPart 39 = .ok (.aload_n 0, 1) := by decide +kernel
theorem dX5_ownPart_40 : decode cX5_ownPart 40 = .ok (.getfield 82, 3) := by decide +kernel
theorem dX5_ownPart_43 : decode cX5_ownPart 43 = .ok (.imul, 1) := by decide +kernel
theorem dX5_ownPart_44 : decode cX5_ownPart 44 = .ok (.iadd, 1) := by decide +kernel
theorem dX5_ownPart_45 : decode cX5_ownPart 45 = .ok (.i2l, 1) := by decide +kernel
theorem dX5_ownPart_46 : decode cX5_ownPart 46 = .ok (.lmul, 1) := by decide +kernel
theorem dX5_ownPart_47 : decode cX5_ownPart 47 = .ok (.lstore_n 3, 1) := by decide +kernel
theorem dX5_ownPart_48 : decode cX5_ownPart 48 = .ok (.aload_n 0, 1) := by decide +kernel
theorem dX5_ownPart_49 : decode cX5_ownPart 49 = .ok (.getfield 82, 3) := by decide +kernel
theorem dX5_ownPart_52 : decode cX5_ownPart 52 = .ok (.i2l, 1) := by decide +kernel
theorem dX5_ownPart_53 : decode cX5_ownPart 53 = .ok (.lload_n 1, 1) := by decide +kernel
theorem dX5_ownPart_54 : decode cX5_ownPart 54 = .ok (.lmul, 1) := by decide +kernel
theorem dX5_ownPart_55 : decode cX5_ownPart 55 = .ok (.lload_n 1, 1) := by decide +kernel
theorem dX5_ownPart_56 : decode cX5_ownPart 56 = .ok (.lmul, 1) := by decide +kernel
theorem dX5_ownPart_57 : decode cX5_ownPart 57 = .ok (.lstore 5, 2) := by decide +kernel
theorem dX5_ownPart_59 : decode cX5_ownPart 59 = .ok (.iconst 0, 1) := by decide +kernel
theorem dX5_ownPart_60 : decode cX5_ownPart 60 = .ok (.aload_n 0, 1) := by decide +kernel
theorem dX5_ownPart_61 : decode cX5_ownPart 61 = .ok (.getfield 48, 3) := by decide +kernel
theorem dX5_ownPart_64 : decode cX5_ownPart 64 = .ok (.aload_n 0, 1) := by decide +kernel
theorem dX5_ownPart_65 : decode cX5_ownPart 65 = .ok (.getfield 82, 3) := by decide +kernel
theorem dX5_ownPart_68 : decode cX5_ownPart 68 = .ok (.isub, 1) := by decide +kernel
theorem dX5_ownPart_69 : decode cX5_ownPart 69 = .ok (.invokestatic 157, 3) := by decide +kernel
theorem dX5_ownPart_72 : decode cX5_ownPart 72 = .ok (.i2l, 1) := by decide +kernel
theorem dX5_ownPart_73 : decode cX5_ownPart 73 = .ok (.lstore 7, 2) := by decide +kernel
theorem dX5_ownPart_75 : decode cX5_ownPart 75 = .ok (.aload_n 0, 1) := by decide +kernel
theorem dX5_ownPart_76 : decode cX5_ownPart 76 = .ok (.getfield 33, 3) := by decide +kernel
theorem dX5_ownPart_79 : decode cX5_ownPart 79 = .ok (.getfield 123, 3) := by decide +kernel
theorem dX5_ownPart_82 : decode cX5_ownPart 82 = .ok (.aload_n 0, 1) := by decide +kernel
theorem dX5_ownPart_83 : decode cX5_ownPart 83 = .ok (.getfield 45, 3) := by decide +kernel
theorem dX5_ownPart_86 : decode cX5_ownPart 86 = .ok (.laload, 1) := by decide +kernel
theorem dX5_ownPart_87 : decode cX5_ownPart 87 = .ok (.lstore 9, 2) := by decide +kernel
theorem dX5_ownPart_89 : decode cX5_ownPart 89 = .ok (.aload_n 0, 1) := by decide +kernel
theorem dX5_ownPart_90 : decode cX5_ownPart 90 = .ok (.getfield 41, 3) := by decide +kernel
theorem dX5_ownPart_93 : decode cX5_ownPart 93 = .ok (.ifCond .ne 28, 3) := by decide +kernel
theorem dX5_ownPart_96 : decode cX5_ownPart 96 = .ok (.lload 9, 2) := by decide +kernel
theorem dX5_ownPart_98 : decode cX5_ownPart 98 = .ok (.lload_n 3, 1) := by decide +kernel
theorem dX5_ownPart_99 : decode cX5_ownPart 99 = .ok (.aload_n 0, 1) := by decide +kernel
theorem dX5_ownPart_100 : decode cX5_ownPart 100 = .ok (.getfield 48, 3) := by decide +kernel
theorem dX5_ownPart_103 : decode cX5_ownPart 103 = .ok (.i2l, 1) := by decide +kernel
theorem dX5_ownPart_104 : decode cX5_ownPart 104 = .ok (.lmul, 1) := by decide +kernel
theorem dX5_ownPart_105 : decode cX5_ownPart 105 = .ok (.ldc2_w 163, 3) := by decide +kernel
theorem dX5_ownPart_108 : decode cX5_ownPart 108 = .ok (.lload 5, 2) := by decide +kernel
theorem dX5_ownPart_110 : decode cX5_ownPart 110 = .ok (.lmul, 1) := by decide +kernel
theorem dX5_ownPart_111 : decode cX5_ownPart 111 = .ok (.lsub, 1) := by decide +kernel
theorem dX5_ownPart_112 : decode cX5_ownPart 112 = .ok (.ldc2_w 146, 3) := by decide +kernel
theorem dX5_ownPart_115 : decode cX5_ownPart 115 = .ok (.lload 7, 2) := by decide +kernel
theorem dX5_ownPart_117 : decode cX5_ownPart 117 = .ok (.lmul, 1) := by decide +kernel
theorem dX5_ownPart_118 : decode cX5_ownPart 118 = .ok (.lsub, 1) := by decide +kernel
theorem dX5_ownPart_119 : decode cX5_ownPart 119 = .ok (.lmul, 1) := by decide +kernel
theorem dX5_ownPart_120 : decode cX5_ownPart 120 = .ok (.lreturn, 1) := by decide +kernel
theorem dX5_ownPart_121 : decode cX5_ownPart 121 = .ok (.aload_n 0, 1) := by decide +kernel
theorem dX5_ownPart_122 : decode cX5_ownPart 122 = .ok (.getfield 41, 3) := by decide +kernel
theorem dX5_ownPart_125 : decode cX5_ownPart 125 = .ok (.iconst 2, 1) := by decide +kernel
theorem dX5_ownPart_126 : decode cX5_ownPart 126 = .ok (.if_icmp .ne 58, 3) := by decide +kernel
theorem dX5_ownPart_129 : decode cX5_ownPart 129 = .ok (.aload_n 0, 1) := by decide +kernel
theorem dX5_ownPart_130 : decode cX5_ownPart 130 = .ok (.getfield 48, 3) := by decide +kernel
theorem dX5_ownPart_133 : decode cX5_ownPart 133 = .ok (.aload_n 0, 1) := by decide +kernel
theorem dX5_ownPart_134 : decode cX5_ownPart 134 = .ok (.getfield 48, 3) := by decide +kernel
theorem dX5_ownPart_137 : decode cX5_ownPart 137 = .ok (.imul, 1) := by decide +kernel
theorem dX5_ownPart_138 : decode cX5_ownPart 138 = .ok (.i2l, 1) := by decide +kernel
theorem dX5_ownPart_139 : decode cX5_ownPart 139 = .ok (.lstore 11, 2) := by decide +kernel
theorem dX5_ownPart_141 : decode cX5_ownPart 141 = .ok (.lload 9, 2) := by decide +kernel
theorem dX5_ownPart_143 : decode cX5_ownPart 143 = .ok (.lload 9, 2) := by decide +kernel
theorem dX5_ownPart_145 : decode cX5_ownPart 145 = .ok (.lmul, 1) := by decide +kernel
theorem dX5_ownPart_146 : decode cX5_ownPart 146 = .ok (.lload 9, 2) := by decide +kernel
theorem dX5_ownPart_148 : decode cX5_ownPart 148 = .ok (.lmul, 1) := by decide +kernel
theorem dX5_ownPart_149 : decode cX5_ownPart 149 = .ok (.ldc2_w 165, 3) := by decide +kernel
theorem dX5_ownPart_152 : decode cX5_ownPart 152 = .ok (.lload 5, 2) := by decide +kernel
theorem dX5_ownPart_154 : decode cX5_ownPart 154 = .ok (.lmul, 1) := by decide +kernel
theorem dX5_ownPart_155 : decode cX5_ownPart 155 = .ok (.lload 11, 2) := by decide +kernel
theorem dX5_ownPart_157 : decode cX5_ownPart 157 = .ok (.lmul, 1) := by decide +kernel
theorem dX5_ownPart_158 : decode cX5_ownPart 158 = .ok (.lload_n 3, 1) := by decide +kernel
theorem dX5_ownPart_159 : decode cX5_ownPart 159 = .ok (.lload 11, 2) := by decide +kernel
theorem dX5_ownPart_161 : decode cX5_ownPart 161 = .ok (.lmul, 1) := by decide +kernel
theorem dX5_ownPart_162 : decode cX5_ownPart 162 = .ok (.aload_n 0, 1) := by decide +kernel
theorem dX5_ownPart_163 : decode cX5_ownPart 163 = .ok (.getfield 48, 3) := by decide +kernel
theorem dX5_ownPart_166 : decode cX5_ownPart 166 = .ok (.i2l, 1) := by decide +kernel
theorem dX5_ownPart_167 : decode cX5_ownPart 167 = .ok (.lmul, 1) := by decide +kernel
theorem dX5_ownPart_168 : decode cX5_ownPart 168 = .ok (.lsub, 1) := by decide +kernel
theorem dX5_ownPart_169 : decode cX5_ownPart 169 = .ok (.ldc2_w 146, 3) := by decide +kernel
theorem dX5_ownPart_172 : decode cX5_ownPart 172 = .ok (.lload 7, 2) := by decide +kernel
theorem dX5_ownPart_174 : decode cX5_ownPart 174 = .ok (.lmul, 1) := by decide +kernel
theorem dX5_ownPart_175 : decode cX5_ownPart 175 = .ok (.lload 7, 2) := by decide +kernel
theorem dX5_ownPart_177 : decode cX5_ownPart 177 = .ok (.lmul, 1) := by decide +kernel
theorem dX5_ownPart_178 : decode cX5_ownPart 178 = .ok (.lload 7, 2) := by decide +kernel
theorem dX5_ownPart_180 : decode cX5_ownPart 180 = .ok (.lmul, 1) := by decide +kernel
theorem dX5_ownPart_181 : decode cX5_ownPart 181 = .ok (.ladd, 1) := by decide +kernel
theorem dX5_ownPart_182 : decode cX5_ownPart 182 = .ok (.lmul, 1) := by decide +kernel
theorem dX5_ownPart_183 : decode cX5_ownPart 183 = .ok (.lreturn, 1) := by decide +kernel
theorem dX5_ownPart_184 : decode cX5_ownPart 184 = .ok (.aload_n 0, 1) := by decide +kernel
theorem dX5_ownPart_185 : decode cX5_ownPart 185 = .ok (.getfield 82, 3) := by decide +kernel
theorem dX5_ownPart_188 : decode cX5_ownPart 188 = .ok (.ifCond .eq 11, 3) := by decide +kernel
theorem dX5_ownPart_191 : decode cX5_ownPart 191 = .ok (.aload_n 0, 1) := by decide +kernel
theorem dX5_ownPart_192 : decode cX5_ownPart 192 = .ok (.getfield 82, 3) := by decide +kernel
theorem dX5_ownPart_195 : decode cX5_ownPart 195 = .ok (.iconst 4, 1) := by decide +kernel
theorem dX5_ownPart_196 : decode cX5_ownPart 196 = .ok (.if_icmp .ne 7, 3) := by decide +kernel
theorem dX5_ownPart_199 : decode cX5_ownPart 199 = .ok (.iconst 1, 1) := by decide +kernel
theorem dX5_ownPart_200 : decode cX5_ownPart 200 = .ok (.goto 4, 3) := by decide +kernel
theorem dX5_ownPart_203 : decode cX5_ownPart 203 = .ok (.iconst 0, 1) := by decide +kernel
theorem dX5_ownPart_204 : decode cX5_ownPart 204 = .ok (.istore 11, 2) := by decide +kernel
theorem dX5_ownPart_206 : decode cX5_ownPart 206 = .ok (.iload 11, 2) := by decide +kernel
theorem dX5_ownPart_208 : decode cX5_ownPart 208 = .ok (.ifCond .eq 7, 3) := by decide +kernel
theorem dX5_ownPart_211 : decode cX5_ownPart 211 = .ok (.lconst 0, 1) := by decide +kernel
theorem dX5_ownPart_212 : decode cX5_ownPart 212 = .ok (.goto 27, 3) := by decide +kernel
theorem dX5_ownPart_215 : decode cX5_ownPart 215 = .ok (.aload_n 0, 1) := by decide +kernel
theorem dX5_ownPart_216 : decode cX5_ownPart 216 = .ok (.getfield 37, 3) := by decide +kernel
theorem dX5_ownPart_219 : decode cX5_ownPart 219 = .ok (.invokevirtual 120, 3) := by decide +kernel
theorem dX5_ownPart_222 : decode cX5_ownPart 222 = .ok (.lload 7, 2) := by decide +kernel
theorem dX5_ownPart_224 : decode cX5_ownPart 224 = .ok (.lconst 0, 1) := by decide +kernel
theorem dX5_ownPart_225 : decode cX5_ownPart 225 = .ok (.lcmp, 1) := by decide +kernel
theorem dX5_ownPart_226 : decode cX5_ownPart 226 = .ok (.ifCond .le 11, 3) := by decide +kernel
theorem dX5_ownPart_229 : decode cX5_ownPart 229 = .ok (.lload_n 3, 1) := by decide +kernel
theorem dX5_ownPart_230 : decode cX5_ownPart 230 = .ok (.ldc2_w 146, 3) := by decide +kernel
theorem dX5_ownPart_233 : decode cX5_ownPart 233 = .ok (.lsub, 1) := by decide +kernel
theorem dX5_ownPart_234 : decode cX5_ownPart 234 = .ok (.goto 4, 3) := by decide +kernel
theorem dX5_ownPart_237 : decode cX5_ownPart 237 = .ok (.lload_n 3, 1) := by decide +kernel
theorem dX5_ownPart_238 : decode cX5_ownPart 238 = .ok (.lmul, 1) := by decide +kernel
theorem dX5_ownPart_239 : decode cX5_ownPart 239 = .ok (.lreturn, 1) := by decide +kernel
theorem dX5_ownReaction_0 : decode cX5_ownReaction 0 = .ok (.lconst 0, 1) := by decide +kernel
theorem dX5_ownReaction_1 : decode cX5_ownReaction 1 = .ok (.lstore_n 1, 1) := by decide +kernel
theorem dX5_ownReaction_2 : decode cX5_ownReaction 2 = .ok (.iconst 0, 1) := by decide +kernel
theorem dX5_ownReaction_3 : decode cX5_ownReaction 3 = .ok (.istore_n 3, 1) := by decide +kernel
theorem dX5_ownReaction_4 : decode cX5_ownReaction 4 = .ok (.iload_n 3, 1) := by decide +kernel
theorem dX5_ownReaction_5 : decode cX5_ownReaction 5 = .ok (.aload_n 0, 1) := by decide +kernel
theorem dX5_ownReaction_6 : decode cX5_ownReaction 6 = .ok (.getfield 22, 3) := by decide +kernel
theorem dX5_ownReaction_9 : decode cX5_ownReaction 9 = .ok (.arraylength, 1) := by decide +kernel
theorem dX5_ownReaction_10 : decode cX5_ownReaction 10 = .ok (.if_icmp .ge 31, 3) := by decide +kernel
theorem dX5_ownReaction_13 : decode cX5_ownReaction 13 = .ok (.lload_n 1, 1) := by decide +kernel
theorem dX5_ownReaction_14 : decode cX5_ownReaction 14 = .ok (.aload_n 0, 1) := by decide +kernel
theorem dX5_ownReaction_15 : decode cX5_ownReaction 15 = .ok (.getfield 22, 3) := by decide +kernel
theorem dX5_ownReaction_18 : decode cX5_ownReaction 18 = .ok (.iload_n 3, 1) := by decide +kernel
theorem dX5_ownReaction_19 : decode cX5_ownReaction 19 = .ok (.baload, 1) := by decide +kernel
theorem dX5_ownReaction_20 : decode cX5_ownReaction 20 = .ok (.ifCond .eq 12, 3) := by decide +kernel
theorem dX5_ownReaction_23 : decode cX5_ownReaction 23 = .ok (.aload_n 0, 1) := by decide +kernel
theorem dX5_ownReaction_24 : decode cX5_ownReaction 24 = .ok (.getfield 17, 3) := by decide +kernel
theorem dX5_ownReaction_27 : decode cX5_ownReaction 27 = .ok (.iload_n 3, 1) := by decide +kernel
theorem dX5_ownReaction_28 : decode cX5_ownReaction 28 = .ok (.laload, 1) := by decide +kernel
theorem dX5_ownReaction_29 : decode cX5_ownReaction 29 = .ok (.goto 4, 3) := by decide +kernel
theorem dX5_ownReaction_32 : decode cX5_ownReaction 32 = .ok (.lconst 0, 1) := by decide +kernel
theorem dX5_ownReaction_33 : decode cX5_ownReaction 33 = .ok (.ladd, 1) := by decide +kernel
theorem dX5_ownReaction_34 : decode cX5_ownReaction 34 = .ok (.lstore_n 1, 1) := by decide +kernel
theorem dX5_ownReaction_35 : decode cX5_ownReaction 35 = .ok (.iinc 3 1, 3) := by decide +kernel
theorem dX5_ownReaction_38 : decode cX5_ownReaction 38 = .ok (.goto (-34), 3) := by decide +kernel
theorem dX5_ownReaction_41 : decode cX5_ownReaction 41 = .ok (.lload_n 1, 1) := by decide +kernel
theorem dX5_ownReaction_42 : decode cX5_ownReaction 42 = .ok (.lreturn, 1) := by decide +kernel
theorem dX6_init_0 : decode cX6_init 0 = .ok (.aload_n 0, 1) := by decide +kernel
theorem dX6_init_1 : decode cX6_init 1 = .ok (.invokespecial 1, 3) := by decide +kernel
theorem dX6_init_4 : decode cX6_init 4 = .ok (.aload_n 0, 1) := by decide +kernel
theorem dX6_init_5 : decode cX6_init 5 = .ok (.new 7, 3) := by decide +kernel
theorem dX6_init_8 : decode cX6_init 8 = .ok (.dup, 1) := by decide +kernel
theorem dX6_init_9 : decode cX6_init 9 = .ok (.invokespecial 9, 3) := by decide +kernel
theorem dX6_init_12 : decode cX6_init 12 = .ok (.putfield 10, 3) := by decide +kernel
theorem dX6_init_15 : decode cX6_init 15 = .ok (.aload_n 0, 1) := by decide +kernel
theorem dX6_init_16 : decode cX6_init 16 = .ok (.new 7, 3) := by decide +kernel
theorem dX6_init_19 : decode cX6_init 19 = .ok (.dup, 1) := by decide +kernel
theorem dX6_init_20 : decode cX6_init 20 = .ok (.invokespecial 9, 3) := by decide +kernel
theorem dX6_init_23 : decode cX6_init 23 = .ok (.putfield 16, 3) := by decide +kernel
theorem dX6_init_26 : decode cX6_init 26 = .ok (.aload_n 0, 1) := by decide +kernel
theorem dX6_init_27 : decode cX6_init 27 = .ok (.new 19, 3) := by decide +kernel
theorem dX6_init_30 : decode cX6_init 30 = .ok (.dup, 1) := by decide +kernel
theorem dX6_init_31 : decode cX6_init 31 = .ok (.invokespecial 21, 3) := by decide +kernel
theorem dX6_init_34 : decode cX6_init 34 = .ok (.putfield 22, 3) := by decide +kernel
theorem dX6_init_37 : decode cX6_init 37 = .ok (.aload_n 0, 1) := by decide +kernel
theorem dX6_init_38 : decode cX6_init 38 = .ok (.new 7, 3) := by decide +kernel
theorem dX6_init_41 : decode cX6_init 41 = .ok (.dup, 1) := by decide +kernel
theorem dX6_init_42 : decode cX6_init 42 = .ok (.invokespecial 9, 3) := by decide +kernel
theorem dX6_init_45 : decode cX6_init 45 = .ok (.putfield 26, 3) := by decide +kernel
theorem dX6_init_48 : decode cX6_init 48 = .ok (.return_, 1) := by decide +kernel
theorem dX6_reduce_0 : decode cX6_reduce 0 = .ok (.aload_n 0, 1) := by decide +kernel
theorem dX6_reduce_1 : decode cX6_reduce 1 = .ok (.getfield 22, 3) := by decide +kernel
theorem dX6_reduce_4 : decode cX6_reduce 4 = .ok (.aload_n 0, 1) := by decide +kernel
theorem dX6_reduce_5 : decode cX6_reduce 5 = .ok (.getfield 10, 3) := by decide +kernel
theorem dX6_reduce_8 : decode cX6_reduce 8 = .ok (.aload_n 0, 1) := by decide +kernel
theorem dX6_reduce_9 : decode cX6_reduce 9 = .ok (.getfield 16, 3) := by decide +kernel
theorem dX6_reduce_12 : decode cX6_reduce 12 = .ok (.invokevirtual 29, 3) := by decide +kernel
theorem dX6_reduce_15 : decode cX6_reduce 15 = .ok (.astore_n 1, 1) := by decide +kernel
theorem dX6_reduce_16 : decode cX6_reduce 16 = .ok (.aload_n 0, 1) := by decide +kernel
theorem dX6_reduce_17 : decode cX6_reduce 17 = .ok (.getfield 26, 3) := by decide +kernel
theorem dX6_reduce_20 : decode cX6_reduce 20 = .ok (.aload_n 0, 1) := by decide +kernel
theorem dX6_reduce_21 : decode cX6_reduce 21 = .ok (.getfield 10, 3) := by decide +kernel
theorem dX6_reduce_24 : decode cX6_reduce 24 = .ok (.invokevirtual 33, 3) := by decide +kernel
theorem dX6_reduce_27 : decode cX6_reduce 27 = .ok (.aload_n 0, 1) := by decide +kernel
theorem dX6_reduce_28 : decode cX6_reduce 28 = .ok (.getfield 26, 3) := by decide +kernel
theorem dX6_reduce_31 : decode cX6_reduce 31 = .ok (.aload_n 1, 1) := by decide +kernel
theorem dX6_reduce_32 : decode cX6_reduce 32 = .ok (.aload_n 0, 1) := by decide +kernel
theorem dX6_reduce_33 : decode cX6_reduce 33 = .ok (.getfield 10, 3) := by decide +kernel
theorem dX6_reduce_36 : decode cX6_reduce 36 = .ok (.invokevirtual 37, 3) := by decide +kernel
theorem dX6_reduce_39 : decode cX6_reduce 39 = .ok (.aload_n 0, 1) := by decide +kernel
theorem dX6_reduce_40 : decode cX6_reduce 40 = .ok (.getfield 26, 3) := by decide +kernel
theorem dX6_reduce_43 : decode cX6_reduce 43 = .ok (.aload_n 0, 1) := by decide +kernel
theorem dX6_reduce_44 : decode cX6_reduce 44 = .ok (.getfield 16, 3) := by decide +kernel
theorem dX6_reduce_47 : decode cX6_reduce 47 = .ok (.invokevirtual 33, 3) := by decide +kernel
theorem dX6_reduce_50 : decode cX6_reduce 50 = .ok (.aload_n 0, 1) := by decide +kernel
theorem dX6_reduce_51 : decode cX6_reduce 51 = .ok (.getfield 26, 3) := by decide +kernel
theorem dX6_reduce_54 : decode cX6_reduce 54 = .ok (.aload_n 1, 1) := by decide +kernel
theorem dX6_reduce_55 : decode cX6_reduce 55 = .ok (.aload_n 0, 1) := by decide +kernel
theorem dX6_reduce_56 : decode cX6_reduce 56 = .ok (.getfield 16, 3) := by decide +kernel
theorem dX6_reduce_59 : decode cX6_reduce 59 = .ok (.invokevirtual 37, 3) := by decide +kernel
theorem dX6_reduce_62 : decode cX6_reduce 62 = .ok (.return_, 1) := by decide +kernel
theorem dX6_part_0 : decode cX6_part 0 = .ok (.iload_n 1, 1) := by decide +kernel
theorem dX6_part_1 : decode cX6_part 1 = .ok (.ifCond .ge 12, 3) := by decide +kernel
theorem dX6_part_4 : decode cX6_part 4 = .ok (.aload_n 0, 1) := by decide +kernel
theorem dX6_part_5 : decode cX6_part 5 = .ok (.getfield 10, 3) := by decide +kernel
theorem dX6_part_8 : decode cX6_part 8 = .ok (.getfield 41, 3) := by decide +kernel
theorem dX6_part_11 : decode cX6_part 11 = .ok (.i2l, 1) := by decide +kernel
theorem dX6_part_12 : decode cX6_part 12 = .ok (.lreturn, 1) := by decide +kernel
theorem dX6_part_13 : decode cX6_part 13 = .ok (.iload_n 1, 1) := by decide +kernel
theorem dX6_part_14 : decode cX6_part 14 = .ok (.iconst 2, 1) := by decide +kernel
theorem dX6_part_15 : decode cX6_part 15 = .ok (.irem, 1) := by decide +kernel
theorem dX6_part_16 : decode cX6_part 16 = .ok (.ifCond .ne 10, 3) := by decide +kernel
theorem dX6_part_19 : decode cX6_part 19 = .ok (.aload_n 0, 1) := by decide +kernel
theorem dX6_part_20 : decode cX6_part 20 = .ok (.getfield 10, 3) := by decide +kernel
theorem dX6_part_23 : decode cX6_part 23 = .ok (.goto 7, 3) := by decide +kernel
theorem dX6_part_26 : decode cX6_part 26 = .ok (.aload_n 0, 1) := by decide +kernel
theorem dX6_part_27 : decode cX6_part 27 = .ok (.getfield 16, 3) := by decide +kernel
theorem dX6_part_30 : decode cX6_part 30 = .ok (.astore_n 2, 1) := by decide +kernel
theorem dX6_part_31 : decode cX6_part 31 = .ok (.iload_n 1, 1) := by decide +kernel
theorem dX6_part_32 : decode cX6_part 32 = .ok (.iconst 2, 1) := by decide +kernel
theorem dX6_part_33 : decode cX6_part 33 = .ok (.idiv, 1) := by decide +kernel
theorem dX6_part_34 : decode cX6_part 34 = .ok (.istore_n 3, 1) := by decide +kernel
theorem dX6_part_35 : decode cX6_part 35 = .ok (.aload_n 2, 1) := by decide +kernel
theorem dX6_part_36 : decode cX6_part 36 = .ok (.iconst 2, 1) := by decide +kernel
theorem dX6_part_37 : decode cX6_part 37 = .ok (.iload_n 3, 1) := by decide +kernel
theorem dX6_part_38 : decode cX6_part 38 = .ok (.imul, 1) := by decide +kernel
theorem dX6_part_39 : decode cX6_part 39 = .ok (.iconst 1, 1) := by decide +kernel
theorem dX6_part_40 : decode cX6_part 40 = .ok (.iadd, 1) := by decide +kernel
theorem dX6_part_41 : decode cX6_part 41 = .ok (.invokevirtual 45, 3) := by decide +kernel
theorem dX6_part_44 : decode cX6_part 44 = .ok (.ldc2_w 49, 3) := by decide +kernel
theorem dX6_part_47 : decode cX6_part 47 = .ok (.lmul, 1) := by decide +kernel
theorem dX6_part_48 : decode cX6_part 48 = .ok (.aload_n 2, 1) := by decide +kernel
theorem dX6_part_49 : decode cX6_part 49 = .ok (.iconst 2, 1) := by decide +kernel
theorem dX6_part_50 : decode cX6_part 50 = .ok (.iload_n 3, 1) := by decide +kernel
theorem dX6_part_51 : decode cX6_part 51 = .ok (.imul, 1) := by decide +kernel
theorem dX6_part_52 : decode cX6_part 52 = .ok (.invokevirtual 45, 3) := by decide +kernel
theorem dX6_part_55 : decode cX6_part 55 = .ok (.ladd, 1) := by decide +kernel
theorem dX6_part_56 : decode cX6_part 56 = .ok (.lreturn, 1) := by decide +kernel
theorem dX7_init_0 : decode cX7_init 0 = .ok (.aload_n 0, 1) := by decide +kernel
theorem dX7_init_1 : decode cX7_init 1 = .ok (.invokespecial 1, 3) := by decide +kernel
theorem dX7_init_4 : decode cX7_init 4 = .ok (.aload_n 0, 1) := by decide +kernel
theorem dX7_init_5 : decode cX7_init 5 = .ok (.bipush 50, 2) := by decide +kernel
theorem dX7_init_7 : decode cX7_init 7 = .ok (.newarray .int, 2) := by decide +kernel
theorem dX7_init_9 : decode cX7_init 9 = .ok (.putfield 9, 3) := by decide +kernel
theorem dX7_init_12 : decode cX7_init 12 = .ok (.return_, 1) := by decide +kernel
theorem dX7_collect_0 : decode cX7_collect 0 = .ok (.iload_n 1, 1) := by decide +kernel
theorem dX7_collect_1 : decode cX7_collect 1 = .ok (.bipush 32, 2) := by decide +kernel
theorem dX7_collect_3 : decode cX7_collect 3 = .ok (.if_icmp .lt 18, 3) := by decide +kernel
theorem dX7_collect_6 : decode cX7_collect 6 = .ok (.iload_n 1, 1) := by decide +kernel
theorem dX7_collect_7 : decode cX7_collect 7 = .ok (.bipush 126, 2) := by decide +kernel
theorem dX7_collect_9 : decode cX7_collect 9 = .ok (.if_icmp .gt 12, 3) := by decide +kernel
theorem dX7_collect_12 : decode cX7_collect 12 = .ok (.aload_n 0, 1) := by decide +kernel
theorem dX7_collect_13 : decode cX7_collect 13 = .ok (.getfield 13, 3) := by decide +kernel
theorem dX7_collect_16 : decode cX7_collect 16 = .ok (.bipush 50, 2) := by decide +kernel
theorem dX7_collect_18 : decode cX7_collect 18 = .ok (.if_icmp .lt 5, 3) := by decide +kernel
theorem dX7_collect_21 : decode cX7_collect 21 = .ok (.iconst 0, 1) := by decide +kernel
theorem dX7_collect_22 : decode cX7_collect 22 = .ok (.ireturn, 1) := by decide +kernel
theorem dX7_collect_23 : decode cX7_collect 23 = .ok (.aload_n 0, 1) := by decide +kernel
theorem dX7_collect_24 : decode cX7_collect 24 = .ok (.getfield 9, 3) := by decide +kernel
theorem dX7_collect_27 : decode cX7_collect 27 = .ok (.aload_n 0, 1) := by decide +kernel
theorem dX7_collect_28 : decode cX7_collect 28 = .ok (.getfield 13, 3) := by decide +kernel
theorem dX7_collect_31 : decode cX7_collect 31 = .ok (.iload_n 1, 1) := by decide +kernel
theorem dX7_collect_32 : decode cX7_collect 32 = .ok (.iastore, 1) := by decide +kernel
theorem dX7_collect_33 : decode cX7_collect 33 = .ok (.aload_n 0, 1) := by decide +kernel
theorem dX7_collect_34 : decode cX7_collect 34 = .ok (.dup, 1) := by decide +kernel
theorem dX7_collect_35 : decode cX7_collect 35 = .ok (.getfield 13, 3) := by decide +kernel
theorem dX7_collect_38 : decode cX7_collect 38 = .ok (.iconst 1, 1) := by decide +kernel
theorem dX7_collect_39 : decode cX7_collect 39 = .ok (.iadd, 1) := by decide +kernel
theorem dX7_collect_40 : decode cX7_collect 40 = .ok (.putfield 13, 3) := by decide +kernel
theorem dX7_collect_43 : decode cX7_collect 43 = .ok (.iconst 1, 1) := by decide +kernel
theorem dX7_collect_44 : decode cX7_collect 44 = .ok (.ireturn, 1) := by decide +kernel
theorem dX7_empty_0 : decode cX7_empty 0 = .ok (.aload_n 0, 1) := by decide +kernel
theorem dX7_empty_1 : decode cX7_empty 1 = .ok (.iconst 0, 1) := by decide +kernel
theorem dX7_empty_2 : decode cX7_empty 2 = .ok (.putfield 13, 3) := by decide +kernel
theorem dX7_empty_5 : decode cX7_empty 5 = .ok (.return_, 1) := by decide +kernel
theorem dX7_tell_0 : decode cX7_tell 0 = .ok (.aload_n 0, 1) := by decide +kernel
theorem dX7_tell_1 : decode cX7_tell 1 = .ok (.iconst 0, 1) := by decide +kernel
theorem dX7_tell_2 : decode cX7_tell 2 = .ok (.putfield 17, 3) := by decide +kernel
theorem dX7_tell_5 : decode cX7_tell 5 = .ok (.aload_n 1, 1) := by decide +kernel
theorem dX7_tell_6 : decode cX7_tell 6 = .ok (.invokevirtual 20, 3) := by decide +kernel
theorem dX7_tell_9 : decode cX7_tell 9 = .ok (.aload_n 0, 1) := by decide +kernel
theorem dX7_tell_10 : decode cX7_tell 10 = .ok (.aload_n 1, 1) := by decide +kernel
theorem dX7_tell_11 : decode cX7_tell 11 = .ok (.iconst 0, 1) := by decide +kernel
theorem dX7_tell_12 : decode cX7_tell 12 = .ok (.invokevirtual 25, 3) := by decide +kernel
theorem dX7_tell_15 : decode cX7_tell 15 = .ok (.istore_n 2, 1) := by decide +kernel
theorem dX7_tell_16 : decode cX7_tell 16 = .ok (.iload_n 2, 1) := by decide +kernel
theorem dX7_tell_17 : decode cX7_tell 17 = .ok (.ifCond .eq 74, 3) := by decide +kernel
theorem dX7_tell_20 : decode cX7_tell 20 = .ok (.aload_n 1, 1) := by decide +kernel
theorem dX7_tell_21 : decode cX7_tell 21 = .ok (.getfield 29, 3) := by decide +kernel
theorem dX7_tell_24 : decode cX7_tell 24 = .ok (.iconst 3, 1) := by decide +kernel
theorem dX7_tell_25 : decode cX7_tell 25 = .ok (.if_icmp .ge 66, 3) := by decide +kernel
theorem dX7_tell_28 : decode cX7_tell 28 = .ok (.aload_n 1, 1) := by decide +kernel
theorem dX7_tell_29 : decode cX7_tell 29 = .ok (.getfield 29, 3) := by decide +kernel
theorem dX7_tell_32 : decode cX7_tell 32 = .ok (.ifCond .eq 14, 3) := by decide +kernel
theorem dX7_tell_35 : decode cX7_tell 35 = .ok (.aload_n 0, 1) := by decide +kernel
theorem dX7_tell_36 : decode cX7_tell 36 = .ok (.getfield 17, 3) := by decide +kernel
theorem dX7_tell_39 : decode cX7_tell 39 = .ok (.aload_n 0, 1) := by decide +kernel
theorem dX7_tell_40 : decode cX7_tell 40 = .ok (.getfield 13, 3) := by decide +kernel
theorem dX7_tell_43 : decode cX7_tell 43 = .ok (.if_icmp .ge 48, 3) := by decide +kernel
theorem dX7_tell_46 : decode cX7_tell 46 = .ok (.aload_n 0, 1) := by decide +kernel
theorem dX7_tell_47 : decode cX7_tell 47 = .ok (.aload_n 1, 1) := by decide +kernel
theorem dX7_tell_48 : decode cX7_tell 48 = .ok (.aload_n 1, 1) := by decide +kernel
theorem dX7_tell_49 : decode cX7_tell 49 = .ok (.getfield 29, 3) := by decide +kernel
theorem dX7_tell_52 : decode cX7_tell 52 = .ok (.invokevirtual 32, 3) := by decide +kernel
theorem dX7_tell_55 : decode cX7_tell 55 = .ok (.ifCond .eq 21, 3) := by decide +kernel
theorem dX7_tell_58 : decode cX7_tell 58 = .ok (.aload_n 0, 1) := by decide +kernel
theorem dX7_tell_59 : decode cX7_tell 59 = .ok (.aload_n 1, 1) := by decide +kernel
theorem dX7_tell_60 : decode cX7_tell 60 = .ok (.aload_n 1, 1) := by decide +kernel
theorem dX7_tell_61 : decode cX7_tell 61 = .ok (.getfield 29, 3) := by decide +kernel
theorem dX7_tell_64 : decode cX7_tell 64 = .ok (.iconst 1, 1) := by decide +kernel
theorem dX7_tell_65 : decode cX7_tell 65 = .ok (.iadd, 1) := by decide +kernel
theorem dX7_tell_66 : decode cX7_tell 66 = .ok (.invokevirtual 25, 3) := by decide +kernel
theorem dX7_tell_69 : decode cX7_tell 69 = .ok (.ifCond .eq 7, 3) := by decide +kernel
theorem dX7_tell_72 : decode cX7_tell 72 = .ok (.iconst 1, 1) := by decide +kernel
theorem dX7_tell_73 : decode cX7_tell 73 = .ok (.goto 4, 3) := by decide +kernel
theorem dX7_tell_76 : decode cX7_tell 76 = .ok (.iconst 0, 1) := by decide +kernel
theorem dX7_tell_77 : decode cX7_tell 77 = .ok (.istore_n 2, 1) := by decide +kernel
theorem dX7_tell_78 : decode cX7_tell 78 = .ok (.aload_n 1, 1) := by decide +kernel
theorem dX7_tell_79 : decode cX7_tell 79 = .ok (.dup, 1) := by decide +kernel
theorem dX7_tell_80 : decode cX7_tell 80 = .ok (.getfield 29, 3) := by decide +kernel
theorem dX7_tell_83 : decode cX7_tell 83 = .ok (.iconst 1, 1) := by decide +kernel
theorem dX7_tell_84 : decode cX7_tell 84 = .ok (.iadd, 1) := by decide +kernel
theorem dX7_tell_85 : decode cX7_tell 85 = .ok (.putfield 29, 3) := by decide +kernel
theorem dX7_tell_88 : decode cX7_tell 88 = .ok (.goto (-72), 3) := by decide +kernel
theorem dX7_tell_91 : decode cX7_tell 91 = .ok (.iload_n 2, 1) := by decide +kernel
theorem dX7_tell_92 : decode cX7_tell 92 = .ok (.ifCond .eq 21, 3) := by decide +kernel
theorem dX7_tell_95 : decode cX7_tell 95 = .ok (.aload_n 0, 1) := by decide +kernel
