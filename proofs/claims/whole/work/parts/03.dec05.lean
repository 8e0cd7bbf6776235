theorem dX7_tell_96 : decode cX7_tell 96 = .ok (.getfield 17, 3) := by decide +kernel
theorem dX7_tell_99 : decode cX7_tell 99 = .ok (.aload_n 0, 1) := by decide +kernel
theorem dX7_tell_100 : decode cX7_tell 100 = .ok (.getfield 13, 3) := by decide +kernel
theorem dX7_tell_103 : decode cX7_tell 103 = .ok (.if_icmp .ne 10, 3) := by decide +kernel
theorem dX7_tell_106 : decode cX7_tell 106 = .ok (.aload_n 1, 1) := by decide +kernel
theorem dX7_tell_107 : decode cX7_tell 107 = .ok (.getfield 29, 3) := by decide +kernel
theorem dX7_tell_110 : decode cX7_tell 110 = .ok (.goto 9, 3) := by decide +kernel
theorem dX7_tell_113 : decode cX7_tell 113 = .ok (.iconst (-1), 1) := by decide +kernel
theorem dX7_tell_114 : decode cX7_tell 114 = .ok (.aload_n 0, 1) := by decide +kernel
theorem dX7_tell_115 : decode cX7_tell 115 = .ok (.getfield 17, 3) := by decide +kernel
theorem dX7_tell_118 : decode cX7_tell 118 = .ok (.isub, 1) := by decide +kernel
theorem dX7_tell_119 : decode cX7_tell 119 = .ok (.ireturn, 1) := by decide +kernel
theorem dX7_seen_0 : decode cX7_seen 0 = .ok (.aload_n 0, 1) := by decide +kernel
theorem dX7_seen_1 : decode cX7_seen 1 = .ok (.getfield 17, 3) := by decide +kernel
theorem dX7_seen_4 : decode cX7_seen 4 = .ok (.ifCond .lt 26, 3) := by decide +kernel
theorem dX7_seen_7 : decode cX7_seen 7 = .ok (.aload_n 0, 1) := by decide +kernel
theorem dX7_seen_8 : decode cX7_seen 8 = .ok (.getfield 17, 3) := by decide +kernel
theorem dX7_seen_11 : decode cX7_seen 11 = .ok (.aload_n 0, 1) := by decide +kernel
theorem dX7_seen_12 : decode cX7_seen 12 = .ok (.getfield 13, 3) := by decide +kernel
theorem dX7_seen_15 : decode cX7_seen 15 = .ok (.if_icmp .ge 15, 3) := by decide +kernel
theorem dX7_seen_18 : decode cX7_seen 18 = .ok (.aload_n 0, 1) := by decide +kernel
theorem dX7_seen_19 : decode cX7_seen 19 = .ok (.getfield 9, 3) := by decide +kernel
theorem dX7_seen_22 : decode cX7_seen 22 = .ok (.aload_n 0, 1) := by decide +kernel
theorem dX7_seen_23 : decode cX7_seen 23 = .ok (.getfield 17, 3) := by decide +kernel
theorem dX7_seen_26 : decode cX7_seen 26 = .ok (.iaload, 1) := by decide +kernel
theorem dX7_seen_27 : decode cX7_seen 27 = .ok (.goto 4, 3) := by decide +kernel
theorem dX7_seen_30 : decode cX7_seen 30 = .ok (.iconst (-1), 1) := by decide +kernel
theorem dX7_seen_31 : decode cX7_seen 31 = .ok (.ireturn, 1) := by decide +kernel
theorem dX7_takeSign_0 : decode cX7_takeSign 0 = .ok (.aload_n 0, 1) := by decide +kernel
theorem dX7_takeSign_1 : decode cX7_takeSign 1 = .ok (.invokevirtual 35, 3) := by decide +kernel
theorem dX7_takeSign_4 : decode cX7_takeSign 4 = .ok (.iload_n 1, 1) := by decide +kernel
theorem dX7_takeSign_5 : decode cX7_takeSign 5 = .ok (.if_icmp .eq 5, 3) := by decide +kernel
theorem dX7_takeSign_8 : decode cX7_takeSign 8 = .ok (.iconst 0, 1) := by decide +kernel
theorem dX7_takeSign_9 : decode cX7_takeSign 9 = .ok (.ireturn, 1) := by decide +kernel
theorem dX7_takeSign_10 : decode cX7_takeSign 10 = .ok (.aload_n 0, 1) := by decide +kernel
theorem dX7_takeSign_11 : decode cX7_takeSign 11 = .ok (.dup, 1) := by decide +kernel
theorem dX7_takeSign_12 : decode cX7_takeSign 12 = .ok (.getfield 17, 3) := by decide +kernel
theorem dX7_takeSign_15 : decode cX7_takeSign 15 = .ok (.iconst 1, 1) := by decide +kernel
theorem dX7_takeSign_16 : decode cX7_takeSign 16 = .ok (.iadd, 1) := by decide +kernel
theorem dX7_takeSign_17 : decode cX7_takeSign 17 = .ok (.putfield 17, 3) := by decide +kernel
theorem dX7_takeSign_20 : decode cX7_takeSign 20 = .ok (.iconst 1, 1) := by decide +kernel
theorem dX7_takeSign_21 : decode cX7_takeSign 21 = .ok (.ireturn, 1) := by decide +kernel
theorem dX7_takeNode_0 : decode cX7_takeNode 0 = .ok (.aload_n 0, 1) := by decide +kernel
theorem dX7_takeNode_1 : decode cX7_takeNode 1 = .ok (.invokevirtual 35, 3) := by decide +kernel
theorem dX7_takeNode_4 : decode cX7_takeNode 4 = .ok (.istore_n 3, 1) := by decide +kernel
theorem dX7_takeNode_5 : decode cX7_takeNode 5 = .ok (.iload_n 3, 1) := by decide +kernel
theorem dX7_takeNode_6 : decode cX7_takeNode 6 = .ok (.bipush 46, 2) := by decide +kernel
theorem dX7_takeNode_8 : decode cX7_takeNode 8 = .ok (.if_icmp .eq 23, 3) := by decide +kernel
theorem dX7_takeNode_11 : decode cX7_takeNode 11 = .ok (.iload_n 3, 1) := by decide +kernel
theorem dX7_takeNode_12 : decode cX7_takeNode 12 = .ok (.bipush 83, 2) := by decide +kernel
theorem dX7_takeNode_14 : decode cX7_takeNode 14 = .ok (.if_icmp .eq 17, 3) := by decide +kernel
theorem dX7_takeNode_17 : decode cX7_takeNode 17 = .ok (.iload_n 3, 1) := by decide +kernel
theorem dX7_takeNode_18 : decode cX7_takeNode 18 = .ok (.bipush 84, 2) := by decide +kernel
theorem dX7_takeNode_20 : decode cX7_takeNode 20 = .ok (.if_icmp .eq 11, 3) := by decide +kernel
theorem dX7_takeNode_23 : decode cX7_takeNode 23 = .ok (.iload_n 3, 1) := by decide +kernel
theorem dX7_takeNode_24 : decode cX7_takeNode 24 = .ok (.bipush 70, 2) := by decide +kernel
theorem dX7_takeNode_26 : decode cX7_takeNode 26 = .ok (.if_icmp .eq 5, 3) := by decide +kernel
theorem dX7_takeNode_29 : decode cX7_takeNode 29 = .ok (.iconst 0, 1) := by decide +kernel
theorem dX7_takeNode_30 : decode cX7_takeNode 30 = .ok (.ireturn, 1) := by decide +kernel
theorem dX7_takeNode_31 : decode cX7_takeNode 31 = .ok (.aload_n 1, 1) := by decide +kernel
theorem dX7_takeNode_32 : decode cX7_takeNode 32 = .ok (.getfield 39, 3) := by decide +kernel
theorem dX7_takeNode_35 : decode cX7_takeNode 35 = .ok (.iload_n 2, 1) := by decide +kernel
theorem dX7_takeNode_36 : decode cX7_takeNode 36 = .ok (.iload_n 3, 1) := by decide +kernel
theorem dX7_takeNode_37 : decode cX7_takeNode 37 = .ok (.bipush 83, 2) := by decide +kernel
theorem dX7_takeNode_39 : decode cX7_takeNode 39 = .ok (.if_icmp .eq 9, 3) := by decide +kernel
theorem dX7_takeNode_42 : decode cX7_takeNode 42 = .ok (.iload_n 3, 1) := by decide +kernel
theorem dX7_takeNode_43 : decode cX7_takeNode 43 = .ok (.bipush 70, 2) := by decide +kernel
theorem dX7_takeNode_45 : decode cX7_takeNode 45 = .ok (.if_icmp .ne 7, 3) := by decide +kernel
theorem dX7_takeNode_48 : decode cX7_takeNode 48 = .ok (.iconst 1, 1) := by decide +kernel
theorem dX7_takeNode_49 : decode cX7_takeNode 49 = .ok (.goto 4, 3) := by decide +kernel
theorem dX7_takeNode_52 : decode cX7_takeNode 52 = .ok (.iconst 0, 1) := by decide +kernel
theorem dX7_takeNode_53 : decode cX7_takeNode 53 = .ok (.bastore, 1) := by decide +kernel
theorem dX7_takeNode_54 : decode cX7_takeNode 54 = .ok (.aload_n 1, 1) := by decide +kernel
theorem dX7_takeNode_55 : decode cX7_takeNode 55 = .ok (.getfield 43, 3) := by decide +kernel
theorem dX7_takeNode_58 : decode cX7_takeNode 58 = .ok (.iload_n 2, 1) := by decide +kernel
theorem dX7_takeNode_59 : decode cX7_takeNode 59 = .ok (.iload_n 3, 1) := by decide +kernel
theorem dX7_takeNode_60 : decode cX7_takeNode 60 = .ok (.bipush 84, 2) := by decide +kernel
theorem dX7_takeNode_62 : decode cX7_takeNode 62 = .ok (.if_icmp .eq 9, 3) := by decide +kernel
theorem dX7_takeNode_65 : decode cX7_takeNode 65 = .ok (.iload_n 3, 1) := by decide +kernel
theorem dX7_takeNode_66 : decode cX7_takeNode 66 = .ok (.bipush 70, 2) := by decide +kernel
theorem dX7_takeNode_68 : decode cX7_takeNode 68 = .ok (.if_icmp .ne 7, 3) := by decide +kernel
theorem dX7_takeNode_71 : decode cX7_takeNode 71 = .ok (.iconst 1, 1) := by decide +kernel
theorem dX7_takeNode_72 : decode cX7_takeNode 72 = .ok (.goto 4, 3) := by decide +kernel
theorem dX7_takeNode_75 : decode cX7_takeNode 75 = .ok (.iconst 0, 1) := by decide +kernel
theorem dX7_takeNode_76 : decode cX7_takeNode 76 = .ok (.bastore, 1) := by decide +kernel
theorem dX7_takeNode_77 : decode cX7_takeNode 77 = .ok (.aload_n 0, 1) := by decide +kernel
theorem dX7_takeNode_78 : decode cX7_takeNode 78 = .ok (.dup, 1) := by decide +kernel
theorem dX7_takeNode_79 : decode cX7_takeNode 79 = .ok (.getfield 17, 3) := by decide +kernel
theorem dX7_takeNode_82 : decode cX7_takeNode 82 = .ok (.iconst 1, 1) := by decide +kernel
theorem dX7_takeNode_83 : decode cX7_takeNode 83 = .ok (.iadd, 1) := by decide +kernel
theorem dX7_takeNode_84 : decode cX7_takeNode 84 = .ok (.putfield 17, 3) := by decide +kernel
theorem dX7_takeNode_87 : decode cX7_takeNode 87 = .ok (.iconst 1, 1) := by decide +kernel
theorem dX7_takeNode_88 : decode cX7_takeNode 88 = .ok (.ireturn, 1) := by decide +kernel
theorem dX7_takeBeam_0 : decode cX7_takeBeam 0 = .ok (.aload_n 1, 1) := by decide +kernel
theorem dX7_takeBeam_1 : decode cX7_takeBeam 1 = .ok (.getfield 46, 3) := by decide +kernel
theorem dX7_takeBeam_4 : decode cX7_takeBeam 4 = .ok (.iconst 2, 1) := by decide +kernel
theorem dX7_takeBeam_5 : decode cX7_takeBeam 5 = .ok (.iload_n 2, 1) := by decide +kernel
theorem dX7_takeBeam_6 : decode cX7_takeBeam 6 = .ok (.imul, 1) := by decide +kernel
theorem dX7_takeBeam_7 : decode cX7_takeBeam 7 = .ok (.aload_n 0, 1) := by decide +kernel
theorem dX7_takeBeam_8 : decode cX7_takeBeam 8 = .ok (.bipush 104, 2) := by decide +kernel
theorem dX7_takeBeam_10 : decode cX7_takeBeam 10 = .ok (.invokevirtual 49, 3) := by decide +kernel
theorem dX7_takeBeam_13 : decode cX7_takeBeam 13 = .ok (.bastore, 1) := by decide +kernel
theorem dX7_takeBeam_14 : decode cX7_takeBeam 14 = .ok (.aload_n 1, 1) := by decide +kernel
theorem dX7_takeBeam_15 : decode cX7_takeBeam 15 = .ok (.getfield 53, 3) := by decide +kernel
theorem dX7_takeBeam_18 : decode cX7_takeBeam 18 = .ok (.iload_n 2, 1) := by decide +kernel
theorem dX7_takeBeam_19 : decode cX7_takeBeam 19 = .ok (.aload_n 0, 1) := by decide +kernel
theorem dX7_takeBeam_20 : decode cX7_takeBeam 20 = .ok (.invokevirtual 57, 3) := by decide +kernel
theorem dX7_takeBeam_23 : decode cX7_takeBeam 23 = .ok (.i2l, 1) := by decide +kernel
theorem dX7_takeBeam_24 : decode cX7_takeBeam 24 = .ok (.lastore, 1) := by decide +kernel
theorem dX7_takeBeam_25 : decode cX7_takeBeam 25 = .ok (.aload_n 1, 1) := by decide +kernel
theorem dX7_takeBeam_26 : decode cX7_takeBeam 26 = .ok (.getfield 53, 3) := by decide +kernel
theorem dX7_takeBeam_29 : decode cX7_takeBeam 29 = .ok (.iload_n 2, 1) := by decide +kernel
theorem dX7_takeBeam_30 : decode cX7_takeBeam 30 = .ok (.laload, 1) := by decide +kernel
theorem dX7_takeBeam_31 : decode cX7_takeBeam 31 = .ok (.lconst 0, 1) := by decide +kernel
theorem dX7_takeBeam_32 : decode cX7_takeBeam 32 = .ok (.lcmp, 1) := by decide +kernel
theorem dX7_takeBeam_33 : decode cX7_takeBeam 33 = .ok (.ifCond .eq 12, 3) := by decide +kernel
theorem dX7_takeBeam_36 : decode cX7_takeBeam 36 = .ok (.aload_n 0, 1) := by decide +kernel
theorem dX7_takeBeam_37 : decode cX7_takeBeam 37 = .ok (.bipush 120, 2) := by decide +kernel
theorem dX7_takeBeam_39 : decode cX7_takeBeam 39 = .ok (.invokevirtual 49, 3) := by decide +kernel
theorem dX7_takeBeam_42 : decode cX7_takeBeam 42 = .ok (.ifCond .ne 5, 3) := by decide +kernel
theorem dX7_takeBeam_45 : decode cX7_takeBeam 45 = .ok (.iconst 0, 1) := by decide +kernel
theorem dX7_takeBeam_46 : decode cX7_takeBeam 46 = .ok (.ireturn, 1) := by decide +kernel
theorem dX7_takeBeam_47 : decode cX7_takeBeam 47 = .ok (.aload_n 1, 1) := by decide +kernel
theorem dX7_takeBeam_48 : decode cX7_takeBeam 48 = .ok (.getfield 60, 3) := by decide +kernel
theorem dX7_takeBeam_51 : decode cX7_takeBeam 51 = .ok (.iload_n 2, 1) := by decide +kernel
theorem dX7_takeBeam_52 : decode cX7_takeBeam 52 = .ok (.aload_n 0, 1) := by decide +kernel
theorem dX7_takeBeam_53 : decode cX7_takeBeam 53 = .ok (.invokevirtual 57, 3) := by decide +kernel
theorem dX7_takeBeam_56 : decode cX7_takeBeam 56 = .ok (.i2l, 1) := by decide +kernel
theorem dX7_takeBeam_57 : decode cX7_takeBeam 57 = .ok (.lastore, 1) := by decide +kernel
theorem dX7_takeBeam_58 : decode cX7_takeBeam 58 = .ok (.aload_n 1, 1) := by decide +kernel
theorem dX7_takeBeam_59 : decode cX7_takeBeam 59 = .ok (.getfield 60, 3) := by decide +kernel
theorem dX7_takeBeam_62 : decode cX7_takeBeam 62 = .ok (.iload_n 2, 1) := by decide +kernel
theorem dX7_takeBeam_63 : decode cX7_takeBeam 63 = .ok (.laload, 1) := by decide +kernel
theorem dX7_takeBeam_64 : decode cX7_takeBeam 64 = .ok (.lconst 0, 1) := by decide +kernel
theorem dX7_takeBeam_65 : decode cX7_takeBeam 65 = .ok (.lcmp, 1) := by decide +kernel
theorem dX7_takeBeam_66 : decode cX7_takeBeam 66 = .ok (.ifCond .ne 5, 3) := by decide +kernel
theorem dX7_takeBeam_69 : decode cX7_takeBeam 69 = .ok (.iconst 0, 1) := by decide +kernel
theorem dX7_takeBeam_70 : decode cX7_takeBeam 70 = .ok (.ireturn, 1) := by decide +kernel
theorem dX7_takeBeam_71 : decode cX7_takeBeam 71 = .ok (.aload_n 1, 1) := by decide +kernel
theorem dX7_takeBeam_72 : decode cX7_takeBeam 72 = .ok (.getfield 46, 3) := by decide +kernel
theorem dX7_takeBeam_75 : decode cX7_takeBeam 75 = .ok (.iconst 2, 1) := by decide +kernel
theorem dX7_takeBeam_76 : decode cX7_takeBeam 76 = .ok (.iload_n 2, 1) := by decide +kernel
theorem dX7_takeBeam_77 : decode cX7_takeBeam 77 = .ok (.imul, 1) := by decide +kernel
theorem dX7_takeBeam_78 : decode cX7_takeBeam 78 = .ok (.iconst 1, 1) := by decide +kernel
theorem dX7_takeBeam_79 : decode cX7_takeBeam 79 = .ok (.iadd, 1) := by decide +kernel
theorem dX7_takeBeam_80 : decode cX7_takeBeam 80 = .ok (.aload_n 0, 1) := by decide +kernel
theorem dX7_takeBeam_81 : decode cX7_takeBeam 81 = .ok (.bipush 104, 2) := by decide +kernel
theorem dX7_takeBeam_83 : decode cX7_takeBeam 83 = .ok (.invokevirtual 49, 3) := by decide +kernel
theorem dX7_takeBeam_86 : decode cX7_takeBeam 86 = .ok (.bastore, 1) := by decide +kernel
theorem dX7_takeBeam_87 : decode cX7_takeBeam 87 = .ok (.iconst 1, 1) := by decide +kernel
theorem dX7_takeBeam_88 : decode cX7_takeBeam 88 = .ok (.ireturn, 1) := by decide +kernel
theorem dX7_takeNumber_0 : decode cX7_takeNumber 0 = .ok (.aload_n 0, 1) := by decide +kernel
theorem dX7_takeNumber_1 : decode cX7_takeNumber 1 = .ok (.getfield 17, 3) := by decide +kernel
theorem dX7_takeNumber_4 : decode cX7_takeNumber 4 = .ok (.istore_n 1, 1) := by decide +kernel
theorem dX7_takeNumber_5 : decode cX7_takeNumber 5 = .ok (.aload_n 0, 1) := by decide +kernel
theorem dX7_takeNumber_6 : decode cX7_takeNumber 6 = .ok (.invokevirtual 35, 3) := by decide +kernel
theorem dX7_takeNumber_9 : decode cX7_takeNumber 9 = .ok (.bipush 49, 2) := by decide +kernel
theorem dX7_takeNumber_11 : decode cX7_takeNumber 11 = .ok (.if_icmp .lt 12, 3) := by decide +kernel
theorem dX7_takeNumber_14 : decode cX7_takeNumber 14 = .ok (.aload_n 0, 1) := by decide +kernel
theorem dX7_takeNumber_15 : decode cX7_takeNumber 15 = .ok (.invokevirtual 35, 3) := by decide +kernel
theorem dX7_takeNumber_18 : decode cX7_takeNumber 18 = .ok (.bipush 57, 2) := by decide +kernel
theorem dX7_takeNumber_20 : decode cX7_takeNumber 20 = .ok (.if_icmp .le 5, 3) := by decide +kernel
theorem dX7_takeNumber_23 : decode cX7_takeNumber 23 = .ok (.iconst 0, 1) := by decide +kernel
theorem dX7_takeNumber_24 : decode cX7_takeNumber 24 = .ok (.ireturn, 1) := by decide +kernel
theorem dX7_takeNumber_25 : decode cX7_takeNumber 25 = .ok (.aload_n 0, 1) := by decide +kernel
theorem dX7_takeNumber_26 : decode cX7_takeNumber 26 = .ok (.invokevirtual 35, 3) := by decide +kernel
theorem dX7_takeNumber_29 : decode cX7_takeNumber 29 = .ok (.bipush 48, 2) := by decide +kernel
theorem dX7_takeNumber_31 : decode cX7_takeNumber 31 = .ok (.isub, 1) := by decide +kernel
theorem dX7_takeNumber_32 : decode cX7_takeNumber 32 = .ok (.istore_n 2, 1) := by decide +kernel
theorem dX7_takeNumber_33 : decode cX7_takeNumber 33 = .ok (.aload_n 0, 1) := by decide +kernel
theorem dX7_takeNumber_34 : decode cX7_takeNumber 34 = .ok (.dup, 1) := by decide +kernel
theorem dX7_takeNumber_35 : decode cX7_takeNumber 35 = .ok (.getfield 17, 3) := by decide +kernel
theorem dX7_takeNumber_38 : decode cX7_takeNumber 38 = .ok (.iconst 1, 1) := by decide +kernel
theorem dX7_takeNumber_39 : decode cX7_takeNumber 39 = .ok (.iadd, 1) := by decide +kernel
theorem dX7_takeNumber_40 : decode cX7_takeNumber 40 = .ok (.putfield 17, 3) := by decide +kernel
theorem dX7_takeNumber_43 : decode cX7_takeNumber 43 = .ok (.aload_n 0, 1) := by decide +kernel
theorem dX7_takeNumber_44 : decode cX7_takeNumber 44 = .ok (.invokevirtual 35, 3) := by decide +kernel
theorem dX7_takeNumber_47 : decode cX7_takeNumber 47 = .ok (.bipush 48, 2) := by decide +kernel
theorem dX7_takeNumber_49 : decode cX7_takeNumber 49 = .ok (.if_icmp .lt 35, 3) := by decide +kernel
theorem dX7_takeNumber_52 : decode cX7_takeNumber 52 = .ok (.aload_n 0, 1) := by decide +kernel
theorem dX7_takeNumber_53 : decode cX7_takeNumber 53 = .ok (.invokevirtual 35, 3) := by decide +kernel
theorem dX7_takeNumber_56 : decode cX7_takeNumber 56 = .ok (.bipush 57, 2) := by decide +kernel
theorem dX7_takeNumber_58 : decode cX7_takeNumber 58 = .ok (.if_icmp .gt 26, 3) := by decide +kernel
theorem dX7_takeNumber_61 : decode cX7_takeNumber 61 = .ok (.iload_n 2, 1) := by decide +kernel
theorem dX7_takeNumber_62 : decode cX7_takeNumber 62 = .ok (.bipush 10, 2) := by decide +kernel
theorem dX7_takeNumber_64 : decode cX7_takeNumber 64 = .ok (.imul, 1) := by decide +kernel
theorem dX7_takeNumber_65 : decode cX7_takeNumber 65 = .ok (.aload_n 0, 1) := by decide +kernel
theorem dX7_takeNumber_66 : decode cX7_takeNumber 66 = .ok (.invokevirtual 35, 3) := by decide +kernel
theorem dX7_takeNumber_69 : decode cX7_takeNumber 69 = .ok (.iadd, 1) := by decide +kernel
theorem dX7_takeNumber_70 : decode cX7_takeNumber 70 = .ok (.bipush 48, 2) := by decide +kernel
theorem dX7_takeNumber_72 : decode cX7_takeNumber 72 = .ok (.isub, 1) := by decide +kernel
theorem dX7_takeNumber_73 : decode cX7_takeNumber 73 = .ok (.istore_n 2, 1) := by decide +kernel
theorem dX7_takeNumber_74 : decode cX7_takeNumber 74 = .ok (.aload_n 0, 1) := by decide +kernel
theorem dX7_takeNumber_75 : decode cX7_takeNumber 75 = .ok (.dup, 1) := by decide +kernel
theorem dX7_takeNumber_76 : decode cX7_takeNumber 76 = .ok (.getfield 17, 3) := by decide +kernel
theorem dX7_takeNumber_79 : decode cX7_takeNumber 79 = .ok (.iconst 1, 1) := by decide +kernel
theorem dX7_takeNumber_80 : decode cX7_takeNumber 80 = .ok (.iadd, 1) := by decide +kernel
theorem dX7_takeNumber_81 : decode cX7_takeNumber 81 = .ok (.putfield 17, 3) := by decide +kernel
theorem dX7_takeNumber_84 : decode cX7_takeNumber 84 = .ok (.iload_n 2, 1) := by decide +kernel
theorem dX7_takeNumber_85 : decode cX7_takeNumber 85 = .ok (.i2l, 1) := by decide +kernel
theorem dX7_takeNumber_86 : decode cX7_takeNumber 86 = .ok (.ldc2_w 63, 3) := by decide +kernel
theorem dX7_takeNumber_89 : decode cX7_takeNumber 89 = .ok (.lcmp, 1) := by decide +kernel
theorem dX7_takeNumber_90 : decode cX7_takeNumber 90 = .ok (.ifCond .le 10, 3) := by decide +kernel
theorem dX7_takeNumber_93 : decode cX7_takeNumber 93 = .ok (.aload_n 0, 1) := by decide +kernel
theorem dX7_takeNumber_94 : decode cX7_takeNumber 94 = .ok (.iload_n 1, 1) := by decide +kernel
theorem dX7_takeNumber_95 : decode cX7_takeNumber 95 = .ok (.putfield 17, 3) := by decide +kernel
theorem dX7_takeNumber_98 : decode cX7_takeNumber 98 = .ok (.iconst 0, 1) := by decide +kernel
theorem dX7_takeNumber_99 : decode cX7_takeNumber 99 = .ok (.ireturn, 1) := by decide +kernel
theorem dX7_takeNumber_100 : decode cX7_takeNumber 100 = .ok (.iload_n 2, 1) := by decide +kernel
theorem dX7_takeNumber_101 : decode cX7_takeNumber 101 = .ok (.ireturn, 1) := by decide +kernel
theorem dX8_init_0 : decode cX8_init 0 = .ok (.aload_n 0, 1) := by decide +kernel
theorem dX8_init_1 : decode cX8_init 1 = .ok (.invokespecial 1, 3) := by decide +kernel
theorem dX8_init_4 : decode cX8_init 4 = .ok (.aload_n 0, 1) := by decide +kernel
theorem dX8_init_5 : decode cX8_init 5 = .ok (.new 7, 3) := by decide +kernel
theorem dX8_init_8 : decode cX8_init 8 = .ok (.dup, 1) := by decide +kernel
theorem dX8_init_9 : decode cX8_init 9 = .ok (.invokespecial 9, 3) := by decide +kernel
theorem dX8_init_12 : decode cX8_init 12 = .ok (.putfield 10, 3) := by decide +kernel
theorem dX8_init_15 : decode cX8_init 15 = .ok (.aload_n 0, 1) := by decide +kernel
theorem dX8_init_16 : decode cX8_init 16 = .ok (.new 7, 3) := by decide +kernel
theorem dX8_init_19 : decode cX8_init 19 = .ok (.dup, 1) := by decide +kernel
theorem dX8_init_20 : decode cX8_init 20 = .ok (.invokespecial 9, 3) := by decide +kernel
theorem dX8_init_23 : decode cX8_init 23 = .ok (.putfield 16, 3) := by decide +kernel
theorem dX8_init_26 : decode cX8_init 26 = .ok (.aload_n 0, 1) := by decide +kernel
theorem dX8_init_27 : decode cX8_init 27 = .ok (.new 19, 3) := by decide +kernel
theorem dX8_init_30 : decode cX8_init 30 = .ok (.dup, 1) := by decide +kernel
theorem dX8_init_31 : decode cX8_init 31 = .ok (.invokespecial 21, 3) := by decide +kernel
theorem dX8_init_34 : decode cX8_init 34 = .ok (.putfield 22, 3) := by decide +kernel
theorem dX8_init_37 : decode cX8_init 37 = .ok (.aload_n 0, 1) := by decide +kernel
theorem dX8_init_38 : decode cX8_init 38 = .ok (.new 26, 3) := by decide +kernel
theorem dX8_init_41 : decode cX8_init 41 = .ok (.dup, 1) := by decide +kernel
theorem dX8_init_42 : decode cX8_init 42 = .ok (.aload_n 0, 1) := by decide +kernel
theorem dX8_init_43 : decode cX8_init 43 = .ok (.getfield 10, 3) := by decide +kernel
theorem dX8_init_46 : decode cX8_init 46 = .ok (.invokespecial 28, 3) := by decide +kernel
theorem dX8_init_49 : decode cX8_init 49 = .ok (.putfield 31, 3) := by decide +kernel
theorem dX8_init_52 : decode cX8_init 52 = .ok (.aload_n 0, 1) := by decide +kernel
theorem dX8_init_53 : decode cX8_init 53 = .ok (.new 35, 3) := by decide +kernel
theorem dX8_init_56 : decode cX8_init 56 = .ok (.dup, 1) := by decide +kernel
theorem dX8_init_57 : decode cX8_init 57 = .ok (.aload_n 0, 1) := by decide +kernel
theorem dX8_init_58 : decode cX8_init 58 = .ok (.getfield 10, 3) := by decide +kernel
theorem dX8_init_61 : decode cX8_init 61 = .ok (.aload_n 0, 1) := by decide +kernel
theorem dX8_init_62 : decode cX8_init 62 = .ok (.getfield 31, 3) := by decide +kernel
theorem dX8_init_65 : decode cX8_init 65 = .ok (.invokespecial 37, 3) := by decide +kernel
theorem dX8_init_68 : decode cX8_init 68 = .ok (.putfield 40, 3) := by decide +kernel
theorem dX8_init_71 : decode cX8_init 71 = .ok (.aload_n 0, 1) := by decide +kernel
theorem dX8_init_72 : decode cX8_init 72 = .ok (.new 35, 3) := by decide +kernel
theorem dX8_init_75 : decode cX8_init 75 = .ok (.dup, 1) := by decide +kernel
theorem dX8_init_76 : decode cX8_init 76 = .ok (.aload_n 0, 1) := by decide +kernel
theorem dX8_init_77 : decode cX8_init 77 = .ok (.getfield 10, 3) := by decide +kernel
theorem dX8_init_80 : decode cX8_init 80 = .ok (.aload_n 0, 1) := by decide +kernel
theorem dX8_init_81 : decode cX8_init 81 = .ok (.getfield 31, 3) := by decide +kernel
theorem dX8_init_84 : decode cX8_init 84 = .ok (.invokespecial 37, 3) := by decide +kernel
theorem dX8_init_87 : decode cX8_init 87 = .ok (.putfield 44, 3) := by decide +kernel
theorem dX8_init_90 : decode cX8_init 90 = .ok (.aload_n 0, 1) := by decide +kernel
theorem dX8_init_91 : decode cX8_init 91 = .ok (.new 47, 3) := by decide +kernel
theorem dX8_init_94 : decode cX8_init 94 = .ok (.dup, 1) := by decide +kernel
theorem dX8_init_95 : decode cX8_init 95 = .ok (.invokespecial 49, 3) := by decide +kernel
theorem dX8_init_98 : decode cX8_init 98 = .ok (.putfield 50, 3) := by decide +kernel
theorem dX8_init_101 : decode cX8_init 101 = .ok (.aload_n 0, 1) := by decide +kernel
theorem dX8_init_102 : decode cX8_init 102 = .ok (.new 54, 3) := by decide +kernel
theorem dX8_init_105 : decode cX8_init 105 = .ok (.dup, 1) := by decide +kernel
theorem dX8_init_106 : decode cX8_init 106 = .ok (.invokespecial 56, 3) := by decide +kernel
theorem dX8_init_109 : decode cX8_init 109 = .ok (.putfield 57, 3) := by decide +kernel
theorem dX8_init_112 : decode cX8_init 112 = .ok (.aload_n 0, 1) := by decide +kernel
theorem dX8_init_113 : decode cX8_init 113 = .ok (.new 61, 3) := by decide +kernel
theorem dX8_init_116 : decode cX8_init 116 = .ok (.dup, 1) := by decide +kernel
theorem dX8_init_117 : decode cX8_init 117 = .ok (.invokespecial 63, 3) := by decide +kernel
theorem dX8_init_120 : decode cX8_init 120 = .ok (.putfield 64, 3) := by decide +kernel
theorem dX8_init_123 : decode cX8_init 123 = .ok (.aload_n 0, 1) := by decide +kernel
theorem dX8_init_124 : decode cX8_init 124 = .ok (.bipush 8, 2) := by decide +kernel
theorem dX8_init_126 : decode cX8_init 126 = .ok (.newarray .int, 2) := by decide +kernel
theorem dX8_init_128 : decode cX8_init 128 = .ok (.putfield 68, 3) := by decide +kernel
theorem dX8_init_131 : decode cX8_init 131 = .ok (.aload_n 0, 1) := by decide +kernel
theorem dX8_init_132 : decode cX8_init 132 = .ok (.bipush 8, 2) := by decide +kernel
theorem dX8_init_134 : decode cX8_init 134 = .ok (.newarray .int, 2) := by decide +kernel
theorem dX8_init_136 : decode cX8_init 136 = .ok (.putfield 72, 3) := by decide +kernel
theorem dX8_init_139 : decode cX8_init 139 = .ok (.aload_n 0, 1) := by decide +kernel
theorem dX8_init_140 : decode cX8_init 140 = .ok (.bipush 8, 2) := by decide +kernel
theorem dX8_init_142 : decode cX8_init 142 = .ok (.newarray .int, 2) := by decide +kernel
theorem dX8_init_144 : decode cX8_init 144 = .ok (.putfield 75, 3) := by decide +kernel
theorem dX8_init_147 : decode cX8_init 147 = .ok (.aload_n 0, 1) := by decide +kernel
theorem dX8_init_148 : decode cX8_init 148 = .ok (.iconst 0, 1) := by decide +kernel
theorem dX8_init_149 : decode cX8_init 149 = .ok (.putfield 78, 3) := by decide +kernel
theorem dX8_init_152 : decode cX8_init 152 = .ok (.aload_n 0, 1) := by decide +kernel
theorem dX8_init_153 : decode cX8_init 153 = .ok (.ldc2_w 82, 3) := by decide +kernel
theorem dX8_init_156 : decode cX8_init 156 = .ok (.putfield 84, 3) := by decide +kernel
theorem dX8_init_159 : decode cX8_init 159 = .ok (.return_, 1) := by decide +kernel
theorem dX8_unit_0 : decode cX8_unit 0 = .ok (.aload_n 0, 1) := by decide +kernel
theorem dX8_unit_1 : decode cX8_unit 1 = .ok (.getfield 22, 3) := by decide +kernel
theorem dX8_unit_4 : decode cX8_unit 4 = .ok (.iload_n 1, 1) := by decide +kernel
theorem dX8_unit_5 : decode cX8_unit 5 = .ok (.invokevirtual 88, 3) := by decide +kernel
theorem dX8_unit_8 : decode cX8_unit 8 = .ok (.ireturn, 1) := by decide +kernel
theorem dX8_read_0 : decode cX8_read 0 = .ok (.aload_n 0, 1) := by decide +kernel
theorem dX8_read_1 : decode cX8_read 1 = .ok (.getfield 22, 3) := by decide +kernel
theorem dX8_read_4 : decode cX8_read 4 = .ok (.aload_n 0, 1) := by decide +kernel
theorem dX8_read_5 : decode cX8_read 5 = .ok (.getfield 16, 3) := by decide +kernel
theorem dX8_read_8 : decode cX8_read 8 = .ok (.invokevirtual 92, 3) := by decide +kernel
theorem dX8_read_11 : decode cX8_read 11 = .ok (.istore_n 1, 1) := by decide +kernel
theorem dX8_read_12 : decode cX8_read 12 = .ok (.aload_n 0, 1) := by decide +kernel
theorem dX8_read_13 : decode cX8_read 13 = .ok (.getfield 22, 3) := by decide +kernel
theorem dX8_read_16 : decode cX8_read 16 = .ok (.invokevirtual 96, 3) := by decide +kernel
theorem dX8_read_19 : decode cX8_read 19 = .ok (.iload_n 1, 1) := by decide +kernel
theorem dX8_read_20 : decode cX8_read 20 = .ok (.ifCond .le 23, 3) := by decide +kernel
theorem dX8_read_23 : decode cX8_read 23 = .ok (.aload_n 0, 1) := by decide +kernel
theorem dX8_read_24 : decode cX8_read 24 = .ok (.getfield 10, 3) := by decide +kernel
theorem dX8_read_27 : decode cX8_read 27 = .ok (.aload_n 0, 1) := by decide +kernel
theorem dX8_read_28 : decode cX8_read 28 = .ok (.getfield 16, 3) := by decide +kernel
theorem dX8_read_31 : decode cX8_read 31 = .ok (.invokevirtual 99, 3) := by decide +kernel
theorem dX8_read_34 : decode cX8_read 34 = .ok (.aload_n 0, 1) := by decide +kernel
theorem dX8_read_35 : decode cX8_read 35 = .ok (.iconst 0, 1) := by decide +kernel
theorem dX8_read_36 : decode cX8_read 36 = .ok (.putfield 78, 3) := by decide +kernel
theorem dX8_read_39 : decode cX8_read 39 = .ok (.aload_n 0, 1) := by decide +kernel
theorem dX8_read_40 : decode cX8_read 40 = .ok (.invokevirtual 102, 3) := by decide +kernel
theorem dX8_read_43 : decode cX8_read 43 = .ok (.iload_n 1, 1) := by decide +kernel
theorem dX8_read_44 : decode cX8_read 44 = .ok (.ireturn, 1) := by decide +kernel
theorem dX8_member_0 : decode cX8_member 0 = .ok (.aload_n 0, 1) := by decide +kernel
theorem dX8_member_1 : decode cX8_member 1 = .ok (.iload_n 1, 1) := by decide +kernel
theorem dX8_member_2 : decode cX8_member 2 = .ok (.invokevirtual 105, 3) := by decide +kernel
theorem dX8_member_5 : decode cX8_member 5 = .ok (.lload_n 2, 1) := by decide +kernel
theorem dX8_member_6 : decode cX8_member 6 = .ok (.invokestatic 109, 3) := by decide +kernel
theorem dX8_member_9 : decode cX8_member 9 = .ok (.ifCond .eq 11, 3) := by decide +kernel
theorem dX8_member_12 : decode cX8_member 12 = .ok (.lload 4, 2) := by decide +kernel
theorem dX8_member_14 : decode cX8_member 14 = .ok (.invokestatic 109, 3) := by decide +kernel
theorem dX8_member_17 : decode cX8_member 17 = .ok (.ifCond .ne 5, 3) := by decide +kernel
theorem dX8_member_20 : decode cX8_member 20 = .ok (.iconst 0, 1) := by decide +kernel
theorem dX8_member_21 : decode cX8_member 21 = .ok (.ireturn, 1) := by decide +kernel
theorem dX8_member_22 : decode cX8_member 22 = .ok (.aload_n 0, 1) := by decide +kernel
theorem dX8_member_23 : decode cX8_member 23 = .ok (.getfield 10, 3) := by decide +kernel
theorem dX8_member_26 : decode cX8_member 26 = .ok (.getfield 113, 3) := by decide +kernel
theorem dX8_member_29 : decode cX8_member 29 = .ok (.iload_n 1, 1) := by decide +kernel
theorem dX8_member_30 : decode cX8_member 30 = .ok (.lload_n 2, 1) := by decide +kernel
theorem dX8_member_31 : decode cX8_member 31 = .ok (.lastore, 1) := by decide +kernel
theorem dX8_member_32 : decode cX8_member 32 = .ok (.aload_n 0, 1) := by decide +kernel
theorem dX8_member_33 : decode cX8_member 33 = .ok (.getfield 10, 3) := by decide +kernel
theorem dX8_member_36 : decode cX8_member 36 = .ok (.getfield 117, 3) := by decide +kernel
theorem dX8_member_39 : decode cX8_member 39 = .ok (.iload_n 1, 1) := by decide +kernel
theorem dX8_member_40 : decode cX8_member 40 = .ok (.lload 4, 2) := by decide +kernel
theorem dX8_member_42 : decode cX8_member 42 = .ok (.lastore, 1) := by decide +kernel
theorem dX8_member_43 : decode cX8_member 43 = .ok (.aload_n 0, 1) := by decide +kernel
theorem dX8_member_44 : decode cX8_member 44 = .ok (.invokevirtual 102, 3) := by decide +kernel
theorem dX8_member_47 : decode cX8_member 47 = .ok (.iconst 1, 1) := by decide +kernel
theorem dX8_member_48 : decode cX8_member 48 = .ok (.ireturn, 1) := by decide +kernel
theorem dX8_support_0 : decode cX8_support 0 = .ok (.aload_n 0, 1) := by decide +kernel
theorem dX8_support_1 : decode cX8_support 1 = .ok (.iload_n 1, 1) := by decide +kernel
theorem dX8_support_2 : decode cX8_support 2 = .ok (.invokevirtual 120, 3) := by decide +kernel
theorem dX8_support_5 : decode cX8_support 5 = .ok (.iload_n 2, 1) := by decide +kernel
theorem dX8_support_6 : decode cX8_support 6 = .ok (.ifCond .eq 10, 3) := by decide +kernel
theorem dX8_support_9 : decode cX8_support 9 = .ok (.iload_n 2, 1) := by decide +kernel
theorem dX8_support_10 : decode cX8_support 10 = .ok (.iconst 1, 1) := by decide +kernel
theorem dX8_support_11 : decode cX8_support 11 = .ok (.if_icmp .eq 5, 3) := by decide +kernel
theorem dX8_support_14 : decode cX8_support 14 = .ok (.iconst 0, 1) := by decide +kernel
theorem dX8_support_15 : decode cX8_support 15 = .ok (.ireturn, 1) := by decide +kernel
theorem dX8_support_16 : decode cX8_support 16 = .ok (.iload_n 2, 1) := by decide +kernel
theorem dX8_support_17 : decode cX8_support 17 = .ok (.ifCond .ne 13, 3) := by decide +kernel
theorem dX8_support_20 : decode cX8_support 20 = .ok (.aload_n 0, 1) := by decide +kernel
theorem dX8_support_21 : decode cX8_support 21 = .ok (.getfield 10, 3) := by decide +kernel
theorem dX8_support_24 : decode cX8_support 24 = .ok (.getfield 123, 3) := by decide +kernel
theorem dX8_support_27 : decode cX8_support 27 = .ok (.goto 10, 3) := by decide +kernel
theorem dX8_support_30 : decode cX8_support 30 = .ok (.aload_n 0, 1) := by decide +kernel
theorem dX8_support_31 : decode cX8_support 31 = .ok (.getfield 10, 3) := by decide +kernel
theorem dX8_support_34 : decode cX8_support 34 = .ok (.getfield 127, 3) := by decide +kernel
theorem dX8_support_37 : decode cX8_support 37 = .ok (.astore 4, 2) := by decide +kernel
theorem dX8_support_39 : decode cX8_support 39 = .ok (.aload 4, 2) := by decide +kernel
theorem dX8_support_41 : decode cX8_support 41 = .ok (.iload_n 1, 1) := by decide +kernel
theorem dX8_support_42 : decode cX8_support 42 = .ok (.baload, 1) := by decide +kernel
theorem dX8_support_43 : decode cX8_support 43 = .ok (.istore 5, 2) := by decide +kernel
theorem dX8_support_45 : decode cX8_support 45 = .ok (.aload 4, 2) := by decide +kernel
theorem dX8_support_47 : decode cX8_support 47 = .ok (.iload_n 1, 1) := by decide +kernel
theorem dX8_support_48 : decode cX8_support 48 = .ok (.iload_n 3, 1) := by decide +kernel
theorem dX8_support_49 : decode cX8_support 49 = .ok (.bastore, 1) := by decide +kernel
theorem dX8_support_50 : decode cX8_support 50 = .ok (.aload_n 0, 1) := by decide +kernel
theorem dX8_support_51 : decode cX8_support 51 = .ok (.getfield 10, 3) := by decide +kernel
theorem dX8_support_54 : decode cX8_support 54 = .ok (.getfield 123, 3) := by decide +kernel
theorem dX8_support_57 : decode cX8_support 57 = .ok (.iload_n 1, 1) := by decide +kernel
theorem dX8_support_58 : decode cX8_support 58 = .ok (.baload, 1) := by decide +kernel
theorem dX8_support_59 : decode cX8_support 59 = .ok (.ifCond .ne 13, 3) := by decide +kernel
theorem dX8_support_62 : decode cX8_support 62 = .ok (.aload_n 0, 1) := by decide +kernel
theorem dX8_support_63 : decode cX8_support 63 = .ok (.getfield 10, 3) := by decide +kernel
theorem dX8_support_66 : decode cX8_support 66 = .ok (.getfield 130, 3) := by decide +kernel
theorem dX8_support_69 : decode cX8_support 69 = .ok (.iload_n 1, 1) := by decide +kernel
theorem dX8_support_70 : decode cX8_support 70 = .ok (.lconst 0, 1) := by decide +kernel
theorem dX8_support_71 : decode cX8_support 71 = .ok (.lastore, 1) := by decide +kernel
theorem dX8_support_72 : decode cX8_support 72 = .ok (.aload_n 0, 1) := by decide +kernel
theorem dX8_support_73 : decode cX8_support 73 = .ok (.invokevirtual 102, 3) := by decide +kernel
theorem dX8_support_76 : decode cX8_support 76 = .ok (.iload 5, 2) := by decide +kernel
theorem dX8_support_78 : decode cX8_support 78 = .ok (.ireturn, 1) := by decide +kernel
theorem dX8_hinge_0 : decode cX8_hinge 0 = .ok (.aload_n 0, 1) := by decide +kernel
theorem dX8_hinge_1 : decode cX8_hinge 1 = .ok (.iload_n 1, 1) := by decide +kernel
theorem dX8_hinge_2 : decode cX8_hinge 2 = .ok (.invokevirtual 105, 3) := by decide +kernel
theorem dX8_hinge_5 : decode cX8_hinge 5 = .ok (.iload_n 2, 1) := by decide +kernel
theorem dX8_hinge_6 : decode cX8_hinge 6 = .ok (.ifCond .eq 10, 3) := by decide +kernel
theorem dX8_hinge_9 : decode cX8_hinge 9 = .ok (.iload_n 2, 1) := by decide +kernel
theorem dX8_hinge_10 : decode cX8_hinge 10 = .ok (.iconst 1, 1) := by decide +kernel
theorem dX8_hinge_11 : decode cX8_hinge 11 = .ok (.if_icmp .eq 5, 3) := by decide +kernel
theorem dX8_hinge_14 : decode cX8_hinge 14 = .ok (.iconst 0, 1) := by decide +kernel
theorem dX8_hinge_15 : decode cX8_hinge 15 = .ok (.ireturn, 1) := by decide +kernel
theorem dX8_hinge_16 : decode cX8_hinge 16 = .ok (.aload_n 0, 1) := by decide +kernel
theorem dX8_hinge_17 : decode cX8_hinge 17 = .ok (.getfield 10, 3) := by decide +kernel
theorem dX8_hinge_20 : decode cX8_hinge 20 = .ok (.getfield 133, 3) := by decide +kernel
theorem dX8_hinge_23 : decode cX8_hinge 23 = .ok (.iconst 2, 1) := by decide +kernel
theorem dX8_hinge_24 : decode cX8_hinge 24 = .ok (.iload_n 1, 1) := by decide +kernel
theorem dX8_hinge_25 : decode cX8_hinge 25 = .ok (.imul, 1) := by decide +kernel
theorem dX8_hinge_26 : decode cX8_hinge 26 = .ok (.iload_n 2, 1) := by decide +kernel
theorem dX8_hinge_27 : decode cX8_hinge 27 = .ok (.iadd, 1) := by decide +kernel
theorem dX8_hinge_28 : decode cX8_hinge 28 = .ok (.baload, 1) := by decide +kernel
theorem dX8_hinge_29 : decode cX8_hinge 29 = .ok (.istore 4, 2) := by decide +kernel
theorem dX8_hinge_31 : decode cX8_hinge 31 = .ok (.aload_n 0, 1) := by decide +kernel
theorem dX8_hinge_32 : decode cX8_hinge 32 = .ok (.getfield 10, 3) := by decide +kernel
theorem dX8_hinge_35 : decode cX8_hinge 35 = .ok (.getfield 133, 3) := by decide +kernel
theorem dX8_hinge_38 : decode cX8_hinge 38 = .ok (.iconst 2, 1) := by decide +kernel
theorem dX8_hinge_39 : decode cX8_hinge 39 = .ok (.iload_n 1, 1) := by decide +kernel
theorem dX8_hinge_40 : decode cX8_hinge 40 = .ok (.imul, 1) := by decide +kernel
theorem dX8_hinge_41 : decode cX8_hinge 41 = .ok (.iload_n 2, 1) := by decide +kernel
theorem dX8_hinge_42 : decode cX8_hinge 42 = .ok (.iadd, 1) := by decide +kernel
theorem dX8_hinge_43 : decode cX8_hinge 43 = .ok (.iload_n 3, 1) := by decide +kernel
theorem dX8_hinge_44 : decode cX8_hinge 44 = .ok (.bastore, 1) := by decide +kernel
theorem dX8_hinge_45 : decode cX8_hinge 45 = .ok (.aload_n 0, 1) := by decide +kernel
theorem dX8_hinge_46 : decode cX8_hinge 46 = .ok (.invokevirtual 102, 3) := by decide +kernel
theorem dX8_hinge_49 : decode cX8_hinge 49 = .ok (.iload 4, 2) := by decide +kernel
theorem dX8_hinge_51 : decode cX8_hinge 51 = .ok (.ireturn, 1) := by decide +kernel
theorem dX8_solve_0 : decode cX8_solve 0 = .ok (.aload_n 0, 1) := by decide +kernel
theorem dX8_solve_1 : decode cX8_solve 1 = .ok (.getfield 31, 3) := by decide +kernel
theorem dX8_solve_4 : decode cX8_solve 4 = .ok (.invokevirtual 136, 3) := by decide +kernel
theorem dX8_solve_7 : decode cX8_solve 7 = .ok (.aload_n 0, 1) := by decide +kernel
theorem dX8_solve_8 : decode cX8_solve 8 = .ok (.getfield 31, 3) := by decide +kernel
theorem dX8_solve_11 : decode cX8_solve 11 = .ok (.invokevirtual 139, 3) := by decide +kernel
theorem dX8_solve_14 : decode cX8_solve 14 = .ok (.ireturn, 1) := by decide +kernel
theorem dX8_loose_0 : decode cX8_loose 0 = .ok (.aload_n 0, 1) := by decide +kernel
theorem dX8_loose_1 : decode cX8_loose 1 = .ok (.getfield 31, 3) := by decide +kernel
theorem dX8_loose_4 : decode cX8_loose 4 = .ok (.invokevirtual 136, 3) := by decide +kernel
theorem dX8_loose_7 : decode cX8_loose 7 = .ok (.aload_n 0, 1) := by decide +kernel
theorem dX8_loose_8 : decode cX8_loose 8 = .ok (.getfield 31, 3) := by decide +kernel
theorem dX8_loose_11 : decode cX8_loose 11 = .ok (.iload_n 1, 1) := by decide +kernel
theorem dX8_loose_12 : decode cX8_loose 12 = .ok (.invokevirtual 143, 3) := by decide +kernel
theorem dX8_loose_15 : decode cX8_loose 15 = .ok (.ireturn, 1) := by decide +kernel
theorem dX8_row_0 : decode cX8_row 0 = .ok (.aload_n 0, 1) := by decide +kernel
theorem dX8_row_1 : decode cX8_row 1 = .ok (.getfield 78, 3) := by decide +kernel
theorem dX8_row_4 : decode cX8_row 4 = .ok (.bipush 8, 2) := by decide +kernel
theorem dX8_row_6 : decode cX8_row 6 = .ok (.if_icmp .ge 13, 3) := by decide +kernel
theorem dX8_row_9 : decode cX8_row 9 = .ok (.aload_n 0, 1) := by decide +kernel
theorem dX8_row_10 : decode cX8_row 10 = .ok (.iload_n 1, 1) := by decide +kernel
theorem dX8_row_11 : decode cX8_row 11 = .ok (.iload_n 2, 1) := by decide +kernel
theorem dX8_row_12 : decode cX8_row 12 = .ok (.iload_n 3, 1) := by decide +kernel
theorem dX8_row_13 : decode cX8_row 13 = .ok (.invokevirtual 147, 3) := by decide +kernel
theorem dX8_row_16 : decode cX8_row 16 = .ok (.ifCond .ne 5, 3) := by decide +kernel
theorem dX8_row_19 : decode cX8_row 19 = .ok (.iconst (-1), 1) := by decide +kernel
theorem dX8_row_20 : decode cX8_row 20 = .ok (.ireturn, 1) := by decide +kernel
theorem dX8_row_21 : decode cX8_row 21 = .ok (.aload_n 0, 1) := by decide +kernel
theorem dX8_row_22 : decode cX8_row 22 = .ok (.getfield 68, 3) := by decide +kernel
theorem dX8_row_25 : decode cX8_row 25 = .ok (.aload_n 0, 1) := by decide +kernel
theorem dX8_row_26 : decode cX8_row 26 = .ok (.getfield 78, 3) := by decide +kernel
theorem dX8_row_29 : decode cX8_row 29 = .ok (.iload_n 1, 1) := by decide +kernel
theorem dX8_row_30 : decode cX8_row 30 = .ok (.iastore, 1) := by decide +kernel
theorem dX8_row_31 : decode cX8_row 31 = .ok (.aload_n 0, 1) := by decide +kernel
theorem dX8_row_32 : decode cX8_row 32 = .ok (.getfield 72, 3) := by decide +kernel
theorem dX8_row_35 : decode cX8_row 35 = .ok (.aload_n 0, 1) := by decide +kernel
theorem dX8_row_36 : decode cX8_row 36 = .ok (.getfield 78, 3) := by decide +kernel
theorem dX8_row_39 : decode cX8_row 39 = .ok (.iload_n 2, 1) := by decide +kernel
theorem dX8_row_40 : decode cX8_row 40 = .ok (.iastore, 1) := by decide +kernel
theorem dX8_row_41 : decode cX8_row 41 = .ok (.aload_n 0, 1) := by decide +kernel
theorem dX8_row_42 : decode cX8_row 42 = .ok (.getfield 75, 3) := by decide +kernel
theorem dX8_row_45 : decode cX8_row 45 = .ok (.aload_n 0, 1) := by decide +kernel
theorem dX8_row_46 : decode cX8_row 46 = .ok (.getfield 78, 3) := by decide +kernel
theorem dX8_row_49 : decode cX8_row 49 = .ok (.iload_n 3, 1) := by decide +kernel
theorem dX8_row_50 : decode cX8_row 50 = .ok (.iastore, 1) := by decide +kernel
theorem dX8_row_51 : decode cX8_row 51 = .ok (.aload_n 0, 1) := by decide +kernel
theorem dX8_row_52 : decode cX8_row 52 = .ok (.dup, 1) := by decide +kernel
theorem dX8_row_53 : decode cX8_row 53 = .ok (.getfield 78, 3) := by decide +kernel
theorem dX8_row_56 : decode cX8_row 56 = .ok (.iconst 1, 1) := by decide +kernel
theorem dX8_row_57 : decode cX8_row 57 = .ok (.iadd, 1) := by decide +kernel
theorem dX8_row_58 : decode cX8_row 58 = .ok (.putfield 78, 3) := by decide +kernel
theorem dX8_row_61 : decode cX8_row 61 = .ok (.aload_n 0, 1) := by decide +kernel
theorem dX8_row_62 : decode cX8_row 62 = .ok (.getfield 78, 3) := by decide +kernel
theorem dX8_row_65 : decode cX8_row 65 = .ok (.iconst 1, 1) := by decide +kernel
theorem dX8_row_66 : decode cX8_row 66 = .ok (.isub, 1) := by decide +kernel
theorem dX8_row_67 : decode cX8_row 67 = .ok (.ireturn, 1) := by decide +kernel
theorem dX8_at_0 : decode cX8_at 0 = .ok (.aload_n 0, 1) := by decide +kernel
theorem dX8_at_1 : decode cX8_at 1 = .ok (.getfield 31, 3) := by decide +kernel
theorem dX8_at_4 : decode cX8_at 4 = .ok (.invokevirtual 136, 3) := by decide +kernel
theorem dX8_at_7 : decode cX8_at 7 = .ok (.aload_n 0, 1) := by decide +kernel
theorem dX8_at_8 : decode cX8_at 8 = .ok (.iload_n 1, 1) := by decide +kernel
theorem dX8_at_9 : decode cX8_at 9 = .ok (.iload 4, 2) := by decide +kernel
theorem dX8_at_11 : decode cX8_at 11 = .ok (.invokevirtual 151, 3) := by decide +kernel
theorem dX8_at_14 : decode cX8_at 14 = .ok (.ifCond .eq 12, 3) := by decide +kernel
theorem dX8_at_17 : decode cX8_at 17 = .ok (.aload_n 0, 1) := by decide +kernel
theorem dX8_at_18 : decode cX8_at 18 = .ok (.iload_n 2, 1) := by decide +kernel
theorem dX8_at_19 : decode cX8_at 19 = .ok (.iload_n 3, 1) := by decide +kernel
theorem dX8_at_20 : decode cX8_at 20 = .ok (.invokevirtual 155, 3) := by decide +kernel
theorem dX8_at_23 : decode cX8_at 23 = .ok (.ifCond .ne 9, 3) := by decide +kernel
theorem dX8_at_26 : decode cX8_at 26 = .ok (.iload 4, 2) := by decide +kernel
theorem dX8_at_28 : decode cX8_at 28 = .ok (.invokestatic 158, 3) := by decide +kernel
theorem dX8_at_31 : decode cX8_at 31 = .ok (.lreturn, 1) := by decide +kernel
theorem dX8_at_32 : decode cX8_at 32 = .ok (.iload_n 1, 1) := by decide +kernel
theorem dX8_at_33 : decode cX8_at 33 = .ok (.iconst 3, 1) := by decide +kernel
theorem dX8_at_34 : decode cX8_at 34 = .ok (.imul, 1) := by decide +kernel
theorem dX8_at_35 : decode cX8_at 35 = .ok (.iload_n 2, 1) := by decide +kernel
theorem dX8_at_36 : decode cX8_at 36 = .ok (.iadd, 1) := by decide +kernel
theorem dX8_at_37 : decode cX8_at 37 = .ok (.iconst 5, 1) := by decide +kernel
theorem dX8_at_38 : decode cX8_at 38 = .ok (.imul, 1) := by decide +kernel
theorem dX8_at_39 : decode cX8_at 39 = .ok (.iload_n 3, 1) := by decide +kernel
theorem dX8_at_40 : decode cX8_at 40 = .ok (.iadd, 1) := by decide +kernel
theorem dX8_at_41 : decode cX8_at 41 = .ok (.i2l, 1) := by decide +kernel
theorem dX8_at_42 : decode cX8_at 42 = .ok (.lstore 5, 2) := by decide +kernel
theorem dX8_at_44 : decode cX8_at 44 = .ok (.lload 5, 2) := by decide +kernel
theorem dX8_at_46 : decode cX8_at 46 = .ok (.aload_n 0, 1) := by decide +kernel
theorem dX8_at_47 : decode cX8_at 47 = .ok (.getfield 84, 3) := by decide +kernel
theorem dX8_at_50 : decode cX8_at 50 = .ok (.lcmp, 1) := by decide +kernel
theorem dX8_at_51 : decode cX8_at 51 = .ok (.ifCond .eq 78, 3) := by decide +kernel
theorem dX8_at_54 : decode cX8_at 54 = .ok (.aload_n 0, 1) := by decide +kernel
theorem dX8_at_55 : decode cX8_at 55 = .ok (.getfield 40, 3) := by decide +kernel
theorem dX8_at_58 : decode cX8_at 58 = .ok (.aload_n 0, 1) := by decide +kernel
theorem dX8_at_59 : decode cX8_at 59 = .ok (.getfield 68, 3) := by decide +kernel
theorem dX8_at_62 : decode cX8_at 62 = .ok (.iload_n 1, 1) := by decide +kernel
theorem dX8_at_63 : decode cX8_at 63 = .ok (.iaload, 1) := by decide +kernel
theorem dX8_at_64 : decode cX8_at 64 = .ok (.aload_n 0, 1) := by decide +kernel
theorem dX8_at_65 : decode cX8_at 65 = .ok (.getfield 72, 3) := by decide +kernel
theorem dX8_at_68 : decode cX8_at 68 = .ok (.iload_n 1, 1) := by decide +kernel
theorem dX8_at_69 : decode cX8_at 69 = .ok (.iaload, 1) := by decide +kernel
theorem dX8_at_70 : decode cX8_at 70 = .ok (.aload_n 0, 1) := by decide +kernel
theorem dX8_at_71 : decode cX8_at 71 = .ok (.getfield 75, 3) := by decide +kernel
theorem dX8_at_74 : decode cX8_at 74 = .ok (.iload_n 1, 1) := by decide +kernel
theorem dX8_at_75 : decode cX8_at 75 = .ok (.iaload, 1) := by decide +kernel
theorem dX8_at_76 : decode cX8_at 76 = .ok (.invokevirtual 162, 3) := by decide +kernel
theorem dX8_at_79 : decode cX8_at 79 = .ok (.aload_n 0, 1) := by decide +kernel
theorem dX8_at_80 : decode cX8_at 80 = .ok (.getfield 40, 3) := by decide +kernel
theorem dX8_at_83 : decode cX8_at 83 = .ok (.iload_n 2, 1) := by decide +kernel
theorem dX8_at_84 : decode cX8_at 84 = .ok (.iload_n 3, 1) := by decide +kernel
theorem dX8_at_85 : decode cX8_at 85 = .ok (.invokevirtual 166, 3) := by decide +kernel
theorem dX8_at_88 : decode cX8_at 88 = .ok (.aload_n 0, 1) := by decide +kernel
theorem dX8_at_89 : decode cX8_at 89 = .ok (.getfield 40, 3) := by decide +kernel
theorem dX8_at_92 : decode cX8_at 92 = .ok (.aload_n 0, 1) := by decide +kernel
theorem dX8_at_93 : decode cX8_at 93 = .ok (.getfield 57, 3) := by decide +kernel
theorem dX8_at_96 : decode cX8_at 96 = .ok (.getfield 170, 3) := by decide +kernel
theorem dX8_at_99 : decode cX8_at 99 = .ok (.invokevirtual 173, 3) := by decide +kernel
theorem dX8_at_102 : decode cX8_at 102 = .ok (.aload_n 0, 1) := by decide +kernel
theorem dX8_at_103 : decode cX8_at 103 = .ok (.getfield 40, 3) := by decide +kernel
theorem dX8_at_106 : decode cX8_at 106 = .ok (.aload_n 0, 1) := by decide +kernel
theorem dX8_at_107 : decode cX8_at 107 = .ok (.getfield 57, 3) := by decide +kernel
theorem dX8_at_110 : decode cX8_at 110 = .ok (.getfield 177, 3) := by decide +kernel
theorem dX8_at_113 : decode cX8_at 113 = .ok (.invokevirtual 180, 3) := by decide +kernel
theorem dX8_at_116 : decode cX8_at 116 = .ok (.aload_n 0, 1) := by decide +kernel
theorem dX8_at_117 : decode cX8_at 117 = .ok (.getfield 57, 3) := by decide +kernel
theorem dX8_at_120 : decode cX8_at 120 = .ok (.invokevirtual 183, 3) := by decide +kernel
theorem dX8_at_123 : decode cX8_at 123 = .ok (.aload_n 0, 1) := by decide +kernel
theorem dX8_at_124 : decode cX8_at 124 = .ok (.lload 5, 2) := by decide +kernel
theorem dX8_at_126 : decode cX8_at 126 = .ok (.putfield 84, 3) := by decide +kernel
theorem dX8_at_129 : decode cX8_at 129 = .ok (.aload_n 0, 1) := by decide +kernel
theorem dX8_at_130 : decode cX8_at 130 = .ok (.getfield 57, 3) := by decide +kernel
theorem dX8_at_133 : decode cX8_at 133 = .ok (.iload 4, 2) := by decide +kernel
theorem dX8_at_135 : decode cX8_at 135 = .ok (.invokevirtual 186, 3) := by decide +kernel
theorem dX8_at_138 : decode cX8_at 138 = .ok (.lreturn, 1) := by decide +kernel
theorem dX8_area_0 : decode cX8_area 0 = .ok (.aload_n 0, 1) := by decide +kernel
theorem dX8_area_1 : decode cX8_area 1 = .ok (.getfield 31, 3) := by decide +kernel
theorem dX8_area_4 : decode cX8_area 4 = .ok (.invokevirtual 136, 3) := by decide +kernel
theorem dX8_area_7 : decode cX8_area 7 = .ok (.aload_n 0, 1) := by decide +kernel
theorem dX8_area_8 : decode cX8_area 8 = .ok (.iload_n 1, 1) := by decide +kernel
theorem dX8_area_9 : decode cX8_area 9 = .ok (.iload_n 3, 1) := by decide +kernel
theorem dX8_area_10 : decode cX8_area 10 = .ok (.invokevirtual 151, 3) := by decide +kernel
theorem dX8_area_13 : decode cX8_area 13 = .ok (.ifCond .eq 13, 3) := by decide +kernel
theorem dX8_area_16 : decode cX8_area 16 = .ok (.iload_n 2, 1) := by decide +kernel
theorem dX8_area_17 : decode cX8_area 17 = .ok (.iconst 1, 1) := by decide +kernel
theorem dX8_area_18 : decode cX8_area 18 = .ok (.if_icmp .eq 13, 3) := by decide +kernel
theorem dX8_area_21 : decode cX8_area 21 = .ok (.iload_n 2, 1) := by decide +kernel
theorem dX8_area_22 : decode cX8_area 22 = .ok (.iconst (-1), 1) := by decide +kernel
theorem dX8_area_23 : decode cX8_area 23 = .ok (.if_icmp .eq 8, 3) := by decide +kernel
theorem dX8_area_26 : decode cX8_area 26 = .ok (.iload_n 3, 1) := by decide +kernel
theorem dX8_area_27 : decode cX8_area 27 = .ok (.invokestatic 158, 3) := by decide +kernel
theorem dX8_area_30 : decode cX8_area 30 = .ok (.lreturn, 1) := by decide +kernel
theorem dX8_area_31 : decode cX8_area 31 = .ok (.ldc2_w 189, 3) := by decide +kernel
theorem dX8_area_34 : decode cX8_area 34 = .ok (.iload_n 1, 1) := by decide +kernel
theorem dX8_area_35 : decode cX8_area 35 = .ok (.iconst 2, 1) := by decide +kernel
theorem dX8_area_36 : decode cX8_area 36 = .ok (.imul, 1) := by decide +kernel
theorem dX8_area_37 : decode cX8_area 37 = .ok (.i2l, 1) := by decide +kernel
theorem dX8_area_38 : decode cX8_area 38 = .ok (.ladd, 1) := by decide +kernel
theorem dX8_area_39 : decode cX8_area 39 = .ok (.iload_n 2, 1) := by decide +kernel
theorem dX8_area_40 : decode cX8_area 40 = .ok (.ifCond .le 7, 3) := by decide +kernel
theorem dX8_area_43 : decode cX8_area 43 = .ok (.iconst 1, 1) := by decide +kernel
theorem dX8_area_44 : decode cX8_area 44 = .ok (.goto 4, 3) := by decide +kernel
theorem dX8_area_47 : decode cX8_area 47 = .ok (.iconst 0, 1) := by decide +kernel
theorem dX8_area_48 : decode cX8_area 48 = .ok (.i2l, 1) := by decide +kernel
theorem dX8_area_49 : decode cX8_area 49 = .ok (.ladd, 1) := by decide +kernel
theorem dX8_area_50 : decode cX8_area 50 = .ok (.lstore 4, 2) := by decide +kernel
theorem dX8_area_52 : decode cX8_area 52 = .ok (.lload 4, 2) := by decide +kernel
theorem dX8_area_54 : decode cX8_area 54 = .ok (.aload_n 0, 1) := by decide +kernel
theorem dX8_area_55 : decode cX8_area 55 = .ok (.getfield 84, 3) := by decide +kernel
theorem dX8_area_58 : decode cX8_area 58 = .ok (.lcmp, 1) := by decide +kernel
theorem dX8_area_59 : decode cX8_area 59 = .ok (.ifCond .eq 61, 3) := by decide +kernel
theorem dX8_area_62 : decode cX8_area 62 = .ok (.aload_n 0, 1) := by decide +kernel
theorem dX8_area_63 : decode cX8_area 63 = .ok (.getfield 40, 3) := by decide +kernel
theorem dX8_area_66 : decode cX8_area 66 = .ok (.aload_n 0, 1) := by decide +kernel
theorem dX8_area_67 : decode cX8_area 67 = .ok (.getfield 68, 3) := by decide +kernel
theorem dX8_area_70 : decode cX8_area 70 = .ok (.iload_n 1, 1) := by decide +kernel
theorem dX8_area_71 : decode cX8_area 71 = .ok (.iaload, 1) := by decide +kernel
theorem dX8_area_72 : decode cX8_area 72 = .ok (.aload_n 0, 1) := by decide +kernel
theorem dX8_area_73 : decode cX8_area 73 = .ok (.getfield 72, 3) := by decide +kernel
theorem dX8_area_76 : decode cX8_area 76 = .ok (.iload_n 1, 1) := by decide +kernel
theorem dX8_area_77 : decode cX8_area 77 = .ok (.iaload, 1) := by decide +kernel
theorem dX8_area_78 : decode cX8_area 78 = .ok (.aload_n 0, 1) := by decide +kernel
theorem dX8_area_79 : decode cX8_area 79 = .ok (.getfield 75, 3) := by decide +kernel
theorem dX8_area_82 : decode cX8_area 82 = .ok (.iload_n 1, 1) := by decide +kernel
theorem dX8_area_83 : decode cX8_area 83 = .ok (.iaload, 1) := by decide +kernel
