theorem dX9_readNode_49 : decode cX9_readNode 49 = .ok (.ifCond .ne 20, 3) := by decide +kernel
theorem dX9_readNode_52 : decode cX9_readNode 52 = .ok (.aload_n 0, 1) := by decide +kernel
theorem dX9_readNode_53 : decode cX9_readNode 53 = .ok (.getfield 72, 3) := by decide +kernel
theorem dX9_readNode_56 : decode cX9_readNode 56 = .ok (.iload_n 1, 1) := by decide +kernel
theorem dX9_readNode_57 : decode cX9_readNode 57 = .ok (.iload_n 2, 1) := by decide +kernel
theorem dX9_readNode_58 : decode cX9_readNode 58 = .ok (.iastore, 1) := by decide +kernel
theorem dX9_readNode_59 : decode cX9_readNode 59 = .ok (.aload_n 0, 1) := by decide +kernel
theorem dX9_readNode_60 : decode cX9_readNode 60 = .ok (.dup, 1) := by decide +kernel
theorem dX9_readNode_61 : decode cX9_readNode 61 = .ok (.getfield 258, 3) := by decide +kernel
theorem dX9_readNode_64 : decode cX9_readNode 64 = .ok (.iconst 1, 1) := by decide +kernel
theorem dX9_readNode_65 : decode cX9_readNode 65 = .ok (.iadd, 1) := by decide +kernel
theorem dX9_readNode_66 : decode cX9_readNode 66 = .ok (.putfield 258, 3) := by decide +kernel
theorem dX9_readNode_69 : decode cX9_readNode 69 = .ok (.return_, 1) := by decide +kernel
theorem dX9_readNumber_0 : decode cX9_readNumber 0 = .ok (.aload_n 0, 1) := by decide +kernel
theorem dX9_readNumber_1 : decode cX9_readNumber 1 = .ok (.getfield 258, 3) := by decide +kernel
theorem dX9_readNumber_4 : decode cX9_readNumber 4 = .ok (.istore_n 1, 1) := by decide +kernel
theorem dX9_readNumber_5 : decode cX9_readNumber 5 = .ok (.aload_n 0, 1) := by decide +kernel
theorem dX9_readNumber_6 : decode cX9_readNumber 6 = .ok (.aload_n 0, 1) := by decide +kernel
theorem dX9_readNumber_7 : decode cX9_readNumber 7 = .ok (.getfield 264, 3) := by decide +kernel
theorem dX9_readNumber_10 : decode cX9_readNumber 10 = .ok (.ifCond .ne 22, 3) := by decide +kernel
theorem dX9_readNumber_13 : decode cX9_readNumber 13 = .ok (.aload_n 0, 1) := by decide +kernel
theorem dX9_readNumber_14 : decode cX9_readNumber 14 = .ok (.invokevirtual 261, 3) := by decide +kernel
theorem dX9_readNumber_17 : decode cX9_readNumber 17 = .ok (.invokestatic 267, 3) := by decide +kernel
theorem dX9_readNumber_20 : decode cX9_readNumber 20 = .ok (.ifCond .eq 12, 3) := by decide +kernel
theorem dX9_readNumber_23 : decode cX9_readNumber 23 = .ok (.aload_n 0, 1) := by decide +kernel
theorem dX9_readNumber_24 : decode cX9_readNumber 24 = .ok (.invokevirtual 261, 3) := by decide +kernel
theorem dX9_readNumber_27 : decode cX9_readNumber 27 = .ok (.bipush 48, 2) := by decide +kernel
theorem dX9_readNumber_29 : decode cX9_readNumber 29 = .ok (.if_icmp .ne 7, 3) := by decide +kernel
theorem dX9_readNumber_32 : decode cX9_readNumber 32 = .ok (.iconst 1, 1) := by decide +kernel
theorem dX9_readNumber_33 : decode cX9_readNumber 33 = .ok (.goto 4, 3) := by decide +kernel
theorem dX9_readNumber_36 : decode cX9_readNumber 36 = .ok (.iconst 0, 1) := by decide +kernel
theorem dX9_readNumber_37 : decode cX9_readNumber 37 = .ok (.putfield 264, 3) := by decide +kernel
theorem dX9_readNumber_40 : decode cX9_readNumber 40 = .ok (.aload_n 0, 1) := by decide +kernel
theorem dX9_readNumber_41 : decode cX9_readNumber 41 = .ok (.getfield 264, 3) := by decide +kernel
theorem dX9_readNumber_44 : decode cX9_readNumber 44 = .ok (.ifCond .eq 5, 3) := by decide +kernel
theorem dX9_readNumber_47 : decode cX9_readNumber 47 = .ok (.iconst 0, 1) := by decide +kernel
theorem dX9_readNumber_48 : decode cX9_readNumber 48 = .ok (.ireturn, 1) := by decide +kernel
theorem dX9_readNumber_49 : decode cX9_readNumber 49 = .ok (.iconst 0, 1) := by decide +kernel
theorem dX9_readNumber_50 : decode cX9_readNumber 50 = .ok (.istore_n 2, 1) := by decide +kernel
theorem dX9_readNumber_51 : decode cX9_readNumber 51 = .ok (.aload_n 0, 1) := by decide +kernel
theorem dX9_readNumber_52 : decode cX9_readNumber 52 = .ok (.invokevirtual 261, 3) := by decide +kernel
theorem dX9_readNumber_55 : decode cX9_readNumber 55 = .ok (.invokestatic 267, 3) := by decide +kernel
theorem dX9_readNumber_58 : decode cX9_readNumber 58 = .ok (.ifCond .eq 39, 3) := by decide +kernel
theorem dX9_readNumber_61 : decode cX9_readNumber 61 = .ok (.aload_n 0, 1) := by decide +kernel
theorem dX9_readNumber_62 : decode cX9_readNumber 62 = .ok (.getfield 258, 3) := by decide +kernel
theorem dX9_readNumber_65 : decode cX9_readNumber 65 = .ok (.iload_n 1, 1) := by decide +kernel
theorem dX9_readNumber_66 : decode cX9_readNumber 66 = .ok (.iconst 2, 1) := by decide +kernel
theorem dX9_readNumber_67 : decode cX9_readNumber 67 = .ok (.iadd, 1) := by decide +kernel
theorem dX9_readNumber_68 : decode cX9_readNumber 68 = .ok (.if_icmp .ge 29, 3) := by decide +kernel
theorem dX9_readNumber_71 : decode cX9_readNumber 71 = .ok (.bipush 10, 2) := by decide +kernel
theorem dX9_readNumber_73 : decode cX9_readNumber 73 = .ok (.iload_n 2, 1) := by decide +kernel
theorem dX9_readNumber_74 : decode cX9_readNumber 74 = .ok (.imul, 1) := by decide +kernel
theorem dX9_readNumber_75 : decode cX9_readNumber 75 = .ok (.aload_n 0, 1) := by decide +kernel
theorem dX9_readNumber_76 : decode cX9_readNumber 76 = .ok (.invokevirtual 261, 3) := by decide +kernel
theorem dX9_readNumber_79 : decode cX9_readNumber 79 = .ok (.iadd, 1) := by decide +kernel
theorem dX9_readNumber_80 : decode cX9_readNumber 80 = .ok (.bipush 48, 2) := by decide +kernel
theorem dX9_readNumber_82 : decode cX9_readNumber 82 = .ok (.isub, 1) := by decide +kernel
theorem dX9_readNumber_83 : decode cX9_readNumber 83 = .ok (.istore_n 2, 1) := by decide +kernel
theorem dX9_readNumber_84 : decode cX9_readNumber 84 = .ok (.aload_n 0, 1) := by decide +kernel
theorem dX9_readNumber_85 : decode cX9_readNumber 85 = .ok (.dup, 1) := by decide +kernel
theorem dX9_readNumber_86 : decode cX9_readNumber 86 = .ok (.getfield 258, 3) := by decide +kernel
theorem dX9_readNumber_89 : decode cX9_readNumber 89 = .ok (.iconst 1, 1) := by decide +kernel
theorem dX9_readNumber_90 : decode cX9_readNumber 90 = .ok (.iadd, 1) := by decide +kernel
theorem dX9_readNumber_91 : decode cX9_readNumber 91 = .ok (.putfield 258, 3) := by decide +kernel
theorem dX9_readNumber_94 : decode cX9_readNumber 94 = .ok (.goto (-43), 3) := by decide +kernel
theorem dX9_readNumber_97 : decode cX9_readNumber 97 = .ok (.iload_n 2, 1) := by decide +kernel
theorem dX9_readNumber_98 : decode cX9_readNumber 98 = .ok (.bipush 12, 2) := by decide +kernel
theorem dX9_readNumber_100 : decode cX9_readNumber 100 = .ok (.if_icmp .le 13, 3) := by decide +kernel
theorem dX9_readNumber_103 : decode cX9_readNumber 103 = .ok (.aload_n 0, 1) := by decide +kernel
theorem dX9_readNumber_104 : decode cX9_readNumber 104 = .ok (.iconst 1, 1) := by decide +kernel
theorem dX9_readNumber_105 : decode cX9_readNumber 105 = .ok (.putfield 264, 3) := by decide +kernel
theorem dX9_readNumber_108 : decode cX9_readNumber 108 = .ok (.aload_n 0, 1) := by decide +kernel
theorem dX9_readNumber_109 : decode cX9_readNumber 109 = .ok (.iload_n 1, 1) := by decide +kernel
theorem dX9_readNumber_110 : decode cX9_readNumber 110 = .ok (.putfield 258, 3) := by decide +kernel
theorem dX9_readNumber_113 : decode cX9_readNumber 113 = .ok (.iload_n 2, 1) := by decide +kernel
theorem dX9_readNumber_114 : decode cX9_readNumber 114 = .ok (.ireturn, 1) := by decide +kernel
theorem dX9_readHinge_0 : decode cX9_readHinge 0 = .ok (.aload_n 0, 1) := by decide +kernel
theorem dX9_readHinge_1 : decode cX9_readHinge 1 = .ok (.getfield 264, 3) := by decide +kernel
theorem dX9_readHinge_4 : decode cX9_readHinge 4 = .ok (.ifCond .ne 16, 3) := by decide +kernel
theorem dX9_readHinge_7 : decode cX9_readHinge 7 = .ok (.aload_n 0, 1) := by decide +kernel
theorem dX9_readHinge_8 : decode cX9_readHinge 8 = .ok (.invokevirtual 261, 3) := by decide +kernel
theorem dX9_readHinge_11 : decode cX9_readHinge 11 = .ok (.bipush 104, 2) := by decide +kernel
theorem dX9_readHinge_13 : decode cX9_readHinge 13 = .ok (.if_icmp .ne 7, 3) := by decide +kernel
theorem dX9_readHinge_16 : decode cX9_readHinge 16 = .ok (.iconst 1, 1) := by decide +kernel
theorem dX9_readHinge_17 : decode cX9_readHinge 17 = .ok (.goto 4, 3) := by decide +kernel
theorem dX9_readHinge_20 : decode cX9_readHinge 20 = .ok (.iconst 0, 1) := by decide +kernel
theorem dX9_readHinge_21 : decode cX9_readHinge 21 = .ok (.istore_n 1, 1) := by decide +kernel
theorem dX9_readHinge_22 : decode cX9_readHinge 22 = .ok (.aload_n 0, 1) := by decide +kernel
theorem dX9_readHinge_23 : decode cX9_readHinge 23 = .ok (.dup, 1) := by decide +kernel
theorem dX9_readHinge_24 : decode cX9_readHinge 24 = .ok (.getfield 258, 3) := by decide +kernel
theorem dX9_readHinge_27 : decode cX9_readHinge 27 = .ok (.iload_n 1, 1) := by decide +kernel
theorem dX9_readHinge_28 : decode cX9_readHinge 28 = .ok (.ifCond .eq 7, 3) := by decide +kernel
theorem dX9_readHinge_31 : decode cX9_readHinge 31 = .ok (.iconst 1, 1) := by decide +kernel
theorem dX9_readHinge_32 : decode cX9_readHinge 32 = .ok (.goto 4, 3) := by decide +kernel
theorem dX9_readHinge_35 : decode cX9_readHinge 35 = .ok (.iconst 0, 1) := by decide +kernel
theorem dX9_readHinge_36 : decode cX9_readHinge 36 = .ok (.iadd, 1) := by decide +kernel
theorem dX9_readHinge_37 : decode cX9_readHinge 37 = .ok (.putfield 258, 3) := by decide +kernel
theorem dX9_readHinge_40 : decode cX9_readHinge 40 = .ok (.iload_n 1, 1) := by decide +kernel
theorem dX9_readHinge_41 : decode cX9_readHinge 41 = .ok (.ireturn, 1) := by decide +kernel
theorem dX9_readBeam_0 : decode cX9_readBeam 0 = .ok (.aload_n 0, 1) := by decide +kernel
theorem dX9_readBeam_1 : decode cX9_readBeam 1 = .ok (.getfield 81, 3) := by decide +kernel
theorem dX9_readBeam_4 : decode cX9_readBeam 4 = .ok (.iconst 2, 1) := by decide +kernel
theorem dX9_readBeam_5 : decode cX9_readBeam 5 = .ok (.iload_n 1, 1) := by decide +kernel
theorem dX9_readBeam_6 : decode cX9_readBeam 6 = .ok (.imul, 1) := by decide +kernel
theorem dX9_readBeam_7 : decode cX9_readBeam 7 = .ok (.aload_n 0, 1) := by decide +kernel
theorem dX9_readBeam_8 : decode cX9_readBeam 8 = .ok (.invokevirtual 271, 3) := by decide +kernel
theorem dX9_readBeam_11 : decode cX9_readBeam 11 = .ok (.bastore, 1) := by decide +kernel
theorem dX9_readBeam_12 : decode cX9_readBeam 12 = .ok (.aload_n 0, 1) := by decide +kernel
theorem dX9_readBeam_13 : decode cX9_readBeam 13 = .ok (.getfield 75, 3) := by decide +kernel
theorem dX9_readBeam_16 : decode cX9_readBeam 16 = .ok (.iload_n 1, 1) := by decide +kernel
theorem dX9_readBeam_17 : decode cX9_readBeam 17 = .ok (.aload_n 0, 1) := by decide +kernel
theorem dX9_readBeam_18 : decode cX9_readBeam 18 = .ok (.invokevirtual 275, 3) := by decide +kernel
theorem dX9_readBeam_21 : decode cX9_readBeam 21 = .ok (.iastore, 1) := by decide +kernel
theorem dX9_readBeam_22 : decode cX9_readBeam 22 = .ok (.aload_n 0, 1) := by decide +kernel
theorem dX9_readBeam_23 : decode cX9_readBeam 23 = .ok (.aload_n 0, 1) := by decide +kernel
theorem dX9_readBeam_24 : decode cX9_readBeam 24 = .ok (.getfield 264, 3) := by decide +kernel
theorem dX9_readBeam_27 : decode cX9_readBeam 27 = .ok (.ifCond .ne 12, 3) := by decide +kernel
theorem dX9_readBeam_30 : decode cX9_readBeam 30 = .ok (.aload_n 0, 1) := by decide +kernel
theorem dX9_readBeam_31 : decode cX9_readBeam 31 = .ok (.invokevirtual 261, 3) := by decide +kernel
theorem dX9_readBeam_34 : decode cX9_readBeam 34 = .ok (.bipush 120, 2) := by decide +kernel
theorem dX9_readBeam_36 : decode cX9_readBeam 36 = .ok (.if_icmp .eq 7, 3) := by decide +kernel
theorem dX9_readBeam_39 : decode cX9_readBeam 39 = .ok (.iconst 1, 1) := by decide +kernel
theorem dX9_readBeam_40 : decode cX9_readBeam 40 = .ok (.goto 4, 3) := by decide +kernel
theorem dX9_readBeam_43 : decode cX9_readBeam 43 = .ok (.iconst 0, 1) := by decide +kernel
theorem dX9_readBeam_44 : decode cX9_readBeam 44 = .ok (.putfield 264, 3) := by decide +kernel
theorem dX9_readBeam_47 : decode cX9_readBeam 47 = .ok (.aload_n 0, 1) := by decide +kernel
theorem dX9_readBeam_48 : decode cX9_readBeam 48 = .ok (.dup, 1) := by decide +kernel
theorem dX9_readBeam_49 : decode cX9_readBeam 49 = .ok (.getfield 258, 3) := by decide +kernel
theorem dX9_readBeam_52 : decode cX9_readBeam 52 = .ok (.aload_n 0, 1) := by decide +kernel
theorem dX9_readBeam_53 : decode cX9_readBeam 53 = .ok (.getfield 264, 3) := by decide +kernel
theorem dX9_readBeam_56 : decode cX9_readBeam 56 = .ok (.ifCond .eq 7, 3) := by decide +kernel
theorem dX9_readBeam_59 : decode cX9_readBeam 59 = .ok (.iconst 0, 1) := by decide +kernel
theorem dX9_readBeam_60 : decode cX9_readBeam 60 = .ok (.goto 4, 3) := by decide +kernel
theorem dX9_readBeam_63 : decode cX9_readBeam 63 = .ok (.iconst 1, 1) := by decide +kernel
theorem dX9_readBeam_64 : decode cX9_readBeam 64 = .ok (.iadd, 1) := by decide +kernel
theorem dX9_readBeam_65 : decode cX9_readBeam 65 = .ok (.putfield 258, 3) := by decide +kernel
theorem dX9_readBeam_68 : decode cX9_readBeam 68 = .ok (.aload_n 0, 1) := by decide +kernel
theorem dX9_readBeam_69 : decode cX9_readBeam 69 = .ok (.getfield 78, 3) := by decide +kernel
theorem dX9_readBeam_72 : decode cX9_readBeam 72 = .ok (.iload_n 1, 1) := by decide +kernel
theorem dX9_readBeam_73 : decode cX9_readBeam 73 = .ok (.aload_n 0, 1) := by decide +kernel
theorem dX9_readBeam_74 : decode cX9_readBeam 74 = .ok (.invokevirtual 275, 3) := by decide +kernel
theorem dX9_readBeam_77 : decode cX9_readBeam 77 = .ok (.iastore, 1) := by decide +kernel
theorem dX9_readBeam_78 : decode cX9_readBeam 78 = .ok (.aload_n 0, 1) := by decide +kernel
theorem dX9_readBeam_79 : decode cX9_readBeam 79 = .ok (.getfield 81, 3) := by decide +kernel
theorem dX9_readBeam_82 : decode cX9_readBeam 82 = .ok (.iconst 2, 1) := by decide +kernel
theorem dX9_readBeam_83 : decode cX9_readBeam 83 = .ok (.iload_n 1, 1) := by decide +kernel
theorem dX9_readBeam_84 : decode cX9_readBeam 84 = .ok (.imul, 1) := by decide +kernel
theorem dX9_readBeam_85 : decode cX9_readBeam 85 = .ok (.iconst 1, 1) := by decide +kernel
theorem dX9_readBeam_86 : decode cX9_readBeam 86 = .ok (.iadd, 1) := by decide +kernel
theorem dX9_readBeam_87 : decode cX9_readBeam 87 = .ok (.aload_n 0, 1) := by decide +kernel
theorem dX9_readBeam_88 : decode cX9_readBeam 88 = .ok (.invokevirtual 271, 3) := by decide +kernel
theorem dX9_readBeam_91 : decode cX9_readBeam 91 = .ok (.bastore, 1) := by decide +kernel
theorem dX9_readBeam_92 : decode cX9_readBeam 92 = .ok (.aload_n 0, 1) := by decide +kernel
theorem dX9_readBeam_93 : decode cX9_readBeam 93 = .ok (.iload_n 1, 1) := by decide +kernel
theorem dX9_readBeam_94 : decode cX9_readBeam 94 = .ok (.iconst 1, 1) := by decide +kernel
theorem dX9_readBeam_95 : decode cX9_readBeam 95 = .ok (.iadd, 1) := by decide +kernel
theorem dX9_readBeam_96 : decode cX9_readBeam 96 = .ok (.invokevirtual 278, 3) := by decide +kernel
theorem dX9_readBeam_99 : decode cX9_readBeam 99 = .ok (.return_, 1) := by decide +kernel
theorem dX9_read_0 : decode cX9_read 0 = .ok (.aload_n 0, 1) := by decide +kernel
theorem dX9_read_1 : decode cX9_read 1 = .ok (.iconst 0, 1) := by decide +kernel
theorem dX9_read_2 : decode cX9_read 2 = .ok (.putfield 97, 3) := by decide +kernel
theorem dX9_read_5 : decode cX9_read 5 = .ok (.aload_n 0, 1) := by decide +kernel
theorem dX9_read_6 : decode cX9_read 6 = .ok (.iconst 0, 1) := by decide +kernel
theorem dX9_read_7 : decode cX9_read 7 = .ok (.putfield 258, 3) := by decide +kernel
theorem dX9_read_10 : decode cX9_read 10 = .ok (.aload_n 0, 1) := by decide +kernel
theorem dX9_read_11 : decode cX9_read 11 = .ok (.iconst 0, 1) := by decide +kernel
theorem dX9_read_12 : decode cX9_read 12 = .ok (.putfield 264, 3) := by decide +kernel
theorem dX9_read_15 : decode cX9_read 15 = .ok (.aload_n 0, 1) := by decide +kernel
theorem dX9_read_16 : decode cX9_read 16 = .ok (.iconst 0, 1) := by decide +kernel
theorem dX9_read_17 : decode cX9_read 17 = .ok (.invokevirtual 278, 3) := by decide +kernel
theorem dX9_read_20 : decode cX9_read 20 = .ok (.iconst 0, 1) := by decide +kernel
theorem dX9_read_21 : decode cX9_read 21 = .ok (.istore_n 1, 1) := by decide +kernel
theorem dX9_read_22 : decode cX9_read 22 = .ok (.aload_n 0, 1) := by decide +kernel
theorem dX9_read_23 : decode cX9_read 23 = .ok (.getfield 264, 3) := by decide +kernel
theorem dX9_read_26 : decode cX9_read 26 = .ok (.ifCond .ne 34, 3) := by decide +kernel
theorem dX9_read_29 : decode cX9_read 29 = .ok (.iload_n 1, 1) := by decide +kernel
theorem dX9_read_30 : decode cX9_read 30 = .ok (.iconst 3, 1) := by decide +kernel
theorem dX9_read_31 : decode cX9_read 31 = .ok (.if_icmp .ge 29, 3) := by decide +kernel
theorem dX9_read_34 : decode cX9_read 34 = .ok (.iload_n 1, 1) := by decide +kernel
theorem dX9_read_35 : decode cX9_read 35 = .ok (.ifCond .eq 14, 3) := by decide +kernel
theorem dX9_read_38 : decode cX9_read 38 = .ok (.aload_n 0, 1) := by decide +kernel
theorem dX9_read_39 : decode cX9_read 39 = .ok (.getfield 258, 3) := by decide +kernel
theorem dX9_read_42 : decode cX9_read 42 = .ok (.aload_n 0, 1) := by decide +kernel
theorem dX9_read_43 : decode cX9_read 43 = .ok (.getfield 255, 3) := by decide +kernel
theorem dX9_read_46 : decode cX9_read 46 = .ok (.if_icmp .ge 14, 3) := by decide +kernel
theorem dX9_read_49 : decode cX9_read 49 = .ok (.aload_n 0, 1) := by decide +kernel
theorem dX9_read_50 : decode cX9_read 50 = .ok (.iload_n 1, 1) := by decide +kernel
theorem dX9_read_51 : decode cX9_read 51 = .ok (.invokevirtual 281, 3) := by decide +kernel
theorem dX9_read_54 : decode cX9_read 54 = .ok (.iinc 1 1, 3) := by decide +kernel
theorem dX9_read_57 : decode cX9_read 57 = .ok (.goto (-35), 3) := by decide +kernel
theorem dX9_read_60 : decode cX9_read 60 = .ok (.aload_n 0, 1) := by decide +kernel
theorem dX9_read_61 : decode cX9_read 61 = .ok (.aload_n 0, 1) := by decide +kernel
theorem dX9_read_62 : decode cX9_read 62 = .ok (.getfield 264, 3) := by decide +kernel
theorem dX9_read_65 : decode cX9_read 65 = .ok (.ifCond .ne 14, 3) := by decide +kernel
theorem dX9_read_68 : decode cX9_read 68 = .ok (.aload_n 0, 1) := by decide +kernel
theorem dX9_read_69 : decode cX9_read 69 = .ok (.getfield 258, 3) := by decide +kernel
theorem dX9_read_72 : decode cX9_read 72 = .ok (.aload_n 0, 1) := by decide +kernel
theorem dX9_read_73 : decode cX9_read 73 = .ok (.getfield 255, 3) := by decide +kernel
theorem dX9_read_76 : decode cX9_read 76 = .ok (.if_icmp .ge 7, 3) := by decide +kernel
theorem dX9_read_79 : decode cX9_read 79 = .ok (.iconst 1, 1) := by decide +kernel
theorem dX9_read_80 : decode cX9_read 80 = .ok (.goto 4, 3) := by decide +kernel
theorem dX9_read_83 : decode cX9_read 83 = .ok (.iconst 0, 1) := by decide +kernel
theorem dX9_read_84 : decode cX9_read 84 = .ok (.putfield 264, 3) := by decide +kernel
theorem dX9_read_87 : decode cX9_read 87 = .ok (.aload_n 0, 1) := by decide +kernel
theorem dX9_read_88 : decode cX9_read 88 = .ok (.iconst 0, 1) := by decide +kernel
theorem dX9_read_89 : decode cX9_read 89 = .ok (.putfield 255, 3) := by decide +kernel
theorem dX9_read_92 : decode cX9_read 92 = .ok (.aload_n 0, 1) := by decide +kernel
theorem dX9_read_93 : decode cX9_read 93 = .ok (.getfield 264, 3) := by decide +kernel
theorem dX9_read_96 : decode cX9_read 96 = .ok (.ifCond .eq 10, 3) := by decide +kernel
theorem dX9_read_99 : decode cX9_read 99 = .ok (.iconst (-1), 1) := by decide +kernel
theorem dX9_read_100 : decode cX9_read 100 = .ok (.aload_n 0, 1) := by decide +kernel
theorem dX9_read_101 : decode cX9_read 101 = .ok (.getfield 258, 3) := by decide +kernel
theorem dX9_read_104 : decode cX9_read 104 = .ok (.isub, 1) := by decide +kernel
theorem dX9_read_105 : decode cX9_read 105 = .ok (.ireturn, 1) := by decide +kernel
theorem dX9_read_106 : decode cX9_read 106 = .ok (.aload_n 0, 1) := by decide +kernel
theorem dX9_read_107 : decode cX9_read 107 = .ok (.iload_n 1, 1) := by decide +kernel
theorem dX9_read_108 : decode cX9_read 108 = .ok (.putfield 93, 3) := by decide +kernel
theorem dX9_read_111 : decode cX9_read 111 = .ok (.aload_n 0, 1) := by decide +kernel
theorem dX9_read_112 : decode cX9_read 112 = .ok (.iconst 0, 1) := by decide +kernel
theorem dX9_read_113 : decode cX9_read 113 = .ok (.putfield 284, 3) := by decide +kernel
theorem dX9_read_116 : decode cX9_read 116 = .ok (.aload_n 0, 1) := by decide +kernel
theorem dX9_read_117 : decode cX9_read 117 = .ok (.iconst 0, 1) := by decide +kernel
theorem dX9_read_118 : decode cX9_read 118 = .ok (.putfield 205, 3) := by decide +kernel
theorem dX9_read_121 : decode cX9_read 121 = .ok (.iconst 0, 1) := by decide +kernel
theorem dX9_read_122 : decode cX9_read 122 = .ok (.istore_n 2, 1) := by decide +kernel
theorem dX9_read_123 : decode cX9_read 123 = .ok (.iload_n 2, 1) := by decide +kernel
theorem dX9_read_124 : decode cX9_read 124 = .ok (.iconst 4, 1) := by decide +kernel
theorem dX9_read_125 : decode cX9_read 125 = .ok (.if_icmp .ge 79, 3) := by decide +kernel
theorem dX9_read_128 : decode cX9_read 128 = .ok (.aload_n 0, 1) := by decide +kernel
theorem dX9_read_129 : decode cX9_read 129 = .ok (.getfield 29, 3) := by decide +kernel
theorem dX9_read_132 : decode cX9_read 132 = .ok (.iload_n 2, 1) := by decide +kernel
theorem dX9_read_133 : decode cX9_read 133 = .ok (.iconst 0, 1) := by decide +kernel
theorem dX9_read_134 : decode cX9_read 134 = .ok (.iastore, 1) := by decide +kernel
theorem dX9_read_135 : decode cX9_read 135 = .ok (.iload_n 2, 1) := by decide +kernel
theorem dX9_read_136 : decode cX9_read 136 = .ok (.iload_n 1, 1) := by decide +kernel
theorem dX9_read_137 : decode cX9_read 137 = .ok (.if_icmp .gt 12, 3) := by decide +kernel
theorem dX9_read_140 : decode cX9_read 140 = .ok (.aload_n 0, 1) := by decide +kernel
theorem dX9_read_141 : decode cX9_read 141 = .ok (.getfield 72, 3) := by decide +kernel
theorem dX9_read_144 : decode cX9_read 144 = .ok (.iload_n 2, 1) := by decide +kernel
theorem dX9_read_145 : decode cX9_read 145 = .ok (.iaload, 1) := by decide +kernel
theorem dX9_read_146 : decode cX9_read 146 = .ok (.goto 5, 3) := by decide +kernel
theorem dX9_read_149 : decode cX9_read 149 = .ok (.bipush 46, 2) := by decide +kernel
theorem dX9_read_151 : decode cX9_read 151 = .ok (.istore_n 3, 1) := by decide +kernel
theorem dX9_read_152 : decode cX9_read 152 = .ok (.aload_n 0, 1) := by decide +kernel
theorem dX9_read_153 : decode cX9_read 153 = .ok (.getfield 23, 3) := by decide +kernel
theorem dX9_read_156 : decode cX9_read 156 = .ok (.iload_n 2, 1) := by decide +kernel
theorem dX9_read_157 : decode cX9_read 157 = .ok (.iload_n 3, 1) := by decide +kernel
theorem dX9_read_158 : decode cX9_read 158 = .ok (.bipush 83, 2) := by decide +kernel
theorem dX9_read_160 : decode cX9_read 160 = .ok (.if_icmp .eq 9, 3) := by decide +kernel
theorem dX9_read_163 : decode cX9_read 163 = .ok (.iload_n 3, 1) := by decide +kernel
theorem dX9_read_164 : decode cX9_read 164 = .ok (.bipush 70, 2) := by decide +kernel
theorem dX9_read_166 : decode cX9_read 166 = .ok (.if_icmp .ne 7, 3) := by decide +kernel
theorem dX9_read_169 : decode cX9_read 169 = .ok (.iconst 1, 1) := by decide +kernel
theorem dX9_read_170 : decode cX9_read 170 = .ok (.goto 4, 3) := by decide +kernel
theorem dX9_read_173 : decode cX9_read 173 = .ok (.iconst 0, 1) := by decide +kernel
theorem dX9_read_174 : decode cX9_read 174 = .ok (.bastore, 1) := by decide +kernel
theorem dX9_read_175 : decode cX9_read 175 = .ok (.aload_n 0, 1) := by decide +kernel
theorem dX9_read_176 : decode cX9_read 176 = .ok (.getfield 26, 3) := by decide +kernel
theorem dX9_read_179 : decode cX9_read 179 = .ok (.iload_n 2, 1) := by decide +kernel
theorem dX9_read_180 : decode cX9_read 180 = .ok (.iload_n 3, 1) := by decide +kernel
theorem dX9_read_181 : decode cX9_read 181 = .ok (.bipush 84, 2) := by decide +kernel
theorem dX9_read_183 : decode cX9_read 183 = .ok (.if_icmp .eq 9, 3) := by decide +kernel
theorem dX9_read_186 : decode cX9_read 186 = .ok (.iload_n 3, 1) := by decide +kernel
theorem dX9_read_187 : decode cX9_read 187 = .ok (.bipush 70, 2) := by decide +kernel
theorem dX9_read_189 : decode cX9_read 189 = .ok (.if_icmp .ne 7, 3) := by decide +kernel
theorem dX9_read_192 : decode cX9_read 192 = .ok (.iconst 1, 1) := by decide +kernel
theorem dX9_read_193 : decode cX9_read 193 = .ok (.goto 4, 3) := by decide +kernel
theorem dX9_read_196 : decode cX9_read 196 = .ok (.iconst 0, 1) := by decide +kernel
theorem dX9_read_197 : decode cX9_read 197 = .ok (.bastore, 1) := by decide +kernel
theorem dX9_read_198 : decode cX9_read 198 = .ok (.iinc 2 1, 3) := by decide +kernel
theorem dX9_read_201 : decode cX9_read 201 = .ok (.goto (-78), 3) := by decide +kernel
theorem dX9_read_204 : decode cX9_read 204 = .ok (.iconst 0, 1) := by decide +kernel
theorem dX9_read_205 : decode cX9_read 205 = .ok (.istore_n 2, 1) := by decide +kernel
theorem dX9_read_206 : decode cX9_read 206 = .ok (.iload_n 2, 1) := by decide +kernel
theorem dX9_read_207 : decode cX9_read 207 = .ok (.iconst 3, 1) := by decide +kernel
theorem dX9_read_208 : decode cX9_read 208 = .ok (.if_icmp .ge 113, 3) := by decide +kernel
theorem dX9_read_211 : decode cX9_read 211 = .ok (.aload_n 0, 1) := by decide +kernel
theorem dX9_read_212 : decode cX9_read 212 = .ok (.getfield 13, 3) := by decide +kernel
theorem dX9_read_215 : decode cX9_read 215 = .ok (.iload_n 2, 1) := by decide +kernel
theorem dX9_read_216 : decode cX9_read 216 = .ok (.iload_n 2, 1) := by decide +kernel
theorem dX9_read_217 : decode cX9_read 217 = .ok (.iload_n 1, 1) := by decide +kernel
theorem dX9_read_218 : decode cX9_read 218 = .ok (.if_icmp .ge 12, 3) := by decide +kernel
theorem dX9_read_221 : decode cX9_read 221 = .ok (.aload_n 0, 1) := by decide +kernel
theorem dX9_read_222 : decode cX9_read 222 = .ok (.getfield 75, 3) := by decide +kernel
theorem dX9_read_225 : decode cX9_read 225 = .ok (.iload_n 2, 1) := by decide +kernel
theorem dX9_read_226 : decode cX9_read 226 = .ok (.iaload, 1) := by decide +kernel
theorem dX9_read_227 : decode cX9_read 227 = .ok (.goto 4, 3) := by decide +kernel
theorem dX9_read_230 : decode cX9_read 230 = .ok (.iconst 1, 1) := by decide +kernel
theorem dX9_read_231 : decode cX9_read 231 = .ok (.iastore, 1) := by decide +kernel
theorem dX9_read_232 : decode cX9_read 232 = .ok (.aload_n 0, 1) := by decide +kernel
theorem dX9_read_233 : decode cX9_read 233 = .ok (.getfield 16, 3) := by decide +kernel
theorem dX9_read_236 : decode cX9_read 236 = .ok (.iload_n 2, 1) := by decide +kernel
theorem dX9_read_237 : decode cX9_read 237 = .ok (.iload_n 2, 1) := by decide +kernel
theorem dX9_read_238 : decode cX9_read 238 = .ok (.iload_n 1, 1) := by decide +kernel
theorem dX9_read_239 : decode cX9_read 239 = .ok (.if_icmp .ge 12, 3) := by decide +kernel
theorem dX9_read_242 : decode cX9_read 242 = .ok (.aload_n 0, 1) := by decide +kernel
theorem dX9_read_243 : decode cX9_read 243 = .ok (.getfield 78, 3) := by decide +kernel
theorem dX9_read_246 : decode cX9_read 246 = .ok (.iload_n 2, 1) := by decide +kernel
theorem dX9_read_247 : decode cX9_read 247 = .ok (.iaload, 1) := by decide +kernel
theorem dX9_read_248 : decode cX9_read 248 = .ok (.goto 4, 3) := by decide +kernel
theorem dX9_read_251 : decode cX9_read 251 = .ok (.iconst 1, 1) := by decide +kernel
theorem dX9_read_252 : decode cX9_read 252 = .ok (.iastore, 1) := by decide +kernel
theorem dX9_read_253 : decode cX9_read 253 = .ok (.aload_n 0, 1) := by decide +kernel
theorem dX9_read_254 : decode cX9_read 254 = .ok (.getfield 19, 3) := by decide +kernel
theorem dX9_read_257 : decode cX9_read 257 = .ok (.iconst 2, 1) := by decide +kernel
theorem dX9_read_258 : decode cX9_read 258 = .ok (.iload_n 2, 1) := by decide +kernel
theorem dX9_read_259 : decode cX9_read 259 = .ok (.imul, 1) := by decide +kernel
theorem dX9_read_260 : decode cX9_read 260 = .ok (.iload_n 2, 1) := by decide +kernel
theorem dX9_read_261 : decode cX9_read 261 = .ok (.iload_n 1, 1) := by decide +kernel
theorem dX9_read_262 : decode cX9_read 262 = .ok (.if_icmp .ge 18, 3) := by decide +kernel
theorem dX9_read_265 : decode cX9_read 265 = .ok (.aload_n 0, 1) := by decide +kernel
theorem dX9_read_266 : decode cX9_read 266 = .ok (.getfield 81, 3) := by decide +kernel
theorem dX9_read_269 : decode cX9_read 269 = .ok (.iconst 2, 1) := by decide +kernel
theorem dX9_read_270 : decode cX9_read 270 = .ok (.iload_n 2, 1) := by decide +kernel
theorem dX9_read_271 : decode cX9_read 271 = .ok (.imul, 1) := by decide +kernel
theorem dX9_read_272 : decode cX9_read 272 = .ok (.baload, 1) := by decide +kernel
theorem dX9_read_273 : decode cX9_read 273 = .ok (.ifCond .eq 7, 3) := by decide +kernel
theorem dX9_read_276 : decode cX9_read 276 = .ok (.iconst 1, 1) := by decide +kernel
theorem dX9_read_277 : decode cX9_read 277 = .ok (.goto 4, 3) := by decide +kernel
theorem dX9_read_280 : decode cX9_read 280 = .ok (.iconst 0, 1) := by decide +kernel
theorem dX9_read_281 : decode cX9_read 281 = .ok (.bastore, 1) := by decide +kernel
theorem dX9_read_282 : decode cX9_read 282 = .ok (.aload_n 0, 1) := by decide +kernel
theorem dX9_read_283 : decode cX9_read 283 = .ok (.getfield 19, 3) := by decide +kernel
theorem dX9_read_286 : decode cX9_read 286 = .ok (.iconst 2, 1) := by decide +kernel
theorem dX9_read_287 : decode cX9_read 287 = .ok (.iload_n 2, 1) := by decide +kernel
theorem dX9_read_288 : decode cX9_read 288 = .ok (.imul, 1) := by decide +kernel
theorem dX9_read_289 : decode cX9_read 289 = .ok (.iconst 1, 1) := by decide +kernel
theorem dX9_read_290 : decode cX9_read 290 = .ok (.iadd, 1) := by decide +kernel
theorem dX9_read_291 : decode cX9_read 291 = .ok (.iload_n 2, 1) := by decide +kernel
theorem dX9_read_292 : decode cX9_read 292 = .ok (.iload_n 1, 1) := by decide +kernel
theorem dX9_read_293 : decode cX9_read 293 = .ok (.if_icmp .ge 20, 3) := by decide +kernel
theorem dX9_read_296 : decode cX9_read 296 = .ok (.aload_n 0, 1) := by decide +kernel
theorem dX9_read_297 : decode cX9_read 297 = .ok (.getfield 81, 3) := by decide +kernel
theorem dX9_read_300 : decode cX9_read 300 = .ok (.iconst 2, 1) := by decide +kernel
theorem dX9_read_301 : decode cX9_read 301 = .ok (.iload_n 2, 1) := by decide +kernel
theorem dX9_read_302 : decode cX9_read 302 = .ok (.imul, 1) := by decide +kernel
theorem dX9_read_303 : decode cX9_read 303 = .ok (.iconst 1, 1) := by decide +kernel
theorem dX9_read_304 : decode cX9_read 304 = .ok (.iadd, 1) := by decide +kernel
theorem dX9_read_305 : decode cX9_read 305 = .ok (.baload, 1) := by decide +kernel
theorem dX9_read_306 : decode cX9_read 306 = .ok (.ifCond .eq 7, 3) := by decide +kernel
theorem dX9_read_309 : decode cX9_read 309 = .ok (.iconst 1, 1) := by decide +kernel
theorem dX9_read_310 : decode cX9_read 310 = .ok (.goto 4, 3) := by decide +kernel
theorem dX9_read_313 : decode cX9_read 313 = .ok (.iconst 0, 1) := by decide +kernel
theorem dX9_read_314 : decode cX9_read 314 = .ok (.bastore, 1) := by decide +kernel
theorem dX9_read_315 : decode cX9_read 315 = .ok (.iinc 2 1, 3) := by decide +kernel
theorem dX9_read_318 : decode cX9_read 318 = .ok (.goto (-112), 3) := by decide +kernel
theorem dX9_read_321 : decode cX9_read 321 = .ok (.iload_n 1, 1) := by decide +kernel
theorem dX9_read_322 : decode cX9_read 322 = .ok (.ireturn, 1) := by decide +kernel
theorem dX9_member_0 : decode cX9_member 0 = .ok (.aload_n 0, 1) := by decide +kernel
theorem dX9_member_1 : decode cX9_member 1 = .ok (.iload_n 1, 1) := by decide +kernel
theorem dX9_member_2 : decode cX9_member 2 = .ok (.ifCond .lt 11, 3) := by decide +kernel
theorem dX9_member_5 : decode cX9_member 5 = .ok (.iload_n 1, 1) := by decide +kernel
theorem dX9_member_6 : decode cX9_member 6 = .ok (.aload_n 0, 1) := by decide +kernel
theorem dX9_member_7 : decode cX9_member 7 = .ok (.getfield 93, 3) := by decide +kernel
theorem dX9_member_10 : decode cX9_member 10 = .ok (.if_icmp .lt 7, 3) := by decide +kernel
theorem dX9_member_13 : decode cX9_member 13 = .ok (.iconst 1, 1) := by decide +kernel
theorem dX9_member_14 : decode cX9_member 14 = .ok (.goto 4, 3) := by decide +kernel
theorem dX9_member_17 : decode cX9_member 17 = .ok (.iconst 0, 1) := by decide +kernel
theorem dX9_member_18 : decode cX9_member 18 = .ok (.putfield 97, 3) := by decide +kernel
theorem dX9_member_21 : decode cX9_member 21 = .ok (.aload_n 0, 1) := by decide +kernel
theorem dX9_member_22 : decode cX9_member 22 = .ok (.getfield 97, 3) := by decide +kernel
theorem dX9_member_25 : decode cX9_member 25 = .ok (.ifCond .gt 33, 3) := by decide +kernel
theorem dX9_member_28 : decode cX9_member 28 = .ok (.lload_n 2, 1) := by decide +kernel
theorem dX9_member_29 : decode cX9_member 29 = .ok (.lconst 1, 1) := by decide +kernel
theorem dX9_member_30 : decode cX9_member 30 = .ok (.lcmp, 1) := by decide +kernel
theorem dX9_member_31 : decode cX9_member 31 = .ok (.ifCond .lt 27, 3) := by decide +kernel
theorem dX9_member_34 : decode cX9_member 34 = .ok (.lload_n 2, 1) := by decide +kernel
theorem dX9_member_35 : decode cX9_member 35 = .ok (.ldc2_w 287, 3) := by decide +kernel
theorem dX9_member_38 : decode cX9_member 38 = .ok (.lcmp, 1) := by decide +kernel
theorem dX9_member_39 : decode cX9_member 39 = .ok (.ifCond .gt 19, 3) := by decide +kernel
theorem dX9_member_42 : decode cX9_member 42 = .ok (.lload 4, 2) := by decide +kernel
theorem dX9_member_44 : decode cX9_member 44 = .ok (.lconst 1, 1) := by decide +kernel
theorem dX9_member_45 : decode cX9_member 45 = .ok (.lcmp, 1) := by decide +kernel
theorem dX9_member_46 : decode cX9_member 46 = .ok (.ifCond .lt 12, 3) := by decide +kernel
theorem dX9_member_49 : decode cX9_member 49 = .ok (.lload 4, 2) := by decide +kernel
theorem dX9_member_51 : decode cX9_member 51 = .ok (.ldc2_w 287, 3) := by decide +kernel
theorem dX9_member_54 : decode cX9_member 54 = .ok (.lcmp, 1) := by decide +kernel
theorem dX9_member_55 : decode cX9_member 55 = .ok (.ifCond .le 5, 3) := by decide +kernel
theorem dX9_member_58 : decode cX9_member 58 = .ok (.iconst 0, 1) := by decide +kernel
theorem dX9_member_59 : decode cX9_member 59 = .ok (.ireturn, 1) := by decide +kernel
theorem dX9_member_60 : decode cX9_member 60 = .ok (.aload_n 0, 1) := by decide +kernel
theorem dX9_member_61 : decode cX9_member 61 = .ok (.getfield 13, 3) := by decide +kernel
theorem dX9_member_64 : decode cX9_member 64 = .ok (.iload_n 1, 1) := by decide +kernel
theorem dX9_member_65 : decode cX9_member 65 = .ok (.lload_n 2, 1) := by decide +kernel
theorem dX9_member_66 : decode cX9_member 66 = .ok (.l2i, 1) := by decide +kernel
theorem dX9_member_67 : decode cX9_member 67 = .ok (.iastore, 1) := by decide +kernel
theorem dX9_member_68 : decode cX9_member 68 = .ok (.aload_n 0, 1) := by decide +kernel
theorem dX9_member_69 : decode cX9_member 69 = .ok (.getfield 16, 3) := by decide +kernel
theorem dX9_member_72 : decode cX9_member 72 = .ok (.iload_n 1, 1) := by decide +kernel
theorem dX9_member_73 : decode cX9_member 73 = .ok (.lload 4, 2) := by decide +kernel
theorem dX9_member_75 : decode cX9_member 75 = .ok (.l2i, 1) := by decide +kernel
theorem dX9_member_76 : decode cX9_member 76 = .ok (.iastore, 1) := by decide +kernel
theorem dX9_member_77 : decode cX9_member 77 = .ok (.aload_n 0, 1) := by decide +kernel
theorem dX9_member_78 : decode cX9_member 78 = .ok (.iconst 0, 1) := by decide +kernel
theorem dX9_member_79 : decode cX9_member 79 = .ok (.putfield 205, 3) := by decide +kernel
theorem dX9_member_82 : decode cX9_member 82 = .ok (.iconst 1, 1) := by decide +kernel
theorem dX9_member_83 : decode cX9_member 83 = .ok (.ireturn, 1) := by decide +kernel
theorem dX9_support_0 : decode cX9_support 0 = .ok (.aload_n 0, 1) := by decide +kernel
theorem dX9_support_1 : decode cX9_support 1 = .ok (.iload_n 1, 1) := by decide +kernel
theorem dX9_support_2 : decode cX9_support 2 = .ok (.ifCond .lt 11, 3) := by decide +kernel
theorem dX9_support_5 : decode cX9_support 5 = .ok (.iload_n 1, 1) := by decide +kernel
theorem dX9_support_6 : decode cX9_support 6 = .ok (.aload_n 0, 1) := by decide +kernel
theorem dX9_support_7 : decode cX9_support 7 = .ok (.getfield 93, 3) := by decide +kernel
theorem dX9_support_10 : decode cX9_support 10 = .ok (.if_icmp .le 7, 3) := by decide +kernel
theorem dX9_support_13 : decode cX9_support 13 = .ok (.iconst 1, 1) := by decide +kernel
theorem dX9_support_14 : decode cX9_support 14 = .ok (.goto 4, 3) := by decide +kernel
theorem dX9_support_17 : decode cX9_support 17 = .ok (.iconst 0, 1) := by decide +kernel
theorem dX9_support_18 : decode cX9_support 18 = .ok (.putfield 97, 3) := by decide +kernel
theorem dX9_support_21 : decode cX9_support 21 = .ok (.aload_n 0, 1) := by decide +kernel
theorem dX9_support_22 : decode cX9_support 22 = .ok (.getfield 97, 3) := by decide +kernel
theorem dX9_support_25 : decode cX9_support 25 = .ok (.ifCond .gt 12, 3) := by decide +kernel
theorem dX9_support_28 : decode cX9_support 28 = .ok (.iload_n 2, 1) := by decide +kernel
theorem dX9_support_29 : decode cX9_support 29 = .ok (.ifCond .lt 8, 3) := by decide +kernel
theorem dX9_support_32 : decode cX9_support 32 = .ok (.iload_n 2, 1) := by decide +kernel
theorem dX9_support_33 : decode cX9_support 33 = .ok (.iconst 1, 1) := by decide +kernel
theorem dX9_support_34 : decode cX9_support 34 = .ok (.if_icmp .le 5, 3) := by decide +kernel
theorem dX9_support_37 : decode cX9_support 37 = .ok (.iconst 0, 1) := by decide +kernel
theorem dX9_support_38 : decode cX9_support 38 = .ok (.ireturn, 1) := by decide +kernel
theorem dX9_support_39 : decode cX9_support 39 = .ok (.aload_n 0, 1) := by decide +kernel
theorem dX9_support_40 : decode cX9_support 40 = .ok (.iconst 0, 1) := by decide +kernel
theorem dX9_support_41 : decode cX9_support 41 = .ok (.putfield 205, 3) := by decide +kernel
theorem dX9_support_44 : decode cX9_support 44 = .ok (.iload_n 2, 1) := by decide +kernel
theorem dX9_support_45 : decode cX9_support 45 = .ok (.ifCond .ne 12, 3) := by decide +kernel
theorem dX9_support_48 : decode cX9_support 48 = .ok (.aload_n 0, 1) := by decide +kernel
theorem dX9_support_49 : decode cX9_support 49 = .ok (.getfield 23, 3) := by decide +kernel
theorem dX9_support_52 : decode cX9_support 52 = .ok (.iload_n 1, 1) := by decide +kernel
theorem dX9_support_53 : decode cX9_support 53 = .ok (.baload, 1) := by decide +kernel
theorem dX9_support_54 : decode cX9_support 54 = .ok (.goto 9, 3) := by decide +kernel
theorem dX9_support_57 : decode cX9_support 57 = .ok (.aload_n 0, 1) := by decide +kernel
theorem dX9_support_58 : decode cX9_support 58 = .ok (.getfield 26, 3) := by decide +kernel
theorem dX9_support_61 : decode cX9_support 61 = .ok (.iload_n 1, 1) := by decide +kernel
theorem dX9_support_62 : decode cX9_support 62 = .ok (.baload, 1) := by decide +kernel
theorem dX9_support_63 : decode cX9_support 63 = .ok (.istore 4, 2) := by decide +kernel
theorem dX9_support_65 : decode cX9_support 65 = .ok (.iload_n 2, 1) := by decide +kernel
theorem dX9_support_66 : decode cX9_support 66 = .ok (.ifCond .ne 33, 3) := by decide +kernel
theorem dX9_support_69 : decode cX9_support 69 = .ok (.aload_n 0, 1) := by decide +kernel
theorem dX9_support_70 : decode cX9_support 70 = .ok (.getfield 23, 3) := by decide +kernel
theorem dX9_support_73 : decode cX9_support 73 = .ok (.iload_n 1, 1) := by decide +kernel
theorem dX9_support_74 : decode cX9_support 74 = .ok (.iload_n 3, 1) := by decide +kernel
theorem dX9_support_75 : decode cX9_support 75 = .ok (.bastore, 1) := by decide +kernel
theorem dX9_support_76 : decode cX9_support 76 = .ok (.aload_n 0, 1) := by decide +kernel
theorem dX9_support_77 : decode cX9_support 77 = .ok (.getfield 29, 3) := by decide +kernel
theorem dX9_support_80 : decode cX9_support 80 = .ok (.iload_n 1, 1) := by decide +kernel
theorem dX9_support_81 : decode cX9_support 81 = .ok (.iload_n 3, 1) := by decide +kernel
theorem dX9_support_82 : decode cX9_support 82 = .ok (.ifCond .eq 12, 3) := by decide +kernel
theorem dX9_support_85 : decode cX9_support 85 = .ok (.aload_n 0, 1) := by decide +kernel
theorem dX9_support_86 : decode cX9_support 86 = .ok (.getfield 29, 3) := by decide +kernel
theorem dX9_support_89 : decode cX9_support 89 = .ok (.iload_n 1, 1) := by decide +kernel
theorem dX9_support_90 : decode cX9_support 90 = .ok (.iaload, 1) := by decide +kernel
theorem dX9_support_91 : decode cX9_support 91 = .ok (.goto 4, 3) := by decide +kernel
theorem dX9_support_94 : decode cX9_support 94 = .ok (.iconst 0, 1) := by decide +kernel
theorem dX9_support_95 : decode cX9_support 95 = .ok (.iastore, 1) := by decide +kernel
theorem dX9_support_96 : decode cX9_support 96 = .ok (.goto 10, 3) := by decide +kernel
theorem dX9_support_99 : decode cX9_support 99 = .ok (.aload_n 0, 1) := by decide +kernel
theorem dX9_support_100 : decode cX9_support 100 = .ok (.getfield 26, 3) := by decide +kernel
theorem dX9_support_103 : decode cX9_support 103 = .ok (.iload_n 1, 1) := by decide +kernel
theorem dX9_support_104 : decode cX9_support 104 = .ok (.iload_n 3, 1) := by decide +kernel
theorem dX9_support_105 : decode cX9_support 105 = .ok (.bastore, 1) := by decide +kernel
theorem dX9_support_106 : decode cX9_support 106 = .ok (.iload 4, 2) := by decide +kernel
theorem dX9_support_108 : decode cX9_support 108 = .ok (.ireturn, 1) := by decide +kernel
theorem dX9_hinge_0 : decode cX9_hinge 0 = .ok (.aload_n 0, 1) := by decide +kernel
theorem dX9_hinge_1 : decode cX9_hinge 1 = .ok (.iload_n 1, 1) := by decide +kernel
theorem dX9_hinge_2 : decode cX9_hinge 2 = .ok (.ifCond .lt 11, 3) := by decide +kernel
theorem dX9_hinge_5 : decode cX9_hinge 5 = .ok (.iload_n 1, 1) := by decide +kernel
theorem dX9_hinge_6 : decode cX9_hinge 6 = .ok (.aload_n 0, 1) := by decide +kernel
theorem dX9_hinge_7 : decode cX9_hinge 7 = .ok (.getfield 93, 3) := by decide +kernel
theorem dX9_hinge_10 : decode cX9_hinge 10 = .ok (.if_icmp .lt 7, 3) := by decide +kernel
theorem dX9_hinge_13 : decode cX9_hinge 13 = .ok (.iconst 1, 1) := by decide +kernel
theorem dX9_hinge_14 : decode cX9_hinge 14 = .ok (.goto 4, 3) := by decide +kernel
theorem dX9_hinge_17 : decode cX9_hinge 17 = .ok (.iconst 0, 1) := by decide +kernel
theorem dX9_hinge_18 : decode cX9_hinge 18 = .ok (.putfield 97, 3) := by decide +kernel
theorem dX9_hinge_21 : decode cX9_hinge 21 = .ok (.aload_n 0, 1) := by decide +kernel
theorem dX9_hinge_22 : decode cX9_hinge 22 = .ok (.getfield 97, 3) := by decide +kernel
theorem dX9_hinge_25 : decode cX9_hinge 25 = .ok (.ifCond .gt 12, 3) := by decide +kernel
theorem dX9_hinge_28 : decode cX9_hinge 28 = .ok (.iload_n 2, 1) := by decide +kernel
theorem dX9_hinge_29 : decode cX9_hinge 29 = .ok (.ifCond .lt 8, 3) := by decide +kernel
theorem dX9_hinge_32 : decode cX9_hinge 32 = .ok (.iload_n 2, 1) := by decide +kernel
theorem dX9_hinge_33 : decode cX9_hinge 33 = .ok (.iconst 1, 1) := by decide +kernel
theorem dX9_hinge_34 : decode cX9_hinge 34 = .ok (.if_icmp .le 5, 3) := by decide +kernel
theorem dX9_hinge_37 : decode cX9_hinge 37 = .ok (.iconst 0, 1) := by decide +kernel
theorem dX9_hinge_38 : decode cX9_hinge 38 = .ok (.ireturn, 1) := by decide +kernel
theorem dX9_hinge_39 : decode cX9_hinge 39 = .ok (.aload_n 0, 1) := by decide +kernel
theorem dX9_hinge_40 : decode cX9_hinge 40 = .ok (.iconst 0, 1) := by decide +kernel
theorem dX9_hinge_41 : decode cX9_hinge 41 = .ok (.putfield 205, 3) := by decide +kernel
theorem dX9_hinge_44 : decode cX9_hinge 44 = .ok (.aload_n 0, 1) := by decide +kernel
theorem dX9_hinge_45 : decode cX9_hinge 45 = .ok (.getfield 19, 3) := by decide +kernel
theorem dX9_hinge_48 : decode cX9_hinge 48 = .ok (.iconst 2, 1) := by decide +kernel
theorem dX9_hinge_49 : decode cX9_hinge 49 = .ok (.iload_n 1, 1) := by decide +kernel
theorem dX9_hinge_50 : decode cX9_hinge 50 = .ok (.imul, 1) := by decide +kernel
theorem dX9_hinge_51 : decode cX9_hinge 51 = .ok (.iload_n 2, 1) := by decide +kernel
theorem dX9_hinge_52 : decode cX9_hinge 52 = .ok (.iadd, 1) := by decide +kernel
theorem dX9_hinge_53 : decode cX9_hinge 53 = .ok (.baload, 1) := by decide +kernel
theorem dX9_hinge_54 : decode cX9_hinge 54 = .ok (.istore 4, 2) := by decide +kernel
theorem dX9_hinge_56 : decode cX9_hinge 56 = .ok (.aload_n 0, 1) := by decide +kernel
theorem dX9_hinge_57 : decode cX9_hinge 57 = .ok (.getfield 19, 3) := by decide +kernel
theorem dX9_hinge_60 : decode cX9_hinge 60 = .ok (.iconst 2, 1) := by decide +kernel
theorem dX9_hinge_61 : decode cX9_hinge 61 = .ok (.iload_n 1, 1) := by decide +kernel
theorem dX9_hinge_62 : decode cX9_hinge 62 = .ok (.imul, 1) := by decide +kernel
theorem dX9_hinge_63 : decode cX9_hinge 63 = .ok (.iload_n 2, 1) := by decide +kernel
theorem dX9_hinge_64 : decode cX9_hinge 64 = .ok (.iadd, 1) := by decide +kernel
theorem dX9_hinge_65 : decode cX9_hinge 65 = .ok (.iload_n 3, 1) := by decide +kernel
theorem dX9_hinge_66 : decode cX9_hinge 66 = .ok (.bastore, 1) := by decide +kernel
theorem dX9_hinge_67 : decode cX9_hinge 67 = .ok (.iload 4, 2) := by decide +kernel
theorem dX9_hinge_69 : decode cX9_hinge 69 = .ok (.ireturn, 1) := by decide +kernel
theorem dX9_settled_0 : decode cX9_settled 0 = .ok (.aload_n 0, 1) := by decide +kernel
theorem dX9_settled_1 : decode cX9_settled 1 = .ok (.iconst 0, 1) := by decide +kernel
theorem dX9_settled_2 : decode cX9_settled 2 = .ok (.putfield 97, 3) := by decide +kernel
theorem dX9_settled_5 : decode cX9_settled 5 = .ok (.iload_n 1, 1) := by decide +kernel
theorem dX9_settled_6 : decode cX9_settled 6 = .ok (.ifCond .lt 36, 3) := by decide +kernel
theorem dX9_settled_9 : decode cX9_settled 9 = .ok (.iload_n 1, 1) := by decide +kernel
theorem dX9_settled_10 : decode cX9_settled 10 = .ok (.aload_n 0, 1) := by decide +kernel
theorem dX9_settled_11 : decode cX9_settled 11 = .ok (.getfield 93, 3) := by decide +kernel
theorem dX9_settled_14 : decode cX9_settled 14 = .ok (.if_icmp .gt 28, 3) := by decide +kernel
theorem dX9_settled_17 : decode cX9_settled 17 = .ok (.aload_n 0, 1) := by decide +kernel
theorem dX9_settled_18 : decode cX9_settled 18 = .ok (.getfield 23, 3) := by decide +kernel
theorem dX9_settled_21 : decode cX9_settled 21 = .ok (.iload_n 1, 1) := by decide +kernel
theorem dX9_settled_22 : decode cX9_settled 22 = .ok (.baload, 1) := by decide +kernel
theorem dX9_settled_23 : decode cX9_settled 23 = .ok (.ifCond .eq 19, 3) := by decide +kernel
theorem dX9_settled_26 : decode cX9_settled 26 = .ok (.lload_n 2, 1) := by decide +kernel
theorem dX9_settled_27 : decode cX9_settled 27 = .ok (.ldc2_w 289, 3) := by decide +kernel
theorem dX9_settled_30 : decode cX9_settled 30 = .ok (.lcmp, 1) := by decide +kernel
theorem dX9_settled_31 : decode cX9_settled 31 = .ok (.ifCond .lt 11, 3) := by decide +kernel
theorem dX9_settled_34 : decode cX9_settled 34 = .ok (.lload_n 2, 1) := by decide +kernel
theorem dX9_settled_35 : decode cX9_settled 35 = .ok (.ldc2_w 291, 3) := by decide +kernel
theorem dX9_settled_38 : decode cX9_settled 38 = .ok (.lcmp, 1) := by decide +kernel
theorem dX9_settled_39 : decode cX9_settled 39 = .ok (.ifCond .le 5, 3) := by decide +kernel
theorem dX9_settled_42 : decode cX9_settled 42 = .ok (.iconst 0, 1) := by decide +kernel
theorem dX9_settled_43 : decode cX9_settled 43 = .ok (.ireturn, 1) := by decide +kernel
theorem dX9_settled_44 : decode cX9_settled 44 = .ok (.aload_n 0, 1) := by decide +kernel
theorem dX9_settled_45 : decode cX9_settled 45 = .ok (.getfield 29, 3) := by decide +kernel
theorem dX9_settled_48 : decode cX9_settled 48 = .ok (.iload_n 1, 1) := by decide +kernel
theorem dX9_settled_49 : decode cX9_settled 49 = .ok (.lload_n 2, 1) := by decide +kernel
theorem dX9_settled_50 : decode cX9_settled 50 = .ok (.l2i, 1) := by decide +kernel
theorem dX9_settled_51 : decode cX9_settled 51 = .ok (.iastore, 1) := by decide +kernel
theorem dX9_settled_52 : decode cX9_settled 52 = .ok (.aload_n 0, 1) := by decide +kernel
theorem dX9_settled_53 : decode cX9_settled 53 = .ok (.iconst 0, 1) := by decide +kernel
theorem dX9_settled_54 : decode cX9_settled 54 = .ok (.putfield 205, 3) := by decide +kernel
theorem dX9_settled_57 : decode cX9_settled 57 = .ok (.iconst 1, 1) := by decide +kernel
theorem dX9_settled_58 : decode cX9_settled 58 = .ok (.ireturn, 1) := by decide +kernel
theorem dX9_row_0 : decode cX9_row 0 = .ok (.aload_n 0, 1) := by decide +kernel
theorem dX9_row_1 : decode cX9_row 1 = .ok (.iconst 0, 1) := by decide +kernel
theorem dX9_row_2 : decode cX9_row 2 = .ok (.putfield 97, 3) := by decide +kernel
theorem dX9_row_5 : decode cX9_row 5 = .ok (.iload_n 1, 1) := by decide +kernel
theorem dX9_row_6 : decode cX9_row 6 = .ok (.ifCond .lt 33, 3) := by decide +kernel
theorem dX9_row_9 : decode cX9_row 9 = .ok (.iload_n 1, 1) := by decide +kernel
theorem dX9_row_10 : decode cX9_row 10 = .ok (.iconst 2, 1) := by decide +kernel
theorem dX9_row_11 : decode cX9_row 11 = .ok (.if_icmp .gt 28, 3) := by decide +kernel
theorem dX9_row_14 : decode cX9_row 14 = .ok (.iload_n 2, 1) := by decide +kernel
theorem dX9_row_15 : decode cX9_row 15 = .ok (.ifCond .lt 24, 3) := by decide +kernel
theorem dX9_row_18 : decode cX9_row 18 = .ok (.iload_n 2, 1) := by decide +kernel
theorem dX9_row_19 : decode cX9_row 19 = .ok (.aload_n 0, 1) := by decide +kernel
theorem dX9_row_20 : decode cX9_row 20 = .ok (.getfield 93, 3) := by decide +kernel
theorem dX9_row_23 : decode cX9_row 23 = .ok (.if_icmp .ge 16, 3) := by decide +kernel
theorem dX9_row_26 : decode cX9_row 26 = .ok (.iload_n 3, 1) := by decide +kernel
theorem dX9_row_27 : decode cX9_row 27 = .ok (.ifCond .lt 12, 3) := by decide +kernel
theorem dX9_row_30 : decode cX9_row 30 = .ok (.iload_n 3, 1) := by decide +kernel
theorem dX9_row_31 : decode cX9_row 31 = .ok (.iconst 4, 1) := by decide +kernel
theorem dX9_row_32 : decode cX9_row 32 = .ok (.if_icmp .gt 7, 3) := by decide +kernel
theorem dX9_row_35 : decode cX9_row 35 = .ok (.iconst 1, 1) := by decide +kernel
theorem dX9_row_36 : decode cX9_row 36 = .ok (.goto 4, 3) := by decide +kernel
theorem dX9_row_39 : decode cX9_row 39 = .ok (.iconst 0, 1) := by decide +kernel
theorem dX9_row_40 : decode cX9_row 40 = .ok (.istore 4, 2) := by decide +kernel
theorem dX9_row_42 : decode cX9_row 42 = .ok (.iload_n 1, 1) := by decide +kernel
theorem dX9_row_43 : decode cX9_row 43 = .ok (.iconst 3, 1) := by decide +kernel
theorem dX9_row_44 : decode cX9_row 44 = .ok (.if_icmp .ne 32, 3) := by decide +kernel
theorem dX9_row_47 : decode cX9_row 47 = .ok (.iload_n 2, 1) := by decide +kernel
theorem dX9_row_48 : decode cX9_row 48 = .ok (.ifCond .lt 28, 3) := by decide +kernel
theorem dX9_row_51 : decode cX9_row 51 = .ok (.iload_n 2, 1) := by decide +kernel
theorem dX9_row_52 : decode cX9_row 52 = .ok (.aload_n 0, 1) := by decide +kernel
theorem dX9_row_53 : decode cX9_row 53 = .ok (.getfield 93, 3) := by decide +kernel
theorem dX9_row_56 : decode cX9_row 56 = .ok (.if_icmp .gt 20, 3) := by decide +kernel
theorem dX9_row_59 : decode cX9_row 59 = .ok (.iload_n 3, 1) := by decide +kernel
theorem dX9_row_60 : decode cX9_row 60 = .ok (.ifCond .ne 16, 3) := by decide +kernel
theorem dX9_row_63 : decode cX9_row 63 = .ok (.aload_n 0, 1) := by decide +kernel
theorem dX9_row_64 : decode cX9_row 64 = .ok (.getfield 23, 3) := by decide +kernel
theorem dX9_row_67 : decode cX9_row 67 = .ok (.iload_n 2, 1) := by decide +kernel
theorem dX9_row_68 : decode cX9_row 68 = .ok (.baload, 1) := by decide +kernel
theorem dX9_row_69 : decode cX9_row 69 = .ok (.ifCond .eq 7, 3) := by decide +kernel
theorem dX9_row_72 : decode cX9_row 72 = .ok (.iconst 1, 1) := by decide +kernel
theorem dX9_row_73 : decode cX9_row 73 = .ok (.goto 4, 3) := by decide +kernel
theorem dX9_row_76 : decode cX9_row 76 = .ok (.iconst 0, 1) := by decide +kernel
theorem dX9_row_77 : decode cX9_row 77 = .ok (.istore 5, 2) := by decide +kernel
theorem dX9_row_79 : decode cX9_row 79 = .ok (.iload 4, 2) := by decide +kernel
theorem dX9_row_81 : decode cX9_row 81 = .ok (.ifCond .ne 8, 3) := by decide +kernel
theorem dX9_row_84 : decode cX9_row 84 = .ok (.iload 5, 2) := by decide +kernel
theorem dX9_row_86 : decode cX9_row 86 = .ok (.ifCond .eq 12, 3) := by decide +kernel
theorem dX9_row_89 : decode cX9_row 89 = .ok (.aload_n 0, 1) := by decide +kernel
theorem dX9_row_90 : decode cX9_row 90 = .ok (.getfield 284, 3) := by decide +kernel
theorem dX9_row_93 : decode cX9_row 93 = .ok (.bipush 8, 2) := by decide +kernel
theorem dX9_row_95 : decode cX9_row 95 = .ok (.if_icmp .ne 5, 3) := by decide +kernel
theorem dX9_row_98 : decode cX9_row 98 = .ok (.iconst (-1), 1) := by decide +kernel
theorem dX9_row_99 : decode cX9_row 99 = .ok (.ireturn, 1) := by decide +kernel
theorem dX9_row_100 : decode cX9_row 100 = .ok (.aload_n 0, 1) := by decide +kernel
theorem dX9_row_101 : decode cX9_row 101 = .ok (.getfield 32, 3) := by decide +kernel
theorem dX9_row_104 : decode cX9_row 104 = .ok (.aload_n 0, 1) := by decide +kernel
theorem dX9_row_105 : decode cX9_row 105 = .ok (.getfield 284, 3) := by decide +kernel
theorem dX9_row_108 : decode cX9_row 108 = .ok (.iload_n 1, 1) := by decide +kernel
theorem dX9_row_109 : decode cX9_row 109 = .ok (.iastore, 1) := by decide +kernel
theorem dX9_row_110 : decode cX9_row 110 = .ok (.aload_n 0, 1) := by decide +kernel
theorem dX9_row_111 : decode cX9_row 111 = .ok (.getfield 35, 3) := by decide +kernel
