theorem dX8_area_84 : decode cX8_area 84 = .ok (.invokevirtual 162, 3) := by decide +kernel
theorem dX8_area_87 : decode cX8_area 87 = .ok (.aload_n 0, 1) := by decide +kernel
theorem dX8_area_88 : decode cX8_area 88 = .ok (.getfield 50, 3) := by decide +kernel
theorem dX8_area_91 : decode cX8_area 91 = .ok (.aload_n 0, 1) := by decide +kernel
theorem dX8_area_92 : decode cX8_area 92 = .ok (.getfield 40, 3) := by decide +kernel
theorem dX8_area_95 : decode cX8_area 95 = .ok (.aload_n 0, 1) := by decide +kernel
theorem dX8_area_96 : decode cX8_area 96 = .ok (.getfield 10, 3) := by decide +kernel
theorem dX8_area_99 : decode cX8_area 99 = .ok (.iload_n 2, 1) := by decide +kernel
theorem dX8_area_100 : decode cX8_area 100 = .ok (.aload_n 0, 1) := by decide +kernel
theorem dX8_area_101 : decode cX8_area 101 = .ok (.getfield 57, 3) := by decide +kernel
theorem dX8_area_104 : decode cX8_area 104 = .ok (.invokevirtual 191, 3) := by decide +kernel
theorem dX8_area_107 : decode cX8_area 107 = .ok (.aload_n 0, 1) := by decide +kernel
theorem dX8_area_108 : decode cX8_area 108 = .ok (.getfield 57, 3) := by decide +kernel
theorem dX8_area_111 : decode cX8_area 111 = .ok (.invokevirtual 183, 3) := by decide +kernel
theorem dX8_area_114 : decode cX8_area 114 = .ok (.aload_n 0, 1) := by decide +kernel
theorem dX8_area_115 : decode cX8_area 115 = .ok (.lload 4, 2) := by decide +kernel
theorem dX8_area_117 : decode cX8_area 117 = .ok (.putfield 84, 3) := by decide +kernel
theorem dX8_area_120 : decode cX8_area 120 = .ok (.aload_n 0, 1) := by decide +kernel
theorem dX8_area_121 : decode cX8_area 121 = .ok (.getfield 57, 3) := by decide +kernel
theorem dX8_area_124 : decode cX8_area 124 = .ok (.iload_n 3, 1) := by decide +kernel
theorem dX8_area_125 : decode cX8_area 125 = .ok (.invokevirtual 186, 3) := by decide +kernel
theorem dX8_area_128 : decode cX8_area 128 = .ok (.lreturn, 1) := by decide +kernel
theorem dX8_turned_0 : decode cX8_turned 0 = .ok (.aload_n 0, 1) := by decide +kernel
theorem dX8_turned_1 : decode cX8_turned 1 = .ok (.getfield 31, 3) := by decide +kernel
theorem dX8_turned_4 : decode cX8_turned 4 = .ok (.invokevirtual 136, 3) := by decide +kernel
theorem dX8_turned_7 : decode cX8_turned 7 = .ok (.aload_n 0, 1) := by decide +kernel
theorem dX8_turned_8 : decode cX8_turned 8 = .ok (.iload_n 1, 1) := by decide +kernel
theorem dX8_turned_9 : decode cX8_turned 9 = .ok (.invokevirtual 194, 3) := by decide +kernel
theorem dX8_turned_12 : decode cX8_turned 12 = .ok (.ifCond .eq 20, 3) := by decide +kernel
theorem dX8_turned_15 : decode cX8_turned 15 = .ok (.aload_n 0, 1) := by decide +kernel
theorem dX8_turned_16 : decode cX8_turned 16 = .ok (.getfield 68, 3) := by decide +kernel
theorem dX8_turned_19 : decode cX8_turned 19 = .ok (.iload_n 1, 1) := by decide +kernel
theorem dX8_turned_20 : decode cX8_turned 20 = .ok (.iaload, 1) := by decide +kernel
theorem dX8_turned_21 : decode cX8_turned 21 = .ok (.iconst 2, 1) := by decide +kernel
theorem dX8_turned_22 : decode cX8_turned 22 = .ok (.if_icmp .ne 10, 3) := by decide +kernel
theorem dX8_turned_25 : decode cX8_turned 25 = .ok (.aload_n 0, 1) := by decide +kernel
theorem dX8_turned_26 : decode cX8_turned 26 = .ok (.invokevirtual 197, 3) := by decide +kernel
theorem dX8_turned_29 : decode cX8_turned 29 = .ok (.ifCond .eq 5, 3) := by decide +kernel
theorem dX8_turned_32 : decode cX8_turned 32 = .ok (.iconst 0, 1) := by decide +kernel
theorem dX8_turned_33 : decode cX8_turned 33 = .ok (.ireturn, 1) := by decide +kernel
theorem dX8_turned_34 : decode cX8_turned 34 = .ok (.iconst 1, 1) := by decide +kernel
theorem dX8_turned_35 : decode cX8_turned 35 = .ok (.istore_n 2, 1) := by decide +kernel
theorem dX8_turned_36 : decode cX8_turned 36 = .ok (.iconst 0, 1) := by decide +kernel
theorem dX8_turned_37 : decode cX8_turned 37 = .ok (.istore_n 3, 1) := by decide +kernel
theorem dX8_turned_38 : decode cX8_turned 38 = .ok (.iload_n 3, 1) := by decide +kernel
theorem dX8_turned_39 : decode cX8_turned 39 = .ok (.aload_n 0, 1) := by decide +kernel
theorem dX8_turned_40 : decode cX8_turned 40 = .ok (.getfield 10, 3) := by decide +kernel
theorem dX8_turned_43 : decode cX8_turned 43 = .ok (.getfield 201, 3) := by decide +kernel
theorem dX8_turned_46 : decode cX8_turned 46 = .ok (.if_icmp .ge 45, 3) := by decide +kernel
theorem dX8_turned_49 : decode cX8_turned 49 = .ok (.iconst 0, 1) := by decide +kernel
theorem dX8_turned_50 : decode cX8_turned 50 = .ok (.istore 4, 2) := by decide +kernel
theorem dX8_turned_52 : decode cX8_turned 52 = .ok (.iload 4, 2) := by decide +kernel
theorem dX8_turned_54 : decode cX8_turned 54 = .ok (.iconst 4, 1) := by decide +kernel
theorem dX8_turned_55 : decode cX8_turned 55 = .ok (.if_icmp .gt 30, 3) := by decide +kernel
theorem dX8_turned_58 : decode cX8_turned 58 = .ok (.iload_n 2, 1) := by decide +kernel
theorem dX8_turned_59 : decode cX8_turned 59 = .ok (.ifCond .eq 18, 3) := by decide +kernel
theorem dX8_turned_62 : decode cX8_turned 62 = .ok (.aload_n 0, 1) := by decide +kernel
theorem dX8_turned_63 : decode cX8_turned 63 = .ok (.iload_n 1, 1) := by decide +kernel
theorem dX8_turned_64 : decode cX8_turned 64 = .ok (.iload_n 3, 1) := by decide +kernel
theorem dX8_turned_65 : decode cX8_turned 65 = .ok (.iload 4, 2) := by decide +kernel
theorem dX8_turned_67 : decode cX8_turned 67 = .ok (.invokevirtual 204, 3) := by decide +kernel
theorem dX8_turned_70 : decode cX8_turned 70 = .ok (.ifCond .eq 7, 3) := by decide +kernel
theorem dX8_turned_73 : decode cX8_turned 73 = .ok (.iconst 1, 1) := by decide +kernel
theorem dX8_turned_74 : decode cX8_turned 74 = .ok (.goto 4, 3) := by decide +kernel
theorem dX8_turned_77 : decode cX8_turned 77 = .ok (.iconst 0, 1) := by decide +kernel
theorem dX8_turned_78 : decode cX8_turned 78 = .ok (.istore_n 2, 1) := by decide +kernel
theorem dX8_turned_79 : decode cX8_turned 79 = .ok (.iinc 4 1, 3) := by decide +kernel
theorem dX8_turned_82 : decode cX8_turned 82 = .ok (.goto (-30), 3) := by decide +kernel
theorem dX8_turned_85 : decode cX8_turned 85 = .ok (.iinc 3 1, 3) := by decide +kernel
theorem dX8_turned_88 : decode cX8_turned 88 = .ok (.goto (-50), 3) := by decide +kernel
theorem dX8_turned_91 : decode cX8_turned 91 = .ok (.iload_n 2, 1) := by decide +kernel
theorem dX8_turned_92 : decode cX8_turned 92 = .ok (.ireturn, 1) := by decide +kernel
theorem dX8_sums_0 : decode cX8_sums 0 = .ok (.aload_n 0, 1) := by decide +kernel
theorem dX8_sums_1 : decode cX8_sums 1 = .ok (.getfield 31, 3) := by decide +kernel
theorem dX8_sums_4 : decode cX8_sums 4 = .ok (.invokevirtual 136, 3) := by decide +kernel
theorem dX8_sums_7 : decode cX8_sums 7 = .ok (.aload_n 0, 1) := by decide +kernel
theorem dX8_sums_8 : decode cX8_sums 8 = .ok (.invokevirtual 197, 3) := by decide +kernel
theorem dX8_sums_11 : decode cX8_sums 11 = .ok (.ifCond .eq 5, 3) := by decide +kernel
theorem dX8_sums_14 : decode cX8_sums 14 = .ok (.iconst 0, 1) := by decide +kernel
theorem dX8_sums_15 : decode cX8_sums 15 = .ok (.ireturn, 1) := by decide +kernel
theorem dX8_sums_16 : decode cX8_sums 16 = .ok (.aload_n 0, 1) := by decide +kernel
theorem dX8_sums_17 : decode cX8_sums 17 = .ok (.getfield 40, 3) := by decide +kernel
theorem dX8_sums_20 : decode cX8_sums 20 = .ok (.invokevirtual 207, 3) := by decide +kernel
theorem dX8_sums_23 : decode cX8_sums 23 = .ok (.iconst 1, 1) := by decide +kernel
theorem dX8_sums_24 : decode cX8_sums 24 = .ok (.istore_n 1, 1) := by decide +kernel
theorem dX8_sums_25 : decode cX8_sums 25 = .ok (.iconst 0, 1) := by decide +kernel
theorem dX8_sums_26 : decode cX8_sums 26 = .ok (.istore_n 2, 1) := by decide +kernel
theorem dX8_sums_27 : decode cX8_sums 27 = .ok (.iload_n 2, 1) := by decide +kernel
theorem dX8_sums_28 : decode cX8_sums 28 = .ok (.aload_n 0, 1) := by decide +kernel
theorem dX8_sums_29 : decode cX8_sums 29 = .ok (.getfield 10, 3) := by decide +kernel
theorem dX8_sums_32 : decode cX8_sums 32 = .ok (.getfield 201, 3) := by decide +kernel
theorem dX8_sums_35 : decode cX8_sums 35 = .ok (.if_icmp .ge 83, 3) := by decide +kernel
theorem dX8_sums_38 : decode cX8_sums 38 = .ok (.iconst 0, 1) := by decide +kernel
theorem dX8_sums_39 : decode cX8_sums 39 = .ok (.istore_n 3, 1) := by decide +kernel
theorem dX8_sums_40 : decode cX8_sums 40 = .ok (.iload_n 3, 1) := by decide +kernel
theorem dX8_sums_41 : decode cX8_sums 41 = .ok (.iconst 4, 1) := by decide +kernel
theorem dX8_sums_42 : decode cX8_sums 42 = .ok (.if_icmp .gt 70, 3) := by decide +kernel
theorem dX8_sums_45 : decode cX8_sums 45 = .ok (.aload_n 0, 1) := by decide +kernel
theorem dX8_sums_46 : decode cX8_sums 46 = .ok (.getfield 40, 3) := by decide +kernel
theorem dX8_sums_49 : decode cX8_sums 49 = .ok (.iload_n 2, 1) := by decide +kernel
theorem dX8_sums_50 : decode cX8_sums 50 = .ok (.iload_n 3, 1) := by decide +kernel
theorem dX8_sums_51 : decode cX8_sums 51 = .ok (.invokevirtual 166, 3) := by decide +kernel
theorem dX8_sums_54 : decode cX8_sums 54 = .ok (.aload_n 0, 1) := by decide +kernel
theorem dX8_sums_55 : decode cX8_sums 55 = .ok (.getfield 40, 3) := by decide +kernel
theorem dX8_sums_58 : decode cX8_sums 58 = .ok (.aload_n 0, 1) := by decide +kernel
theorem dX8_sums_59 : decode cX8_sums 59 = .ok (.getfield 64, 3) := by decide +kernel
theorem dX8_sums_62 : decode cX8_sums 62 = .ok (.invokevirtual 173, 3) := by decide +kernel
theorem dX8_sums_65 : decode cX8_sums 65 = .ok (.aload_n 0, 1) := by decide +kernel
theorem dX8_sums_66 : decode cX8_sums 66 = .ok (.getfield 40, 3) := by decide +kernel
theorem dX8_sums_69 : decode cX8_sums 69 = .ok (.aload_n 0, 1) := by decide +kernel
theorem dX8_sums_70 : decode cX8_sums 70 = .ok (.getfield 57, 3) := by decide +kernel
theorem dX8_sums_73 : decode cX8_sums 73 = .ok (.getfield 177, 3) := by decide +kernel
theorem dX8_sums_76 : decode cX8_sums 76 = .ok (.invokevirtual 180, 3) := by decide +kernel
theorem dX8_sums_79 : decode cX8_sums 79 = .ok (.iload_n 1, 1) := by decide +kernel
theorem dX8_sums_80 : decode cX8_sums 80 = .ok (.ifCond .eq 24, 3) := by decide +kernel
theorem dX8_sums_83 : decode cX8_sums 83 = .ok (.aload_n 0, 1) := by decide +kernel
theorem dX8_sums_84 : decode cX8_sums 84 = .ok (.getfield 64, 3) := by decide +kernel
theorem dX8_sums_87 : decode cX8_sums 87 = .ok (.aload_n 0, 1) := by decide +kernel
theorem dX8_sums_88 : decode cX8_sums 88 = .ok (.getfield 57, 3) := by decide +kernel
theorem dX8_sums_91 : decode cX8_sums 91 = .ok (.getfield 177, 3) := by decide +kernel
theorem dX8_sums_94 : decode cX8_sums 94 = .ok (.invokevirtual 210, 3) := by decide +kernel
theorem dX8_sums_97 : decode cX8_sums 97 = .ok (.ifCond .eq 7, 3) := by decide +kernel
theorem dX8_sums_100 : decode cX8_sums 100 = .ok (.iconst 1, 1) := by decide +kernel
theorem dX8_sums_101 : decode cX8_sums 101 = .ok (.goto 4, 3) := by decide +kernel
theorem dX8_sums_104 : decode cX8_sums 104 = .ok (.iconst 0, 1) := by decide +kernel
theorem dX8_sums_105 : decode cX8_sums 105 = .ok (.istore_n 1, 1) := by decide +kernel
theorem dX8_sums_106 : decode cX8_sums 106 = .ok (.iinc 3 1, 3) := by decide +kernel
theorem dX8_sums_109 : decode cX8_sums 109 = .ok (.goto (-69), 3) := by decide +kernel
theorem dX8_sums_112 : decode cX8_sums 112 = .ok (.iinc 2 1, 3) := by decide +kernel
theorem dX8_sums_115 : decode cX8_sums 115 = .ok (.goto (-88), 3) := by decide +kernel
theorem dX8_sums_118 : decode cX8_sums 118 = .ok (.aload_n 0, 1) := by decide +kernel
theorem dX8_sums_119 : decode cX8_sums 119 = .ok (.ldc2_w 82, 3) := by decide +kernel
theorem dX8_sums_122 : decode cX8_sums 122 = .ok (.putfield 84, 3) := by decide +kernel
theorem dX8_sums_125 : decode cX8_sums 125 = .ok (.iload_n 1, 1) := by decide +kernel
theorem dX8_sums_126 : decode cX8_sums 126 = .ok (.ireturn, 1) := by decide +kernel
theorem dX8_settled_0 : decode cX8_settled 0 = .ok (.aload_n 0, 1) := by decide +kernel
theorem dX8_settled_1 : decode cX8_settled 1 = .ok (.iload_n 1, 1) := by decide +kernel
theorem dX8_settled_2 : decode cX8_settled 2 = .ok (.invokevirtual 214, 3) := by decide +kernel
theorem dX8_settled_5 : decode cX8_settled 5 = .ok (.ifCond .eq 19, 3) := by decide +kernel
theorem dX8_settled_8 : decode cX8_settled 8 = .ok (.lload_n 2, 1) := by decide +kernel
theorem dX8_settled_9 : decode cX8_settled 9 = .ok (.ldc2_w 217, 3) := by decide +kernel
theorem dX8_settled_12 : decode cX8_settled 12 = .ok (.lcmp, 1) := by decide +kernel
theorem dX8_settled_13 : decode cX8_settled 13 = .ok (.ifCond .lt 11, 3) := by decide +kernel
theorem dX8_settled_16 : decode cX8_settled 16 = .ok (.lload_n 2, 1) := by decide +kernel
theorem dX8_settled_17 : decode cX8_settled 17 = .ok (.ldc2_w 219, 3) := by decide +kernel
theorem dX8_settled_20 : decode cX8_settled 20 = .ok (.lcmp, 1) := by decide +kernel
theorem dX8_settled_21 : decode cX8_settled 21 = .ok (.ifCond .le 5, 3) := by decide +kernel
theorem dX8_settled_24 : decode cX8_settled 24 = .ok (.iconst 0, 1) := by decide +kernel
theorem dX8_settled_25 : decode cX8_settled 25 = .ok (.ireturn, 1) := by decide +kernel
theorem dX8_settled_26 : decode cX8_settled 26 = .ok (.aload_n 0, 1) := by decide +kernel
theorem dX8_settled_27 : decode cX8_settled 27 = .ok (.getfield 10, 3) := by decide +kernel
theorem dX8_settled_30 : decode cX8_settled 30 = .ok (.getfield 130, 3) := by decide +kernel
theorem dX8_settled_33 : decode cX8_settled 33 = .ok (.iload_n 1, 1) := by decide +kernel
theorem dX8_settled_34 : decode cX8_settled 34 = .ok (.lload_n 2, 1) := by decide +kernel
theorem dX8_settled_35 : decode cX8_settled 35 = .ok (.lastore, 1) := by decide +kernel
theorem dX8_settled_36 : decode cX8_settled 36 = .ok (.aload_n 0, 1) := by decide +kernel
theorem dX8_settled_37 : decode cX8_settled 37 = .ok (.ldc2_w 82, 3) := by decide +kernel
theorem dX8_settled_40 : decode cX8_settled 40 = .ok (.putfield 84, 3) := by decide +kernel
theorem dX8_settled_43 : decode cX8_settled 43 = .ok (.iconst 1, 1) := by decide +kernel
theorem dX8_settled_44 : decode cX8_settled 44 = .ok (.ireturn, 1) := by decide +kernel
theorem dX8_move_0 : decode cX8_move 0 = .ok (.aload_n 0, 1) := by decide +kernel
theorem dX8_move_1 : decode cX8_move 1 = .ok (.getfield 31, 3) := by decide +kernel
theorem dX8_move_4 : decode cX8_move 4 = .ok (.invokevirtual 136, 3) := by decide +kernel
theorem dX8_move_7 : decode cX8_move 7 = .ok (.aload_n 0, 1) := by decide +kernel
theorem dX8_move_8 : decode cX8_move 8 = .ok (.iload_n 1, 1) := by decide +kernel
theorem dX8_move_9 : decode cX8_move 9 = .ok (.invokevirtual 221, 3) := by decide +kernel
theorem dX8_move_12 : decode cX8_move 12 = .ok (.ifCond .eq 39, 3) := by decide +kernel
theorem dX8_move_15 : decode cX8_move 15 = .ok (.lload_n 2, 1) := by decide +kernel
theorem dX8_move_16 : decode cX8_move 16 = .ok (.ldc2_w 217, 3) := by decide +kernel
theorem dX8_move_19 : decode cX8_move 19 = .ok (.lcmp, 1) := by decide +kernel
theorem dX8_move_20 : decode cX8_move 20 = .ok (.ifCond .lt 31, 3) := by decide +kernel
theorem dX8_move_23 : decode cX8_move 23 = .ok (.lload_n 2, 1) := by decide +kernel
theorem dX8_move_24 : decode cX8_move 24 = .ok (.ldc2_w 219, 3) := by decide +kernel
theorem dX8_move_27 : decode cX8_move 27 = .ok (.lcmp, 1) := by decide +kernel
theorem dX8_move_28 : decode cX8_move 28 = .ok (.ifCond .gt 23, 3) := by decide +kernel
theorem dX8_move_31 : decode cX8_move 31 = .ok (.lload 4, 2) := by decide +kernel
theorem dX8_move_33 : decode cX8_move 33 = .ok (.lconst 1, 1) := by decide +kernel
theorem dX8_move_34 : decode cX8_move 34 = .ok (.lcmp, 1) := by decide +kernel
theorem dX8_move_35 : decode cX8_move 35 = .ok (.ifCond .lt 16, 3) := by decide +kernel
theorem dX8_move_38 : decode cX8_move 38 = .ok (.lload 4, 2) := by decide +kernel
theorem dX8_move_40 : decode cX8_move 40 = .ok (.ldc2_w 219, 3) := by decide +kernel
theorem dX8_move_43 : decode cX8_move 43 = .ok (.lcmp, 1) := by decide +kernel
theorem dX8_move_44 : decode cX8_move 44 = .ok (.ifCond .gt 7, 3) := by decide +kernel
theorem dX8_move_47 : decode cX8_move 47 = .ok (.iconst 1, 1) := by decide +kernel
theorem dX8_move_48 : decode cX8_move 48 = .ok (.goto 4, 3) := by decide +kernel
theorem dX8_move_51 : decode cX8_move 51 = .ok (.iconst 0, 1) := by decide +kernel
theorem dX8_move_52 : decode cX8_move 52 = .ok (.istore 7, 2) := by decide +kernel
theorem dX8_move_54 : decode cX8_move 54 = .ok (.iload 7, 2) := by decide +kernel
theorem dX8_move_56 : decode cX8_move 56 = .ok (.ifCond .eq 16, 3) := by decide +kernel
theorem dX8_move_59 : decode cX8_move 59 = .ok (.iload 6, 2) := by decide +kernel
theorem dX8_move_61 : decode cX8_move 61 = .ok (.iconst (-1), 1) := by decide +kernel
theorem dX8_move_62 : decode cX8_move 62 = .ok (.if_icmp .lt 10, 3) := by decide +kernel
theorem dX8_move_65 : decode cX8_move 65 = .ok (.aload_n 0, 1) := by decide +kernel
theorem dX8_move_66 : decode cX8_move 66 = .ok (.invokevirtual 197, 3) := by decide +kernel
theorem dX8_move_69 : decode cX8_move 69 = .ok (.ifCond .eq 9, 3) := by decide +kernel
theorem dX8_move_72 : decode cX8_move 72 = .ok (.iload 6, 2) := by decide +kernel
theorem dX8_move_74 : decode cX8_move 74 = .ok (.invokestatic 158, 3) := by decide +kernel
theorem dX8_move_77 : decode cX8_move 77 = .ok (.lreturn, 1) := by decide +kernel
theorem dX8_move_78 : decode cX8_move 78 = .ok (.ldc2_w 219, 3) := by decide +kernel
theorem dX8_move_81 : decode cX8_move 81 = .ok (.iload_n 1, 1) := by decide +kernel
theorem dX8_move_82 : decode cX8_move 82 = .ok (.i2l, 1) := by decide +kernel
theorem dX8_move_83 : decode cX8_move 83 = .ok (.ldc2_w 224, 3) := by decide +kernel
theorem dX8_move_86 : decode cX8_move 86 = .ok (.lmul, 1) := by decide +kernel
theorem dX8_move_87 : decode cX8_move 87 = .ok (.lload_n 2, 1) := by decide +kernel
theorem dX8_move_88 : decode cX8_move 88 = .ok (.ladd, 1) := by decide +kernel
theorem dX8_move_89 : decode cX8_move 89 = .ok (.ldc2_w 219, 3) := by decide +kernel
theorem dX8_move_92 : decode cX8_move 92 = .ok (.ladd, 1) := by decide +kernel
theorem dX8_move_93 : decode cX8_move 93 = .ok (.ldc2_w 226, 3) := by decide +kernel
theorem dX8_move_96 : decode cX8_move 96 = .ok (.lmul, 1) := by decide +kernel
theorem dX8_move_97 : decode cX8_move 97 = .ok (.ladd, 1) := by decide +kernel
theorem dX8_move_98 : decode cX8_move 98 = .ok (.lload 4, 2) := by decide +kernel
theorem dX8_move_100 : decode cX8_move 100 = .ok (.ladd, 1) := by decide +kernel
theorem dX8_move_101 : decode cX8_move 101 = .ok (.lstore 8, 2) := by decide +kernel
theorem dX8_move_103 : decode cX8_move 103 = .ok (.lload 8, 2) := by decide +kernel
theorem dX8_move_105 : decode cX8_move 105 = .ok (.aload_n 0, 1) := by decide +kernel
theorem dX8_move_106 : decode cX8_move 106 = .ok (.getfield 84, 3) := by decide +kernel
theorem dX8_move_109 : decode cX8_move 109 = .ok (.lcmp, 1) := by decide +kernel
theorem dX8_move_110 : decode cX8_move 110 = .ok (.ifCond .eq 24, 3) := by decide +kernel
theorem dX8_move_113 : decode cX8_move 113 = .ok (.aload_n 0, 1) := by decide +kernel
theorem dX8_move_114 : decode cX8_move 114 = .ok (.iload_n 1, 1) := by decide +kernel
theorem dX8_move_115 : decode cX8_move 115 = .ok (.lload_n 2, 1) := by decide +kernel
theorem dX8_move_116 : decode cX8_move 116 = .ok (.lload 4, 2) := by decide +kernel
theorem dX8_move_118 : decode cX8_move 118 = .ok (.invokevirtual 228, 3) := by decide +kernel
theorem dX8_move_121 : decode cX8_move 121 = .ok (.aload_n 0, 1) := by decide +kernel
theorem dX8_move_122 : decode cX8_move 122 = .ok (.getfield 57, 3) := by decide +kernel
theorem dX8_move_125 : decode cX8_move 125 = .ok (.invokevirtual 183, 3) := by decide +kernel
theorem dX8_move_128 : decode cX8_move 128 = .ok (.aload_n 0, 1) := by decide +kernel
theorem dX8_move_129 : decode cX8_move 129 = .ok (.lload 8, 2) := by decide +kernel
theorem dX8_move_131 : decode cX8_move 131 = .ok (.putfield 84, 3) := by decide +kernel
theorem dX8_move_134 : decode cX8_move 134 = .ok (.aload_n 0, 1) := by decide +kernel
theorem dX8_move_135 : decode cX8_move 135 = .ok (.getfield 57, 3) := by decide +kernel
theorem dX8_move_138 : decode cX8_move 138 = .ok (.iload 6, 2) := by decide +kernel
theorem dX8_move_140 : decode cX8_move 140 = .ok (.invokevirtual 186, 3) := by decide +kernel
theorem dX8_move_143 : decode cX8_move 143 = .ok (.lreturn, 1) := by decide +kernel
theorem dX8_count_0 : decode cX8_count 0 = .ok (.iload_n 1, 1) := by decide +kernel
theorem dX8_count_1 : decode cX8_count 1 = .ok (.tableswitch 73 0 4 #[35, 43, 48, 56, 64], 35) := by decide +kernel
theorem dX8_count_36 : decode cX8_count 36 = .ok (.aload_n 0, 1) := by decide +kernel
theorem dX8_count_37 : decode cX8_count 37 = .ok (.getfield 10, 3) := by decide +kernel
theorem dX8_count_40 : decode cX8_count 40 = .ok (.getfield 201, 3) := by decide +kernel
theorem dX8_count_43 : decode cX8_count 43 = .ok (.ireturn, 1) := by decide +kernel
theorem dX8_count_44 : decode cX8_count 44 = .ok (.aload_n 0, 1) := by decide +kernel
theorem dX8_count_45 : decode cX8_count 45 = .ok (.getfield 78, 3) := by decide +kernel
theorem dX8_count_48 : decode cX8_count 48 = .ok (.ireturn, 1) := by decide +kernel
theorem dX8_count_49 : decode cX8_count 49 = .ok (.aload_n 0, 1) := by decide +kernel
theorem dX8_count_50 : decode cX8_count 50 = .ok (.getfield 10, 3) := by decide +kernel
theorem dX8_count_53 : decode cX8_count 53 = .ok (.invokevirtual 232, 3) := by decide +kernel
theorem dX8_count_56 : decode cX8_count 56 = .ok (.ireturn, 1) := by decide +kernel
theorem dX8_count_57 : decode cX8_count 57 = .ok (.aload_n 0, 1) := by decide +kernel
theorem dX8_count_58 : decode cX8_count 58 = .ok (.getfield 10, 3) := by decide +kernel
theorem dX8_count_61 : decode cX8_count 61 = .ok (.invokevirtual 235, 3) := by decide +kernel
theorem dX8_count_64 : decode cX8_count 64 = .ok (.ireturn, 1) := by decide +kernel
theorem dX8_count_65 : decode cX8_count 65 = .ok (.aload_n 0, 1) := by decide +kernel
theorem dX8_count_66 : decode cX8_count 66 = .ok (.getfield 10, 3) := by decide +kernel
theorem dX8_count_69 : decode cX8_count 69 = .ok (.invokevirtual 238, 3) := by decide +kernel
theorem dX8_count_72 : decode cX8_count 72 = .ok (.l2i, 1) := by decide +kernel
theorem dX8_count_73 : decode cX8_count 73 = .ok (.ireturn, 1) := by decide +kernel
theorem dX8_count_74 : decode cX8_count 74 = .ok (.iconst (-1), 1) := by decide +kernel
theorem dX8_count_75 : decode cX8_count 75 = .ok (.ireturn, 1) := by decide +kernel
theorem dX8_changed_0 : decode cX8_changed 0 = .ok (.aload_n 0, 1) := by decide +kernel
theorem dX8_changed_1 : decode cX8_changed 1 = .ok (.getfield 31, 3) := by decide +kernel
theorem dX8_changed_4 : decode cX8_changed 4 = .ok (.invokevirtual 242, 3) := by decide +kernel
theorem dX8_changed_7 : decode cX8_changed 7 = .ok (.aload_n 0, 1) := by decide +kernel
theorem dX8_changed_8 : decode cX8_changed 8 = .ok (.ldc2_w 82, 3) := by decide +kernel
theorem dX8_changed_11 : decode cX8_changed 11 = .ok (.putfield 84, 3) := by decide +kernel
theorem dX8_changed_14 : decode cX8_changed 14 = .ok (.return_, 1) := by decide +kernel
theorem dX8_checkBeam_0 : decode cX8_checkBeam 0 = .ok (.iload_n 1, 1) := by decide +kernel
theorem dX8_checkBeam_1 : decode cX8_checkBeam 1 = .ok (.ifCond .lt 14, 3) := by decide +kernel
theorem dX8_checkBeam_4 : decode cX8_checkBeam 4 = .ok (.iload_n 1, 1) := by decide +kernel
theorem dX8_checkBeam_5 : decode cX8_checkBeam 5 = .ok (.aload_n 0, 1) := by decide +kernel
theorem dX8_checkBeam_6 : decode cX8_checkBeam 6 = .ok (.getfield 10, 3) := by decide +kernel
theorem dX8_checkBeam_9 : decode cX8_checkBeam 9 = .ok (.getfield 201, 3) := by decide +kernel
theorem dX8_checkBeam_12 : decode cX8_checkBeam 12 = .ok (.if_icmp .lt 13, 3) := by decide +kernel
theorem dX8_checkBeam_15 : decode cX8_checkBeam 15 = .ok (.new 245, 3) := by decide +kernel
theorem dX8_checkBeam_18 : decode cX8_checkBeam 18 = .ok (.dup, 1) := by decide +kernel
theorem dX8_checkBeam_19 : decode cX8_checkBeam 19 = .ok (.ldc 247, 2) := by decide +kernel
theorem dX8_checkBeam_21 : decode cX8_checkBeam 21 = .ok (.invokespecial 249, 3) := by decide +kernel
theorem dX8_checkBeam_24 : decode cX8_checkBeam 24 = .ok (.athrow, 1) := by decide +kernel
theorem dX8_checkBeam_25 : decode cX8_checkBeam 25 = .ok (.return_, 1) := by decide +kernel
theorem dX8_checkNode_0 : decode cX8_checkNode 0 = .ok (.aload_n 0, 1) := by decide +kernel
theorem dX8_checkNode_1 : decode cX8_checkNode 1 = .ok (.iload_n 1, 1) := by decide +kernel
theorem dX8_checkNode_2 : decode cX8_checkNode 2 = .ok (.invokevirtual 221, 3) := by decide +kernel
theorem dX8_checkNode_5 : decode cX8_checkNode 5 = .ok (.ifCond .ne 13, 3) := by decide +kernel
theorem dX8_checkNode_8 : decode cX8_checkNode 8 = .ok (.new 245, 3) := by decide +kernel
theorem dX8_checkNode_11 : decode cX8_checkNode 11 = .ok (.dup, 1) := by decide +kernel
theorem dX8_checkNode_12 : decode cX8_checkNode 12 = .ok (.ldc 252, 2) := by decide +kernel
theorem dX8_checkNode_14 : decode cX8_checkNode 14 = .ok (.invokespecial 249, 3) := by decide +kernel
theorem dX8_checkNode_17 : decode cX8_checkNode 17 = .ok (.athrow, 1) := by decide +kernel
theorem dX8_checkNode_18 : decode cX8_checkNode 18 = .ok (.return_, 1) := by decide +kernel
theorem dX8_isNode_0 : decode cX8_isNode 0 = .ok (.iload_n 1, 1) := by decide +kernel
theorem dX8_isNode_1 : decode cX8_isNode 1 = .ok (.ifCond .lt 18, 3) := by decide +kernel
theorem dX8_isNode_4 : decode cX8_isNode 4 = .ok (.iload_n 1, 1) := by decide +kernel
theorem dX8_isNode_5 : decode cX8_isNode 5 = .ok (.aload_n 0, 1) := by decide +kernel
theorem dX8_isNode_6 : decode cX8_isNode 6 = .ok (.getfield 10, 3) := by decide +kernel
theorem dX8_isNode_9 : decode cX8_isNode 9 = .ok (.getfield 201, 3) := by decide +kernel
theorem dX8_isNode_12 : decode cX8_isNode 12 = .ok (.if_icmp .gt 7, 3) := by decide +kernel
theorem dX8_isNode_15 : decode cX8_isNode 15 = .ok (.iconst 1, 1) := by decide +kernel
theorem dX8_isNode_16 : decode cX8_isNode 16 = .ok (.goto 4, 3) := by decide +kernel
theorem dX8_isNode_19 : decode cX8_isNode 19 = .ok (.iconst 0, 1) := by decide +kernel
theorem dX8_isNode_20 : decode cX8_isNode 20 = .ok (.ireturn, 1) := by decide +kernel
theorem dX8_isHeld_0 : decode cX8_isHeld 0 = .ok (.aload_n 0, 1) := by decide +kernel
theorem dX8_isHeld_1 : decode cX8_isHeld 1 = .ok (.iload_n 1, 1) := by decide +kernel
theorem dX8_isHeld_2 : decode cX8_isHeld 2 = .ok (.invokevirtual 221, 3) := by decide +kernel
theorem dX8_isHeld_5 : decode cX8_isHeld 5 = .ok (.ifCond .eq 19, 3) := by decide +kernel
theorem dX8_isHeld_8 : decode cX8_isHeld 8 = .ok (.aload_n 0, 1) := by decide +kernel
theorem dX8_isHeld_9 : decode cX8_isHeld 9 = .ok (.getfield 10, 3) := by decide +kernel
theorem dX8_isHeld_12 : decode cX8_isHeld 12 = .ok (.getfield 123, 3) := by decide +kernel
theorem dX8_isHeld_15 : decode cX8_isHeld 15 = .ok (.iload_n 1, 1) := by decide +kernel
theorem dX8_isHeld_16 : decode cX8_isHeld 16 = .ok (.baload, 1) := by decide +kernel
theorem dX8_isHeld_17 : decode cX8_isHeld 17 = .ok (.ifCond .eq 7, 3) := by decide +kernel
theorem dX8_isHeld_20 : decode cX8_isHeld 20 = .ok (.iconst 1, 1) := by decide +kernel
theorem dX8_isHeld_21 : decode cX8_isHeld 21 = .ok (.goto 4, 3) := by decide +kernel
theorem dX8_isHeld_24 : decode cX8_isHeld 24 = .ok (.iconst 0, 1) := by decide +kernel
theorem dX8_isHeld_25 : decode cX8_isHeld 25 = .ok (.ireturn, 1) := by decide +kernel
theorem dX8_isPlace_0 : decode cX8_isPlace 0 = .ok (.iload_n 1, 1) := by decide +kernel
theorem dX8_isPlace_1 : decode cX8_isPlace 1 = .ok (.ifCond .lt 27, 3) := by decide +kernel
theorem dX8_isPlace_4 : decode cX8_isPlace 4 = .ok (.iload_n 1, 1) := by decide +kernel
theorem dX8_isPlace_5 : decode cX8_isPlace 5 = .ok (.aload_n 0, 1) := by decide +kernel
theorem dX8_isPlace_6 : decode cX8_isPlace 6 = .ok (.getfield 10, 3) := by decide +kernel
theorem dX8_isPlace_9 : decode cX8_isPlace 9 = .ok (.getfield 201, 3) := by decide +kernel
theorem dX8_isPlace_12 : decode cX8_isPlace 12 = .ok (.if_icmp .ge 16, 3) := by decide +kernel
theorem dX8_isPlace_15 : decode cX8_isPlace 15 = .ok (.iload_n 2, 1) := by decide +kernel
theorem dX8_isPlace_16 : decode cX8_isPlace 16 = .ok (.ifCond .lt 12, 3) := by decide +kernel
theorem dX8_isPlace_19 : decode cX8_isPlace 19 = .ok (.iload_n 2, 1) := by decide +kernel
theorem dX8_isPlace_20 : decode cX8_isPlace 20 = .ok (.iconst 4, 1) := by decide +kernel
theorem dX8_isPlace_21 : decode cX8_isPlace 21 = .ok (.if_icmp .gt 7, 3) := by decide +kernel
theorem dX8_isPlace_24 : decode cX8_isPlace 24 = .ok (.iconst 1, 1) := by decide +kernel
theorem dX8_isPlace_25 : decode cX8_isPlace 25 = .ok (.goto 4, 3) := by decide +kernel
theorem dX8_isPlace_28 : decode cX8_isPlace 28 = .ok (.iconst 0, 1) := by decide +kernel
theorem dX8_isPlace_29 : decode cX8_isPlace 29 = .ok (.ireturn, 1) := by decide +kernel
theorem dX8_isRow_0 : decode cX8_isRow 0 = .ok (.iload_n 1, 1) := by decide +kernel
theorem dX8_isRow_1 : decode cX8_isRow 1 = .ok (.ifCond .lt 15, 3) := by decide +kernel
theorem dX8_isRow_4 : decode cX8_isRow 4 = .ok (.iload_n 1, 1) := by decide +kernel
theorem dX8_isRow_5 : decode cX8_isRow 5 = .ok (.aload_n 0, 1) := by decide +kernel
theorem dX8_isRow_6 : decode cX8_isRow 6 = .ok (.getfield 78, 3) := by decide +kernel
theorem dX8_isRow_9 : decode cX8_isRow 9 = .ok (.if_icmp .ge 7, 3) := by decide +kernel
theorem dX8_isRow_12 : decode cX8_isRow 12 = .ok (.iconst 1, 1) := by decide +kernel
theorem dX8_isRow_13 : decode cX8_isRow 13 = .ok (.goto 4, 3) := by decide +kernel
theorem dX8_isRow_16 : decode cX8_isRow 16 = .ok (.iconst 0, 1) := by decide +kernel
theorem dX8_isRow_17 : decode cX8_isRow 17 = .ok (.ireturn, 1) := by decide +kernel
theorem dX8_isLoose_0 : decode cX8_isLoose 0 = .ok (.aload_n 0, 1) := by decide +kernel
theorem dX8_isLoose_1 : decode cX8_isLoose 1 = .ok (.getfield 31, 3) := by decide +kernel
theorem dX8_isLoose_4 : decode cX8_isLoose 4 = .ok (.invokevirtual 139, 3) := by decide +kernel
theorem dX8_isLoose_7 : decode cX8_isLoose 7 = .ok (.ifCond .le 7, 3) := by decide +kernel
theorem dX8_isLoose_10 : decode cX8_isLoose 10 = .ok (.iconst 1, 1) := by decide +kernel
theorem dX8_isLoose_11 : decode cX8_isLoose 11 = .ok (.goto 4, 3) := by decide +kernel
theorem dX8_isLoose_14 : decode cX8_isLoose 14 = .ok (.iconst 0, 1) := by decide +kernel
theorem dX8_isLoose_15 : decode cX8_isLoose 15 = .ok (.ireturn, 1) := by decide +kernel
theorem dX8_canBeTold_0 : decode cX8_canBeTold 0 = .ok (.iload_n 1, 1) := by decide +kernel
theorem dX8_canBeTold_1 : decode cX8_canBeTold 1 = .ok (.iconst 3, 1) := by decide +kernel
theorem dX8_canBeTold_2 : decode cX8_canBeTold 2 = .ok (.if_icmp .ne 21, 3) := by decide +kernel
theorem dX8_canBeTold_5 : decode cX8_canBeTold 5 = .ok (.aload_n 0, 1) := by decide +kernel
theorem dX8_canBeTold_6 : decode cX8_canBeTold 6 = .ok (.iload_n 2, 1) := by decide +kernel
theorem dX8_canBeTold_7 : decode cX8_canBeTold 7 = .ok (.invokevirtual 214, 3) := by decide +kernel
theorem dX8_canBeTold_10 : decode cX8_canBeTold 10 = .ok (.ifCond .eq 11, 3) := by decide +kernel
theorem dX8_canBeTold_13 : decode cX8_canBeTold 13 = .ok (.iload_n 3, 1) := by decide +kernel
theorem dX8_canBeTold_14 : decode cX8_canBeTold 14 = .ok (.ifCond .ne 7, 3) := by decide +kernel
theorem dX8_canBeTold_17 : decode cX8_canBeTold 17 = .ok (.iconst 1, 1) := by decide +kernel
theorem dX8_canBeTold_18 : decode cX8_canBeTold 18 = .ok (.goto 4, 3) := by decide +kernel
theorem dX8_canBeTold_21 : decode cX8_canBeTold 21 = .ok (.iconst 0, 1) := by decide +kernel
theorem dX8_canBeTold_22 : decode cX8_canBeTold 22 = .ok (.ireturn, 1) := by decide +kernel
theorem dX8_canBeTold_23 : decode cX8_canBeTold 23 = .ok (.iload_n 1, 1) := by decide +kernel
theorem dX8_canBeTold_24 : decode cX8_canBeTold 24 = .ok (.ifCond .lt 21, 3) := by decide +kernel
theorem dX8_canBeTold_27 : decode cX8_canBeTold 27 = .ok (.iload_n 1, 1) := by decide +kernel
theorem dX8_canBeTold_28 : decode cX8_canBeTold 28 = .ok (.iconst 2, 1) := by decide +kernel
theorem dX8_canBeTold_29 : decode cX8_canBeTold 29 = .ok (.if_icmp .gt 16, 3) := by decide +kernel
theorem dX8_canBeTold_32 : decode cX8_canBeTold 32 = .ok (.aload_n 0, 1) := by decide +kernel
theorem dX8_canBeTold_33 : decode cX8_canBeTold 33 = .ok (.iload_n 2, 1) := by decide +kernel
theorem dX8_canBeTold_34 : decode cX8_canBeTold 34 = .ok (.iload_n 3, 1) := by decide +kernel
theorem dX8_canBeTold_35 : decode cX8_canBeTold 35 = .ok (.invokevirtual 155, 3) := by decide +kernel
theorem dX8_canBeTold_38 : decode cX8_canBeTold 38 = .ok (.ifCond .eq 7, 3) := by decide +kernel
theorem dX8_canBeTold_41 : decode cX8_canBeTold 41 = .ok (.iconst 1, 1) := by decide +kernel
theorem dX8_canBeTold_42 : decode cX8_canBeTold 42 = .ok (.goto 4, 3) := by decide +kernel
theorem dX8_canBeTold_45 : decode cX8_canBeTold 45 = .ok (.iconst 0, 1) := by decide +kernel
theorem dX8_canBeTold_46 : decode cX8_canBeTold 46 = .ok (.ireturn, 1) := by decide +kernel
theorem dX8_isAnswered_0 : decode cX8_isAnswered 0 = .ok (.iload_n 2, 1) := by decide +kernel
theorem dX8_isAnswered_1 : decode cX8_isAnswered 1 = .ok (.iconst (-1), 1) := by decide +kernel
theorem dX8_isAnswered_2 : decode cX8_isAnswered 2 = .ok (.if_icmp .lt 18, 3) := by decide +kernel
theorem dX8_isAnswered_5 : decode cX8_isAnswered 5 = .ok (.aload_n 0, 1) := by decide +kernel
theorem dX8_isAnswered_6 : decode cX8_isAnswered 6 = .ok (.iload_n 1, 1) := by decide +kernel
theorem dX8_isAnswered_7 : decode cX8_isAnswered 7 = .ok (.invokevirtual 194, 3) := by decide +kernel
theorem dX8_isAnswered_10 : decode cX8_isAnswered 10 = .ok (.ifCond .eq 10, 3) := by decide +kernel
theorem dX8_isAnswered_13 : decode cX8_isAnswered 13 = .ok (.aload_n 0, 1) := by decide +kernel
theorem dX8_isAnswered_14 : decode cX8_isAnswered 14 = .ok (.invokevirtual 197, 3) := by decide +kernel
theorem dX8_isAnswered_17 : decode cX8_isAnswered 17 = .ok (.ifCond .eq 5, 3) := by decide +kernel
theorem dX8_isAnswered_20 : decode cX8_isAnswered 20 = .ok (.iconst 0, 1) := by decide +kernel
theorem dX8_isAnswered_21 : decode cX8_isAnswered 21 = .ok (.ireturn, 1) := by decide +kernel
theorem dX8_isAnswered_22 : decode cX8_isAnswered 22 = .ok (.aload_n 0, 1) := by decide +kernel
theorem dX8_isAnswered_23 : decode cX8_isAnswered 23 = .ok (.getfield 68, 3) := by decide +kernel
theorem dX8_isAnswered_26 : decode cX8_isAnswered 26 = .ok (.iload_n 1, 1) := by decide +kernel
theorem dX8_isAnswered_27 : decode cX8_isAnswered 27 = .ok (.iaload, 1) := by decide +kernel
theorem dX8_isAnswered_28 : decode cX8_isAnswered 28 = .ok (.iconst 3, 1) := by decide +kernel
theorem dX8_isAnswered_29 : decode cX8_isAnswered 29 = .ok (.if_icmp .ne 16, 3) := by decide +kernel
theorem dX8_isAnswered_32 : decode cX8_isAnswered 32 = .ok (.aload_n 0, 1) := by decide +kernel
theorem dX8_isAnswered_33 : decode cX8_isAnswered 33 = .ok (.aload_n 0, 1) := by decide +kernel
theorem dX8_isAnswered_34 : decode cX8_isAnswered 34 = .ok (.getfield 72, 3) := by decide +kernel
theorem dX8_isAnswered_37 : decode cX8_isAnswered 37 = .ok (.iload_n 1, 1) := by decide +kernel
theorem dX8_isAnswered_38 : decode cX8_isAnswered 38 = .ok (.iaload, 1) := by decide +kernel
theorem dX8_isAnswered_39 : decode cX8_isAnswered 39 = .ok (.invokevirtual 214, 3) := by decide +kernel
theorem dX8_isAnswered_42 : decode cX8_isAnswered 42 = .ok (.ifCond .eq 7, 3) := by decide +kernel
theorem dX8_isAnswered_45 : decode cX8_isAnswered 45 = .ok (.iconst 1, 1) := by decide +kernel
theorem dX8_isAnswered_46 : decode cX8_isAnswered 46 = .ok (.goto 4, 3) := by decide +kernel
theorem dX8_isAnswered_49 : decode cX8_isAnswered 49 = .ok (.iconst 0, 1) := by decide +kernel
theorem dX8_isAnswered_50 : decode cX8_isAnswered 50 = .ok (.ireturn, 1) := by decide +kernel
theorem dX8_refusal_0 : decode cX8_refusal 0 = .ok (.iload_n 0, 1) := by decide +kernel
theorem dX8_refusal_1 : decode cX8_refusal 1 = .ok (.iconst (-1), 1) := by decide +kernel
theorem dX8_refusal_2 : decode cX8_refusal 2 = .ok (.if_icmp .ne 9, 3) := by decide +kernel
theorem dX8_refusal_5 : decode cX8_refusal 5 = .ok (.ldc2_w 254, 3) := by decide +kernel
theorem dX8_refusal_8 : decode cX8_refusal 8 = .ok (.goto 6, 3) := by decide +kernel
theorem dX8_refusal_11 : decode cX8_refusal 11 = .ok (.ldc2_w 82, 3) := by decide +kernel
theorem dX8_refusal_14 : decode cX8_refusal 14 = .ok (.lreturn, 1) := by decide +kernel
theorem dX8_isExchanged_0 : decode cX8_isExchanged 0 = .ok (.aload_n 0, 1) := by decide +kernel
theorem dX8_isExchanged_1 : decode cX8_isExchanged 1 = .ok (.getfield 40, 3) := by decide +kernel
theorem dX8_isExchanged_4 : decode cX8_isExchanged 4 = .ok (.iconst 2, 1) := by decide +kernel
theorem dX8_isExchanged_5 : decode cX8_isExchanged 5 = .ok (.aload_n 0, 1) := by decide +kernel
theorem dX8_isExchanged_6 : decode cX8_isExchanged 6 = .ok (.getfield 72, 3) := by decide +kernel
theorem dX8_isExchanged_9 : decode cX8_isExchanged 9 = .ok (.iload_n 1, 1) := by decide +kernel
theorem dX8_isExchanged_10 : decode cX8_isExchanged 10 = .ok (.iaload, 1) := by decide +kernel
theorem dX8_isExchanged_11 : decode cX8_isExchanged 11 = .ok (.aload_n 0, 1) := by decide +kernel
theorem dX8_isExchanged_12 : decode cX8_isExchanged 12 = .ok (.getfield 75, 3) := by decide +kernel
theorem dX8_isExchanged_15 : decode cX8_isExchanged 15 = .ok (.iload_n 1, 1) := by decide +kernel
theorem dX8_isExchanged_16 : decode cX8_isExchanged 16 = .ok (.iaload, 1) := by decide +kernel
theorem dX8_isExchanged_17 : decode cX8_isExchanged 17 = .ok (.invokevirtual 162, 3) := by decide +kernel
theorem dX8_isExchanged_20 : decode cX8_isExchanged 20 = .ok (.aload_n 0, 1) := by decide +kernel
theorem dX8_isExchanged_21 : decode cX8_isExchanged 21 = .ok (.getfield 40, 3) := by decide +kernel
theorem dX8_isExchanged_24 : decode cX8_isExchanged 24 = .ok (.iload_n 2, 1) := by decide +kernel
theorem dX8_isExchanged_25 : decode cX8_isExchanged 25 = .ok (.iload_n 3, 1) := by decide +kernel
theorem dX8_isExchanged_26 : decode cX8_isExchanged 26 = .ok (.invokevirtual 166, 3) := by decide +kernel
theorem dX8_isExchanged_29 : decode cX8_isExchanged 29 = .ok (.aload_n 0, 1) := by decide +kernel
theorem dX8_isExchanged_30 : decode cX8_isExchanged 30 = .ok (.getfield 40, 3) := by decide +kernel
theorem dX8_isExchanged_33 : decode cX8_isExchanged 33 = .ok (.aload_n 0, 1) := by decide +kernel
theorem dX8_isExchanged_34 : decode cX8_isExchanged 34 = .ok (.getfield 64, 3) := by decide +kernel
theorem dX8_isExchanged_37 : decode cX8_isExchanged 37 = .ok (.invokevirtual 173, 3) := by decide +kernel
theorem dX8_isExchanged_40 : decode cX8_isExchanged 40 = .ok (.aload_n 0, 1) := by decide +kernel
theorem dX8_isExchanged_41 : decode cX8_isExchanged 41 = .ok (.getfield 44, 3) := by decide +kernel
theorem dX8_isExchanged_44 : decode cX8_isExchanged 44 = .ok (.iconst 2, 1) := by decide +kernel
theorem dX8_isExchanged_45 : decode cX8_isExchanged 45 = .ok (.iload_n 2, 1) := by decide +kernel
theorem dX8_isExchanged_46 : decode cX8_isExchanged 46 = .ok (.iload_n 3, 1) := by decide +kernel
theorem dX8_isExchanged_47 : decode cX8_isExchanged 47 = .ok (.invokevirtual 162, 3) := by decide +kernel
theorem dX8_isExchanged_50 : decode cX8_isExchanged 50 = .ok (.aload_n 0, 1) := by decide +kernel
theorem dX8_isExchanged_51 : decode cX8_isExchanged 51 = .ok (.getfield 44, 3) := by decide +kernel
theorem dX8_isExchanged_54 : decode cX8_isExchanged 54 = .ok (.aload_n 0, 1) := by decide +kernel
theorem dX8_isExchanged_55 : decode cX8_isExchanged 55 = .ok (.getfield 72, 3) := by decide +kernel
theorem dX8_isExchanged_58 : decode cX8_isExchanged 58 = .ok (.iload_n 1, 1) := by decide +kernel
theorem dX8_isExchanged_59 : decode cX8_isExchanged 59 = .ok (.iaload, 1) := by decide +kernel
theorem dX8_isExchanged_60 : decode cX8_isExchanged 60 = .ok (.aload_n 0, 1) := by decide +kernel
theorem dX8_isExchanged_61 : decode cX8_isExchanged 61 = .ok (.getfield 75, 3) := by decide +kernel
theorem dX8_isExchanged_64 : decode cX8_isExchanged 64 = .ok (.iload_n 1, 1) := by decide +kernel
theorem dX8_isExchanged_65 : decode cX8_isExchanged 65 = .ok (.iaload, 1) := by decide +kernel
theorem dX8_isExchanged_66 : decode cX8_isExchanged 66 = .ok (.invokevirtual 166, 3) := by decide +kernel
theorem dX8_isExchanged_69 : decode cX8_isExchanged 69 = .ok (.aload_n 0, 1) := by decide +kernel
theorem dX8_isExchanged_70 : decode cX8_isExchanged 70 = .ok (.getfield 44, 3) := by decide +kernel
theorem dX8_isExchanged_73 : decode cX8_isExchanged 73 = .ok (.aload_n 0, 1) := by decide +kernel
theorem dX8_isExchanged_74 : decode cX8_isExchanged 74 = .ok (.getfield 57, 3) := by decide +kernel
theorem dX8_isExchanged_77 : decode cX8_isExchanged 77 = .ok (.getfield 170, 3) := by decide +kernel
theorem dX8_isExchanged_80 : decode cX8_isExchanged 80 = .ok (.invokevirtual 173, 3) := by decide +kernel
theorem dX8_isExchanged_83 : decode cX8_isExchanged 83 = .ok (.aload_n 0, 1) := by decide +kernel
theorem dX8_isExchanged_84 : decode cX8_isExchanged 84 = .ok (.ldc2_w 82, 3) := by decide +kernel
theorem dX8_isExchanged_87 : decode cX8_isExchanged 87 = .ok (.putfield 84, 3) := by decide +kernel
theorem dX8_isExchanged_90 : decode cX8_isExchanged 90 = .ok (.aload_n 0, 1) := by decide +kernel
theorem dX8_isExchanged_91 : decode cX8_isExchanged 91 = .ok (.getfield 57, 3) := by decide +kernel
theorem dX8_isExchanged_94 : decode cX8_isExchanged 94 = .ok (.getfield 177, 3) := by decide +kernel
theorem dX8_isExchanged_97 : decode cX8_isExchanged 97 = .ok (.lconst 0, 1) := by decide +kernel
theorem dX8_isExchanged_98 : decode cX8_isExchanged 98 = .ok (.invokevirtual 256, 3) := by decide +kernel
theorem dX8_isExchanged_101 : decode cX8_isExchanged 101 = .ok (.aload_n 0, 1) := by decide +kernel
theorem dX8_isExchanged_102 : decode cX8_isExchanged 102 = .ok (.getfield 57, 3) := by decide +kernel
theorem dX8_isExchanged_105 : decode cX8_isExchanged 105 = .ok (.getfield 177, 3) := by decide +kernel
theorem dX8_isExchanged_108 : decode cX8_isExchanged 108 = .ok (.aload_n 0, 1) := by decide +kernel
theorem dX8_isExchanged_109 : decode cX8_isExchanged 109 = .ok (.getfield 64, 3) := by decide +kernel
theorem dX8_isExchanged_112 : decode cX8_isExchanged 112 = .ok (.aload_n 0, 1) := by decide +kernel
theorem dX8_isExchanged_113 : decode cX8_isExchanged 113 = .ok (.getfield 10, 3) := by decide +kernel
theorem dX8_isExchanged_116 : decode cX8_isExchanged 116 = .ok (.getfield 117, 3) := by decide +kernel
theorem dX8_isExchanged_119 : decode cX8_isExchanged 119 = .ok (.iload_n 2, 1) := by decide +kernel
theorem dX8_isExchanged_120 : decode cX8_isExchanged 120 = .ok (.laload, 1) := by decide +kernel
theorem dX8_isExchanged_121 : decode cX8_isExchanged 121 = .ok (.invokevirtual 260, 3) := by decide +kernel
theorem dX8_isExchanged_124 : decode cX8_isExchanged 124 = .ok (.aload_n 0, 1) := by decide +kernel
theorem dX8_isExchanged_125 : decode cX8_isExchanged 125 = .ok (.getfield 64, 3) := by decide +kernel
theorem dX8_isExchanged_128 : decode cX8_isExchanged 128 = .ok (.lconst 0, 1) := by decide +kernel
theorem dX8_isExchanged_129 : decode cX8_isExchanged 129 = .ok (.invokevirtual 256, 3) := by decide +kernel
theorem dX8_isExchanged_132 : decode cX8_isExchanged 132 = .ok (.aload_n 0, 1) := by decide +kernel
theorem dX8_isExchanged_133 : decode cX8_isExchanged 133 = .ok (.getfield 64, 3) := by decide +kernel
theorem dX8_isExchanged_136 : decode cX8_isExchanged 136 = .ok (.aload_n 0, 1) := by decide +kernel
theorem dX8_isExchanged_137 : decode cX8_isExchanged 137 = .ok (.getfield 57, 3) := by decide +kernel
theorem dX8_isExchanged_140 : decode cX8_isExchanged 140 = .ok (.getfield 170, 3) := by decide +kernel
theorem dX8_isExchanged_143 : decode cX8_isExchanged 143 = .ok (.aload_n 0, 1) := by decide +kernel
theorem dX8_isExchanged_144 : decode cX8_isExchanged 144 = .ok (.getfield 10, 3) := by decide +kernel
theorem dX8_isExchanged_147 : decode cX8_isExchanged 147 = .ok (.getfield 117, 3) := by decide +kernel
theorem dX8_isExchanged_150 : decode cX8_isExchanged 150 = .ok (.aload_n 0, 1) := by decide +kernel
theorem dX8_isExchanged_151 : decode cX8_isExchanged 151 = .ok (.getfield 72, 3) := by decide +kernel
theorem dX8_isExchanged_154 : decode cX8_isExchanged 154 = .ok (.iload_n 1, 1) := by decide +kernel
theorem dX8_isExchanged_155 : decode cX8_isExchanged 155 = .ok (.iaload, 1) := by decide +kernel
theorem dX8_isExchanged_156 : decode cX8_isExchanged 156 = .ok (.laload, 1) := by decide +kernel
theorem dX8_isExchanged_157 : decode cX8_isExchanged 157 = .ok (.invokevirtual 260, 3) := by decide +kernel
theorem dX8_isExchanged_160 : decode cX8_isExchanged 160 = .ok (.aload_n 0, 1) := by decide +kernel
theorem dX8_isExchanged_161 : decode cX8_isExchanged 161 = .ok (.getfield 64, 3) := by decide +kernel
theorem dX8_isExchanged_164 : decode cX8_isExchanged 164 = .ok (.aload_n 0, 1) := by decide +kernel
theorem dX8_isExchanged_165 : decode cX8_isExchanged 165 = .ok (.getfield 57, 3) := by decide +kernel
theorem dX8_isExchanged_168 : decode cX8_isExchanged 168 = .ok (.getfield 177, 3) := by decide +kernel
theorem dX8_isExchanged_171 : decode cX8_isExchanged 171 = .ok (.invokevirtual 210, 3) := by decide +kernel
theorem dX8_isExchanged_174 : decode cX8_isExchanged 174 = .ok (.ireturn, 1) := by decide +kernel
theorem dX8_measureSettled_0 : decode cX8_measureSettled 0 = .ok (.aload_n 0, 1) := by decide +kernel
theorem dX8_measureSettled_1 : decode cX8_measureSettled 1 = .ok (.getfield 57, 3) := by decide +kernel
theorem dX8_measureSettled_4 : decode cX8_measureSettled 4 = .ok (.getfield 170, 3) := by decide +kernel
theorem dX8_measureSettled_7 : decode cX8_measureSettled 7 = .ok (.lconst 0, 1) := by decide +kernel
theorem dX8_measureSettled_8 : decode cX8_measureSettled 8 = .ok (.invokevirtual 256, 3) := by decide +kernel
theorem dX8_measureSettled_11 : decode cX8_measureSettled 11 = .ok (.aload_n 0, 1) := by decide +kernel
theorem dX8_measureSettled_12 : decode cX8_measureSettled 12 = .ok (.getfield 57, 3) := by decide +kernel
theorem dX8_measureSettled_15 : decode cX8_measureSettled 15 = .ok (.getfield 177, 3) := by decide +kernel
theorem dX8_measureSettled_18 : decode cX8_measureSettled 18 = .ok (.lconst 0, 1) := by decide +kernel
theorem dX8_measureSettled_19 : decode cX8_measureSettled 19 = .ok (.invokevirtual 256, 3) := by decide +kernel
theorem dX8_measureSettled_22 : decode cX8_measureSettled 22 = .ok (.aload_n 0, 1) := by decide +kernel
theorem dX8_measureSettled_23 : decode cX8_measureSettled 23 = .ok (.getfield 10, 3) := by decide +kernel
theorem dX8_measureSettled_26 : decode cX8_measureSettled 26 = .ok (.getfield 123, 3) := by decide +kernel
theorem dX8_measureSettled_29 : decode cX8_measureSettled 29 = .ok (.iload_n 1, 1) := by decide +kernel
theorem dX8_measureSettled_30 : decode cX8_measureSettled 30 = .ok (.baload, 1) := by decide +kernel
theorem dX8_measureSettled_31 : decode cX8_measureSettled 31 = .ok (.ifCond .eq 37, 3) := by decide +kernel
theorem dX8_measureSettled_34 : decode cX8_measureSettled 34 = .ok (.aload_n 0, 1) := by decide +kernel
theorem dX8_measureSettled_35 : decode cX8_measureSettled 35 = .ok (.getfield 57, 3) := by decide +kernel
theorem dX8_measureSettled_38 : decode cX8_measureSettled 38 = .ok (.getfield 170, 3) := by decide +kernel
theorem dX8_measureSettled_41 : decode cX8_measureSettled 41 = .ok (.lload_n 2, 1) := by decide +kernel
theorem dX8_measureSettled_42 : decode cX8_measureSettled 42 = .ok (.aload_n 0, 1) := by decide +kernel
theorem dX8_measureSettled_43 : decode cX8_measureSettled 43 = .ok (.getfield 10, 3) := by decide +kernel
theorem dX8_measureSettled_46 : decode cX8_measureSettled 46 = .ok (.getfield 130, 3) := by decide +kernel
theorem dX8_measureSettled_49 : decode cX8_measureSettled 49 = .ok (.iload_n 1, 1) := by decide +kernel
theorem dX8_measureSettled_50 : decode cX8_measureSettled 50 = .ok (.laload, 1) := by decide +kernel
theorem dX8_measureSettled_51 : decode cX8_measureSettled 51 = .ok (.lmul, 1) := by decide +kernel
theorem dX8_measureSettled_52 : decode cX8_measureSettled 52 = .ok (.invokevirtual 256, 3) := by decide +kernel
theorem dX8_measureSettled_55 : decode cX8_measureSettled 55 = .ok (.aload_n 0, 1) := by decide +kernel
theorem dX8_measureSettled_56 : decode cX8_measureSettled 56 = .ok (.getfield 57, 3) := by decide +kernel
theorem dX8_measureSettled_59 : decode cX8_measureSettled 59 = .ok (.getfield 177, 3) := by decide +kernel
theorem dX8_measureSettled_62 : decode cX8_measureSettled 62 = .ok (.lload 4, 2) := by decide +kernel
theorem dX8_measureSettled_64 : decode cX8_measureSettled 64 = .ok (.invokevirtual 256, 3) := by decide +kernel
theorem dX8_measureSettled_67 : decode cX8_measureSettled 67 = .ok (.return_, 1) := by decide +kernel
theorem dX8_measureSettled_68 : decode cX8_measureSettled 68 = .ok (.iconst 0, 1) := by decide +kernel
theorem dX8_measureSettled_69 : decode cX8_measureSettled 69 = .ok (.istore 6, 2) := by decide +kernel
theorem dX8_measureSettled_71 : decode cX8_measureSettled 71 = .ok (.iload 6, 2) := by decide +kernel
theorem dX8_measureSettled_73 : decode cX8_measureSettled 73 = .ok (.aload_n 0, 1) := by decide +kernel
theorem dX8_measureSettled_74 : decode cX8_measureSettled 74 = .ok (.getfield 10, 3) := by decide +kernel
theorem dX8_measureSettled_77 : decode cX8_measureSettled 77 = .ok (.getfield 201, 3) := by decide +kernel
theorem dX8_measureSettled_80 : decode cX8_measureSettled 80 = .ok (.if_icmp .gt 77, 3) := by decide +kernel
theorem dX8_measureSettled_83 : decode cX8_measureSettled 83 = .ok (.aload_n 0, 1) := by decide +kernel
theorem dX8_measureSettled_84 : decode cX8_measureSettled 84 = .ok (.getfield 10, 3) := by decide +kernel
theorem dX8_measureSettled_87 : decode cX8_measureSettled 87 = .ok (.getfield 123, 3) := by decide +kernel
theorem dX8_measureSettled_90 : decode cX8_measureSettled 90 = .ok (.iload 6, 2) := by decide +kernel
theorem dX8_measureSettled_92 : decode cX8_measureSettled 92 = .ok (.baload, 1) := by decide +kernel
theorem dX8_measureSettled_93 : decode cX8_measureSettled 93 = .ok (.ifCond .eq 58, 3) := by decide +kernel
theorem dX8_measureSettled_96 : decode cX8_measureSettled 96 = .ok (.aload_n 0, 1) := by decide +kernel
theorem dX8_measureSettled_97 : decode cX8_measureSettled 97 = .ok (.getfield 10, 3) := by decide +kernel
theorem dX8_measureSettled_100 : decode cX8_measureSettled 100 = .ok (.getfield 130, 3) := by decide +kernel
theorem dX8_measureSettled_103 : decode cX8_measureSettled 103 = .ok (.iload 6, 2) := by decide +kernel
theorem dX8_measureSettled_105 : decode cX8_measureSettled 105 = .ok (.laload, 1) := by decide +kernel
theorem dX8_measureSettled_106 : decode cX8_measureSettled 106 = .ok (.lconst 0, 1) := by decide +kernel
theorem dX8_measureSettled_107 : decode cX8_measureSettled 107 = .ok (.lcmp, 1) := by decide +kernel
theorem dX8_measureSettled_108 : decode cX8_measureSettled 108 = .ok (.ifCond .eq 43, 3) := by decide +kernel
theorem dX8_measureSettled_111 : decode cX8_measureSettled 111 = .ok (.aload_n 0, 1) := by decide +kernel
theorem dX8_measureSettled_112 : decode cX8_measureSettled 112 = .ok (.getfield 40, 3) := by decide +kernel
theorem dX8_measureSettled_115 : decode cX8_measureSettled 115 = .ok (.iload_n 1, 1) := by decide +kernel
theorem dX8_measureSettled_116 : decode cX8_measureSettled 116 = .ok (.iload 6, 2) := by decide +kernel
theorem dX8_measureSettled_118 : decode cX8_measureSettled 118 = .ok (.aload_n 0, 1) := by decide +kernel
theorem dX8_measureSettled_119 : decode cX8_measureSettled 119 = .ok (.getfield 64, 3) := by decide +kernel
theorem dX8_measureSettled_122 : decode cX8_measureSettled 122 = .ok (.invokevirtual 264, 3) := by decide +kernel
theorem dX8_measureSettled_125 : decode cX8_measureSettled 125 = .ok (.aload_n 0, 1) := by decide +kernel
theorem dX8_measureSettled_126 : decode cX8_measureSettled 126 = .ok (.getfield 57, 3) := by decide +kernel
theorem dX8_measureSettled_129 : decode cX8_measureSettled 129 = .ok (.getfield 170, 3) := by decide +kernel
theorem dX8_measureSettled_132 : decode cX8_measureSettled 132 = .ok (.aload_n 0, 1) := by decide +kernel
theorem dX8_measureSettled_133 : decode cX8_measureSettled 133 = .ok (.getfield 64, 3) := by decide +kernel
theorem dX8_measureSettled_136 : decode cX8_measureSettled 136 = .ok (.lload_n 2, 1) := by decide +kernel
theorem dX8_measureSettled_137 : decode cX8_measureSettled 137 = .ok (.aload_n 0, 1) := by decide +kernel
theorem dX8_measureSettled_138 : decode cX8_measureSettled 138 = .ok (.getfield 10, 3) := by decide +kernel
theorem dX8_measureSettled_141 : decode cX8_measureSettled 141 = .ok (.getfield 130, 3) := by decide +kernel
theorem dX8_measureSettled_144 : decode cX8_measureSettled 144 = .ok (.iload 6, 2) := by decide +kernel
theorem dX8_measureSettled_146 : decode cX8_measureSettled 146 = .ok (.laload, 1) := by decide +kernel
theorem dX8_measureSettled_147 : decode cX8_measureSettled 147 = .ok (.lmul, 1) := by decide +kernel
theorem dX8_measureSettled_148 : decode cX8_measureSettled 148 = .ok (.invokevirtual 260, 3) := by decide +kernel
theorem dX8_measureSettled_151 : decode cX8_measureSettled 151 = .ok (.iinc 6 1, 3) := by decide +kernel
theorem dX8_measureSettled_154 : decode cX8_measureSettled 154 = .ok (.goto (-83), 3) := by decide +kernel
theorem dX8_measureSettled_157 : decode cX8_measureSettled 157 = .ok (.aload_n 0, 1) := by decide +kernel
theorem dX8_measureSettled_158 : decode cX8_measureSettled 158 = .ok (.getfield 57, 3) := by decide +kernel
theorem dX8_measureSettled_161 : decode cX8_measureSettled 161 = .ok (.getfield 177, 3) := by decide +kernel
theorem dX8_measureSettled_164 : decode cX8_measureSettled 164 = .ok (.aload_n 0, 1) := by decide +kernel
theorem dX8_measureSettled_165 : decode cX8_measureSettled 165 = .ok (.getfield 31, 3) := by decide +kernel
theorem dX8_measureSettled_168 : decode cX8_measureSettled 168 = .ok (.invokevirtual 268, 3) := by decide +kernel
theorem dX8_measureSettled_171 : decode cX8_measureSettled 171 = .ok (.lload 4, 2) := by decide +kernel
theorem dX8_measureSettled_173 : decode cX8_measureSettled 173 = .ok (.invokevirtual 260, 3) := by decide +kernel
theorem dX8_measureSettled_176 : decode cX8_measureSettled 176 = .ok (.return_, 1) := by decide +kernel
theorem dX9_init_0 : decode cX9_init 0 = .ok (.aload_n 0, 1) := by decide +kernel
theorem dX9_init_1 : decode cX9_init 1 = .ok (.invokespecial 1, 3) := by decide +kernel
theorem dX9_init_4 : decode cX9_init 4 = .ok (.aload_n 0, 1) := by decide +kernel
theorem dX9_init_5 : decode cX9_init 5 = .ok (.bipush 50, 2) := by decide +kernel
theorem dX9_init_7 : decode cX9_init 7 = .ok (.newarray .int, 2) := by decide +kernel
theorem dX9_init_9 : decode cX9_init 9 = .ok (.putfield 7, 3) := by decide +kernel
theorem dX9_init_12 : decode cX9_init 12 = .ok (.aload_n 0, 1) := by decide +kernel
theorem dX9_init_13 : decode cX9_init 13 = .ok (.iconst 3, 1) := by decide +kernel
theorem dX9_init_14 : decode cX9_init 14 = .ok (.newarray .int, 2) := by decide +kernel
theorem dX9_init_16 : decode cX9_init 16 = .ok (.putfield 13, 3) := by decide +kernel
theorem dX9_init_19 : decode cX9_init 19 = .ok (.aload_n 0, 1) := by decide +kernel
theorem dX9_init_20 : decode cX9_init 20 = .ok (.iconst 3, 1) := by decide +kernel
theorem dX9_init_21 : decode cX9_init 21 = .ok (.newarray .int, 2) := by decide +kernel
theorem dX9_init_23 : decode cX9_init 23 = .ok (.putfield 16, 3) := by decide +kernel
theorem dX9_init_26 : decode cX9_init 26 = .ok (.aload_n 0, 1) := by decide +kernel
theorem dX9_init_27 : decode cX9_init 27 = .ok (.bipush 6, 2) := by decide +kernel
