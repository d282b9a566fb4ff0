theorem dL_below_0 : decode cL_below 0 = .ok (.iload_n 0, 1) := by decide +kernel
theorem dL_below_1 : decode cL_below 1 = .ok (.ldc 7, 2) := by decide +kernel
theorem dL_below_3 : decode cL_below 3 = .ok (.iand, 1) := by decide +kernel
theorem dL_below_4 : decode cL_below 4 = .ok (.iload_n 1, 1) := by decide +kernel
theorem dL_below_5 : decode cL_below 5 = .ok (.irem, 1) := by decide +kernel
theorem dL_below_6 : decode cL_below 6 = .ok (.ireturn, 1) := by decide +kernel
theorem dL_cell_0 : decode cL_cell 0 = .ok (.iload_n 1, 1) := by decide +kernel
theorem dL_cell_1 : decode cL_cell 1 = .ok (.aload_n 0, 1) := by decide +kernel
theorem dL_cell_2 : decode cL_cell 2 = .ok (.arraylength, 1) := by decide +kernel
theorem dL_cell_3 : decode cL_cell 3 = .ok (.if_icmp .ge 9, 3) := by decide +kernel
theorem dL_cell_6 : decode cL_cell 6 = .ok (.aload_n 0, 1) := by decide +kernel
theorem dL_cell_7 : decode cL_cell 7 = .ok (.iload_n 1, 1) := by decide +kernel
theorem dL_cell_8 : decode cL_cell 8 = .ok (.iaload, 1) := by decide +kernel
theorem dL_cell_9 : decode cL_cell 9 = .ok (.goto 9, 3) := by decide +kernel
theorem dL_cell_12 : decode cL_cell 12 = .ok (.ldc 8, 2) := by decide +kernel
theorem dL_cell_14 : decode cL_cell 14 = .ok (.iload_n 1, 1) := by decide +kernel
theorem dL_cell_15 : decode cL_cell 15 = .ok (.iconst 3, 1) := by decide +kernel
theorem dL_cell_16 : decode cL_cell 16 = .ok (.iadd, 1) := by decide +kernel
theorem dL_cell_17 : decode cL_cell 17 = .ok (.imul, 1) := by decide +kernel
theorem dL_cell_18 : decode cL_cell 18 = .ok (.ireturn, 1) := by decide +kernel
theorem dL_isRight_0 : decode cL_isRight 0 = .ok (.aload_n 0, 1) := by decide +kernel
theorem dL_isRight_1 : decode cL_isRight 1 = .ok (.invokevirtual 80, 3) := by decide +kernel
theorem dL_isRight_4 : decode cL_isRight 4 = .ok (.lstore_n 3, 1) := by decide +kernel
theorem dL_isRight_5 : decode cL_isRight 5 = .ok (.aload_n 0, 1) := by decide +kernel
theorem dL_isRight_6 : decode cL_isRight 6 = .ok (.iconst 0, 1) := by decide +kernel
theorem dL_isRight_7 : decode cL_isRight 7 = .ok (.iconst 0, 1) := by decide +kernel
theorem dL_isRight_8 : decode cL_isRight 8 = .ok (.sipush 999, 3) := by decide +kernel
theorem dL_isRight_11 : decode cL_isRight 11 = .ok (.iconst 0, 1) := by decide +kernel
theorem dL_isRight_12 : decode cL_isRight 12 = .ok (.iconst (-1), 1) := by decide +kernel
theorem dL_isRight_13 : decode cL_isRight 13 = .ok (.invokevirtual 84, 3) := by decide +kernel
theorem dL_isRight_16 : decode cL_isRight 16 = .ok (.iconst 1, 1) := by decide +kernel
theorem dL_isRight_17 : decode cL_isRight 17 = .ok (.iload_n 1, 1) := by decide +kernel
theorem dL_isRight_18 : decode cL_isRight 18 = .ok (.ishl, 1) := by decide +kernel
theorem dL_isRight_19 : decode cL_isRight 19 = .ok (.if_icmp .ge 31, 3) := by decide +kernel
theorem dL_isRight_22 : decode cL_isRight 22 = .ok (.aload_n 0, 1) := by decide +kernel
theorem dL_isRight_23 : decode cL_isRight 23 = .ok (.iconst 0, 1) := by decide +kernel
theorem dL_isRight_24 : decode cL_isRight 24 = .ok (.iconst 0, 1) := by decide +kernel
theorem dL_isRight_25 : decode cL_isRight 25 = .ok (.iconst 0, 1) := by decide +kernel
theorem dL_isRight_26 : decode cL_isRight 26 = .ok (.iconst (-1), 1) := by decide +kernel
theorem dL_isRight_27 : decode cL_isRight 27 = .ok (.invokevirtual 87, 3) := by decide +kernel
theorem dL_isRight_30 : decode cL_isRight 30 = .ok (.sipush 999, 3) := by decide +kernel
theorem dL_isRight_33 : decode cL_isRight 33 = .ok (.if_icmp .gt 17, 3) := by decide +kernel
theorem dL_isRight_36 : decode cL_isRight 36 = .ok (.aload_n 0, 1) := by decide +kernel
theorem dL_isRight_37 : decode cL_isRight 37 = .ok (.sipush 399, 3) := by decide +kernel
theorem dL_isRight_40 : decode cL_isRight 40 = .ok (.invokevirtual 90, 3) := by decide +kernel
theorem dL_isRight_43 : decode cL_isRight 43 = .ok (.ldc2_w 94, 3) := by decide +kernel
theorem dL_isRight_46 : decode cL_isRight 46 = .ok (.dcmp .g, 1) := by decide +kernel
theorem dL_isRight_47 : decode cL_isRight 47 = .ok (.ifCond .ge 5, 3) := by decide +kernel
theorem dL_isRight_50 : decode cL_isRight 50 = .ok (.iconst 0, 1) := by decide +kernel
theorem dL_isRight_51 : decode cL_isRight 51 = .ok (.ireturn, 1) := by decide +kernel
theorem dL_isRight_52 : decode cL_isRight 52 = .ok (.aload_n 0, 1) := by decide +kernel
theorem dL_isRight_53 : decode cL_isRight 53 = .ok (.invokevirtual 80, 3) := by decide +kernel
theorem dL_isRight_56 : decode cL_isRight 56 = .ok (.lload_n 3, 1) := by decide +kernel
theorem dL_isRight_57 : decode cL_isRight 57 = .ok (.lcmp, 1) := by decide +kernel
theorem dL_isRight_58 : decode cL_isRight 58 = .ok (.ifCond .ne 17, 3) := by decide +kernel
theorem dL_isRight_61 : decode cL_isRight 61 = .ok (.aload_n 0, 1) := by decide +kernel
theorem dL_isRight_62 : decode cL_isRight 62 = .ok (.bipush 8, 2) := by decide +kernel
theorem dL_isRight_64 : decode cL_isRight 64 = .ok (.invokevirtual 32, 3) := by decide +kernel
theorem dL_isRight_67 : decode cL_isRight 67 = .ok (.iload_n 2, 1) := by decide +kernel
theorem dL_isRight_68 : decode cL_isRight 68 = .ok (.if_icmp .ne 7, 3) := by decide +kernel
theorem dL_isRight_71 : decode cL_isRight 71 = .ok (.iconst 1, 1) := by decide +kernel
theorem dL_isRight_72 : decode cL_isRight 72 = .ok (.goto 4, 3) := by decide +kernel
theorem dL_isRight_75 : decode cL_isRight 75 = .ok (.iconst 0, 1) := by decide +kernel
theorem dL_isRight_76 : decode cL_isRight 76 = .ok (.ireturn, 1) := by decide +kernel
theorem dL_isAmended_0 : decode cL_isAmended 0 = .ok (.aload_n 0, 1) := by decide +kernel
theorem dL_isAmended_1 : decode cL_isAmended 1 = .ok (.iconst 1, 1) := by decide +kernel
theorem dL_isAmended_2 : decode cL_isAmended 2 = .ok (.invokevirtual 32, 3) := by decide +kernel
theorem dL_isAmended_5 : decode cL_isAmended 5 = .ok (.istore_n 2, 1) := by decide +kernel
theorem dL_isAmended_6 : decode cL_isAmended 6 = .ok (.iload_n 2, 1) := by decide +kernel
theorem dL_isAmended_7 : decode cL_isAmended 7 = .ok (.bipush 14, 2) := by decide +kernel
theorem dL_isAmended_9 : decode cL_isAmended 9 = .ok (.iadd, 1) := by decide +kernel
theorem dL_isAmended_10 : decode cL_isAmended 10 = .ok (.bipush 28, 2) := by decide +kernel
theorem dL_isAmended_12 : decode cL_isAmended 12 = .ok (.iload_n 2, 1) := by decide +kernel
theorem dL_isAmended_13 : decode cL_isAmended 13 = .ok (.bipush 14, 2) := by decide +kernel
theorem dL_isAmended_15 : decode cL_isAmended 15 = .ok (.iadd, 1) := by decide +kernel
theorem dL_isAmended_16 : decode cL_isAmended 16 = .ok (.bipush 28, 2) := by decide +kernel
theorem dL_isAmended_18 : decode cL_isAmended 18 = .ok (.irem, 1) := by decide +kernel
theorem dL_isAmended_19 : decode cL_isAmended 19 = .ok (.isub, 1) := by decide +kernel
theorem dL_isAmended_20 : decode cL_isAmended 20 = .ok (.bipush 28, 2) := by decide +kernel
theorem dL_isAmended_22 : decode cL_isAmended 22 = .ok (.irem, 1) := by decide +kernel
theorem dL_isAmended_23 : decode cL_isAmended 23 = .ok (.iadd, 1) := by decide +kernel
theorem dL_isAmended_24 : decode cL_isAmended 24 = .ok (.istore_n 3, 1) := by decide +kernel
theorem dL_isAmended_25 : decode cL_isAmended 25 = .ok (.aload_n 0, 1) := by decide +kernel
theorem dL_isAmended_26 : decode cL_isAmended 26 = .ok (.iload_n 1, 1) := by decide +kernel
theorem dL_isAmended_27 : decode cL_isAmended 27 = .ok (.iload_n 3, 1) := by decide +kernel
theorem dL_isAmended_28 : decode cL_isAmended 28 = .ok (.iconst 1, 1) := by decide +kernel
theorem dL_isAmended_29 : decode cL_isAmended 29 = .ok (.isub, 1) := by decide +kernel
theorem dL_isAmended_30 : decode cL_isAmended 30 = .ok (.invokevirtual 96, 3) := by decide +kernel
theorem dL_isAmended_33 : decode cL_isAmended 33 = .ok (.istore 4, 2) := by decide +kernel
theorem dL_isAmended_35 : decode cL_isAmended 35 = .ok (.aload_n 0, 1) := by decide +kernel
theorem dL_isAmended_36 : decode cL_isAmended 36 = .ok (.iload_n 1, 1) := by decide +kernel
theorem dL_isAmended_37 : decode cL_isAmended 37 = .ok (.invokevirtual 25, 3) := by decide +kernel
theorem dL_isAmended_40 : decode cL_isAmended 40 = .ok (.istore 5, 2) := by decide +kernel
theorem dL_isAmended_42 : decode cL_isAmended 42 = .ok (.iconst 0, 1) := by decide +kernel
theorem dL_isAmended_43 : decode cL_isAmended 43 = .ok (.istore 6, 2) := by decide +kernel
theorem dL_isAmended_45 : decode cL_isAmended 45 = .ok (.iload_n 3, 1) := by decide +kernel
theorem dL_isAmended_46 : decode cL_isAmended 46 = .ok (.istore 7, 2) := by decide +kernel
theorem dL_isAmended_48 : decode cL_isAmended 48 = .ok (.iload 7, 2) := by decide +kernel
theorem dL_isAmended_50 : decode cL_isAmended 50 = .ok (.iload_n 3, 1) := by decide +kernel
theorem dL_isAmended_51 : decode cL_isAmended 51 = .ok (.bipush 28, 2) := by decide +kernel
theorem dL_isAmended_53 : decode cL_isAmended 53 = .ok (.iadd, 1) := by decide +kernel
theorem dL_isAmended_54 : decode cL_isAmended 54 = .ok (.if_icmp .ge 32, 3) := by decide +kernel
theorem dL_isAmended_57 : decode cL_isAmended 57 = .ok (.iload 7, 2) := by decide +kernel
theorem dL_isAmended_59 : decode cL_isAmended 59 = .ok (.sipush 400, 3) := by decide +kernel
theorem dL_isAmended_62 : decode cL_isAmended 62 = .ok (.if_icmp .ge 24, 3) := by decide +kernel
theorem dL_isAmended_65 : decode cL_isAmended 65 = .ok (.iload 6, 2) := by decide +kernel
theorem dL_isAmended_67 : decode cL_isAmended 67 = .ok (.aload_n 0, 1) := by decide +kernel
theorem dL_isAmended_68 : decode cL_isAmended 68 = .ok (.iload_n 1, 1) := by decide +kernel
theorem dL_isAmended_69 : decode cL_isAmended 69 = .ok (.iload 7, 2) := by decide +kernel
theorem dL_isAmended_71 : decode cL_isAmended 71 = .ok (.iconst 0, 1) := by decide +kernel
theorem dL_isAmended_72 : decode cL_isAmended 72 = .ok (.invokevirtual 99, 3) := by decide +kernel
theorem dL_isAmended_75 : decode cL_isAmended 75 = .ok (.invokestatic 102, 3) := by decide +kernel
theorem dL_isAmended_78 : decode cL_isAmended 78 = .ok (.istore 6, 2) := by decide +kernel
theorem dL_isAmended_80 : decode cL_isAmended 80 = .ok (.iinc 7 1, 3) := by decide +kernel
theorem dL_isAmended_83 : decode cL_isAmended 83 = .ok (.goto (-35), 3) := by decide +kernel
theorem dL_isAmended_86 : decode cL_isAmended 86 = .ok (.iload 5, 2) := by decide +kernel
theorem dL_isAmended_88 : decode cL_isAmended 88 = .ok (.iload 6, 2) := by decide +kernel
theorem dL_isAmended_90 : decode cL_isAmended 90 = .ok (.if_icmp .ne 44, 3) := by decide +kernel
theorem dL_isAmended_93 : decode cL_isAmended 93 = .ok (.aload_n 0, 1) := by decide +kernel
theorem dL_isAmended_94 : decode cL_isAmended 94 = .ok (.iload_n 1, 1) := by decide +kernel
theorem dL_isAmended_95 : decode cL_isAmended 95 = .ok (.iload_n 3, 1) := by decide +kernel
theorem dL_isAmended_96 : decode cL_isAmended 96 = .ok (.invokevirtual 96, 3) := by decide +kernel
theorem dL_isAmended_99 : decode cL_isAmended 99 = .ok (.iload 5, 2) := by decide +kernel
theorem dL_isAmended_101 : decode cL_isAmended 101 = .ok (.if_icmp .ne 33, 3) := by decide +kernel
theorem dL_isAmended_104 : decode cL_isAmended 104 = .ok (.aload_n 0, 1) := by decide +kernel
theorem dL_isAmended_105 : decode cL_isAmended 105 = .ok (.iload_n 1, 1) := by decide +kernel
theorem dL_isAmended_106 : decode cL_isAmended 106 = .ok (.sipush 399, 3) := by decide +kernel
theorem dL_isAmended_109 : decode cL_isAmended 109 = .ok (.invokevirtual 96, 3) := by decide +kernel
theorem dL_isAmended_112 : decode cL_isAmended 112 = .ok (.iload 5, 2) := by decide +kernel
theorem dL_isAmended_114 : decode cL_isAmended 114 = .ok (.if_icmp .ne 20, 3) := by decide +kernel
theorem dL_isAmended_117 : decode cL_isAmended 117 = .ok (.aload_n 0, 1) := by decide +kernel
theorem dL_isAmended_118 : decode cL_isAmended 118 = .ok (.iload_n 1, 1) := by decide +kernel
theorem dL_isAmended_119 : decode cL_isAmended 119 = .ok (.iload_n 3, 1) := by decide +kernel
theorem dL_isAmended_120 : decode cL_isAmended 120 = .ok (.iconst 1, 1) := by decide +kernel
theorem dL_isAmended_121 : decode cL_isAmended 121 = .ok (.isub, 1) := by decide +kernel
theorem dL_isAmended_122 : decode cL_isAmended 122 = .ok (.invokevirtual 96, 3) := by decide +kernel
theorem dL_isAmended_125 : decode cL_isAmended 125 = .ok (.iload 4, 2) := by decide +kernel
theorem dL_isAmended_127 : decode cL_isAmended 127 = .ok (.if_icmp .ne 7, 3) := by decide +kernel
theorem dL_isAmended_130 : decode cL_isAmended 130 = .ok (.iconst 1, 1) := by decide +kernel
theorem dL_isAmended_131 : decode cL_isAmended 131 = .ok (.goto 4, 3) := by decide +kernel
theorem dL_isAmended_134 : decode cL_isAmended 134 = .ok (.iconst 0, 1) := by decide +kernel
theorem dL_isAmended_135 : decode cL_isAmended 135 = .ok (.ireturn, 1) := by decide +kernel
theorem dL_isFlown_0 : decode cL_isFlown 0 = .ok (.aload_n 0, 1) := by decide +kernel
theorem dL_isFlown_1 : decode cL_isFlown 1 = .ok (.iconst 1, 1) := by decide +kernel
theorem dL_isFlown_2 : decode cL_isFlown 2 = .ok (.invokevirtual 32, 3) := by decide +kernel
theorem dL_isFlown_5 : decode cL_isFlown 5 = .ok (.istore_n 3, 1) := by decide +kernel
theorem dL_isFlown_6 : decode cL_isFlown 6 = .ok (.aload_n 0, 1) := by decide +kernel
theorem dL_isFlown_7 : decode cL_isFlown 7 = .ok (.iconst 4, 1) := by decide +kernel
theorem dL_isFlown_8 : decode cL_isFlown 8 = .ok (.invokevirtual 32, 3) := by decide +kernel
theorem dL_isFlown_11 : decode cL_isFlown 11 = .ok (.aload_n 0, 1) := by decide +kernel
theorem dL_isFlown_12 : decode cL_isFlown 12 = .ok (.bipush 16, 2) := by decide +kernel
theorem dL_isFlown_14 : decode cL_isFlown 14 = .ok (.iload_n 2, 1) := by decide +kernel
theorem dL_isFlown_15 : decode cL_isFlown 15 = .ok (.iadd, 1) := by decide +kernel
theorem dL_isFlown_16 : decode cL_isFlown 16 = .ok (.invokevirtual 32, 3) := by decide +kernel
theorem dL_isFlown_19 : decode cL_isFlown 19 = .ok (.isub, 1) := by decide +kernel
theorem dL_isFlown_20 : decode cL_isFlown 20 = .ok (.istore 4, 2) := by decide +kernel
theorem dL_isFlown_22 : decode cL_isFlown 22 = .ok (.aload_n 0, 1) := by decide +kernel
theorem dL_isFlown_23 : decode cL_isFlown 23 = .ok (.bipush 12, 2) := by decide +kernel
theorem dL_isFlown_25 : decode cL_isFlown 25 = .ok (.iload_n 2, 1) := by decide +kernel
theorem dL_isFlown_26 : decode cL_isFlown 26 = .ok (.iadd, 1) := by decide +kernel
theorem dL_isFlown_27 : decode cL_isFlown 27 = .ok (.invokevirtual 32, 3) := by decide +kernel
theorem dL_isFlown_30 : decode cL_isFlown 30 = .ok (.istore 5, 2) := by decide +kernel
theorem dL_isFlown_32 : decode cL_isFlown 32 = .ok (.aload_n 0, 1) := by decide +kernel
theorem dL_isFlown_33 : decode cL_isFlown 33 = .ok (.iload_n 2, 1) := by decide +kernel
theorem dL_isFlown_34 : decode cL_isFlown 34 = .ok (.invokevirtual 107, 3) := by decide +kernel
theorem dL_isFlown_37 : decode cL_isFlown 37 = .ok (.iload 5, 2) := by decide +kernel
theorem dL_isFlown_39 : decode cL_isFlown 39 = .ok (.if_icmp .ne 41, 3) := by decide +kernel
theorem dL_isFlown_42 : decode cL_isFlown 42 = .ok (.aload_n 0, 1) := by decide +kernel
theorem dL_isFlown_43 : decode cL_isFlown 43 = .ok (.iload_n 2, 1) := by decide +kernel
theorem dL_isFlown_44 : decode cL_isFlown 44 = .ok (.invokevirtual 110, 3) := by decide +kernel
theorem dL_isFlown_47 : decode cL_isFlown 47 = .ok (.iload 4, 2) := by decide +kernel
theorem dL_isFlown_49 : decode cL_isFlown 49 = .ok (.if_icmp .ne 31, 3) := by decide +kernel
theorem dL_isFlown_52 : decode cL_isFlown 52 = .ok (.aload_n 0, 1) := by decide +kernel
theorem dL_isFlown_53 : decode cL_isFlown 53 = .ok (.bipush 12, 2) := by decide +kernel
theorem dL_isFlown_55 : decode cL_isFlown 55 = .ok (.iload_n 2, 1) := by decide +kernel
theorem dL_isFlown_56 : decode cL_isFlown 56 = .ok (.iadd, 1) := by decide +kernel
theorem dL_isFlown_57 : decode cL_isFlown 57 = .ok (.invokevirtual 32, 3) := by decide +kernel
theorem dL_isFlown_60 : decode cL_isFlown 60 = .ok (.iload_n 3, 1) := by decide +kernel
theorem dL_isFlown_61 : decode cL_isFlown 61 = .ok (.if_icmp .ne 19, 3) := by decide +kernel
theorem dL_isFlown_64 : decode cL_isFlown 64 = .ok (.aload_n 0, 1) := by decide +kernel
theorem dL_isFlown_65 : decode cL_isFlown 65 = .ok (.bipush 16, 2) := by decide +kernel
theorem dL_isFlown_67 : decode cL_isFlown 67 = .ok (.iload_n 2, 1) := by decide +kernel
theorem dL_isFlown_68 : decode cL_isFlown 68 = .ok (.iadd, 1) := by decide +kernel
theorem dL_isFlown_69 : decode cL_isFlown 69 = .ok (.invokevirtual 32, 3) := by decide +kernel
theorem dL_isFlown_72 : decode cL_isFlown 72 = .ok (.aload_n 0, 1) := by decide +kernel
theorem dL_isFlown_73 : decode cL_isFlown 73 = .ok (.iconst 4, 1) := by decide +kernel
theorem dL_isFlown_74 : decode cL_isFlown 74 = .ok (.invokevirtual 32, 3) := by decide +kernel
theorem dL_isFlown_77 : decode cL_isFlown 77 = .ok (.if_icmp .eq 5, 3) := by decide +kernel
theorem dL_isFlown_80 : decode cL_isFlown 80 = .ok (.iconst 0, 1) := by decide +kernel
theorem dL_isFlown_81 : decode cL_isFlown 81 = .ok (.ireturn, 1) := by decide +kernel
theorem dL_isFlown_82 : decode cL_isFlown 82 = .ok (.aload_n 0, 1) := by decide +kernel
theorem dL_isFlown_83 : decode cL_isFlown 83 = .ok (.iload_n 2, 1) := by decide +kernel
theorem dL_isFlown_84 : decode cL_isFlown 84 = .ok (.invokevirtual 113, 3) := by decide +kernel
theorem dL_isFlown_87 : decode cL_isFlown 87 = .ok (.istore 6, 2) := by decide +kernel
theorem dL_isFlown_89 : decode cL_isFlown 89 = .ok (.iconst 0, 1) := by decide +kernel
theorem dL_isFlown_90 : decode cL_isFlown 90 = .ok (.istore 7, 2) := by decide +kernel
theorem dL_isFlown_92 : decode cL_isFlown 92 = .ok (.iload 7, 2) := by decide +kernel
theorem dL_isFlown_94 : decode cL_isFlown 94 = .ok (.iload_n 1, 1) := by decide +kernel
theorem dL_isFlown_95 : decode cL_isFlown 95 = .ok (.if_icmp .ge 89, 3) := by decide +kernel
theorem dL_isFlown_98 : decode cL_isFlown 98 = .ok (.iconst 0, 1) := by decide +kernel
theorem dL_isFlown_99 : decode cL_isFlown 99 = .ok (.istore 8, 2) := by decide +kernel
theorem dL_isFlown_101 : decode cL_isFlown 101 = .ok (.iload 8, 2) := by decide +kernel
theorem dL_isFlown_103 : decode cL_isFlown 103 = .ok (.iconst 4, 1) := by decide +kernel
theorem dL_isFlown_104 : decode cL_isFlown 104 = .ok (.if_icmp .ge 74, 3) := by decide +kernel
theorem dL_isFlown_107 : decode cL_isFlown 107 = .ok (.aload_n 0, 1) := by decide +kernel
theorem dL_isFlown_108 : decode cL_isFlown 108 = .ok (.iload 7, 2) := by decide +kernel
theorem dL_isFlown_110 : decode cL_isFlown 110 = .ok (.iload_n 3, 1) := by decide +kernel
theorem dL_isFlown_111 : decode cL_isFlown 111 = .ok (.iload 8, 2) := by decide +kernel
theorem dL_isFlown_113 : decode cL_isFlown 113 = .ok (.invokevirtual 116, 3) := by decide +kernel
theorem dL_isFlown_116 : decode cL_isFlown 116 = .ok (.istore 9, 2) := by decide +kernel
theorem dL_isFlown_118 : decode cL_isFlown 118 = .ok (.aload_n 0, 1) := by decide +kernel
theorem dL_isFlown_119 : decode cL_isFlown 119 = .ok (.iload_n 2, 1) := by decide +kernel
theorem dL_isFlown_120 : decode cL_isFlown 120 = .ok (.iload 7, 2) := by decide +kernel
theorem dL_isFlown_122 : decode cL_isFlown 122 = .ok (.iload_n 3, 1) := by decide +kernel
theorem dL_isFlown_123 : decode cL_isFlown 123 = .ok (.iload 8, 2) := by decide +kernel
theorem dL_isFlown_125 : decode cL_isFlown 125 = .ok (.invokevirtual 119, 3) := by decide +kernel
theorem dL_isFlown_128 : decode cL_isFlown 128 = .ok (.istore 10, 2) := by decide +kernel
theorem dL_isFlown_130 : decode cL_isFlown 130 = .ok (.iload 9, 2) := by decide +kernel
theorem dL_isFlown_132 : decode cL_isFlown 132 = .ok (.ifCond .lt 23, 3) := by decide +kernel
theorem dL_isFlown_135 : decode cL_isFlown 135 = .ok (.iload 10, 2) := by decide +kernel
theorem dL_isFlown_137 : decode cL_isFlown 137 = .ok (.iload 9, 2) := by decide +kernel
theorem dL_isFlown_139 : decode cL_isFlown 139 = .ok (.if_icmp .ne 31, 3) := by decide +kernel
theorem dL_isFlown_142 : decode cL_isFlown 142 = .ok (.iload 6, 2) := by decide +kernel
theorem dL_isFlown_144 : decode cL_isFlown 144 = .ok (.iload 7, 2) := by decide +kernel
theorem dL_isFlown_146 : decode cL_isFlown 146 = .ok (.ishr, 1) := by decide +kernel
theorem dL_isFlown_147 : decode cL_isFlown 147 = .ok (.iconst 1, 1) := by decide +kernel
theorem dL_isFlown_148 : decode cL_isFlown 148 = .ok (.iand, 1) := by decide +kernel
theorem dL_isFlown_149 : decode cL_isFlown 149 = .ok (.ifCond .le 23, 3) := by decide +kernel
theorem dL_isFlown_152 : decode cL_isFlown 152 = .ok (.goto 18, 3) := by decide +kernel
theorem dL_isFlown_155 : decode cL_isFlown 155 = .ok (.iload 10, 2) := by decide +kernel
theorem dL_isFlown_157 : decode cL_isFlown 157 = .ok (.ifCond .lt 15, 3) := by decide +kernel
theorem dL_isFlown_160 : decode cL_isFlown 160 = .ok (.iload 6, 2) := by decide +kernel
theorem dL_isFlown_162 : decode cL_isFlown 162 = .ok (.iload 7, 2) := by decide +kernel
theorem dL_isFlown_164 : decode cL_isFlown 164 = .ok (.ishr, 1) := by decide +kernel
theorem dL_isFlown_165 : decode cL_isFlown 165 = .ok (.iconst 1, 1) := by decide +kernel
theorem dL_isFlown_166 : decode cL_isFlown 166 = .ok (.iand, 1) := by decide +kernel
theorem dL_isFlown_167 : decode cL_isFlown 167 = .ok (.ifCond .ne 5, 3) := by decide +kernel
theorem dL_isFlown_170 : decode cL_isFlown 170 = .ok (.iconst 0, 1) := by decide +kernel
theorem dL_isFlown_171 : decode cL_isFlown 171 = .ok (.ireturn, 1) := by decide +kernel
theorem dL_isFlown_172 : decode cL_isFlown 172 = .ok (.iinc 8 1, 3) := by decide +kernel
theorem dL_isFlown_175 : decode cL_isFlown 175 = .ok (.goto (-74), 3) := by decide +kernel
theorem dL_isFlown_178 : decode cL_isFlown 178 = .ok (.iinc 7 1, 3) := by decide +kernel
theorem dL_isFlown_181 : decode cL_isFlown 181 = .ok (.goto (-89), 3) := by decide +kernel
theorem dL_isFlown_184 : decode cL_isFlown 184 = .ok (.iconst 1, 1) := by decide +kernel
theorem dL_isFlown_185 : decode cL_isFlown 185 = .ok (.ireturn, 1) := by decide +kernel
