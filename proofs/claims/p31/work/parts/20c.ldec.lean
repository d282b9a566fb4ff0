theorem dL_isHighest_0 : decode cL_isHighest 0 = .ok (.aload_n 0, 1) := by decide +kernel
theorem dL_isHighest_1 : decode cL_isHighest 1 = .ok (.iload_n 1, 1) := by decide +kernel
theorem dL_isHighest_2 : decode cL_isHighest 2 = .ok (.iload_n 2, 1) := by decide +kernel
theorem dL_isHighest_3 : decode cL_isHighest 3 = .ok (.iload_n 3, 1) := by decide +kernel
theorem dL_isHighest_4 : decode cL_isHighest 4 = .ok (.iload 4, 2) := by decide +kernel
theorem dL_isHighest_6 : decode cL_isHighest 6 = .ok (.invokevirtual 87, 3) := by decide +kernel
theorem dL_isHighest_9 : decode cL_isHighest 9 = .ok (.istore 5, 2) := by decide +kernel
theorem dL_isHighest_11 : decode cL_isHighest 11 = .ok (.iload 5, 2) := by decide +kernel
theorem dL_isHighest_13 : decode cL_isHighest 13 = .ok (.ifCond .lt 19, 3) := by decide +kernel
theorem dL_isHighest_16 : decode cL_isHighest 16 = .ok (.aload_n 0, 1) := by decide +kernel
theorem dL_isHighest_17 : decode cL_isHighest 17 = .ok (.iload_n 1, 1) := by decide +kernel
theorem dL_isHighest_18 : decode cL_isHighest 18 = .ok (.iload_n 2, 1) := by decide +kernel
theorem dL_isHighest_19 : decode cL_isHighest 19 = .ok (.iload 5, 2) := by decide +kernel
theorem dL_isHighest_21 : decode cL_isHighest 21 = .ok (.iload_n 3, 1) := by decide +kernel
theorem dL_isHighest_22 : decode cL_isHighest 22 = .ok (.iload 4, 2) := by decide +kernel
theorem dL_isHighest_24 : decode cL_isHighest 24 = .ok (.invokevirtual 84, 3) := by decide +kernel
theorem dL_isHighest_27 : decode cL_isHighest 27 = .ok (.ifCond .eq 5, 3) := by decide +kernel
theorem dL_isHighest_30 : decode cL_isHighest 30 = .ok (.iconst 0, 1) := by decide +kernel
theorem dL_isHighest_31 : decode cL_isHighest 31 = .ok (.ireturn, 1) := by decide +kernel
theorem dL_isHighest_32 : decode cL_isHighest 32 = .ok (.iload 5, 2) := by decide +kernel
theorem dL_isHighest_34 : decode cL_isHighest 34 = .ok (.sipush 999, 3) := by decide +kernel
theorem dL_isHighest_37 : decode cL_isHighest 37 = .ok (.if_icmp .eq 34, 3) := by decide +kernel
theorem dL_isHighest_40 : decode cL_isHighest 40 = .ok (.aload_n 0, 1) := by decide +kernel
theorem dL_isHighest_41 : decode cL_isHighest 41 = .ok (.iload_n 1, 1) := by decide +kernel
theorem dL_isHighest_42 : decode cL_isHighest 42 = .ok (.iload_n 2, 1) := by decide +kernel
theorem dL_isHighest_43 : decode cL_isHighest 43 = .ok (.iload 5, 2) := by decide +kernel
theorem dL_isHighest_45 : decode cL_isHighest 45 = .ok (.iconst 1, 1) := by decide +kernel
theorem dL_isHighest_46 : decode cL_isHighest 46 = .ok (.iadd, 1) := by decide +kernel
theorem dL_isHighest_47 : decode cL_isHighest 47 = .ok (.iload_n 3, 1) := by decide +kernel
theorem dL_isHighest_48 : decode cL_isHighest 48 = .ok (.iload 4, 2) := by decide +kernel
theorem dL_isHighest_50 : decode cL_isHighest 50 = .ok (.invokevirtual 84, 3) := by decide +kernel
theorem dL_isHighest_53 : decode cL_isHighest 53 = .ok (.ifCond .le 22, 3) := by decide +kernel
theorem dL_isHighest_56 : decode cL_isHighest 56 = .ok (.aload_n 0, 1) := by decide +kernel
theorem dL_isHighest_57 : decode cL_isHighest 57 = .ok (.iload_n 1, 1) := by decide +kernel
theorem dL_isHighest_58 : decode cL_isHighest 58 = .ok (.iload_n 2, 1) := by decide +kernel
theorem dL_isHighest_59 : decode cL_isHighest 59 = .ok (.sipush 999, 3) := by decide +kernel
theorem dL_isHighest_62 : decode cL_isHighest 62 = .ok (.iload_n 3, 1) := by decide +kernel
theorem dL_isHighest_63 : decode cL_isHighest 63 = .ok (.iload 4, 2) := by decide +kernel
theorem dL_isHighest_65 : decode cL_isHighest 65 = .ok (.invokevirtual 84, 3) := by decide +kernel
theorem dL_isHighest_68 : decode cL_isHighest 68 = .ok (.ifCond .le 7, 3) := by decide +kernel
theorem dL_isHighest_71 : decode cL_isHighest 71 = .ok (.iconst 1, 1) := by decide +kernel
theorem dL_isHighest_72 : decode cL_isHighest 72 = .ok (.goto 4, 3) := by decide +kernel
theorem dL_isHighest_75 : decode cL_isHighest 75 = .ok (.iconst 0, 1) := by decide +kernel
theorem dL_isHighest_76 : decode cL_isHighest 76 = .ok (.ireturn, 1) := by decide +kernel
theorem dL_isRaised_0 : decode cL_isRaised 0 = .ok (.aload_n 0, 1) := by decide +kernel
theorem dL_isRaised_1 : decode cL_isRaised 1 = .ok (.iconst 1, 1) := by decide +kernel
theorem dL_isRaised_2 : decode cL_isRaised 2 = .ok (.invokevirtual 32, 3) := by decide +kernel
theorem dL_isRaised_5 : decode cL_isRaised 5 = .ok (.istore_n 2, 1) := by decide +kernel
theorem dL_isRaised_6 : decode cL_isRaised 6 = .ok (.aload_n 0, 1) := by decide +kernel
theorem dL_isRaised_7 : decode cL_isRaised 7 = .ok (.iload_n 1, 1) := by decide +kernel
theorem dL_isRaised_8 : decode cL_isRaised 8 = .ok (.invokevirtual 122, 3) := by decide +kernel
theorem dL_isRaised_11 : decode cL_isRaised 11 = .ok (.istore_n 3, 1) := by decide +kernel
theorem dL_isRaised_12 : decode cL_isRaised 12 = .ok (.aload_n 0, 1) := by decide +kernel
theorem dL_isRaised_13 : decode cL_isRaised 13 = .ok (.iload_n 1, 1) := by decide +kernel
theorem dL_isRaised_14 : decode cL_isRaised 14 = .ok (.invokevirtual 125, 3) := by decide +kernel
theorem dL_isRaised_17 : decode cL_isRaised 17 = .ok (.istore 4, 2) := by decide +kernel
theorem dL_isRaised_19 : decode cL_isRaised 19 = .ok (.iload_n 3, 1) := by decide +kernel
theorem dL_isRaised_20 : decode cL_isRaised 20 = .ok (.ifCond .ne 7, 3) := by decide +kernel
theorem dL_isRaised_23 : decode cL_isRaised 23 = .ok (.iconst 1, 1) := by decide +kernel
theorem dL_isRaised_24 : decode cL_isRaised 24 = .ok (.goto 4, 3) := by decide +kernel
theorem dL_isRaised_27 : decode cL_isRaised 27 = .ok (.iconst 0, 1) := by decide +kernel
theorem dL_isRaised_28 : decode cL_isRaised 28 = .ok (.iload 4, 2) := by decide +kernel
theorem dL_isRaised_30 : decode cL_isRaised 30 = .ok (.ifCond .ge 7, 3) := by decide +kernel
theorem dL_isRaised_33 : decode cL_isRaised 33 = .ok (.iconst 1, 1) := by decide +kernel
theorem dL_isRaised_34 : decode cL_isRaised 34 = .ok (.goto 4, 3) := by decide +kernel
theorem dL_isRaised_37 : decode cL_isRaised 37 = .ok (.iconst 0, 1) := by decide +kernel
theorem dL_isRaised_38 : decode cL_isRaised 38 = .ok (.if_icmp .ne 10, 3) := by decide +kernel
theorem dL_isRaised_41 : decode cL_isRaised 41 = .ok (.iload_n 3, 1) := by decide +kernel
theorem dL_isRaised_42 : decode cL_isRaised 42 = .ok (.sipush 500, 3) := by decide +kernel
theorem dL_isRaised_45 : decode cL_isRaised 45 = .ok (.if_icmp .le 5, 3) := by decide +kernel
theorem dL_isRaised_48 : decode cL_isRaised 48 = .ok (.iconst 0, 1) := by decide +kernel
theorem dL_isRaised_49 : decode cL_isRaised 49 = .ok (.ireturn, 1) := by decide +kernel
theorem dL_isRaised_50 : decode cL_isRaised 50 = .ok (.iload_n 3, 1) := by decide +kernel
theorem dL_isRaised_51 : decode cL_isRaised 51 = .ok (.ifCond .gt 5, 3) := by decide +kernel
theorem dL_isRaised_54 : decode cL_isRaised 54 = .ok (.iconst 1, 1) := by decide +kernel
theorem dL_isRaised_55 : decode cL_isRaised 55 = .ok (.ireturn, 1) := by decide +kernel
theorem dL_isRaised_56 : decode cL_isRaised 56 = .ok (.aload_n 0, 1) := by decide +kernel
theorem dL_isRaised_57 : decode cL_isRaised 57 = .ok (.iload_n 1, 1) := by decide +kernel
theorem dL_isRaised_58 : decode cL_isRaised 58 = .ok (.iload_n 3, 1) := by decide +kernel
theorem dL_isRaised_59 : decode cL_isRaised 59 = .ok (.iload_n 2, 1) := by decide +kernel
theorem dL_isRaised_60 : decode cL_isRaised 60 = .ok (.sipush 399, 3) := by decide +kernel
theorem dL_isRaised_63 : decode cL_isRaised 63 = .ok (.invokevirtual 47, 3) := by decide +kernel
theorem dL_isRaised_66 : decode cL_isRaised 66 = .ok (.istore 5, 2) := by decide +kernel
theorem dL_isRaised_68 : decode cL_isRaised 68 = .ok (.aload_n 0, 1) := by decide +kernel
theorem dL_isRaised_69 : decode cL_isRaised 69 = .ok (.iload_n 1, 1) := by decide +kernel
theorem dL_isRaised_70 : decode cL_isRaised 70 = .ok (.invokevirtual 125, 3) := by decide +kernel
theorem dL_isRaised_73 : decode cL_isRaised 73 = .ok (.iconst (-1), 1) := by decide +kernel
theorem dL_isRaised_74 : decode cL_isRaised 74 = .ok (.if_icmp .ne 11, 3) := by decide +kernel
theorem dL_isRaised_77 : decode cL_isRaised 77 = .ok (.aload_n 0, 1) := by decide +kernel
theorem dL_isRaised_78 : decode cL_isRaised 78 = .ok (.iload_n 1, 1) := by decide +kernel
theorem dL_isRaised_79 : decode cL_isRaised 79 = .ok (.invokevirtual 122, 3) := by decide +kernel
theorem dL_isRaised_82 : decode cL_isRaised 82 = .ok (.ifCond .eq 5, 3) := by decide +kernel
theorem dL_isRaised_85 : decode cL_isRaised 85 = .ok (.iconst 0, 1) := by decide +kernel
theorem dL_isRaised_86 : decode cL_isRaised 86 = .ok (.ireturn, 1) := by decide +kernel
theorem dL_isRaised_87 : decode cL_isRaised 87 = .ok (.aload_n 0, 1) := by decide +kernel
theorem dL_isRaised_88 : decode cL_isRaised 88 = .ok (.iconst 4, 1) := by decide +kernel
theorem dL_isRaised_89 : decode cL_isRaised 89 = .ok (.invokevirtual 32, 3) := by decide +kernel
theorem dL_isRaised_92 : decode cL_isRaised 92 = .ok (.bipush 16, 2) := by decide +kernel
theorem dL_isRaised_94 : decode cL_isRaised 94 = .ok (.if_icmp .ne 5, 3) := by decide +kernel
theorem dL_isRaised_97 : decode cL_isRaised 97 = .ok (.iconst 1, 1) := by decide +kernel
theorem dL_isRaised_98 : decode cL_isRaised 98 = .ok (.ireturn, 1) := by decide +kernel
theorem dL_isRaised_99 : decode cL_isRaised 99 = .ok (.aload_n 0, 1) := by decide +kernel
theorem dL_isRaised_100 : decode cL_isRaised 100 = .ok (.iload 5, 2) := by decide +kernel
theorem dL_isRaised_102 : decode cL_isRaised 102 = .ok (.invokevirtual 61, 3) := by decide +kernel
theorem dL_isRaised_105 : decode cL_isRaised 105 = .ok (.iload 5, 2) := by decide +kernel
theorem dL_isRaised_107 : decode cL_isRaised 107 = .ok (.iconst 1, 1) := by decide +kernel
theorem dL_isRaised_108 : decode cL_isRaised 108 = .ok (.iadd, 1) := by decide +kernel
theorem dL_isRaised_109 : decode cL_isRaised 109 = .ok (.if_icmp .ne 26, 3) := by decide +kernel
theorem dL_isRaised_112 : decode cL_isRaised 112 = .ok (.aload_n 0, 1) := by decide +kernel
theorem dL_isRaised_113 : decode cL_isRaised 113 = .ok (.iload_n 1, 1) := by decide +kernel
theorem dL_isRaised_114 : decode cL_isRaised 114 = .ok (.invokevirtual 125, 3) := by decide +kernel
theorem dL_isRaised_117 : decode cL_isRaised 117 = .ok (.iload 4, 2) := by decide +kernel
theorem dL_isRaised_119 : decode cL_isRaised 119 = .ok (.if_icmp .ne 16, 3) := by decide +kernel
theorem dL_isRaised_122 : decode cL_isRaised 122 = .ok (.aload_n 0, 1) := by decide +kernel
theorem dL_isRaised_123 : decode cL_isRaised 123 = .ok (.iload_n 1, 1) := by decide +kernel
theorem dL_isRaised_124 : decode cL_isRaised 124 = .ok (.invokevirtual 122, 3) := by decide +kernel
theorem dL_isRaised_127 : decode cL_isRaised 127 = .ok (.iload_n 3, 1) := by decide +kernel
theorem dL_isRaised_128 : decode cL_isRaised 128 = .ok (.if_icmp .ne 7, 3) := by decide +kernel
theorem dL_isRaised_131 : decode cL_isRaised 131 = .ok (.iconst 1, 1) := by decide +kernel
theorem dL_isRaised_132 : decode cL_isRaised 132 = .ok (.goto 4, 3) := by decide +kernel
theorem dL_isRaised_135 : decode cL_isRaised 135 = .ok (.iconst 0, 1) := by decide +kernel
theorem dL_isRaised_136 : decode cL_isRaised 136 = .ok (.ireturn, 1) := by decide +kernel
theorem dL_isSound_0 : decode cL_isSound 0 = .ok (.aload_n 0, 1) := by decide +kernel
theorem dL_isSound_1 : decode cL_isSound 1 = .ok (.iconst 1, 1) := by decide +kernel
theorem dL_isSound_2 : decode cL_isSound 2 = .ok (.invokevirtual 32, 3) := by decide +kernel
theorem dL_isSound_5 : decode cL_isSound 5 = .ok (.istore_n 3, 1) := by decide +kernel
theorem dL_isSound_6 : decode cL_isSound 6 = .ok (.iconst 0, 1) := by decide +kernel
theorem dL_isSound_7 : decode cL_isSound 7 = .ok (.istore 4, 2) := by decide +kernel
theorem dL_isSound_9 : decode cL_isSound 9 = .ok (.aload_n 0, 1) := by decide +kernel
theorem dL_isSound_10 : decode cL_isSound 10 = .ok (.bipush 6, 2) := by decide +kernel
theorem dL_isSound_12 : decode cL_isSound 12 = .ok (.invokevirtual 32, 3) := by decide +kernel
theorem dL_isSound_15 : decode cL_isSound 15 = .ok (.istore 5, 2) := by decide +kernel
theorem dL_isSound_17 : decode cL_isSound 17 = .ok (.iconst 0, 1) := by decide +kernel
theorem dL_isSound_18 : decode cL_isSound 18 = .ok (.istore 6, 2) := by decide +kernel
theorem dL_isSound_20 : decode cL_isSound 20 = .ok (.iload 6, 2) := by decide +kernel
theorem dL_isSound_22 : decode cL_isSound 22 = .ok (.iconst 3, 1) := by decide +kernel
theorem dL_isSound_23 : decode cL_isSound 23 = .ok (.if_icmp .ge 39, 3) := by decide +kernel
theorem dL_isSound_26 : decode cL_isSound 26 = .ok (.iload 5, 2) := by decide +kernel
theorem dL_isSound_28 : decode cL_isSound 28 = .ok (.iload 6, 2) := by decide +kernel
theorem dL_isSound_30 : decode cL_isSound 30 = .ok (.ishr, 1) := by decide +kernel
theorem dL_isSound_31 : decode cL_isSound 31 = .ok (.iconst 1, 1) := by decide +kernel
theorem dL_isSound_32 : decode cL_isSound 32 = .ok (.iand, 1) := by decide +kernel
theorem dL_isSound_33 : decode cL_isSound 33 = .ok (.aload_n 0, 1) := by decide +kernel
theorem dL_isSound_34 : decode cL_isSound 34 = .ok (.bipush 9, 2) := by decide +kernel
theorem dL_isSound_36 : decode cL_isSound 36 = .ok (.iload 6, 2) := by decide +kernel
theorem dL_isSound_38 : decode cL_isSound 38 = .ok (.iadd, 1) := by decide +kernel
theorem dL_isSound_39 : decode cL_isSound 39 = .ok (.invokevirtual 32, 3) := by decide +kernel
theorem dL_isSound_42 : decode cL_isSound 42 = .ok (.iload_n 3, 1) := by decide +kernel
theorem dL_isSound_43 : decode cL_isSound 43 = .ok (.if_icmp .lt 7, 3) := by decide +kernel
theorem dL_isSound_46 : decode cL_isSound 46 = .ok (.iconst 1, 1) := by decide +kernel
theorem dL_isSound_47 : decode cL_isSound 47 = .ok (.goto 4, 3) := by decide +kernel
theorem dL_isSound_50 : decode cL_isSound 50 = .ok (.iconst 0, 1) := by decide +kernel
theorem dL_isSound_51 : decode cL_isSound 51 = .ok (.if_icmp .eq 5, 3) := by decide +kernel
theorem dL_isSound_54 : decode cL_isSound 54 = .ok (.iconst 0, 1) := by decide +kernel
theorem dL_isSound_55 : decode cL_isSound 55 = .ok (.ireturn, 1) := by decide +kernel
theorem dL_isSound_56 : decode cL_isSound 56 = .ok (.iinc 6 1, 3) := by decide +kernel
theorem dL_isSound_59 : decode cL_isSound 59 = .ok (.goto (-39), 3) := by decide +kernel
theorem dL_isSound_62 : decode cL_isSound 62 = .ok (.iconst 0, 1) := by decide +kernel
theorem dL_isSound_63 : decode cL_isSound 63 = .ok (.istore 6, 2) := by decide +kernel
theorem dL_isSound_65 : decode cL_isSound 65 = .ok (.iload 6, 2) := by decide +kernel
theorem dL_isSound_67 : decode cL_isSound 67 = .ok (.iload_n 1, 1) := by decide +kernel
theorem dL_isSound_68 : decode cL_isSound 68 = .ok (.if_icmp .ge 285, 3) := by decide +kernel
theorem dL_isSound_71 : decode cL_isSound 71 = .ok (.aload_n 0, 1) := by decide +kernel
theorem dL_isSound_72 : decode cL_isSound 72 = .ok (.iload 6, 2) := by decide +kernel
theorem dL_isSound_74 : decode cL_isSound 74 = .ok (.iload_n 3, 1) := by decide +kernel
theorem dL_isSound_75 : decode cL_isSound 75 = .ok (.iconst 0, 1) := by decide +kernel
theorem dL_isSound_76 : decode cL_isSound 76 = .ok (.invokevirtual 99, 3) := by decide +kernel
theorem dL_isSound_79 : decode cL_isSound 79 = .ok (.istore 7, 2) := by decide +kernel
theorem dL_isSound_81 : decode cL_isSound 81 = .ok (.aload_n 0, 1) := by decide +kernel
theorem dL_isSound_82 : decode cL_isSound 82 = .ok (.iload 6, 2) := by decide +kernel
theorem dL_isSound_84 : decode cL_isSound 84 = .ok (.iload_n 3, 1) := by decide +kernel
theorem dL_isSound_85 : decode cL_isSound 85 = .ok (.iconst 0, 1) := by decide +kernel
theorem dL_isSound_86 : decode cL_isSound 86 = .ok (.invokevirtual 116, 3) := by decide +kernel
theorem dL_isSound_89 : decode cL_isSound 89 = .ok (.istore 8, 2) := by decide +kernel
theorem dL_isSound_91 : decode cL_isSound 91 = .ok (.aload_n 0, 1) := by decide +kernel
theorem dL_isSound_92 : decode cL_isSound 92 = .ok (.iload 6, 2) := by decide +kernel
theorem dL_isSound_94 : decode cL_isSound 94 = .ok (.iload_n 3, 1) := by decide +kernel
theorem dL_isSound_95 : decode cL_isSound 95 = .ok (.invokevirtual 96, 3) := by decide +kernel
theorem dL_isSound_98 : decode cL_isSound 98 = .ok (.istore 9, 2) := by decide +kernel
theorem dL_isSound_100 : decode cL_isSound 100 = .ok (.iload 7, 2) := by decide +kernel
theorem dL_isSound_102 : decode cL_isSound 102 = .ok (.sipush 200, 3) := by decide +kernel
theorem dL_isSound_105 : decode cL_isSound 105 = .ok (.if_icmp .lt 80, 3) := by decide +kernel
theorem dL_isSound_108 : decode cL_isSound 108 = .ok (.iload 7, 2) := by decide +kernel
theorem dL_isSound_110 : decode cL_isSound 110 = .ok (.bipush 10, 2) := by decide +kernel
theorem dL_isSound_112 : decode cL_isSound 112 = .ok (.irem, 1) := by decide +kernel
theorem dL_isSound_113 : decode cL_isSound 113 = .ok (.ifCond .ne 72, 3) := by decide +kernel
theorem dL_isSound_116 : decode cL_isSound 116 = .ok (.aload_n 0, 1) := by decide +kernel
theorem dL_isSound_117 : decode cL_isSound 117 = .ok (.iload 6, 2) := by decide +kernel
theorem dL_isSound_119 : decode cL_isSound 119 = .ok (.iload_n 3, 1) := by decide +kernel
theorem dL_isSound_120 : decode cL_isSound 120 = .ok (.iconst 3, 1) := by decide +kernel
theorem dL_isSound_121 : decode cL_isSound 121 = .ok (.invokevirtual 99, 3) := by decide +kernel
theorem dL_isSound_124 : decode cL_isSound 124 = .ok (.iload 7, 2) := by decide +kernel
theorem dL_isSound_126 : decode cL_isSound 126 = .ok (.bipush 30, 2) := by decide +kernel
theorem dL_isSound_128 : decode cL_isSound 128 = .ok (.iadd, 1) := by decide +kernel
theorem dL_isSound_129 : decode cL_isSound 129 = .ok (.if_icmp .ne 56, 3) := by decide +kernel
theorem dL_isSound_132 : decode cL_isSound 132 = .ok (.iload 8, 2) := by decide +kernel
theorem dL_isSound_134 : decode cL_isSound 134 = .ok (.ifCond .lt 26, 3) := by decide +kernel
theorem dL_isSound_137 : decode cL_isSound 137 = .ok (.iload 9, 2) := by decide +kernel
theorem dL_isSound_139 : decode cL_isSound 139 = .ok (.ifCond .lt 46, 3) := by decide +kernel
theorem dL_isSound_142 : decode cL_isSound 142 = .ok (.iload 8, 2) := by decide +kernel
theorem dL_isSound_144 : decode cL_isSound 144 = .ok (.iload 9, 2) := by decide +kernel
theorem dL_isSound_146 : decode cL_isSound 146 = .ok (.if_icmp .lt 39, 3) := by decide +kernel
theorem dL_isSound_149 : decode cL_isSound 149 = .ok (.iload 8, 2) := by decide +kernel
theorem dL_isSound_151 : decode cL_isSound 151 = .ok (.iload 9, 2) := by decide +kernel
theorem dL_isSound_153 : decode cL_isSound 153 = .ok (.sipush 500, 3) := by decide +kernel
theorem dL_isSound_156 : decode cL_isSound 156 = .ok (.iadd, 1) := by decide +kernel
theorem dL_isSound_157 : decode cL_isSound 157 = .ok (.if_icmp .gt 28, 3) := by decide +kernel
theorem dL_isSound_160 : decode cL_isSound 160 = .ok (.aload_n 0, 1) := by decide +kernel
theorem dL_isSound_161 : decode cL_isSound 161 = .ok (.iload 6, 2) := by decide +kernel
theorem dL_isSound_163 : decode cL_isSound 163 = .ok (.iload_n 3, 1) := by decide +kernel
theorem dL_isSound_164 : decode cL_isSound 164 = .ok (.iconst 2, 1) := by decide +kernel
theorem dL_isSound_165 : decode cL_isSound 165 = .ok (.invokevirtual 116, 3) := by decide +kernel
theorem dL_isSound_168 : decode cL_isSound 168 = .ok (.iload 8, 2) := by decide +kernel
theorem dL_isSound_170 : decode cL_isSound 170 = .ok (.ifCond .ge 7, 3) := by decide +kernel
theorem dL_isSound_173 : decode cL_isSound 173 = .ok (.iconst (-1), 1) := by decide +kernel
theorem dL_isSound_174 : decode cL_isSound 174 = .ok (.goto 8, 3) := by decide +kernel
theorem dL_isSound_177 : decode cL_isSound 177 = .ok (.iload 8, 2) := by decide +kernel
theorem dL_isSound_179 : decode cL_isSound 179 = .ok (.bipush 20, 2) := by decide +kernel
theorem dL_isSound_181 : decode cL_isSound 181 = .ok (.iadd, 1) := by decide +kernel
theorem dL_isSound_182 : decode cL_isSound 182 = .ok (.if_icmp .eq 5, 3) := by decide +kernel
theorem dL_isSound_185 : decode cL_isSound 185 = .ok (.iconst 0, 1) := by decide +kernel
theorem dL_isSound_186 : decode cL_isSound 186 = .ok (.ireturn, 1) := by decide +kernel
theorem dL_isSound_187 : decode cL_isSound 187 = .ok (.iload 4, 2) := by decide +kernel
theorem dL_isSound_189 : decode cL_isSound 189 = .ok (.iload 8, 2) := by decide +kernel
theorem dL_isSound_191 : decode cL_isSound 191 = .ok (.ifCond .lt 17, 3) := by decide +kernel
theorem dL_isSound_194 : decode cL_isSound 194 = .ok (.iload 8, 2) := by decide +kernel
theorem dL_isSound_196 : decode cL_isSound 196 = .ok (.iload 7, 2) := by decide +kernel
theorem dL_isSound_198 : decode cL_isSound 198 = .ok (.if_icmp .ge 10, 3) := by decide +kernel
theorem dL_isSound_201 : decode cL_isSound 201 = .ok (.iconst 1, 1) := by decide +kernel
theorem dL_isSound_202 : decode cL_isSound 202 = .ok (.iload 6, 2) := by decide +kernel
theorem dL_isSound_204 : decode cL_isSound 204 = .ok (.ishl, 1) := by decide +kernel
theorem dL_isSound_205 : decode cL_isSound 205 = .ok (.goto 4, 3) := by decide +kernel
theorem dL_isSound_208 : decode cL_isSound 208 = .ok (.iconst 0, 1) := by decide +kernel
theorem dL_isSound_209 : decode cL_isSound 209 = .ok (.ior, 1) := by decide +kernel
theorem dL_isSound_210 : decode cL_isSound 210 = .ok (.istore 4, 2) := by decide +kernel
theorem dL_isSound_212 : decode cL_isSound 212 = .ok (.aload_n 0, 1) := by decide +kernel
theorem dL_isSound_213 : decode cL_isSound 213 = .ok (.iload 6, 2) := by decide +kernel
theorem dL_isSound_215 : decode cL_isSound 215 = .ok (.invokevirtual 125, 3) := by decide +kernel
theorem dL_isSound_218 : decode cL_isSound 218 = .ok (.istore 10, 2) := by decide +kernel
theorem dL_isSound_220 : decode cL_isSound 220 = .ok (.iload 10, 2) := by decide +kernel
theorem dL_isSound_222 : decode cL_isSound 222 = .ok (.ifCond .lt 36, 3) := by decide +kernel
theorem dL_isSound_225 : decode cL_isSound 225 = .ok (.aload_n 0, 1) := by decide +kernel
theorem dL_isSound_226 : decode cL_isSound 226 = .ok (.iload 6, 2) := by decide +kernel
theorem dL_isSound_228 : decode cL_isSound 228 = .ok (.iload 10, 2) := by decide +kernel
theorem dL_isSound_230 : decode cL_isSound 230 = .ok (.iconst 0, 1) := by decide +kernel
theorem dL_isSound_231 : decode cL_isSound 231 = .ok (.invokevirtual 116, 3) := by decide +kernel
theorem dL_isSound_234 : decode cL_isSound 234 = .ok (.aload_n 0, 1) := by decide +kernel
theorem dL_isSound_235 : decode cL_isSound 235 = .ok (.iload 6, 2) := by decide +kernel
theorem dL_isSound_237 : decode cL_isSound 237 = .ok (.iload 10, 2) := by decide +kernel
theorem dL_isSound_239 : decode cL_isSound 239 = .ok (.iconst 0, 1) := by decide +kernel
theorem dL_isSound_240 : decode cL_isSound 240 = .ok (.invokevirtual 99, 3) := by decide +kernel
theorem dL_isSound_243 : decode cL_isSound 243 = .ok (.if_icmp .ge 44, 3) := by decide +kernel
theorem dL_isSound_246 : decode cL_isSound 246 = .ok (.aload_n 0, 1) := by decide +kernel
theorem dL_isSound_247 : decode cL_isSound 247 = .ok (.iload 6, 2) := by decide +kernel
theorem dL_isSound_249 : decode cL_isSound 249 = .ok (.iload 10, 2) := by decide +kernel
theorem dL_isSound_251 : decode cL_isSound 251 = .ok (.iconst 0, 1) := by decide +kernel
theorem dL_isSound_252 : decode cL_isSound 252 = .ok (.invokevirtual 116, 3) := by decide +kernel
theorem dL_isSound_255 : decode cL_isSound 255 = .ok (.ifCond .lt 32, 3) := by decide +kernel
theorem dL_isSound_258 : decode cL_isSound 258 = .ok (.iload 10, 2) := by decide +kernel
theorem dL_isSound_260 : decode cL_isSound 260 = .ok (.iload_n 3, 1) := by decide +kernel
theorem dL_isSound_261 : decode cL_isSound 261 = .ok (.if_icmp .ne 7, 3) := by decide +kernel
theorem dL_isSound_264 : decode cL_isSound 264 = .ok (.iconst 1, 1) := by decide +kernel
theorem dL_isSound_265 : decode cL_isSound 265 = .ok (.goto 4, 3) := by decide +kernel
theorem dL_isSound_268 : decode cL_isSound 268 = .ok (.iconst 0, 1) := by decide +kernel
theorem dL_isSound_269 : decode cL_isSound 269 = .ok (.iload 4, 2) := by decide +kernel
theorem dL_isSound_271 : decode cL_isSound 271 = .ok (.iload 6, 2) := by decide +kernel
theorem dL_isSound_273 : decode cL_isSound 273 = .ok (.ishr, 1) := by decide +kernel
theorem dL_isSound_274 : decode cL_isSound 274 = .ok (.iconst 1, 1) := by decide +kernel
theorem dL_isSound_275 : decode cL_isSound 275 = .ok (.iand, 1) := by decide +kernel
theorem dL_isSound_276 : decode cL_isSound 276 = .ok (.ifCond .le 7, 3) := by decide +kernel
theorem dL_isSound_279 : decode cL_isSound 279 = .ok (.iconst 1, 1) := by decide +kernel
theorem dL_isSound_280 : decode cL_isSound 280 = .ok (.goto 4, 3) := by decide +kernel
theorem dL_isSound_283 : decode cL_isSound 283 = .ok (.iconst 0, 1) := by decide +kernel
theorem dL_isSound_284 : decode cL_isSound 284 = .ok (.if_icmp .eq 5, 3) := by decide +kernel
theorem dL_isSound_287 : decode cL_isSound 287 = .ok (.iconst 0, 1) := by decide +kernel
theorem dL_isSound_288 : decode cL_isSound 288 = .ok (.ireturn, 1) := by decide +kernel
theorem dL_isSound_289 : decode cL_isSound 289 = .ok (.aload_n 0, 1) := by decide +kernel
theorem dL_isSound_290 : decode cL_isSound 290 = .ok (.iload 6, 2) := by decide +kernel
theorem dL_isSound_292 : decode cL_isSound 292 = .ok (.iload_n 3, 1) := by decide +kernel
theorem dL_isSound_293 : decode cL_isSound 293 = .ok (.invokevirtual 128, 3) := by decide +kernel
theorem dL_isSound_296 : decode cL_isSound 296 = .ok (.istore 11, 2) := by decide +kernel
theorem dL_isSound_298 : decode cL_isSound 298 = .ok (.iload 11, 2) := by decide +kernel
theorem dL_isSound_300 : decode cL_isSound 300 = .ok (.ifCond .lt 35, 3) := by decide +kernel
theorem dL_isSound_303 : decode cL_isSound 303 = .ok (.aload_n 0, 1) := by decide +kernel
theorem dL_isSound_304 : decode cL_isSound 304 = .ok (.iload 11, 2) := by decide +kernel
theorem dL_isSound_306 : decode cL_isSound 306 = .ok (.iconst 3, 1) := by decide +kernel
theorem dL_isSound_307 : decode cL_isSound 307 = .ok (.invokevirtual 131, 3) := by decide +kernel
theorem dL_isSound_310 : decode cL_isSound 310 = .ok (.iload_n 3, 1) := by decide +kernel
theorem dL_isSound_311 : decode cL_isSound 311 = .ok (.if_icmp .gt 34, 3) := by decide +kernel
theorem dL_isSound_314 : decode cL_isSound 314 = .ok (.aload_n 0, 1) := by decide +kernel
theorem dL_isSound_315 : decode cL_isSound 315 = .ok (.iload 11, 2) := by decide +kernel
theorem dL_isSound_317 : decode cL_isSound 317 = .ok (.iconst 4, 1) := by decide +kernel
theorem dL_isSound_318 : decode cL_isSound 318 = .ok (.invokevirtual 131, 3) := by decide +kernel
theorem dL_isSound_321 : decode cL_isSound 321 = .ok (.ifCond .lt 14, 3) := by decide +kernel
theorem dL_isSound_324 : decode cL_isSound 324 = .ok (.aload_n 0, 1) := by decide +kernel
theorem dL_isSound_325 : decode cL_isSound 325 = .ok (.iload 11, 2) := by decide +kernel
theorem dL_isSound_327 : decode cL_isSound 327 = .ok (.iconst 4, 1) := by decide +kernel
theorem dL_isSound_328 : decode cL_isSound 328 = .ok (.invokevirtual 131, 3) := by decide +kernel
theorem dL_isSound_331 : decode cL_isSound 331 = .ok (.iload_n 3, 1) := by decide +kernel
theorem dL_isSound_332 : decode cL_isSound 332 = .ok (.if_icmp .lt 13, 3) := by decide +kernel
theorem dL_isSound_335 : decode cL_isSound 335 = .ok (.iload 11, 2) := by decide +kernel
theorem dL_isSound_337 : decode cL_isSound 337 = .ok (.aload_n 0, 1) := by decide +kernel
theorem dL_isSound_338 : decode cL_isSound 338 = .ok (.iconst 0, 1) := by decide +kernel
theorem dL_isSound_339 : decode cL_isSound 339 = .ok (.invokevirtual 32, 3) := by decide +kernel
theorem dL_isSound_342 : decode cL_isSound 342 = .ok (.if_icmp .lt 5, 3) := by decide +kernel
theorem dL_isSound_345 : decode cL_isSound 345 = .ok (.iconst 0, 1) := by decide +kernel
theorem dL_isSound_346 : decode cL_isSound 346 = .ok (.ireturn, 1) := by decide +kernel
theorem dL_isSound_347 : decode cL_isSound 347 = .ok (.iinc 6 1, 3) := by decide +kernel
theorem dL_isSound_350 : decode cL_isSound 350 = .ok (.goto (-285), 3) := by decide +kernel
theorem dL_isSound_353 : decode cL_isSound 353 = .ok (.iload 4, 2) := by decide +kernel
theorem dL_isSound_355 : decode cL_isSound 355 = .ok (.aload_n 0, 1) := by decide +kernel
theorem dL_isSound_356 : decode cL_isSound 356 = .ok (.bipush 7, 2) := by decide +kernel
theorem dL_isSound_358 : decode cL_isSound 358 = .ok (.invokevirtual 32, 3) := by decide +kernel
theorem dL_isSound_361 : decode cL_isSound 361 = .ok (.if_icmp .ne 17, 3) := by decide +kernel
theorem dL_isSound_364 : decode cL_isSound 364 = .ok (.iload_n 2, 1) := by decide +kernel
theorem dL_isSound_365 : decode cL_isSound 365 = .ok (.aload_n 0, 1) := by decide +kernel
theorem dL_isSound_366 : decode cL_isSound 366 = .ok (.bipush 8, 2) := by decide +kernel
theorem dL_isSound_368 : decode cL_isSound 368 = .ok (.invokevirtual 32, 3) := by decide +kernel
theorem dL_isSound_371 : decode cL_isSound 371 = .ok (.if_icmp .ne 7, 3) := by decide +kernel
theorem dL_isSound_374 : decode cL_isSound 374 = .ok (.iconst 1, 1) := by decide +kernel
theorem dL_isSound_375 : decode cL_isSound 375 = .ok (.goto 4, 3) := by decide +kernel
theorem dL_isSound_378 : decode cL_isSound 378 = .ok (.iconst 0, 1) := by decide +kernel
theorem dL_isSound_379 : decode cL_isSound 379 = .ok (.ireturn, 1) := by decide +kernel
