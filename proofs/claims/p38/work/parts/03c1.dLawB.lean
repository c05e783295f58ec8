theorem dL_isTrue_554 : decode cL_isTrue 554 = .ok (.invokevirtual 146, 3) := by decide +kernel
theorem dL_isTrue_557 : decode cL_isTrue 557 = .ok (.ifCond .eq 7, 3) := by decide +kernel
theorem dL_isTrue_560 : decode cL_isTrue 560 = .ok (.iconst 1, 1) := by decide +kernel
theorem dL_isTrue_561 : decode cL_isTrue 561 = .ok (.goto 4, 3) := by decide +kernel
theorem dL_isTrue_564 : decode cL_isTrue 564 = .ok (.iconst 0, 1) := by decide +kernel
theorem dL_isTrue_565 : decode cL_isTrue 565 = .ok (.ireturn, 1) := by decide +kernel
theorem dL_isStep_0 : decode cL_isStep 0 = .ok (.aload_n 0, 1) := by decide +kernel
theorem dL_isStep_1 : decode cL_isStep 1 = .ok (.iload_n 1, 1) := by decide +kernel
theorem dL_isStep_2 : decode cL_isStep 2 = .ok (.iload_n 2, 1) := by decide +kernel
theorem dL_isStep_3 : decode cL_isStep 3 = .ok (.iload_n 3, 1) := by decide +kernel
theorem dL_isStep_4 : decode cL_isStep 4 = .ok (.invokevirtual 114, 3) := by decide +kernel
theorem dL_isStep_7 : decode cL_isStep 7 = .ok (.istore 6, 2) := by decide +kernel
theorem dL_isStep_9 : decode cL_isStep 9 = .ok (.aload 5, 2) := by decide +kernel
theorem dL_isStep_11 : decode cL_isStep 11 = .ok (.bipush 80, 2) := by decide +kernel
theorem dL_isStep_13 : decode cL_isStep 13 = .ok (.iload_n 2, 1) := by decide +kernel
theorem dL_isStep_14 : decode cL_isStep 14 = .ok (.imul, 1) := by decide +kernel
theorem dL_isStep_15 : decode cL_isStep 15 = .ok (.iload_n 3, 1) := by decide +kernel
theorem dL_isStep_16 : decode cL_isStep 16 = .ok (.iadd, 1) := by decide +kernel
theorem dL_isStep_17 : decode cL_isStep 17 = .ok (.baload, 1) := by decide +kernel
theorem dL_isStep_18 : decode cL_isStep 18 = .ok (.ifCond .eq 15, 3) := by decide +kernel
theorem dL_isStep_21 : decode cL_isStep 21 = .ok (.iload 6, 2) := by decide +kernel
theorem dL_isStep_23 : decode cL_isStep 23 = .ok (.iconst 1, 1) := by decide +kernel
theorem dL_isStep_24 : decode cL_isStep 24 = .ok (.if_icmp .ne 7, 3) := by decide +kernel
theorem dL_isStep_27 : decode cL_isStep 27 = .ok (.iconst 1, 1) := by decide +kernel
theorem dL_isStep_28 : decode cL_isStep 28 = .ok (.goto 4, 3) := by decide +kernel
theorem dL_isStep_31 : decode cL_isStep 31 = .ok (.iconst 0, 1) := by decide +kernel
theorem dL_isStep_32 : decode cL_isStep 32 = .ok (.ireturn, 1) := by decide +kernel
theorem dL_isStep_33 : decode cL_isStep 33 = .ok (.iconst (-1), 1) := by decide +kernel
theorem dL_isStep_34 : decode cL_isStep 34 = .ok (.istore 7, 2) := by decide +kernel
theorem dL_isStep_36 : decode cL_isStep 36 = .ok (.iconst 0, 1) := by decide +kernel
theorem dL_isStep_37 : decode cL_isStep 37 = .ok (.istore 8, 2) := by decide +kernel
theorem dL_isStep_39 : decode cL_isStep 39 = .ok (.iload 8, 2) := by decide +kernel
theorem dL_isStep_41 : decode cL_isStep 41 = .ok (.iload 4, 2) := by decide +kernel
theorem dL_isStep_43 : decode cL_isStep 43 = .ok (.if_icmp .ge 61, 3) := by decide +kernel
theorem dL_isStep_46 : decode cL_isStep 46 = .ok (.aload 5, 2) := by decide +kernel
theorem dL_isStep_48 : decode cL_isStep 48 = .ok (.bipush 80, 2) := by decide +kernel
theorem dL_isStep_50 : decode cL_isStep 50 = .ok (.iload_n 2, 1) := by decide +kernel
theorem dL_isStep_51 : decode cL_isStep 51 = .ok (.imul, 1) := by decide +kernel
theorem dL_isStep_52 : decode cL_isStep 52 = .ok (.iload 8, 2) := by decide +kernel
theorem dL_isStep_54 : decode cL_isStep 54 = .ok (.iadd, 1) := by decide +kernel
theorem dL_isStep_55 : decode cL_isStep 55 = .ok (.baload, 1) := by decide +kernel
theorem dL_isStep_56 : decode cL_isStep 56 = .ok (.ifCond .eq 14, 3) := by decide +kernel
theorem dL_isStep_59 : decode cL_isStep 59 = .ok (.aload_n 0, 1) := by decide +kernel
theorem dL_isStep_60 : decode cL_isStep 60 = .ok (.iload_n 1, 1) := by decide +kernel
theorem dL_isStep_61 : decode cL_isStep 61 = .ok (.iload 8, 2) := by decide +kernel
theorem dL_isStep_63 : decode cL_isStep 63 = .ok (.iload_n 3, 1) := by decide +kernel
theorem dL_isStep_64 : decode cL_isStep 64 = .ok (.invokevirtual 114, 3) := by decide +kernel
theorem dL_isStep_67 : decode cL_isStep 67 = .ok (.goto 4, 3) := by decide +kernel
theorem dL_isStep_70 : decode cL_isStep 70 = .ok (.iconst (-1), 1) := by decide +kernel
theorem dL_isStep_71 : decode cL_isStep 71 = .ok (.istore 9, 2) := by decide +kernel
theorem dL_isStep_73 : decode cL_isStep 73 = .ok (.iload 9, 2) := by decide +kernel
theorem dL_isStep_75 : decode cL_isStep 75 = .ok (.ifCond .le 23, 3) := by decide +kernel
theorem dL_isStep_78 : decode cL_isStep 78 = .ok (.iload 7, 2) := by decide +kernel
theorem dL_isStep_80 : decode cL_isStep 80 = .ok (.ifCond .lt 12, 3) := by decide +kernel
theorem dL_isStep_83 : decode cL_isStep 83 = .ok (.iload 9, 2) := by decide +kernel
theorem dL_isStep_85 : decode cL_isStep 85 = .ok (.iconst 1, 1) := by decide +kernel
theorem dL_isStep_86 : decode cL_isStep 86 = .ok (.iadd, 1) := by decide +kernel
theorem dL_isStep_87 : decode cL_isStep 87 = .ok (.iload 7, 2) := by decide +kernel
theorem dL_isStep_89 : decode cL_isStep 89 = .ok (.if_icmp .ge 9, 3) := by decide +kernel
theorem dL_isStep_92 : decode cL_isStep 92 = .ok (.iload 9, 2) := by decide +kernel
theorem dL_isStep_94 : decode cL_isStep 94 = .ok (.iconst 1, 1) := by decide +kernel
theorem dL_isStep_95 : decode cL_isStep 95 = .ok (.iadd, 1) := by decide +kernel
theorem dL_isStep_96 : decode cL_isStep 96 = .ok (.istore 7, 2) := by decide +kernel
theorem dL_isStep_98 : decode cL_isStep 98 = .ok (.iinc 8 1, 3) := by decide +kernel
theorem dL_isStep_101 : decode cL_isStep 101 = .ok (.goto (-62), 3) := by decide +kernel
theorem dL_isStep_104 : decode cL_isStep 104 = .ok (.iload 6, 2) := by decide +kernel
theorem dL_isStep_106 : decode cL_isStep 106 = .ok (.iload 7, 2) := by decide +kernel
theorem dL_isStep_108 : decode cL_isStep 108 = .ok (.if_icmp .ne 7, 3) := by decide +kernel
theorem dL_isStep_111 : decode cL_isStep 111 = .ok (.iconst 1, 1) := by decide +kernel
theorem dL_isStep_112 : decode cL_isStep 112 = .ok (.goto 4, 3) := by decide +kernel
theorem dL_isStep_115 : decode cL_isStep 115 = .ok (.iconst 0, 1) := by decide +kernel
theorem dL_isStep_116 : decode cL_isStep 116 = .ok (.ireturn, 1) := by decide +kernel
theorem dL_isOrder_0 : decode cL_isOrder 0 = .ok (.bipush 80, 2) := by decide +kernel
theorem dL_isOrder_2 : decode cL_isOrder 2 = .ok (.newarray .boolean, 2) := by decide +kernel
theorem dL_isOrder_4 : decode cL_isOrder 4 = .ok (.astore 4, 2) := by decide +kernel
theorem dL_isOrder_6 : decode cL_isOrder 6 = .ok (.bipush 80, 2) := by decide +kernel
theorem dL_isOrder_8 : decode cL_isOrder 8 = .ok (.newarray .int, 2) := by decide +kernel
theorem dL_isOrder_10 : decode cL_isOrder 10 = .ok (.astore 5, 2) := by decide +kernel
theorem dL_isOrder_12 : decode cL_isOrder 12 = .ok (.iconst 0, 1) := by decide +kernel
theorem dL_isOrder_13 : decode cL_isOrder 13 = .ok (.istore 6, 2) := by decide +kernel
theorem dL_isOrder_15 : decode cL_isOrder 15 = .ok (.iconst 0, 1) := by decide +kernel
theorem dL_isOrder_16 : decode cL_isOrder 16 = .ok (.istore 7, 2) := by decide +kernel
theorem dL_isOrder_18 : decode cL_isOrder 18 = .ok (.iload 7, 2) := by decide +kernel
theorem dL_isOrder_20 : decode cL_isOrder 20 = .ok (.iload_n 2, 1) := by decide +kernel
theorem dL_isOrder_21 : decode cL_isOrder 21 = .ok (.if_icmp .ge 132, 3) := by decide +kernel
theorem dL_isOrder_24 : decode cL_isOrder 24 = .ok (.iconst 0, 1) := by decide +kernel
theorem dL_isOrder_25 : decode cL_isOrder 25 = .ok (.istore 8, 2) := by decide +kernel
theorem dL_isOrder_27 : decode cL_isOrder 27 = .ok (.iload 8, 2) := by decide +kernel
theorem dL_isOrder_29 : decode cL_isOrder 29 = .ok (.iload_n 2, 1) := by decide +kernel
theorem dL_isOrder_30 : decode cL_isOrder 30 = .ok (.if_icmp .ge 29, 3) := by decide +kernel
theorem dL_isOrder_33 : decode cL_isOrder 33 = .ok (.aload 4, 2) := by decide +kernel
theorem dL_isOrder_35 : decode cL_isOrder 35 = .ok (.iload 8, 2) := by decide +kernel
theorem dL_isOrder_37 : decode cL_isOrder 37 = .ok (.baload, 1) := by decide +kernel
theorem dL_isOrder_38 : decode cL_isOrder 38 = .ok (.ifCond .ne 15, 3) := by decide +kernel
theorem dL_isOrder_41 : decode cL_isOrder 41 = .ok (.aload_n 3, 1) := by decide +kernel
theorem dL_isOrder_42 : decode cL_isOrder 42 = .ok (.iload_n 2, 1) := by decide +kernel
theorem dL_isOrder_43 : decode cL_isOrder 43 = .ok (.iload 8, 2) := by decide +kernel
theorem dL_isOrder_45 : decode cL_isOrder 45 = .ok (.aload 4, 2) := by decide +kernel
theorem dL_isOrder_47 : decode cL_isOrder 47 = .ok (.invokestatic 153, 3) := by decide +kernel
theorem dL_isOrder_50 : decode cL_isOrder 50 = .ok (.ifCond .ne 9, 3) := by decide +kernel
theorem dL_isOrder_53 : decode cL_isOrder 53 = .ok (.iinc 8 1, 3) := by decide +kernel
theorem dL_isOrder_56 : decode cL_isOrder 56 = .ok (.goto (-29), 3) := by decide +kernel
theorem dL_isOrder_59 : decode cL_isOrder 59 = .ok (.iload 8, 2) := by decide +kernel
theorem dL_isOrder_61 : decode cL_isOrder 61 = .ok (.iload_n 2, 1) := by decide +kernel
theorem dL_isOrder_62 : decode cL_isOrder 62 = .ok (.if_icmp .eq 17, 3) := by decide +kernel
theorem dL_isOrder_65 : decode cL_isOrder 65 = .ok (.aload_n 0, 1) := by decide +kernel
theorem dL_isOrder_66 : decode cL_isOrder 66 = .ok (.iconst 2, 1) := by decide +kernel
theorem dL_isOrder_67 : decode cL_isOrder 67 = .ok (.iload_n 1, 1) := by decide +kernel
theorem dL_isOrder_68 : decode cL_isOrder 68 = .ok (.iload 7, 2) := by decide +kernel
theorem dL_isOrder_70 : decode cL_isOrder 70 = .ok (.iconst 0, 1) := by decide +kernel
theorem dL_isOrder_71 : decode cL_isOrder 71 = .ok (.invokestatic 72, 3) := by decide +kernel
theorem dL_isOrder_74 : decode cL_isOrder 74 = .ok (.iload 8, 2) := by decide +kernel
theorem dL_isOrder_76 : decode cL_isOrder 76 = .ok (.if_icmp .eq 5, 3) := by decide +kernel
theorem dL_isOrder_79 : decode cL_isOrder 79 = .ok (.iconst 0, 1) := by decide +kernel
theorem dL_isOrder_80 : decode cL_isOrder 80 = .ok (.ireturn, 1) := by decide +kernel
theorem dL_isOrder_81 : decode cL_isOrder 81 = .ok (.aload 4, 2) := by decide +kernel
theorem dL_isOrder_83 : decode cL_isOrder 83 = .ok (.iload 8, 2) := by decide +kernel
theorem dL_isOrder_85 : decode cL_isOrder 85 = .ok (.iconst 1, 1) := by decide +kernel
theorem dL_isOrder_86 : decode cL_isOrder 86 = .ok (.bastore, 1) := by decide +kernel
theorem dL_isOrder_87 : decode cL_isOrder 87 = .ok (.iconst 0, 1) := by decide +kernel
theorem dL_isOrder_88 : decode cL_isOrder 88 = .ok (.istore 9, 2) := by decide +kernel
theorem dL_isOrder_90 : decode cL_isOrder 90 = .ok (.iload 9, 2) := by decide +kernel
theorem dL_isOrder_92 : decode cL_isOrder 92 = .ok (.iload_n 2, 1) := by decide +kernel
theorem dL_isOrder_93 : decode cL_isOrder 93 = .ok (.if_icmp .ge 42, 3) := by decide +kernel
theorem dL_isOrder_96 : decode cL_isOrder 96 = .ok (.aload_n 3, 1) := by decide +kernel
theorem dL_isOrder_97 : decode cL_isOrder 97 = .ok (.bipush 80, 2) := by decide +kernel
theorem dL_isOrder_99 : decode cL_isOrder 99 = .ok (.iload 9, 2) := by decide +kernel
theorem dL_isOrder_101 : decode cL_isOrder 101 = .ok (.imul, 1) := by decide +kernel
theorem dL_isOrder_102 : decode cL_isOrder 102 = .ok (.iload 8, 2) := by decide +kernel
theorem dL_isOrder_104 : decode cL_isOrder 104 = .ok (.iadd, 1) := by decide +kernel
theorem dL_isOrder_105 : decode cL_isOrder 105 = .ok (.baload, 1) := by decide +kernel
theorem dL_isOrder_106 : decode cL_isOrder 106 = .ok (.ifCond .eq 23, 3) := by decide +kernel
theorem dL_isOrder_109 : decode cL_isOrder 109 = .ok (.aload 5, 2) := by decide +kernel
theorem dL_isOrder_111 : decode cL_isOrder 111 = .ok (.iload 8, 2) := by decide +kernel
theorem dL_isOrder_113 : decode cL_isOrder 113 = .ok (.aload 5, 2) := by decide +kernel
theorem dL_isOrder_115 : decode cL_isOrder 115 = .ok (.iload 8, 2) := by decide +kernel
theorem dL_isOrder_117 : decode cL_isOrder 117 = .ok (.iaload, 1) := by decide +kernel
theorem dL_isOrder_118 : decode cL_isOrder 118 = .ok (.aload 5, 2) := by decide +kernel
theorem dL_isOrder_120 : decode cL_isOrder 120 = .ok (.iload 9, 2) := by decide +kernel
theorem dL_isOrder_122 : decode cL_isOrder 122 = .ok (.iaload, 1) := by decide +kernel
theorem dL_isOrder_123 : decode cL_isOrder 123 = .ok (.iconst 1, 1) := by decide +kernel
theorem dL_isOrder_124 : decode cL_isOrder 124 = .ok (.iadd, 1) := by decide +kernel
theorem dL_isOrder_125 : decode cL_isOrder 125 = .ok (.invokestatic 157, 3) := by decide +kernel
theorem dL_isOrder_128 : decode cL_isOrder 128 = .ok (.iastore, 1) := by decide +kernel
theorem dL_isOrder_129 : decode cL_isOrder 129 = .ok (.iinc 9 1, 3) := by decide +kernel
theorem dL_isOrder_132 : decode cL_isOrder 132 = .ok (.goto (-42), 3) := by decide +kernel
theorem dL_isOrder_135 : decode cL_isOrder 135 = .ok (.iload 6, 2) := by decide +kernel
theorem dL_isOrder_137 : decode cL_isOrder 137 = .ok (.aload 5, 2) := by decide +kernel
theorem dL_isOrder_139 : decode cL_isOrder 139 = .ok (.iload 8, 2) := by decide +kernel
theorem dL_isOrder_141 : decode cL_isOrder 141 = .ok (.iaload, 1) := by decide +kernel
theorem dL_isOrder_142 : decode cL_isOrder 142 = .ok (.invokestatic 157, 3) := by decide +kernel
theorem dL_isOrder_145 : decode cL_isOrder 145 = .ok (.istore 6, 2) := by decide +kernel
theorem dL_isOrder_147 : decode cL_isOrder 147 = .ok (.iinc 7 1, 3) := by decide +kernel
theorem dL_isOrder_150 : decode cL_isOrder 150 = .ok (.goto (-132), 3) := by decide +kernel
theorem dL_isOrder_153 : decode cL_isOrder 153 = .ok (.aload_n 0, 1) := by decide +kernel
theorem dL_isOrder_154 : decode cL_isOrder 154 = .ok (.iconst 2, 1) := by decide +kernel
theorem dL_isOrder_155 : decode cL_isOrder 155 = .ok (.iload_n 1, 1) := by decide +kernel
theorem dL_isOrder_156 : decode cL_isOrder 156 = .ok (.iload_n 2, 1) := by decide +kernel
theorem dL_isOrder_157 : decode cL_isOrder 157 = .ok (.iconst 0, 1) := by decide +kernel
theorem dL_isOrder_158 : decode cL_isOrder 158 = .ok (.invokestatic 72, 3) := by decide +kernel
theorem dL_isOrder_161 : decode cL_isOrder 161 = .ok (.iconst (-1), 1) := by decide +kernel
theorem dL_isOrder_162 : decode cL_isOrder 162 = .ok (.if_icmp .ne 20, 3) := by decide +kernel
theorem dL_isOrder_165 : decode cL_isOrder 165 = .ok (.aload_n 0, 1) := by decide +kernel
theorem dL_isOrder_166 : decode cL_isOrder 166 = .ok (.iconst 3, 1) := by decide +kernel
theorem dL_isOrder_167 : decode cL_isOrder 167 = .ok (.iload_n 1, 1) := by decide +kernel
theorem dL_isOrder_168 : decode cL_isOrder 168 = .ok (.iconst 0, 1) := by decide +kernel
theorem dL_isOrder_169 : decode cL_isOrder 169 = .ok (.iconst 0, 1) := by decide +kernel
theorem dL_isOrder_170 : decode cL_isOrder 170 = .ok (.invokestatic 72, 3) := by decide +kernel
theorem dL_isOrder_173 : decode cL_isOrder 173 = .ok (.iload 6, 2) := by decide +kernel
theorem dL_isOrder_175 : decode cL_isOrder 175 = .ok (.if_icmp .ne 7, 3) := by decide +kernel
theorem dL_isOrder_178 : decode cL_isOrder 178 = .ok (.iconst 1, 1) := by decide +kernel
theorem dL_isOrder_179 : decode cL_isOrder 179 = .ok (.goto 4, 3) := by decide +kernel
theorem dL_isOrder_182 : decode cL_isOrder 182 = .ok (.iconst 0, 1) := by decide +kernel
theorem dL_isOrder_183 : decode cL_isOrder 183 = .ok (.ireturn, 1) := by decide +kernel
theorem dL_isFree_0 : decode cL_isFree 0 = .ok (.iconst 0, 1) := by decide +kernel
theorem dL_isFree_1 : decode cL_isFree 1 = .ok (.istore 4, 2) := by decide +kernel
theorem dL_isFree_3 : decode cL_isFree 3 = .ok (.iload 4, 2) := by decide +kernel
theorem dL_isFree_5 : decode cL_isFree 5 = .ok (.iload_n 1, 1) := by decide +kernel
theorem dL_isFree_6 : decode cL_isFree 6 = .ok (.if_icmp .ge 30, 3) := by decide +kernel
theorem dL_isFree_9 : decode cL_isFree 9 = .ok (.aload_n 3, 1) := by decide +kernel
theorem dL_isFree_10 : decode cL_isFree 10 = .ok (.iload 4, 2) := by decide +kernel
theorem dL_isFree_12 : decode cL_isFree 12 = .ok (.baload, 1) := by decide +kernel
theorem dL_isFree_13 : decode cL_isFree 13 = .ok (.ifCond .ne 17, 3) := by decide +kernel
theorem dL_isFree_16 : decode cL_isFree 16 = .ok (.aload_n 0, 1) := by decide +kernel
theorem dL_isFree_17 : decode cL_isFree 17 = .ok (.bipush 80, 2) := by decide +kernel
theorem dL_isFree_19 : decode cL_isFree 19 = .ok (.iload 4, 2) := by decide +kernel
theorem dL_isFree_21 : decode cL_isFree 21 = .ok (.imul, 1) := by decide +kernel
theorem dL_isFree_22 : decode cL_isFree 22 = .ok (.iload_n 2, 1) := by decide +kernel
theorem dL_isFree_23 : decode cL_isFree 23 = .ok (.iadd, 1) := by decide +kernel
theorem dL_isFree_24 : decode cL_isFree 24 = .ok (.baload, 1) := by decide +kernel
theorem dL_isFree_25 : decode cL_isFree 25 = .ok (.ifCond .eq 5, 3) := by decide +kernel
theorem dL_isFree_28 : decode cL_isFree 28 = .ok (.iconst 0, 1) := by decide +kernel
theorem dL_isFree_29 : decode cL_isFree 29 = .ok (.ireturn, 1) := by decide +kernel
theorem dL_isFree_30 : decode cL_isFree 30 = .ok (.iinc 4 1, 3) := by decide +kernel
theorem dL_isFree_33 : decode cL_isFree 33 = .ok (.goto (-30), 3) := by decide +kernel
theorem dL_isFree_36 : decode cL_isFree 36 = .ok (.iconst 1, 1) := by decide +kernel
theorem dL_isFree_37 : decode cL_isFree 37 = .ok (.ireturn, 1) := by decide +kernel
theorem dL_areCovers_0 : decode cL_areCovers 0 = .ok (.aload_n 0, 1) := by decide +kernel
theorem dL_areCovers_1 : decode cL_areCovers 1 = .ok (.iconst 1, 1) := by decide +kernel
theorem dL_areCovers_2 : decode cL_areCovers 2 = .ok (.iload_n 1, 1) := by decide +kernel
theorem dL_areCovers_3 : decode cL_areCovers 3 = .ok (.iconst 3, 1) := by decide +kernel
theorem dL_areCovers_4 : decode cL_areCovers 4 = .ok (.iconst 0, 1) := by decide +kernel
theorem dL_areCovers_5 : decode cL_areCovers 5 = .ok (.invokestatic 72, 3) := by decide +kernel
theorem dL_areCovers_8 : decode cL_areCovers 8 = .ok (.istore 5, 2) := by decide +kernel
theorem dL_areCovers_10 : decode cL_areCovers 10 = .ok (.aload_n 0, 1) := by decide +kernel
theorem dL_areCovers_11 : decode cL_areCovers 11 = .ok (.iconst 3, 1) := by decide +kernel
theorem dL_areCovers_12 : decode cL_areCovers 12 = .ok (.iload_n 2, 1) := by decide +kernel
theorem dL_areCovers_13 : decode cL_areCovers 13 = .ok (.aload 4, 2) := by decide +kernel
theorem dL_areCovers_15 : decode cL_areCovers 15 = .ok (.invokestatic 87, 3) := by decide +kernel
theorem dL_areCovers_18 : decode cL_areCovers 18 = .ok (.iload 5, 2) := by decide +kernel
theorem dL_areCovers_20 : decode cL_areCovers 20 = .ok (.if_icmp .ne 23, 3) := by decide +kernel
theorem dL_areCovers_23 : decode cL_areCovers 23 = .ok (.iload 5, 2) := by decide +kernel
theorem dL_areCovers_25 : decode cL_areCovers 25 = .ok (.aload_n 0, 1) := by decide +kernel
theorem dL_areCovers_26 : decode cL_areCovers 26 = .ok (.iload_n 1, 1) := by decide +kernel
theorem dL_areCovers_27 : decode cL_areCovers 27 = .ok (.invokevirtual 99, 3) := by decide +kernel
theorem dL_areCovers_30 : decode cL_areCovers 30 = .ok (.if_icmp .gt 13, 3) := by decide +kernel
theorem dL_areCovers_33 : decode cL_areCovers 33 = .ok (.aload_n 0, 1) := by decide +kernel
theorem dL_areCovers_34 : decode cL_areCovers 34 = .ok (.iload_n 1, 1) := by decide +kernel
theorem dL_areCovers_35 : decode cL_areCovers 35 = .ok (.iconst 3, 1) := by decide +kernel
theorem dL_areCovers_36 : decode cL_areCovers 36 = .ok (.invokevirtual 150, 3) := by decide +kernel
theorem dL_areCovers_39 : decode cL_areCovers 39 = .ok (.iconst 1, 1) := by decide +kernel
theorem dL_areCovers_40 : decode cL_areCovers 40 = .ok (.if_icmp .le 5, 3) := by decide +kernel
theorem dL_areCovers_43 : decode cL_areCovers 43 = .ok (.iconst 0, 1) := by decide +kernel
theorem dL_areCovers_44 : decode cL_areCovers 44 = .ok (.ireturn, 1) := by decide +kernel
theorem dL_areCovers_45 : decode cL_areCovers 45 = .ok (.iconst 0, 1) := by decide +kernel
theorem dL_areCovers_46 : decode cL_areCovers 46 = .ok (.istore 6, 2) := by decide +kernel
theorem dL_areCovers_48 : decode cL_areCovers 48 = .ok (.iload 6, 2) := by decide +kernel
theorem dL_areCovers_50 : decode cL_areCovers 50 = .ok (.iload_n 2, 1) := by decide +kernel
theorem dL_areCovers_51 : decode cL_areCovers 51 = .ok (.if_icmp .ge 107, 3) := by decide +kernel
theorem dL_areCovers_54 : decode cL_areCovers 54 = .ok (.iconst 0, 1) := by decide +kernel
theorem dL_areCovers_55 : decode cL_areCovers 55 = .ok (.istore 7, 2) := by decide +kernel
theorem dL_areCovers_57 : decode cL_areCovers 57 = .ok (.iload 7, 2) := by decide +kernel
theorem dL_areCovers_59 : decode cL_areCovers 59 = .ok (.iload_n 2, 1) := by decide +kernel
theorem dL_areCovers_60 : decode cL_areCovers 60 = .ok (.if_icmp .ge 92, 3) := by decide +kernel
theorem dL_areCovers_63 : decode cL_areCovers 63 = .ok (.aload_n 3, 1) := by decide +kernel
theorem dL_areCovers_64 : decode cL_areCovers 64 = .ok (.bipush 80, 2) := by decide +kernel
theorem dL_areCovers_66 : decode cL_areCovers 66 = .ok (.iload 6, 2) := by decide +kernel
theorem dL_areCovers_68 : decode cL_areCovers 68 = .ok (.imul, 1) := by decide +kernel
theorem dL_areCovers_69 : decode cL_areCovers 69 = .ok (.iload 7, 2) := by decide +kernel
theorem dL_areCovers_71 : decode cL_areCovers 71 = .ok (.iadd, 1) := by decide +kernel
theorem dL_areCovers_72 : decode cL_areCovers 72 = .ok (.baload, 1) := by decide +kernel
theorem dL_areCovers_73 : decode cL_areCovers 73 = .ok (.istore 8, 2) := by decide +kernel
theorem dL_areCovers_75 : decode cL_areCovers 75 = .ok (.iconst 0, 1) := by decide +kernel
theorem dL_areCovers_76 : decode cL_areCovers 76 = .ok (.istore 9, 2) := by decide +kernel
theorem dL_areCovers_78 : decode cL_areCovers 78 = .ok (.iload 9, 2) := by decide +kernel
theorem dL_areCovers_80 : decode cL_areCovers 80 = .ok (.iload_n 2, 1) := by decide +kernel
theorem dL_areCovers_81 : decode cL_areCovers 81 = .ok (.if_icmp .ge 47, 3) := by decide +kernel
theorem dL_areCovers_84 : decode cL_areCovers 84 = .ok (.iload 8, 2) := by decide +kernel
theorem dL_areCovers_86 : decode cL_areCovers 86 = .ok (.ifCond .eq 42, 3) := by decide +kernel
theorem dL_areCovers_89 : decode cL_areCovers 89 = .ok (.aload_n 3, 1) := by decide +kernel
theorem dL_areCovers_90 : decode cL_areCovers 90 = .ok (.bipush 80, 2) := by decide +kernel
theorem dL_areCovers_92 : decode cL_areCovers 92 = .ok (.iload 6, 2) := by decide +kernel
theorem dL_areCovers_94 : decode cL_areCovers 94 = .ok (.imul, 1) := by decide +kernel
theorem dL_areCovers_95 : decode cL_areCovers 95 = .ok (.iload 9, 2) := by decide +kernel
theorem dL_areCovers_97 : decode cL_areCovers 97 = .ok (.iadd, 1) := by decide +kernel
theorem dL_areCovers_98 : decode cL_areCovers 98 = .ok (.baload, 1) := by decide +kernel
theorem dL_areCovers_99 : decode cL_areCovers 99 = .ok (.ifCond .eq 16, 3) := by decide +kernel
theorem dL_areCovers_102 : decode cL_areCovers 102 = .ok (.aload_n 3, 1) := by decide +kernel
theorem dL_areCovers_103 : decode cL_areCovers 103 = .ok (.bipush 80, 2) := by decide +kernel
theorem dL_areCovers_105 : decode cL_areCovers 105 = .ok (.iload 9, 2) := by decide +kernel
theorem dL_areCovers_107 : decode cL_areCovers 107 = .ok (.imul, 1) := by decide +kernel
theorem dL_areCovers_108 : decode cL_areCovers 108 = .ok (.iload 7, 2) := by decide +kernel
theorem dL_areCovers_110 : decode cL_areCovers 110 = .ok (.iadd, 1) := by decide +kernel
theorem dL_areCovers_111 : decode cL_areCovers 111 = .ok (.baload, 1) := by decide +kernel
theorem dL_areCovers_112 : decode cL_areCovers 112 = .ok (.ifCond .ne 7, 3) := by decide +kernel
theorem dL_areCovers_115 : decode cL_areCovers 115 = .ok (.iconst 1, 1) := by decide +kernel
theorem dL_areCovers_116 : decode cL_areCovers 116 = .ok (.goto 4, 3) := by decide +kernel
theorem dL_areCovers_119 : decode cL_areCovers 119 = .ok (.iconst 0, 1) := by decide +kernel
theorem dL_areCovers_120 : decode cL_areCovers 120 = .ok (.istore 8, 2) := by decide +kernel
theorem dL_areCovers_122 : decode cL_areCovers 122 = .ok (.iinc 9 1, 3) := by decide +kernel
theorem dL_areCovers_125 : decode cL_areCovers 125 = .ok (.goto (-47), 3) := by decide +kernel
theorem dL_areCovers_128 : decode cL_areCovers 128 = .ok (.iload 8, 2) := by decide +kernel
theorem dL_areCovers_130 : decode cL_areCovers 130 = .ok (.aload 4, 2) := by decide +kernel
theorem dL_areCovers_132 : decode cL_areCovers 132 = .ok (.bipush 80, 2) := by decide +kernel
theorem dL_areCovers_134 : decode cL_areCovers 134 = .ok (.iload 6, 2) := by decide +kernel
theorem dL_areCovers_136 : decode cL_areCovers 136 = .ok (.imul, 1) := by decide +kernel
theorem dL_areCovers_137 : decode cL_areCovers 137 = .ok (.iload 7, 2) := by decide +kernel
theorem dL_areCovers_139 : decode cL_areCovers 139 = .ok (.iadd, 1) := by decide +kernel
theorem dL_areCovers_140 : decode cL_areCovers 140 = .ok (.baload, 1) := by decide +kernel
theorem dL_areCovers_141 : decode cL_areCovers 141 = .ok (.if_icmp .eq 5, 3) := by decide +kernel
theorem dL_areCovers_144 : decode cL_areCovers 144 = .ok (.iconst 0, 1) := by decide +kernel
theorem dL_areCovers_145 : decode cL_areCovers 145 = .ok (.ireturn, 1) := by decide +kernel
theorem dL_areCovers_146 : decode cL_areCovers 146 = .ok (.iinc 7 1, 3) := by decide +kernel
theorem dL_areCovers_149 : decode cL_areCovers 149 = .ok (.goto (-92), 3) := by decide +kernel
theorem dL_areCovers_152 : decode cL_areCovers 152 = .ok (.iinc 6 1, 3) := by decide +kernel
theorem dL_areCovers_155 : decode cL_areCovers 155 = .ok (.goto (-107), 3) := by decide +kernel
theorem dL_areCovers_158 : decode cL_areCovers 158 = .ok (.aload_n 0, 1) := by decide +kernel
theorem dL_areCovers_159 : decode cL_areCovers 159 = .ok (.iconst 3, 1) := by decide +kernel
theorem dL_areCovers_160 : decode cL_areCovers 160 = .ok (.iconst 0, 1) := by decide +kernel
theorem dL_areCovers_161 : decode cL_areCovers 161 = .ok (.invokevirtual 138, 3) := by decide +kernel
theorem dL_areCovers_164 : decode cL_areCovers 164 = .ok (.istore 6, 2) := by decide +kernel
theorem dL_areCovers_166 : decode cL_areCovers 166 = .ok (.aload_n 0, 1) := by decide +kernel
theorem dL_areCovers_167 : decode cL_areCovers 167 = .ok (.iconst 3, 1) := by decide +kernel
theorem dL_areCovers_168 : decode cL_areCovers 168 = .ok (.iload_n 2, 1) := by decide +kernel
theorem dL_areCovers_169 : decode cL_areCovers 169 = .ok (.aload 4, 2) := by decide +kernel
theorem dL_areCovers_171 : decode cL_areCovers 171 = .ok (.invokestatic 87, 3) := by decide +kernel
theorem dL_areCovers_174 : decode cL_areCovers 174 = .ok (.iload 6, 2) := by decide +kernel
theorem dL_areCovers_176 : decode cL_areCovers 176 = .ok (.if_icmp .ne 17, 3) := by decide +kernel
theorem dL_areCovers_179 : decode cL_areCovers 179 = .ok (.aload_n 3, 1) := by decide +kernel
theorem dL_areCovers_180 : decode cL_areCovers 180 = .ok (.aload 4, 2) := by decide +kernel
theorem dL_areCovers_182 : decode cL_areCovers 182 = .ok (.iload_n 2, 1) := by decide +kernel
theorem dL_areCovers_183 : decode cL_areCovers 183 = .ok (.invokestatic 142, 3) := by decide +kernel
theorem dL_areCovers_186 : decode cL_areCovers 186 = .ok (.ifCond .eq 7, 3) := by decide +kernel
theorem dL_areCovers_189 : decode cL_areCovers 189 = .ok (.iconst 1, 1) := by decide +kernel
theorem dL_areCovers_190 : decode cL_areCovers 190 = .ok (.goto 4, 3) := by decide +kernel
theorem dL_areCovers_193 : decode cL_areCovers 193 = .ok (.iconst 0, 1) := by decide +kernel
theorem dL_areCovers_194 : decode cL_areCovers 194 = .ok (.ireturn, 1) := by decide +kernel
theorem dL_isAlgebra_0 : decode cL_isAlgebra 0 = .ok (.aload_n 1, 1) := by decide +kernel
theorem dL_isAlgebra_1 : decode cL_isAlgebra 1 = .ok (.invokestatic 8, 3) := by decide +kernel
theorem dL_isAlgebra_4 : decode cL_isAlgebra 4 = .ok (.iconst 3, 1) := by decide +kernel
theorem dL_isAlgebra_5 : decode cL_isAlgebra 5 = .ok (.irem, 1) := by decide +kernel
theorem dL_isAlgebra_6 : decode cL_isAlgebra 6 = .ok (.istore 6, 2) := by decide +kernel
theorem dL_isAlgebra_8 : decode cL_isAlgebra 8 = .ok (.aload_n 1, 1) := by decide +kernel
theorem dL_isAlgebra_9 : decode cL_isAlgebra 9 = .ok (.invokestatic 8, 3) := by decide +kernel
theorem dL_isAlgebra_12 : decode cL_isAlgebra 12 = .ok (.iconst 3, 1) := by decide +kernel
theorem dL_isAlgebra_13 : decode cL_isAlgebra 13 = .ok (.irem, 1) := by decide +kernel
theorem dL_isAlgebra_14 : decode cL_isAlgebra 14 = .ok (.istore 7, 2) := by decide +kernel
theorem dL_isAlgebra_16 : decode cL_isAlgebra 16 = .ok (.aload_n 1, 1) := by decide +kernel
theorem dL_isAlgebra_17 : decode cL_isAlgebra 17 = .ok (.invokestatic 8, 3) := by decide +kernel
theorem dL_isAlgebra_20 : decode cL_isAlgebra 20 = .ok (.iconst 3, 1) := by decide +kernel
theorem dL_isAlgebra_21 : decode cL_isAlgebra 21 = .ok (.irem, 1) := by decide +kernel
theorem dL_isAlgebra_22 : decode cL_isAlgebra 22 = .ok (.istore 8, 2) := by decide +kernel
theorem dL_isAlgebra_24 : decode cL_isAlgebra 24 = .ok (.aload_n 0, 1) := by decide +kernel
theorem dL_isAlgebra_25 : decode cL_isAlgebra 25 = .ok (.iload 6, 2) := by decide +kernel
theorem dL_isAlgebra_27 : decode cL_isAlgebra 27 = .ok (.iload 7, 2) := by decide +kernel
theorem dL_isAlgebra_29 : decode cL_isAlgebra 29 = .ok (.iconst 3, 1) := by decide +kernel
theorem dL_isAlgebra_30 : decode cL_isAlgebra 30 = .ok (.invokevirtual 160, 3) := by decide +kernel
theorem dL_isAlgebra_33 : decode cL_isAlgebra 33 = .ok (.ifCond .lt 25, 3) := by decide +kernel
theorem dL_isAlgebra_36 : decode cL_isAlgebra 36 = .ok (.aload_n 0, 1) := by decide +kernel
theorem dL_isAlgebra_37 : decode cL_isAlgebra 37 = .ok (.iconst 3, 1) := by decide +kernel
theorem dL_isAlgebra_38 : decode cL_isAlgebra 38 = .ok (.iload 8, 2) := by decide +kernel
theorem dL_isAlgebra_40 : decode cL_isAlgebra 40 = .ok (.iconst 3, 1) := by decide +kernel
theorem dL_isAlgebra_41 : decode cL_isAlgebra 41 = .ok (.invokevirtual 160, 3) := by decide +kernel
theorem dL_isAlgebra_44 : decode cL_isAlgebra 44 = .ok (.aload_n 0, 1) := by decide +kernel
theorem dL_isAlgebra_45 : decode cL_isAlgebra 45 = .ok (.iconst 3, 1) := by decide +kernel
theorem dL_isAlgebra_46 : decode cL_isAlgebra 46 = .ok (.iload_n 2, 1) := by decide +kernel
theorem dL_isAlgebra_47 : decode cL_isAlgebra 47 = .ok (.aload_n 3, 1) := by decide +kernel
theorem dL_isAlgebra_48 : decode cL_isAlgebra 48 = .ok (.invokestatic 87, 3) := by decide +kernel
theorem dL_isAlgebra_51 : decode cL_isAlgebra 51 = .ok (.if_icmp .ne 7, 3) := by decide +kernel
theorem dL_isAlgebra_54 : decode cL_isAlgebra 54 = .ok (.iconst 1, 1) := by decide +kernel
theorem dL_isAlgebra_55 : decode cL_isAlgebra 55 = .ok (.goto 4, 3) := by decide +kernel
theorem dL_isAlgebra_58 : decode cL_isAlgebra 58 = .ok (.iconst 0, 1) := by decide +kernel
theorem dL_isAlgebra_59 : decode cL_isAlgebra 59 = .ok (.istore 9, 2) := by decide +kernel
theorem dL_isAlgebra_61 : decode cL_isAlgebra 61 = .ok (.aload_n 0, 1) := by decide +kernel
theorem dL_isAlgebra_62 : decode cL_isAlgebra 62 = .ok (.iconst 3, 1) := by decide +kernel
theorem dL_isAlgebra_63 : decode cL_isAlgebra 63 = .ok (.iload_n 2, 1) := by decide +kernel
theorem dL_isAlgebra_64 : decode cL_isAlgebra 64 = .ok (.aload_n 3, 1) := by decide +kernel
theorem dL_isAlgebra_65 : decode cL_isAlgebra 65 = .ok (.invokestatic 87, 3) := by decide +kernel
theorem dL_isAlgebra_68 : decode cL_isAlgebra 68 = .ok (.istore 10, 2) := by decide +kernel
theorem dL_isAlgebra_70 : decode cL_isAlgebra 70 = .ok (.iload 9, 2) := by decide +kernel
theorem dL_isAlgebra_72 : decode cL_isAlgebra 72 = .ok (.ifCond .eq 55, 3) := by decide +kernel
theorem dL_isAlgebra_75 : decode cL_isAlgebra 75 = .ok (.aload_n 0, 1) := by decide +kernel
theorem dL_isAlgebra_76 : decode cL_isAlgebra 76 = .ok (.iload 7, 2) := by decide +kernel
theorem dL_isAlgebra_78 : decode cL_isAlgebra 78 = .ok (.iload 8, 2) := by decide +kernel
theorem dL_isAlgebra_80 : decode cL_isAlgebra 80 = .ok (.iconst 3, 1) := by decide +kernel
theorem dL_isAlgebra_81 : decode cL_isAlgebra 81 = .ok (.invokevirtual 160, 3) := by decide +kernel
theorem dL_isAlgebra_84 : decode cL_isAlgebra 84 = .ok (.ifCond .lt 43, 3) := by decide +kernel
theorem dL_isAlgebra_87 : decode cL_isAlgebra 87 = .ok (.aload_n 0, 1) := by decide +kernel
theorem dL_isAlgebra_88 : decode cL_isAlgebra 88 = .ok (.iload 6, 2) := by decide +kernel
theorem dL_isAlgebra_90 : decode cL_isAlgebra 90 = .ok (.iconst 3, 1) := by decide +kernel
theorem dL_isAlgebra_91 : decode cL_isAlgebra 91 = .ok (.iconst 3, 1) := by decide +kernel
theorem dL_isAlgebra_92 : decode cL_isAlgebra 92 = .ok (.invokevirtual 160, 3) := by decide +kernel
theorem dL_isAlgebra_95 : decode cL_isAlgebra 95 = .ok (.iload 10, 2) := by decide +kernel
theorem dL_isAlgebra_97 : decode cL_isAlgebra 97 = .ok (.if_icmp .ne 30, 3) := by decide +kernel
theorem dL_isAlgebra_100 : decode cL_isAlgebra 100 = .ok (.aload_n 0, 1) := by decide +kernel
theorem dL_isAlgebra_101 : decode cL_isAlgebra 101 = .ok (.iconst 3, 1) := by decide +kernel
theorem dL_isAlgebra_102 : decode cL_isAlgebra 102 = .ok (.iload_n 2, 1) := by decide +kernel
theorem dL_isAlgebra_103 : decode cL_isAlgebra 103 = .ok (.aload 4, 2) := by decide +kernel
theorem dL_isAlgebra_105 : decode cL_isAlgebra 105 = .ok (.invokestatic 87, 3) := by decide +kernel
theorem dL_isAlgebra_108 : decode cL_isAlgebra 108 = .ok (.iload 10, 2) := by decide +kernel
theorem dL_isAlgebra_110 : decode cL_isAlgebra 110 = .ok (.if_icmp .ne 17, 3) := by decide +kernel
theorem dL_isAlgebra_113 : decode cL_isAlgebra 113 = .ok (.aload_n 3, 1) := by decide +kernel
theorem dL_isAlgebra_114 : decode cL_isAlgebra 114 = .ok (.aload 4, 2) := by decide +kernel
theorem dL_isAlgebra_116 : decode cL_isAlgebra 116 = .ok (.iload_n 2, 1) := by decide +kernel
theorem dL_isAlgebra_117 : decode cL_isAlgebra 117 = .ok (.invokestatic 142, 3) := by decide +kernel
theorem dL_isAlgebra_120 : decode cL_isAlgebra 120 = .ok (.ifCond .eq 7, 3) := by decide +kernel
theorem dL_isAlgebra_123 : decode cL_isAlgebra 123 = .ok (.iconst 1, 1) := by decide +kernel
theorem dL_isAlgebra_124 : decode cL_isAlgebra 124 = .ok (.goto 4, 3) := by decide +kernel
theorem dL_isAlgebra_127 : decode cL_isAlgebra 127 = .ok (.iconst 0, 1) := by decide +kernel
theorem dL_isAlgebra_128 : decode cL_isAlgebra 128 = .ok (.istore 9, 2) := by decide +kernel
theorem dL_isAlgebra_130 : decode cL_isAlgebra 130 = .ok (.aload_n 0, 1) := by decide +kernel
theorem dL_isAlgebra_131 : decode cL_isAlgebra 131 = .ok (.iload 7, 2) := by decide +kernel
theorem dL_isAlgebra_133 : decode cL_isAlgebra 133 = .ok (.iconst 3, 1) := by decide +kernel
theorem dL_isAlgebra_134 : decode cL_isAlgebra 134 = .ok (.invokevirtual 135, 3) := by decide +kernel
theorem dL_isAlgebra_137 : decode cL_isAlgebra 137 = .ok (.istore 11, 2) := by decide +kernel
theorem dL_isAlgebra_139 : decode cL_isAlgebra 139 = .ok (.aload_n 0, 1) := by decide +kernel
theorem dL_isAlgebra_140 : decode cL_isAlgebra 140 = .ok (.iconst 0, 1) := by decide +kernel
theorem dL_isAlgebra_141 : decode cL_isAlgebra 141 = .ok (.iconst 3, 1) := by decide +kernel
theorem dL_isAlgebra_142 : decode cL_isAlgebra 142 = .ok (.iload 8, 2) := by decide +kernel
theorem dL_isAlgebra_144 : decode cL_isAlgebra 144 = .ok (.iconst 0, 1) := by decide +kernel
theorem dL_isAlgebra_145 : decode cL_isAlgebra 145 = .ok (.invokestatic 72, 3) := by decide +kernel
theorem dL_isAlgebra_148 : decode cL_isAlgebra 148 = .ok (.istore 11, 2) := by decide +kernel
theorem dL_isAlgebra_150 : decode cL_isAlgebra 150 = .ok (.iload 9, 2) := by decide +kernel
theorem dL_isAlgebra_152 : decode cL_isAlgebra 152 = .ok (.ifCond .eq 74, 3) := by decide +kernel
theorem dL_isAlgebra_155 : decode cL_isAlgebra 155 = .ok (.aload_n 0, 1) := by decide +kernel
theorem dL_isAlgebra_156 : decode cL_isAlgebra 156 = .ok (.iload 6, 2) := by decide +kernel
theorem dL_isAlgebra_158 : decode cL_isAlgebra 158 = .ok (.iconst 3, 1) := by decide +kernel
theorem dL_isAlgebra_159 : decode cL_isAlgebra 159 = .ok (.iconst 3, 1) := by decide +kernel
theorem dL_isAlgebra_160 : decode cL_isAlgebra 160 = .ok (.invokevirtual 160, 3) := by decide +kernel
theorem dL_isAlgebra_163 : decode cL_isAlgebra 163 = .ok (.ifCond .lt 63, 3) := by decide +kernel
theorem dL_isAlgebra_166 : decode cL_isAlgebra 166 = .ok (.aload_n 0, 1) := by decide +kernel
theorem dL_isAlgebra_167 : decode cL_isAlgebra 167 = .ok (.iconst 3, 1) := by decide +kernel
theorem dL_isAlgebra_168 : decode cL_isAlgebra 168 = .ok (.iload_n 2, 1) := by decide +kernel
theorem dL_isAlgebra_169 : decode cL_isAlgebra 169 = .ok (.aload_n 3, 1) := by decide +kernel
theorem dL_isAlgebra_170 : decode cL_isAlgebra 170 = .ok (.invokestatic 87, 3) := by decide +kernel
theorem dL_isAlgebra_173 : decode cL_isAlgebra 173 = .ok (.ifCond .lt 53, 3) := by decide +kernel
theorem dL_isAlgebra_176 : decode cL_isAlgebra 176 = .ok (.aload_n 0, 1) := by decide +kernel
theorem dL_isAlgebra_177 : decode cL_isAlgebra 177 = .ok (.iload 6, 2) := by decide +kernel
theorem dL_isAlgebra_179 : decode cL_isAlgebra 179 = .ok (.iload 7, 2) := by decide +kernel
theorem dL_isAlgebra_181 : decode cL_isAlgebra 181 = .ok (.iconst 3, 1) := by decide +kernel
theorem dL_isAlgebra_182 : decode cL_isAlgebra 182 = .ok (.invokevirtual 160, 3) := by decide +kernel
theorem dL_isAlgebra_185 : decode cL_isAlgebra 185 = .ok (.ifCond .lt 41, 3) := by decide +kernel
theorem dL_isAlgebra_188 : decode cL_isAlgebra 188 = .ok (.aload_n 0, 1) := by decide +kernel
theorem dL_isAlgebra_189 : decode cL_isAlgebra 189 = .ok (.iconst 3, 1) := by decide +kernel
theorem dL_isAlgebra_190 : decode cL_isAlgebra 190 = .ok (.iload_n 2, 1) := by decide +kernel
theorem dL_isAlgebra_191 : decode cL_isAlgebra 191 = .ok (.aload 4, 2) := by decide +kernel
theorem dL_isAlgebra_193 : decode cL_isAlgebra 193 = .ok (.invokestatic 87, 3) := by decide +kernel
theorem dL_isAlgebra_196 : decode cL_isAlgebra 196 = .ok (.ifCond .lt 30, 3) := by decide +kernel
theorem dL_isAlgebra_199 : decode cL_isAlgebra 199 = .ok (.aload_n 0, 1) := by decide +kernel
theorem dL_isAlgebra_200 : decode cL_isAlgebra 200 = .ok (.iload 6, 2) := by decide +kernel
theorem dL_isAlgebra_202 : decode cL_isAlgebra 202 = .ok (.iload 8, 2) := by decide +kernel
theorem dL_isAlgebra_204 : decode cL_isAlgebra 204 = .ok (.iconst 3, 1) := by decide +kernel
theorem dL_isAlgebra_205 : decode cL_isAlgebra 205 = .ok (.invokevirtual 160, 3) := by decide +kernel
theorem dL_isAlgebra_208 : decode cL_isAlgebra 208 = .ok (.ifCond .lt 18, 3) := by decide +kernel
theorem dL_isAlgebra_211 : decode cL_isAlgebra 211 = .ok (.aload_n 0, 1) := by decide +kernel
theorem dL_isAlgebra_212 : decode cL_isAlgebra 212 = .ok (.iconst 3, 1) := by decide +kernel
theorem dL_isAlgebra_213 : decode cL_isAlgebra 213 = .ok (.iload_n 2, 1) := by decide +kernel
theorem dL_isAlgebra_214 : decode cL_isAlgebra 214 = .ok (.aload 5, 2) := by decide +kernel
theorem dL_isAlgebra_216 : decode cL_isAlgebra 216 = .ok (.invokestatic 87, 3) := by decide +kernel
theorem dL_isAlgebra_219 : decode cL_isAlgebra 219 = .ok (.ifCond .lt 7, 3) := by decide +kernel
theorem dL_isAlgebra_222 : decode cL_isAlgebra 222 = .ok (.iconst 1, 1) := by decide +kernel
theorem dL_isAlgebra_223 : decode cL_isAlgebra 223 = .ok (.goto 4, 3) := by decide +kernel
theorem dL_isAlgebra_226 : decode cL_isAlgebra 226 = .ok (.iconst 0, 1) := by decide +kernel
theorem dL_isAlgebra_227 : decode cL_isAlgebra 227 = .ok (.istore 9, 2) := by decide +kernel
theorem dL_isAlgebra_229 : decode cL_isAlgebra 229 = .ok (.iconst 0, 1) := by decide +kernel
theorem dL_isAlgebra_230 : decode cL_isAlgebra 230 = .ok (.istore 12, 2) := by decide +kernel
theorem dL_isAlgebra_232 : decode cL_isAlgebra 232 = .ok (.iload 12, 2) := by decide +kernel
theorem dL_isAlgebra_234 : decode cL_isAlgebra 234 = .ok (.bipush 80, 2) := by decide +kernel
theorem dL_isAlgebra_236 : decode cL_isAlgebra 236 = .ok (.iload_n 2, 1) := by decide +kernel
theorem dL_isAlgebra_237 : decode cL_isAlgebra 237 = .ok (.imul, 1) := by decide +kernel
theorem dL_isAlgebra_238 : decode cL_isAlgebra 238 = .ok (.if_icmp .ge 58, 3) := by decide +kernel
theorem dL_isAlgebra_241 : decode cL_isAlgebra 241 = .ok (.iload 9, 2) := by decide +kernel
theorem dL_isAlgebra_243 : decode cL_isAlgebra 243 = .ok (.ifCond .eq 53, 3) := by decide +kernel
theorem dL_isAlgebra_246 : decode cL_isAlgebra 246 = .ok (.iload 12, 2) := by decide +kernel
theorem dL_isAlgebra_248 : decode cL_isAlgebra 248 = .ok (.bipush 80, 2) := by decide +kernel
theorem dL_isAlgebra_250 : decode cL_isAlgebra 250 = .ok (.irem, 1) := by decide +kernel
theorem dL_isAlgebra_251 : decode cL_isAlgebra 251 = .ok (.iload_n 2, 1) := by decide +kernel
theorem dL_isAlgebra_252 : decode cL_isAlgebra 252 = .ok (.if_icmp .ge 31, 3) := by decide +kernel
theorem dL_isAlgebra_255 : decode cL_isAlgebra 255 = .ok (.aload_n 3, 1) := by decide +kernel
theorem dL_isAlgebra_256 : decode cL_isAlgebra 256 = .ok (.iload 12, 2) := by decide +kernel
theorem dL_isAlgebra_258 : decode cL_isAlgebra 258 = .ok (.baload, 1) := by decide +kernel
theorem dL_isAlgebra_259 : decode cL_isAlgebra 259 = .ok (.aload 4, 2) := by decide +kernel
theorem dL_isAlgebra_261 : decode cL_isAlgebra 261 = .ok (.iload 12, 2) := by decide +kernel
theorem dL_isAlgebra_263 : decode cL_isAlgebra 263 = .ok (.baload, 1) := by decide +kernel
theorem dL_isAlgebra_264 : decode cL_isAlgebra 264 = .ok (.ifCond .ne 11, 3) := by decide +kernel
theorem dL_isAlgebra_267 : decode cL_isAlgebra 267 = .ok (.aload 5, 2) := by decide +kernel
theorem dL_isAlgebra_269 : decode cL_isAlgebra 269 = .ok (.iload 12, 2) := by decide +kernel
theorem dL_isAlgebra_271 : decode cL_isAlgebra 271 = .ok (.baload, 1) := by decide +kernel
theorem dL_isAlgebra_272 : decode cL_isAlgebra 272 = .ok (.ifCond .eq 7, 3) := by decide +kernel
theorem dL_isAlgebra_275 : decode cL_isAlgebra 275 = .ok (.iconst 1, 1) := by decide +kernel
theorem dL_isAlgebra_276 : decode cL_isAlgebra 276 = .ok (.goto 4, 3) := by decide +kernel
theorem dL_isAlgebra_279 : decode cL_isAlgebra 279 = .ok (.iconst 0, 1) := by decide +kernel
theorem dL_isAlgebra_280 : decode cL_isAlgebra 280 = .ok (.if_icmp .ne 7, 3) := by decide +kernel
theorem dL_isAlgebra_283 : decode cL_isAlgebra 283 = .ok (.iconst 1, 1) := by decide +kernel
theorem dL_isAlgebra_284 : decode cL_isAlgebra 284 = .ok (.goto 4, 3) := by decide +kernel
theorem dL_isAlgebra_287 : decode cL_isAlgebra 287 = .ok (.iconst 0, 1) := by decide +kernel
theorem dL_isAlgebra_288 : decode cL_isAlgebra 288 = .ok (.istore 9, 2) := by decide +kernel
theorem dL_isAlgebra_290 : decode cL_isAlgebra 290 = .ok (.iinc 12 1, 3) := by decide +kernel
theorem dL_isAlgebra_293 : decode cL_isAlgebra 293 = .ok (.goto (-61), 3) := by decide +kernel
theorem dL_isAlgebra_296 : decode cL_isAlgebra 296 = .ok (.aload_n 0, 1) := by decide +kernel
theorem dL_isAlgebra_297 : decode cL_isAlgebra 297 = .ok (.iload 6, 2) := by decide +kernel
theorem dL_isAlgebra_299 : decode cL_isAlgebra 299 = .ok (.iload_n 2, 1) := by decide +kernel
theorem dL_isAlgebra_300 : decode cL_isAlgebra 300 = .ok (.aload_n 3, 1) := by decide +kernel
theorem dL_isAlgebra_301 : decode cL_isAlgebra 301 = .ok (.invokestatic 87, 3) := by decide +kernel
theorem dL_isAlgebra_304 : decode cL_isAlgebra 304 = .ok (.istore 12, 2) := by decide +kernel
theorem dL_isAlgebra_306 : decode cL_isAlgebra 306 = .ok (.iload 9, 2) := by decide +kernel
theorem dL_isAlgebra_308 : decode cL_isAlgebra 308 = .ok (.ifCond .eq 37, 3) := by decide +kernel
theorem dL_isAlgebra_311 : decode cL_isAlgebra 311 = .ok (.iload 11, 2) := by decide +kernel
theorem dL_isAlgebra_313 : decode cL_isAlgebra 313 = .ok (.ifCond .lt 32, 3) := by decide +kernel
theorem dL_isAlgebra_316 : decode cL_isAlgebra 316 = .ok (.aload_n 0, 1) := by decide +kernel
theorem dL_isAlgebra_317 : decode cL_isAlgebra 317 = .ok (.iload 6, 2) := by decide +kernel
theorem dL_isAlgebra_319 : decode cL_isAlgebra 319 = .ok (.invokevirtual 163, 3) := by decide +kernel
theorem dL_isAlgebra_322 : decode cL_isAlgebra 322 = .ok (.iload 12, 2) := by decide +kernel
theorem dL_isAlgebra_324 : decode cL_isAlgebra 324 = .ok (.if_icmp .ne 21, 3) := by decide +kernel
theorem dL_isAlgebra_327 : decode cL_isAlgebra 327 = .ok (.aload_n 0, 1) := by decide +kernel
theorem dL_isAlgebra_328 : decode cL_isAlgebra 328 = .ok (.iload 6, 2) := by decide +kernel
theorem dL_isAlgebra_330 : decode cL_isAlgebra 330 = .ok (.iload_n 2, 1) := by decide +kernel
theorem dL_isAlgebra_331 : decode cL_isAlgebra 331 = .ok (.aload 4, 2) := by decide +kernel
theorem dL_isAlgebra_333 : decode cL_isAlgebra 333 = .ok (.invokestatic 87, 3) := by decide +kernel
theorem dL_isAlgebra_336 : decode cL_isAlgebra 336 = .ok (.iload 12, 2) := by decide +kernel
theorem dL_isAlgebra_338 : decode cL_isAlgebra 338 = .ok (.if_icmp .ne 7, 3) := by decide +kernel
theorem dL_isAlgebra_341 : decode cL_isAlgebra 341 = .ok (.iconst 1, 1) := by decide +kernel
theorem dL_isAlgebra_342 : decode cL_isAlgebra 342 = .ok (.goto 4, 3) := by decide +kernel
theorem dL_isAlgebra_345 : decode cL_isAlgebra 345 = .ok (.iconst 0, 1) := by decide +kernel
theorem dL_isAlgebra_346 : decode cL_isAlgebra 346 = .ok (.istore 9, 2) := by decide +kernel
theorem dL_isAlgebra_348 : decode cL_isAlgebra 348 = .ok (.iconst 0, 1) := by decide +kernel
theorem dL_isAlgebra_349 : decode cL_isAlgebra 349 = .ok (.istore 13, 2) := by decide +kernel
theorem dL_isAlgebra_351 : decode cL_isAlgebra 351 = .ok (.iload 13, 2) := by decide +kernel
theorem dL_isAlgebra_353 : decode cL_isAlgebra 353 = .ok (.iload_n 2, 1) := by decide +kernel
theorem dL_isAlgebra_354 : decode cL_isAlgebra 354 = .ok (.if_icmp .ge 65, 3) := by decide +kernel
theorem dL_isAlgebra_357 : decode cL_isAlgebra 357 = .ok (.iload 9, 2) := by decide +kernel
theorem dL_isAlgebra_359 : decode cL_isAlgebra 359 = .ok (.ifCond .eq 60, 3) := by decide +kernel
theorem dL_isAlgebra_362 : decode cL_isAlgebra 362 = .ok (.iconst 0, 1) := by decide +kernel
theorem dL_isAlgebra_363 : decode cL_isAlgebra 363 = .ok (.istore 14, 2) := by decide +kernel
theorem dL_isAlgebra_365 : decode cL_isAlgebra 365 = .ok (.iload 14, 2) := by decide +kernel
theorem dL_isAlgebra_367 : decode cL_isAlgebra 367 = .ok (.iload_n 2, 1) := by decide +kernel
theorem dL_isAlgebra_368 : decode cL_isAlgebra 368 = .ok (.if_icmp .ge 45, 3) := by decide +kernel
theorem dL_isAlgebra_371 : decode cL_isAlgebra 371 = .ok (.iload 9, 2) := by decide +kernel
theorem dL_isAlgebra_373 : decode cL_isAlgebra 373 = .ok (.ifCond .eq 31, 3) := by decide +kernel
theorem dL_isAlgebra_376 : decode cL_isAlgebra 376 = .ok (.aload 4, 2) := by decide +kernel
theorem dL_isAlgebra_378 : decode cL_isAlgebra 378 = .ok (.bipush 80, 2) := by decide +kernel
theorem dL_isAlgebra_380 : decode cL_isAlgebra 380 = .ok (.iload 13, 2) := by decide +kernel
theorem dL_isAlgebra_382 : decode cL_isAlgebra 382 = .ok (.imul, 1) := by decide +kernel
theorem dL_isAlgebra_383 : decode cL_isAlgebra 383 = .ok (.iload 14, 2) := by decide +kernel
theorem dL_isAlgebra_385 : decode cL_isAlgebra 385 = .ok (.iadd, 1) := by decide +kernel
theorem dL_isAlgebra_386 : decode cL_isAlgebra 386 = .ok (.baload, 1) := by decide +kernel
theorem dL_isAlgebra_387 : decode cL_isAlgebra 387 = .ok (.aload_n 3, 1) := by decide +kernel
theorem dL_isAlgebra_388 : decode cL_isAlgebra 388 = .ok (.bipush 80, 2) := by decide +kernel
theorem dL_isAlgebra_390 : decode cL_isAlgebra 390 = .ok (.iload 14, 2) := by decide +kernel
theorem dL_isAlgebra_392 : decode cL_isAlgebra 392 = .ok (.imul, 1) := by decide +kernel
theorem dL_isAlgebra_393 : decode cL_isAlgebra 393 = .ok (.iload 13, 2) := by decide +kernel
theorem dL_isAlgebra_395 : decode cL_isAlgebra 395 = .ok (.iadd, 1) := by decide +kernel
theorem dL_isAlgebra_396 : decode cL_isAlgebra 396 = .ok (.baload, 1) := by decide +kernel
theorem dL_isAlgebra_397 : decode cL_isAlgebra 397 = .ok (.if_icmp .ne 7, 3) := by decide +kernel
theorem dL_isAlgebra_400 : decode cL_isAlgebra 400 = .ok (.iconst 1, 1) := by decide +kernel
theorem dL_isAlgebra_401 : decode cL_isAlgebra 401 = .ok (.goto 4, 3) := by decide +kernel
theorem dL_isAlgebra_404 : decode cL_isAlgebra 404 = .ok (.iconst 0, 1) := by decide +kernel
theorem dL_isAlgebra_405 : decode cL_isAlgebra 405 = .ok (.istore 9, 2) := by decide +kernel
theorem dL_isAlgebra_407 : decode cL_isAlgebra 407 = .ok (.iinc 14 1, 3) := by decide +kernel
theorem dL_isAlgebra_410 : decode cL_isAlgebra 410 = .ok (.goto (-45), 3) := by decide +kernel
theorem dL_isAlgebra_413 : decode cL_isAlgebra 413 = .ok (.iinc 13 1, 3) := by decide +kernel
theorem dL_isAlgebra_416 : decode cL_isAlgebra 416 = .ok (.goto (-65), 3) := by decide +kernel
theorem dL_isAlgebra_419 : decode cL_isAlgebra 419 = .ok (.iload 9, 2) := by decide +kernel
theorem dL_isAlgebra_421 : decode cL_isAlgebra 421 = .ok (.ifCond .eq 110, 3) := by decide +kernel
theorem dL_isAlgebra_424 : decode cL_isAlgebra 424 = .ok (.aload_n 0, 1) := by decide +kernel
theorem dL_isAlgebra_425 : decode cL_isAlgebra 425 = .ok (.iload 6, 2) := by decide +kernel
theorem dL_isAlgebra_427 : decode cL_isAlgebra 427 = .ok (.invokevirtual 163, 3) := by decide +kernel
theorem dL_isAlgebra_430 : decode cL_isAlgebra 430 = .ok (.iload 12, 2) := by decide +kernel
theorem dL_isAlgebra_432 : decode cL_isAlgebra 432 = .ok (.if_icmp .ne 99, 3) := by decide +kernel
theorem dL_isAlgebra_435 : decode cL_isAlgebra 435 = .ok (.aload_n 0, 1) := by decide +kernel
theorem dL_isAlgebra_436 : decode cL_isAlgebra 436 = .ok (.iload 6, 2) := by decide +kernel
theorem dL_isAlgebra_438 : decode cL_isAlgebra 438 = .ok (.iload_n 2, 1) := by decide +kernel
theorem dL_isAlgebra_439 : decode cL_isAlgebra 439 = .ok (.aload 4, 2) := by decide +kernel
theorem dL_isAlgebra_441 : decode cL_isAlgebra 441 = .ok (.invokestatic 87, 3) := by decide +kernel
theorem dL_isAlgebra_444 : decode cL_isAlgebra 444 = .ok (.iload 12, 2) := by decide +kernel
theorem dL_isAlgebra_446 : decode cL_isAlgebra 446 = .ok (.if_icmp .ne 85, 3) := by decide +kernel
theorem dL_isAlgebra_449 : decode cL_isAlgebra 449 = .ok (.aload_n 3, 1) := by decide +kernel
theorem dL_isAlgebra_450 : decode cL_isAlgebra 450 = .ok (.aload 4, 2) := by decide +kernel
theorem dL_isAlgebra_452 : decode cL_isAlgebra 452 = .ok (.iload_n 2, 1) := by decide +kernel
theorem dL_isAlgebra_453 : decode cL_isAlgebra 453 = .ok (.invokestatic 142, 3) := by decide +kernel
theorem dL_isAlgebra_456 : decode cL_isAlgebra 456 = .ok (.ifCond .eq 75, 3) := by decide +kernel
theorem dL_isAlgebra_459 : decode cL_isAlgebra 459 = .ok (.aload_n 0, 1) := by decide +kernel
theorem dL_isAlgebra_460 : decode cL_isAlgebra 460 = .ok (.iload 6, 2) := by decide +kernel
theorem dL_isAlgebra_462 : decode cL_isAlgebra 462 = .ok (.invokevirtual 166, 3) := by decide +kernel
theorem dL_isAlgebra_465 : decode cL_isAlgebra 465 = .ok (.iload_n 2, 1) := by decide +kernel
theorem dL_isAlgebra_466 : decode cL_isAlgebra 466 = .ok (.iload_n 2, 1) := by decide +kernel
theorem dL_isAlgebra_467 : decode cL_isAlgebra 467 = .ok (.imul, 1) := by decide +kernel
theorem dL_isAlgebra_468 : decode cL_isAlgebra 468 = .ok (.iload 12, 2) := by decide +kernel
theorem dL_isAlgebra_470 : decode cL_isAlgebra 470 = .ok (.isub, 1) := by decide +kernel
theorem dL_isAlgebra_471 : decode cL_isAlgebra 471 = .ok (.if_icmp .ne 60, 3) := by decide +kernel
theorem dL_isAlgebra_474 : decode cL_isAlgebra 474 = .ok (.aload_n 0, 1) := by decide +kernel
theorem dL_isAlgebra_475 : decode cL_isAlgebra 475 = .ok (.iload 6, 2) := by decide +kernel
theorem dL_isAlgebra_477 : decode cL_isAlgebra 477 = .ok (.iload_n 2, 1) := by decide +kernel
theorem dL_isAlgebra_478 : decode cL_isAlgebra 478 = .ok (.aload 4, 2) := by decide +kernel
theorem dL_isAlgebra_480 : decode cL_isAlgebra 480 = .ok (.invokestatic 87, 3) := by decide +kernel
theorem dL_isAlgebra_483 : decode cL_isAlgebra 483 = .ok (.iload_n 2, 1) := by decide +kernel
theorem dL_isAlgebra_484 : decode cL_isAlgebra 484 = .ok (.iload_n 2, 1) := by decide +kernel
theorem dL_isAlgebra_485 : decode cL_isAlgebra 485 = .ok (.imul, 1) := by decide +kernel
theorem dL_isAlgebra_486 : decode cL_isAlgebra 486 = .ok (.iload 12, 2) := by decide +kernel
theorem dL_isAlgebra_488 : decode cL_isAlgebra 488 = .ok (.isub, 1) := by decide +kernel
theorem dL_isAlgebra_489 : decode cL_isAlgebra 489 = .ok (.if_icmp .ne 42, 3) := by decide +kernel
theorem dL_isAlgebra_492 : decode cL_isAlgebra 492 = .ok (.aload_n 0, 1) := by decide +kernel
theorem dL_isAlgebra_493 : decode cL_isAlgebra 493 = .ok (.iload 6, 2) := by decide +kernel
theorem dL_isAlgebra_495 : decode cL_isAlgebra 495 = .ok (.invokevirtual 166, 3) := by decide +kernel
theorem dL_isAlgebra_498 : decode cL_isAlgebra 498 = .ok (.iload 12, 2) := by decide +kernel
theorem dL_isAlgebra_500 : decode cL_isAlgebra 500 = .ok (.if_icmp .ne 31, 3) := by decide +kernel
theorem dL_isAlgebra_503 : decode cL_isAlgebra 503 = .ok (.aload_n 0, 1) := by decide +kernel
theorem dL_isAlgebra_504 : decode cL_isAlgebra 504 = .ok (.iload 6, 2) := by decide +kernel
theorem dL_isAlgebra_506 : decode cL_isAlgebra 506 = .ok (.iload_n 2, 1) := by decide +kernel
theorem dL_isAlgebra_507 : decode cL_isAlgebra 507 = .ok (.aload 4, 2) := by decide +kernel
theorem dL_isAlgebra_509 : decode cL_isAlgebra 509 = .ok (.invokestatic 87, 3) := by decide +kernel
theorem dL_isAlgebra_512 : decode cL_isAlgebra 512 = .ok (.iload 12, 2) := by decide +kernel
theorem dL_isAlgebra_514 : decode cL_isAlgebra 514 = .ok (.if_icmp .ne 17, 3) := by decide +kernel
theorem dL_isAlgebra_517 : decode cL_isAlgebra 517 = .ok (.aload_n 3, 1) := by decide +kernel
theorem dL_isAlgebra_518 : decode cL_isAlgebra 518 = .ok (.aload 4, 2) := by decide +kernel
theorem dL_isAlgebra_520 : decode cL_isAlgebra 520 = .ok (.iload_n 2, 1) := by decide +kernel
theorem dL_isAlgebra_521 : decode cL_isAlgebra 521 = .ok (.invokestatic 142, 3) := by decide +kernel
theorem dL_isAlgebra_524 : decode cL_isAlgebra 524 = .ok (.ifCond .eq 7, 3) := by decide +kernel
theorem dL_isAlgebra_527 : decode cL_isAlgebra 527 = .ok (.iconst 1, 1) := by decide +kernel
theorem dL_isAlgebra_528 : decode cL_isAlgebra 528 = .ok (.goto 4, 3) := by decide +kernel
theorem dL_isAlgebra_531 : decode cL_isAlgebra 531 = .ok (.iconst 0, 1) := by decide +kernel
theorem dL_isAlgebra_532 : decode cL_isAlgebra 532 = .ok (.istore 9, 2) := by decide +kernel
theorem dL_isAlgebra_534 : decode cL_isAlgebra 534 = .ok (.aload_n 1, 1) := by decide +kernel
theorem dL_isAlgebra_535 : decode cL_isAlgebra 535 = .ok (.invokestatic 8, 3) := by decide +kernel
theorem dL_isAlgebra_538 : decode cL_isAlgebra 538 = .ok (.iconst 4, 1) := by decide +kernel
theorem dL_isAlgebra_539 : decode cL_isAlgebra 539 = .ok (.irem, 1) := by decide +kernel
theorem dL_isAlgebra_540 : decode cL_isAlgebra 540 = .ok (.istore 13, 2) := by decide +kernel
theorem dL_isAlgebra_542 : decode cL_isAlgebra 542 = .ok (.aload_n 0, 1) := by decide +kernel
theorem dL_isAlgebra_543 : decode cL_isAlgebra 543 = .ok (.iload 6, 2) := by decide +kernel
theorem dL_isAlgebra_545 : decode cL_isAlgebra 545 = .ok (.iconst 3, 1) := by decide +kernel
theorem dL_isAlgebra_546 : decode cL_isAlgebra 546 = .ok (.invokevirtual 135, 3) := by decide +kernel
theorem dL_isAlgebra_549 : decode cL_isAlgebra 549 = .ok (.istore 14, 2) := by decide +kernel
theorem dL_isAlgebra_551 : decode cL_isAlgebra 551 = .ok (.aload_n 0, 1) := by decide +kernel
theorem dL_isAlgebra_552 : decode cL_isAlgebra 552 = .ok (.iload 7, 2) := by decide +kernel
theorem dL_isAlgebra_554 : decode cL_isAlgebra 554 = .ok (.iload_n 2, 1) := by decide +kernel
theorem dL_isAlgebra_555 : decode cL_isAlgebra 555 = .ok (.aload 4, 2) := by decide +kernel
theorem dL_isAlgebra_557 : decode cL_isAlgebra 557 = .ok (.invokestatic 87, 3) := by decide +kernel
theorem dL_isAlgebra_560 : decode cL_isAlgebra 560 = .ok (.istore 15, 2) := by decide +kernel
theorem dL_isAlgebra_562 : decode cL_isAlgebra 562 = .ok (.aload_n 0, 1) := by decide +kernel
theorem dL_isAlgebra_563 : decode cL_isAlgebra 563 = .ok (.iconst 0, 1) := by decide +kernel
theorem dL_isAlgebra_564 : decode cL_isAlgebra 564 = .ok (.iconst 3, 1) := by decide +kernel
theorem dL_isAlgebra_565 : decode cL_isAlgebra 565 = .ok (.iload 7, 2) := by decide +kernel
theorem dL_isAlgebra_567 : decode cL_isAlgebra 567 = .ok (.iload 13, 2) := by decide +kernel
theorem dL_isAlgebra_569 : decode cL_isAlgebra 569 = .ok (.invokestatic 72, 3) := by decide +kernel
theorem dL_isAlgebra_572 : decode cL_isAlgebra 572 = .ok (.istore 16, 2) := by decide +kernel
theorem dL_isAlgebra_574 : decode cL_isAlgebra 574 = .ok (.iload 9, 2) := by decide +kernel
theorem dL_isAlgebra_576 : decode cL_isAlgebra 576 = .ok (.ifCond .eq 38, 3) := by decide +kernel
theorem dL_isAlgebra_579 : decode cL_isAlgebra 579 = .ok (.iload 14, 2) := by decide +kernel
theorem dL_isAlgebra_581 : decode cL_isAlgebra 581 = .ok (.iload 12, 2) := by decide +kernel
theorem dL_isAlgebra_583 : decode cL_isAlgebra 583 = .ok (.if_icmp .ne 31, 3) := by decide +kernel
theorem dL_isAlgebra_586 : decode cL_isAlgebra 586 = .ok (.aload_n 0, 1) := by decide +kernel
theorem dL_isAlgebra_587 : decode cL_isAlgebra 587 = .ok (.iconst 3, 1) := by decide +kernel
theorem dL_isAlgebra_588 : decode cL_isAlgebra 588 = .ok (.iload_n 2, 1) := by decide +kernel
theorem dL_isAlgebra_589 : decode cL_isAlgebra 589 = .ok (.aload 5, 2) := by decide +kernel
theorem dL_isAlgebra_591 : decode cL_isAlgebra 591 = .ok (.invokestatic 87, 3) := by decide +kernel
theorem dL_isAlgebra_594 : decode cL_isAlgebra 594 = .ok (.iload 16, 2) := by decide +kernel
theorem dL_isAlgebra_596 : decode cL_isAlgebra 596 = .ok (.if_icmp .ne 18, 3) := by decide +kernel
theorem dL_isAlgebra_599 : decode cL_isAlgebra 599 = .ok (.aload_n 0, 1) := by decide +kernel
theorem dL_isAlgebra_600 : decode cL_isAlgebra 600 = .ok (.iload 7, 2) := by decide +kernel
theorem dL_isAlgebra_602 : decode cL_isAlgebra 602 = .ok (.invokevirtual 99, 3) := by decide +kernel
theorem dL_isAlgebra_605 : decode cL_isAlgebra 605 = .ok (.iload 15, 2) := by decide +kernel
theorem dL_isAlgebra_607 : decode cL_isAlgebra 607 = .ok (.if_icmp .ne 7, 3) := by decide +kernel
theorem dL_isAlgebra_610 : decode cL_isAlgebra 610 = .ok (.iconst 1, 1) := by decide +kernel
theorem dL_isAlgebra_611 : decode cL_isAlgebra 611 = .ok (.goto 4, 3) := by decide +kernel
theorem dL_isAlgebra_614 : decode cL_isAlgebra 614 = .ok (.iconst 0, 1) := by decide +kernel
theorem dL_isAlgebra_615 : decode cL_isAlgebra 615 = .ok (.istore 9, 2) := by decide +kernel
theorem dL_isAlgebra_617 : decode cL_isAlgebra 617 = .ok (.iconst 0, 1) := by decide +kernel
theorem dL_isAlgebra_618 : decode cL_isAlgebra 618 = .ok (.istore 17, 2) := by decide +kernel
theorem dL_isAlgebra_620 : decode cL_isAlgebra 620 = .ok (.iload 17, 2) := by decide +kernel
theorem dL_isAlgebra_622 : decode cL_isAlgebra 622 = .ok (.bipush 80, 2) := by decide +kernel
theorem dL_isAlgebra_624 : decode cL_isAlgebra 624 = .ok (.iload_n 2, 1) := by decide +kernel
theorem dL_isAlgebra_625 : decode cL_isAlgebra 625 = .ok (.imul, 1) := by decide +kernel
theorem dL_isAlgebra_626 : decode cL_isAlgebra 626 = .ok (.if_icmp .ge 141, 3) := by decide +kernel
theorem dL_isAlgebra_629 : decode cL_isAlgebra 629 = .ok (.iload 9, 2) := by decide +kernel
theorem dL_isAlgebra_631 : decode cL_isAlgebra 631 = .ok (.ifCond .eq 136, 3) := by decide +kernel
theorem dL_isAlgebra_634 : decode cL_isAlgebra 634 = .ok (.iload 17, 2) := by decide +kernel
theorem dL_isAlgebra_636 : decode cL_isAlgebra 636 = .ok (.bipush 80, 2) := by decide +kernel
theorem dL_isAlgebra_638 : decode cL_isAlgebra 638 = .ok (.irem, 1) := by decide +kernel
theorem dL_isAlgebra_639 : decode cL_isAlgebra 639 = .ok (.iload_n 2, 1) := by decide +kernel
theorem dL_isAlgebra_640 : decode cL_isAlgebra 640 = .ok (.if_icmp .ge 114, 3) := by decide +kernel
theorem dL_isAlgebra_643 : decode cL_isAlgebra 643 = .ok (.aload 5, 2) := by decide +kernel
theorem dL_isAlgebra_645 : decode cL_isAlgebra 645 = .ok (.iload 17, 2) := by decide +kernel
theorem dL_isAlgebra_647 : decode cL_isAlgebra 647 = .ok (.baload, 1) := by decide +kernel
theorem dL_isAlgebra_648 : decode cL_isAlgebra 648 = .ok (.iload 13, 2) := by decide +kernel
theorem dL_isAlgebra_650 : decode cL_isAlgebra 650 = .ok (.ifCond .ne 26, 3) := by decide +kernel
theorem dL_isAlgebra_653 : decode cL_isAlgebra 653 = .ok (.aload_n 3, 1) := by decide +kernel
theorem dL_isAlgebra_654 : decode cL_isAlgebra 654 = .ok (.iload 17, 2) := by decide +kernel
theorem dL_isAlgebra_656 : decode cL_isAlgebra 656 = .ok (.baload, 1) := by decide +kernel
theorem dL_isAlgebra_657 : decode cL_isAlgebra 657 = .ok (.ifCond .ne 11, 3) := by decide +kernel
theorem dL_isAlgebra_660 : decode cL_isAlgebra 660 = .ok (.aload 4, 2) := by decide +kernel
theorem dL_isAlgebra_662 : decode cL_isAlgebra 662 = .ok (.iload 17, 2) := by decide +kernel
theorem dL_isAlgebra_664 : decode cL_isAlgebra 664 = .ok (.baload, 1) := by decide +kernel
theorem dL_isAlgebra_665 : decode cL_isAlgebra 665 = .ok (.ifCond .eq 7, 3) := by decide +kernel
theorem dL_isAlgebra_668 : decode cL_isAlgebra 668 = .ok (.iconst 1, 1) := by decide +kernel
theorem dL_isAlgebra_669 : decode cL_isAlgebra 669 = .ok (.goto 82, 3) := by decide +kernel
theorem dL_isAlgebra_672 : decode cL_isAlgebra 672 = .ok (.iconst 0, 1) := by decide +kernel
theorem dL_isAlgebra_673 : decode cL_isAlgebra 673 = .ok (.goto 78, 3) := by decide +kernel
theorem dL_isAlgebra_676 : decode cL_isAlgebra 676 = .ok (.iload 13, 2) := by decide +kernel
theorem dL_isAlgebra_678 : decode cL_isAlgebra 678 = .ok (.iconst 1, 1) := by decide +kernel
theorem dL_isAlgebra_679 : decode cL_isAlgebra 679 = .ok (.if_icmp .ne 26, 3) := by decide +kernel
theorem dL_isAlgebra_682 : decode cL_isAlgebra 682 = .ok (.aload_n 3, 1) := by decide +kernel
theorem dL_isAlgebra_683 : decode cL_isAlgebra 683 = .ok (.iload 17, 2) := by decide +kernel
theorem dL_isAlgebra_685 : decode cL_isAlgebra 685 = .ok (.baload, 1) := by decide +kernel
theorem dL_isAlgebra_686 : decode cL_isAlgebra 686 = .ok (.ifCond .eq 15, 3) := by decide +kernel
theorem dL_isAlgebra_689 : decode cL_isAlgebra 689 = .ok (.aload 4, 2) := by decide +kernel
theorem dL_isAlgebra_691 : decode cL_isAlgebra 691 = .ok (.iload 17, 2) := by decide +kernel
theorem dL_isAlgebra_693 : decode cL_isAlgebra 693 = .ok (.baload, 1) := by decide +kernel
theorem dL_isAlgebra_694 : decode cL_isAlgebra 694 = .ok (.ifCond .eq 7, 3) := by decide +kernel
theorem dL_isAlgebra_697 : decode cL_isAlgebra 697 = .ok (.iconst 1, 1) := by decide +kernel
theorem dL_isAlgebra_698 : decode cL_isAlgebra 698 = .ok (.goto 53, 3) := by decide +kernel
theorem dL_isAlgebra_701 : decode cL_isAlgebra 701 = .ok (.iconst 0, 1) := by decide +kernel
theorem dL_isAlgebra_702 : decode cL_isAlgebra 702 = .ok (.goto 49, 3) := by decide +kernel
theorem dL_isAlgebra_705 : decode cL_isAlgebra 705 = .ok (.iload 13, 2) := by decide +kernel
theorem dL_isAlgebra_707 : decode cL_isAlgebra 707 = .ok (.iconst 2, 1) := by decide +kernel
theorem dL_isAlgebra_708 : decode cL_isAlgebra 708 = .ok (.if_icmp .ne 26, 3) := by decide +kernel
theorem dL_isAlgebra_711 : decode cL_isAlgebra 711 = .ok (.aload_n 3, 1) := by decide +kernel
theorem dL_isAlgebra_712 : decode cL_isAlgebra 712 = .ok (.iload 17, 2) := by decide +kernel
theorem dL_isAlgebra_714 : decode cL_isAlgebra 714 = .ok (.baload, 1) := by decide +kernel
theorem dL_isAlgebra_715 : decode cL_isAlgebra 715 = .ok (.ifCond .eq 15, 3) := by decide +kernel
theorem dL_isAlgebra_718 : decode cL_isAlgebra 718 = .ok (.aload 4, 2) := by decide +kernel
theorem dL_isAlgebra_720 : decode cL_isAlgebra 720 = .ok (.iload 17, 2) := by decide +kernel
theorem dL_isAlgebra_722 : decode cL_isAlgebra 722 = .ok (.baload, 1) := by decide +kernel
theorem dL_isAlgebra_723 : decode cL_isAlgebra 723 = .ok (.ifCond .ne 7, 3) := by decide +kernel
theorem dL_isAlgebra_726 : decode cL_isAlgebra 726 = .ok (.iconst 1, 1) := by decide +kernel
theorem dL_isAlgebra_727 : decode cL_isAlgebra 727 = .ok (.goto 24, 3) := by decide +kernel
theorem dL_isAlgebra_730 : decode cL_isAlgebra 730 = .ok (.iconst 0, 1) := by decide +kernel
theorem dL_isAlgebra_731 : decode cL_isAlgebra 731 = .ok (.goto 20, 3) := by decide +kernel
theorem dL_isAlgebra_734 : decode cL_isAlgebra 734 = .ok (.aload_n 3, 1) := by decide +kernel
theorem dL_isAlgebra_735 : decode cL_isAlgebra 735 = .ok (.iload 17, 2) := by decide +kernel
theorem dL_isAlgebra_737 : decode cL_isAlgebra 737 = .ok (.baload, 1) := by decide +kernel
theorem dL_isAlgebra_738 : decode cL_isAlgebra 738 = .ok (.aload 4, 2) := by decide +kernel
theorem dL_isAlgebra_740 : decode cL_isAlgebra 740 = .ok (.iload 17, 2) := by decide +kernel
theorem dL_isAlgebra_742 : decode cL_isAlgebra 742 = .ok (.baload, 1) := by decide +kernel
theorem dL_isAlgebra_743 : decode cL_isAlgebra 743 = .ok (.if_icmp .eq 7, 3) := by decide +kernel
theorem dL_isAlgebra_746 : decode cL_isAlgebra 746 = .ok (.iconst 1, 1) := by decide +kernel
theorem dL_isAlgebra_747 : decode cL_isAlgebra 747 = .ok (.goto 4, 3) := by decide +kernel
theorem dL_isAlgebra_750 : decode cL_isAlgebra 750 = .ok (.iconst 0, 1) := by decide +kernel
theorem dL_isAlgebra_751 : decode cL_isAlgebra 751 = .ok (.if_icmp .ne 7, 3) := by decide +kernel
theorem dL_isAlgebra_754 : decode cL_isAlgebra 754 = .ok (.iconst 1, 1) := by decide +kernel
theorem dL_isAlgebra_755 : decode cL_isAlgebra 755 = .ok (.goto 4, 3) := by decide +kernel
theorem dL_isAlgebra_758 : decode cL_isAlgebra 758 = .ok (.iconst 0, 1) := by decide +kernel
theorem dL_isAlgebra_759 : decode cL_isAlgebra 759 = .ok (.istore 9, 2) := by decide +kernel
theorem dL_isAlgebra_761 : decode cL_isAlgebra 761 = .ok (.iinc 17 1, 3) := by decide +kernel
theorem dL_isAlgebra_764 : decode cL_isAlgebra 764 = .ok (.goto (-144), 3) := by decide +kernel
