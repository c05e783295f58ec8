theorem dL_next_0 : decode cL_next 0 = .ok (.aload_n 0, 1) := by decide +kernel
theorem dL_next_1 : decode cL_next 1 = .ok (.iconst 0, 1) := by decide +kernel
theorem dL_next_2 : decode cL_next 2 = .ok (.aload_n 0, 1) := by decide +kernel
theorem dL_next_3 : decode cL_next 3 = .ok (.iconst 0, 1) := by decide +kernel
theorem dL_next_4 : decode cL_next 4 = .ok (.iaload, 1) := by decide +kernel
theorem dL_next_5 : decode cL_next 5 = .ok (.ldc 7, 2) := by decide +kernel
theorem dL_next_7 : decode cL_next 7 = .ok (.imul, 1) := by decide +kernel
theorem dL_next_8 : decode cL_next 8 = .ok (.sipush 12345, 3) := by decide +kernel
theorem dL_next_11 : decode cL_next 11 = .ok (.iadd, 1) := by decide +kernel
theorem dL_next_12 : decode cL_next 12 = .ok (.iastore, 1) := by decide +kernel
theorem dL_next_13 : decode cL_next 13 = .ok (.aload_n 0, 1) := by decide +kernel
theorem dL_next_14 : decode cL_next 14 = .ok (.iconst 0, 1) := by decide +kernel
theorem dL_next_15 : decode cL_next 15 = .ok (.dup2, 1) := by decide +kernel
theorem dL_next_16 : decode cL_next 16 = .ok (.iaload, 1) := by decide +kernel
theorem dL_next_17 : decode cL_next 17 = .ok (.aload_n 0, 1) := by decide +kernel
theorem dL_next_18 : decode cL_next 18 = .ok (.iconst 0, 1) := by decide +kernel
theorem dL_next_19 : decode cL_next 19 = .ok (.iaload, 1) := by decide +kernel
theorem dL_next_20 : decode cL_next 20 = .ok (.bipush 15, 2) := by decide +kernel
theorem dL_next_22 : decode cL_next 22 = .ok (.iushr, 1) := by decide +kernel
theorem dL_next_23 : decode cL_next 23 = .ok (.ixor, 1) := by decide +kernel
theorem dL_next_24 : decode cL_next 24 = .ok (.iastore, 1) := by decide +kernel
theorem dL_next_25 : decode cL_next 25 = .ok (.aload_n 0, 1) := by decide +kernel
theorem dL_next_26 : decode cL_next 26 = .ok (.iconst 0, 1) := by decide +kernel
theorem dL_next_27 : decode cL_next 27 = .ok (.iaload, 1) := by decide +kernel
theorem dL_next_28 : decode cL_next 28 = .ok (.bipush 9, 2) := by decide +kernel
theorem dL_next_30 : decode cL_next 30 = .ok (.iushr, 1) := by decide +kernel
theorem dL_next_31 : decode cL_next 31 = .ok (.ireturn, 1) := by decide +kernel
theorem dL_from_0 : decode cL_from 0 = .ok (.iload_n 1, 1) := by decide +kernel
theorem dL_from_1 : decode cL_from 1 = .ok (.aload_n 0, 1) := by decide +kernel
theorem dL_from_2 : decode cL_from 2 = .ok (.invokestatic 8, 3) := by decide +kernel
theorem dL_from_5 : decode cL_from 5 = .ok (.iload_n 2, 1) := by decide +kernel
theorem dL_from_6 : decode cL_from 6 = .ok (.iload_n 1, 1) := by decide +kernel
theorem dL_from_7 : decode cL_from 7 = .ok (.isub, 1) := by decide +kernel
theorem dL_from_8 : decode cL_from 8 = .ok (.iconst 1, 1) := by decide +kernel
theorem dL_from_9 : decode cL_from 9 = .ok (.iadd, 1) := by decide +kernel
theorem dL_from_10 : decode cL_from 10 = .ok (.irem, 1) := by decide +kernel
theorem dL_from_11 : decode cL_from 11 = .ok (.iadd, 1) := by decide +kernel
theorem dL_from_12 : decode cL_from 12 = .ok (.ireturn, 1) := by decide +kernel
theorem dL_done_0 : decode cL_done 0 = .ok (.iload_n 1, 1) := by decide +kernel
theorem dL_done_1 : decode cL_done 1 = .ok (.tableswitch 146 0 9 #[55, 64, 71, 83, 89, 98, 104, 122, 128, 135], 55) := by decide +kernel
theorem dL_done_56 : decode cL_done 56 = .ok (.aload_n 0, 1) := by decide +kernel
theorem dL_done_57 : decode cL_done 57 = .ok (.iload_n 2, 1) := by decide +kernel
theorem dL_done_58 : decode cL_done 58 = .ok (.iload_n 3, 1) := by decide +kernel
theorem dL_done_59 : decode cL_done 59 = .ok (.iload 4, 2) := by decide +kernel
theorem dL_done_61 : decode cL_done 61 = .ok (.invokevirtual 14, 3) := by decide +kernel
theorem dL_done_64 : decode cL_done 64 = .ok (.ireturn, 1) := by decide +kernel
theorem dL_done_65 : decode cL_done 65 = .ok (.aload_n 0, 1) := by decide +kernel
theorem dL_done_66 : decode cL_done 66 = .ok (.iload_n 2, 1) := by decide +kernel
theorem dL_done_67 : decode cL_done 67 = .ok (.iload_n 3, 1) := by decide +kernel
theorem dL_done_68 : decode cL_done 68 = .ok (.invokevirtual 20, 3) := by decide +kernel
theorem dL_done_71 : decode cL_done 71 = .ok (.ireturn, 1) := by decide +kernel
theorem dL_done_72 : decode cL_done 72 = .ok (.aload_n 0, 1) := by decide +kernel
theorem dL_done_73 : decode cL_done 73 = .ok (.iload_n 2, 1) := by decide +kernel
theorem dL_done_74 : decode cL_done 74 = .ok (.iload_n 3, 1) := by decide +kernel
theorem dL_done_75 : decode cL_done 75 = .ok (.invokevirtual 24, 3) := by decide +kernel
theorem dL_done_78 : decode cL_done 78 = .ok (.iconst 0, 1) := by decide +kernel
theorem dL_done_79 : decode cL_done 79 = .ok (.iload 4, 2) := by decide +kernel
theorem dL_done_81 : decode cL_done 81 = .ok (.imul, 1) := by decide +kernel
theorem dL_done_82 : decode cL_done 82 = .ok (.iadd, 1) := by decide +kernel
theorem dL_done_83 : decode cL_done 83 = .ok (.ireturn, 1) := by decide +kernel
theorem dL_done_84 : decode cL_done 84 = .ok (.aload_n 0, 1) := by decide +kernel
theorem dL_done_85 : decode cL_done 85 = .ok (.iload_n 2, 1) := by decide +kernel
theorem dL_done_86 : decode cL_done 86 = .ok (.invokevirtual 27, 3) := by decide +kernel
theorem dL_done_89 : decode cL_done 89 = .ok (.ireturn, 1) := by decide +kernel
theorem dL_done_90 : decode cL_done 90 = .ok (.aload_n 0, 1) := by decide +kernel
theorem dL_done_91 : decode cL_done 91 = .ok (.iload_n 2, 1) := by decide +kernel
theorem dL_done_92 : decode cL_done 92 = .ok (.iload_n 3, 1) := by decide +kernel
theorem dL_done_93 : decode cL_done 93 = .ok (.iload 4, 2) := by decide +kernel
theorem dL_done_95 : decode cL_done 95 = .ok (.invokevirtual 31, 3) := by decide +kernel
theorem dL_done_98 : decode cL_done 98 = .ok (.ireturn, 1) := by decide +kernel
theorem dL_done_99 : decode cL_done 99 = .ok (.aload_n 0, 1) := by decide +kernel
theorem dL_done_100 : decode cL_done 100 = .ok (.iload_n 2, 1) := by decide +kernel
theorem dL_done_101 : decode cL_done 101 = .ok (.invokevirtual 34, 3) := by decide +kernel
theorem dL_done_104 : decode cL_done 104 = .ok (.ireturn, 1) := by decide +kernel
theorem dL_done_105 : decode cL_done 105 = .ok (.aload_n 0, 1) := by decide +kernel
theorem dL_done_106 : decode cL_done 106 = .ok (.iload_n 2, 1) := by decide +kernel
theorem dL_done_107 : decode cL_done 107 = .ok (.iload_n 3, 1) := by decide +kernel
theorem dL_done_108 : decode cL_done 108 = .ok (.iload 4, 2) := by decide +kernel
theorem dL_done_110 : decode cL_done 110 = .ok (.iconst 1, 1) := by decide +kernel
theorem dL_done_111 : decode cL_done 111 = .ok (.if_icmp .ne 7, 3) := by decide +kernel
theorem dL_done_114 : decode cL_done 114 = .ok (.iconst 1, 1) := by decide +kernel
theorem dL_done_115 : decode cL_done 115 = .ok (.goto 4, 3) := by decide +kernel
theorem dL_done_118 : decode cL_done 118 = .ok (.iconst 0, 1) := by decide +kernel
theorem dL_done_119 : decode cL_done 119 = .ok (.invokevirtual 37, 3) := by decide +kernel
theorem dL_done_122 : decode cL_done 122 = .ok (.ireturn, 1) := by decide +kernel
theorem dL_done_123 : decode cL_done 123 = .ok (.aload_n 0, 1) := by decide +kernel
theorem dL_done_124 : decode cL_done 124 = .ok (.iload_n 2, 1) := by decide +kernel
theorem dL_done_125 : decode cL_done 125 = .ok (.invokevirtual 41, 3) := by decide +kernel
theorem dL_done_128 : decode cL_done 128 = .ok (.ireturn, 1) := by decide +kernel
theorem dL_done_129 : decode cL_done 129 = .ok (.aload_n 0, 1) := by decide +kernel
theorem dL_done_130 : decode cL_done 130 = .ok (.iload_n 2, 1) := by decide +kernel
theorem dL_done_131 : decode cL_done 131 = .ok (.iload_n 3, 1) := by decide +kernel
theorem dL_done_132 : decode cL_done 132 = .ok (.invokevirtual 44, 3) := by decide +kernel
theorem dL_done_135 : decode cL_done 135 = .ok (.ireturn, 1) := by decide +kernel
theorem dL_done_136 : decode cL_done 136 = .ok (.aload_n 0, 1) := by decide +kernel
theorem dL_done_137 : decode cL_done 137 = .ok (.iload_n 2, 1) := by decide +kernel
theorem dL_done_138 : decode cL_done 138 = .ok (.iload_n 3, 1) := by decide +kernel
theorem dL_done_139 : decode cL_done 139 = .ok (.iconst 0, 1) := by decide +kernel
theorem dL_done_140 : decode cL_done 140 = .ok (.iload 4, 2) := by decide +kernel
theorem dL_done_142 : decode cL_done 142 = .ok (.iconst 1, 1) := by decide +kernel
theorem dL_done_143 : decode cL_done 143 = .ok (.invokevirtual 47, 3) := by decide +kernel
theorem dL_done_146 : decode cL_done 146 = .ok (.ireturn, 1) := by decide +kernel
theorem dL_done_147 : decode cL_done 147 = .ok (.aload_n 0, 1) := by decide +kernel
theorem dL_done_148 : decode cL_done 148 = .ok (.iload_n 2, 1) := by decide +kernel
theorem dL_done_149 : decode cL_done 149 = .ok (.iload_n 3, 1) := by decide +kernel
theorem dL_done_150 : decode cL_done 150 = .ok (.iload 4, 2) := by decide +kernel
theorem dL_done_152 : decode cL_done 152 = .ok (.iconst 4, 1) := by decide +kernel
theorem dL_done_153 : decode cL_done 153 = .ok (.invokevirtual 51, 3) := by decide +kernel
theorem dL_done_156 : decode cL_done 156 = .ok (.ireturn, 1) := by decide +kernel
theorem dL_done_157 : decode cL_done 157 = .ok (.astore 5, 2) := by decide +kernel
theorem dL_done_159 : decode cL_done 159 = .ok (.iconst (-1), 1) := by decide +kernel
theorem dL_done_160 : decode cL_done 160 = .ok (.ireturn, 1) := by decide +kernel
theorem dL_done_161 : decode cL_done 161 = .ok (.astore 5, 2) := by decide +kernel
theorem dL_done_163 : decode cL_done 163 = .ok (.bipush (-2), 2) := by decide +kernel
theorem dL_done_165 : decode cL_done 165 = .ok (.ireturn, 1) := by decide +kernel
theorem dL_done_166 : decode cL_done 166 = .ok (.astore 5, 2) := by decide +kernel
theorem dL_done_168 : decode cL_done 168 = .ok (.bipush (-3), 2) := by decide +kernel
theorem dL_done_170 : decode cL_done 170 = .ok (.ireturn, 1) := by decide +kernel
theorem dL_done_171 : decode cL_done 171 = .ok (.astore 5, 2) := by decide +kernel
theorem dL_done_173 : decode cL_done 173 = .ok (.bipush (-4), 2) := by decide +kernel
theorem dL_done_175 : decode cL_done 175 = .ok (.ireturn, 1) := by decide +kernel
theorem dL_sees_0 : decode cL_sees 0 = .ok (.iconst 0, 1) := by decide +kernel
theorem dL_sees_1 : decode cL_sees 1 = .ok (.istore 4, 2) := by decide +kernel
theorem dL_sees_3 : decode cL_sees 3 = .ok (.iconst 0, 1) := by decide +kernel
theorem dL_sees_4 : decode cL_sees 4 = .ok (.istore 5, 2) := by decide +kernel
theorem dL_sees_6 : decode cL_sees 6 = .ok (.iload 5, 2) := by decide +kernel
theorem dL_sees_8 : decode cL_sees 8 = .ok (.iload_n 2, 1) := by decide +kernel
theorem dL_sees_9 : decode cL_sees 9 = .ok (.if_icmp .ge 112, 3) := by decide +kernel
theorem dL_sees_12 : decode cL_sees 12 = .ok (.aload_n 0, 1) := by decide +kernel
theorem dL_sees_13 : decode cL_sees 13 = .ok (.iload_n 1, 1) := by decide +kernel
theorem dL_sees_14 : decode cL_sees 14 = .ok (.iload 5, 2) := by decide +kernel
theorem dL_sees_16 : decode cL_sees 16 = .ok (.iconst 0, 1) := by decide +kernel
theorem dL_sees_17 : decode cL_sees 17 = .ok (.invokevirtual 63, 3) := by decide +kernel
theorem dL_sees_20 : decode cL_sees 20 = .ok (.lstore 6, 2) := by decide +kernel
theorem dL_sees_22 : decode cL_sees 22 = .ok (.aload_n 0, 1) := by decide +kernel
theorem dL_sees_23 : decode cL_sees 23 = .ok (.iload_n 1, 1) := by decide +kernel
theorem dL_sees_24 : decode cL_sees 24 = .ok (.iload 5, 2) := by decide +kernel
theorem dL_sees_26 : decode cL_sees 26 = .ok (.iconst 1, 1) := by decide +kernel
theorem dL_sees_27 : decode cL_sees 27 = .ok (.invokevirtual 63, 3) := by decide +kernel
theorem dL_sees_30 : decode cL_sees 30 = .ok (.lstore 8, 2) := by decide +kernel
theorem dL_sees_32 : decode cL_sees 32 = .ok (.iconst 0, 1) := by decide +kernel
theorem dL_sees_33 : decode cL_sees 33 = .ok (.istore 10, 2) := by decide +kernel
theorem dL_sees_35 : decode cL_sees 35 = .ok (.iload 10, 2) := by decide +kernel
theorem dL_sees_37 : decode cL_sees 37 = .ok (.iload_n 2, 1) := by decide +kernel
theorem dL_sees_38 : decode cL_sees 38 = .ok (.if_icmp .ge 77, 3) := by decide +kernel
theorem dL_sees_41 : decode cL_sees 41 = .ok (.aload_n 3, 1) := by decide +kernel
theorem dL_sees_42 : decode cL_sees 42 = .ok (.bipush 80, 2) := by decide +kernel
theorem dL_sees_44 : decode cL_sees 44 = .ok (.iload 5, 2) := by decide +kernel
theorem dL_sees_46 : decode cL_sees 46 = .ok (.imul, 1) := by decide +kernel
theorem dL_sees_47 : decode cL_sees 47 = .ok (.iload 10, 2) := by decide +kernel
theorem dL_sees_49 : decode cL_sees 49 = .ok (.iadd, 1) := by decide +kernel
theorem dL_sees_50 : decode cL_sees 50 = .ok (.iload 10, 2) := by decide +kernel
theorem dL_sees_52 : decode cL_sees 52 = .ok (.bipush 64, 2) := by decide +kernel
theorem dL_sees_54 : decode cL_sees 54 = .ok (.if_icmp .ge 11, 3) := by decide +kernel
theorem dL_sees_57 : decode cL_sees 57 = .ok (.lload 6, 2) := by decide +kernel
theorem dL_sees_59 : decode cL_sees 59 = .ok (.iload 10, 2) := by decide +kernel
theorem dL_sees_61 : decode cL_sees 61 = .ok (.lushr, 1) := by decide +kernel
theorem dL_sees_62 : decode cL_sees 62 = .ok (.goto 11, 3) := by decide +kernel
theorem dL_sees_65 : decode cL_sees 65 = .ok (.lload 8, 2) := by decide +kernel
theorem dL_sees_67 : decode cL_sees 67 = .ok (.iload 10, 2) := by decide +kernel
theorem dL_sees_69 : decode cL_sees 69 = .ok (.bipush 64, 2) := by decide +kernel
theorem dL_sees_71 : decode cL_sees 71 = .ok (.isub, 1) := by decide +kernel
theorem dL_sees_72 : decode cL_sees 72 = .ok (.lushr, 1) := by decide +kernel
theorem dL_sees_73 : decode cL_sees 73 = .ok (.lconst 1, 1) := by decide +kernel
theorem dL_sees_74 : decode cL_sees 74 = .ok (.land, 1) := by decide +kernel
theorem dL_sees_75 : decode cL_sees 75 = .ok (.lconst 1, 1) := by decide +kernel
theorem dL_sees_76 : decode cL_sees 76 = .ok (.lcmp, 1) := by decide +kernel
theorem dL_sees_77 : decode cL_sees 77 = .ok (.ifCond .ne 7, 3) := by decide +kernel
theorem dL_sees_80 : decode cL_sees 80 = .ok (.iconst 1, 1) := by decide +kernel
theorem dL_sees_81 : decode cL_sees 81 = .ok (.goto 4, 3) := by decide +kernel
theorem dL_sees_84 : decode cL_sees 84 = .ok (.iconst 0, 1) := by decide +kernel
theorem dL_sees_85 : decode cL_sees 85 = .ok (.bastore, 1) := by decide +kernel
theorem dL_sees_86 : decode cL_sees 86 = .ok (.iload 4, 2) := by decide +kernel
theorem dL_sees_88 : decode cL_sees 88 = .ok (.aload_n 3, 1) := by decide +kernel
theorem dL_sees_89 : decode cL_sees 89 = .ok (.bipush 80, 2) := by decide +kernel
theorem dL_sees_91 : decode cL_sees 91 = .ok (.iload 5, 2) := by decide +kernel
theorem dL_sees_93 : decode cL_sees 93 = .ok (.imul, 1) := by decide +kernel
theorem dL_sees_94 : decode cL_sees 94 = .ok (.iload 10, 2) := by decide +kernel
theorem dL_sees_96 : decode cL_sees 96 = .ok (.iadd, 1) := by decide +kernel
theorem dL_sees_97 : decode cL_sees 97 = .ok (.baload, 1) := by decide +kernel
theorem dL_sees_98 : decode cL_sees 98 = .ok (.ifCond .eq 7, 3) := by decide +kernel
theorem dL_sees_101 : decode cL_sees 101 = .ok (.iconst 1, 1) := by decide +kernel
theorem dL_sees_102 : decode cL_sees 102 = .ok (.goto 4, 3) := by decide +kernel
theorem dL_sees_105 : decode cL_sees 105 = .ok (.iconst 0, 1) := by decide +kernel
theorem dL_sees_106 : decode cL_sees 106 = .ok (.iadd, 1) := by decide +kernel
theorem dL_sees_107 : decode cL_sees 107 = .ok (.istore 4, 2) := by decide +kernel
theorem dL_sees_109 : decode cL_sees 109 = .ok (.iinc 10 1, 3) := by decide +kernel
theorem dL_sees_112 : decode cL_sees 112 = .ok (.goto (-77), 3) := by decide +kernel
theorem dL_sees_115 : decode cL_sees 115 = .ok (.iinc 5 1, 3) := by decide +kernel
theorem dL_sees_118 : decode cL_sees 118 = .ok (.goto (-112), 3) := by decide +kernel
theorem dL_sees_121 : decode cL_sees 121 = .ok (.iload 4, 2) := by decide +kernel
theorem dL_sees_123 : decode cL_sees 123 = .ok (.ireturn, 1) := by decide +kernel
theorem dL_isLike_0 : decode cL_isLike 0 = .ok (.iconst 0, 1) := by decide +kernel
theorem dL_isLike_1 : decode cL_isLike 1 = .ok (.istore_n 3, 1) := by decide +kernel
theorem dL_isLike_2 : decode cL_isLike 2 = .ok (.iload_n 3, 1) := by decide +kernel
theorem dL_isLike_3 : decode cL_isLike 3 = .ok (.iload_n 2, 1) := by decide +kernel
theorem dL_isLike_4 : decode cL_isLike 4 = .ok (.if_icmp .ge 47, 3) := by decide +kernel
theorem dL_isLike_7 : decode cL_isLike 7 = .ok (.iconst 0, 1) := by decide +kernel
theorem dL_isLike_8 : decode cL_isLike 8 = .ok (.istore 4, 2) := by decide +kernel
theorem dL_isLike_10 : decode cL_isLike 10 = .ok (.iload 4, 2) := by decide +kernel
theorem dL_isLike_12 : decode cL_isLike 12 = .ok (.iload_n 2, 1) := by decide +kernel
theorem dL_isLike_13 : decode cL_isLike 13 = .ok (.if_icmp .ge 32, 3) := by decide +kernel
theorem dL_isLike_16 : decode cL_isLike 16 = .ok (.aload_n 0, 1) := by decide +kernel
theorem dL_isLike_17 : decode cL_isLike 17 = .ok (.bipush 80, 2) := by decide +kernel
theorem dL_isLike_19 : decode cL_isLike 19 = .ok (.iload_n 3, 1) := by decide +kernel
theorem dL_isLike_20 : decode cL_isLike 20 = .ok (.imul, 1) := by decide +kernel
theorem dL_isLike_21 : decode cL_isLike 21 = .ok (.iload 4, 2) := by decide +kernel
theorem dL_isLike_23 : decode cL_isLike 23 = .ok (.iadd, 1) := by decide +kernel
theorem dL_isLike_24 : decode cL_isLike 24 = .ok (.baload, 1) := by decide +kernel
theorem dL_isLike_25 : decode cL_isLike 25 = .ok (.aload_n 1, 1) := by decide +kernel
theorem dL_isLike_26 : decode cL_isLike 26 = .ok (.bipush 80, 2) := by decide +kernel
theorem dL_isLike_28 : decode cL_isLike 28 = .ok (.iload_n 3, 1) := by decide +kernel
theorem dL_isLike_29 : decode cL_isLike 29 = .ok (.imul, 1) := by decide +kernel
theorem dL_isLike_30 : decode cL_isLike 30 = .ok (.iload 4, 2) := by decide +kernel
theorem dL_isLike_32 : decode cL_isLike 32 = .ok (.iadd, 1) := by decide +kernel
theorem dL_isLike_33 : decode cL_isLike 33 = .ok (.baload, 1) := by decide +kernel
theorem dL_isLike_34 : decode cL_isLike 34 = .ok (.if_icmp .eq 5, 3) := by decide +kernel
theorem dL_isLike_37 : decode cL_isLike 37 = .ok (.iconst 0, 1) := by decide +kernel
theorem dL_isLike_38 : decode cL_isLike 38 = .ok (.ireturn, 1) := by decide +kernel
theorem dL_isLike_39 : decode cL_isLike 39 = .ok (.iinc 4 1, 3) := by decide +kernel
theorem dL_isLike_42 : decode cL_isLike 42 = .ok (.goto (-32), 3) := by decide +kernel
theorem dL_isLike_45 : decode cL_isLike 45 = .ok (.iinc 3 1, 3) := by decide +kernel
theorem dL_isLike_48 : decode cL_isLike 48 = .ok (.goto (-46), 3) := by decide +kernel
theorem dL_isLike_51 : decode cL_isLike 51 = .ok (.iconst 1, 1) := by decide +kernel
theorem dL_isLike_52 : decode cL_isLike 52 = .ok (.ireturn, 1) := by decide +kernel
theorem dL_closes_0 : decode cL_closes 0 = .ok (.iconst 0, 1) := by decide +kernel
theorem dL_closes_1 : decode cL_closes 1 = .ok (.istore_n 3, 1) := by decide +kernel
theorem dL_closes_2 : decode cL_closes 2 = .ok (.iload_n 3, 1) := by decide +kernel
theorem dL_closes_3 : decode cL_closes 3 = .ok (.iload_n 1, 1) := by decide +kernel
theorem dL_closes_4 : decode cL_closes 4 = .ok (.if_icmp .ge 42, 3) := by decide +kernel
theorem dL_closes_7 : decode cL_closes 7 = .ok (.iconst 0, 1) := by decide +kernel
theorem dL_closes_8 : decode cL_closes 8 = .ok (.istore 4, 2) := by decide +kernel
theorem dL_closes_10 : decode cL_closes 10 = .ok (.iload 4, 2) := by decide +kernel
theorem dL_closes_12 : decode cL_closes 12 = .ok (.iload_n 1, 1) := by decide +kernel
theorem dL_closes_13 : decode cL_closes 13 = .ok (.if_icmp .ge 27, 3) := by decide +kernel
theorem dL_closes_16 : decode cL_closes 16 = .ok (.aload_n 2, 1) := by decide +kernel
theorem dL_closes_17 : decode cL_closes 17 = .ok (.bipush 80, 2) := by decide +kernel
theorem dL_closes_19 : decode cL_closes 19 = .ok (.iload_n 3, 1) := by decide +kernel
theorem dL_closes_20 : decode cL_closes 20 = .ok (.imul, 1) := by decide +kernel
theorem dL_closes_21 : decode cL_closes 21 = .ok (.iload 4, 2) := by decide +kernel
theorem dL_closes_23 : decode cL_closes 23 = .ok (.iadd, 1) := by decide +kernel
theorem dL_closes_24 : decode cL_closes 24 = .ok (.aload_n 0, 1) := by decide +kernel
theorem dL_closes_25 : decode cL_closes 25 = .ok (.bipush 80, 2) := by decide +kernel
theorem dL_closes_27 : decode cL_closes 27 = .ok (.iload_n 3, 1) := by decide +kernel
theorem dL_closes_28 : decode cL_closes 28 = .ok (.imul, 1) := by decide +kernel
theorem dL_closes_29 : decode cL_closes 29 = .ok (.iload 4, 2) := by decide +kernel
theorem dL_closes_31 : decode cL_closes 31 = .ok (.iadd, 1) := by decide +kernel
theorem dL_closes_32 : decode cL_closes 32 = .ok (.baload, 1) := by decide +kernel
theorem dL_closes_33 : decode cL_closes 33 = .ok (.bastore, 1) := by decide +kernel
theorem dL_closes_34 : decode cL_closes 34 = .ok (.iinc 4 1, 3) := by decide +kernel
theorem dL_closes_37 : decode cL_closes 37 = .ok (.goto (-27), 3) := by decide +kernel
theorem dL_closes_40 : decode cL_closes 40 = .ok (.iinc 3 1, 3) := by decide +kernel
theorem dL_closes_43 : decode cL_closes 43 = .ok (.goto (-41), 3) := by decide +kernel
theorem dL_closes_46 : decode cL_closes 46 = .ok (.iconst 0, 1) := by decide +kernel
theorem dL_closes_47 : decode cL_closes 47 = .ok (.istore_n 3, 1) := by decide +kernel
theorem dL_closes_48 : decode cL_closes 48 = .ok (.iload_n 3, 1) := by decide +kernel
theorem dL_closes_49 : decode cL_closes 49 = .ok (.iload_n 1, 1) := by decide +kernel
theorem dL_closes_50 : decode cL_closes 50 = .ok (.if_icmp .ge 73, 3) := by decide +kernel
theorem dL_closes_53 : decode cL_closes 53 = .ok (.iconst 0, 1) := by decide +kernel
theorem dL_closes_54 : decode cL_closes 54 = .ok (.istore 4, 2) := by decide +kernel
theorem dL_closes_56 : decode cL_closes 56 = .ok (.iload 4, 2) := by decide +kernel
theorem dL_closes_58 : decode cL_closes 58 = .ok (.iload_n 1, 1) := by decide +kernel
theorem dL_closes_59 : decode cL_closes 59 = .ok (.if_icmp .ge 58, 3) := by decide +kernel
theorem dL_closes_62 : decode cL_closes 62 = .ok (.aload_n 2, 1) := by decide +kernel
theorem dL_closes_63 : decode cL_closes 63 = .ok (.bipush 80, 2) := by decide +kernel
theorem dL_closes_65 : decode cL_closes 65 = .ok (.iload 4, 2) := by decide +kernel
theorem dL_closes_67 : decode cL_closes 67 = .ok (.imul, 1) := by decide +kernel
theorem dL_closes_68 : decode cL_closes 68 = .ok (.iload_n 3, 1) := by decide +kernel
theorem dL_closes_69 : decode cL_closes 69 = .ok (.iadd, 1) := by decide +kernel
theorem dL_closes_70 : decode cL_closes 70 = .ok (.baload, 1) := by decide +kernel
theorem dL_closes_71 : decode cL_closes 71 = .ok (.ifCond .eq 40, 3) := by decide +kernel
theorem dL_closes_74 : decode cL_closes 74 = .ok (.iconst 0, 1) := by decide +kernel
theorem dL_closes_75 : decode cL_closes 75 = .ok (.istore 5, 2) := by decide +kernel
theorem dL_closes_77 : decode cL_closes 77 = .ok (.iload 5, 2) := by decide +kernel
theorem dL_closes_79 : decode cL_closes 79 = .ok (.iload_n 1, 1) := by decide +kernel
theorem dL_closes_80 : decode cL_closes 80 = .ok (.if_icmp .ge 31, 3) := by decide +kernel
theorem dL_closes_83 : decode cL_closes 83 = .ok (.aload_n 2, 1) := by decide +kernel
theorem dL_closes_84 : decode cL_closes 84 = .ok (.bipush 80, 2) := by decide +kernel
theorem dL_closes_86 : decode cL_closes 86 = .ok (.iload 4, 2) := by decide +kernel
theorem dL_closes_88 : decode cL_closes 88 = .ok (.imul, 1) := by decide +kernel
theorem dL_closes_89 : decode cL_closes 89 = .ok (.iload 5, 2) := by decide +kernel
theorem dL_closes_91 : decode cL_closes 91 = .ok (.iadd, 1) := by decide +kernel
theorem dL_closes_92 : decode cL_closes 92 = .ok (.dup2, 1) := by decide +kernel
theorem dL_closes_93 : decode cL_closes 93 = .ok (.baload, 1) := by decide +kernel
theorem dL_closes_94 : decode cL_closes 94 = .ok (.aload_n 2, 1) := by decide +kernel
theorem dL_closes_95 : decode cL_closes 95 = .ok (.bipush 80, 2) := by decide +kernel
theorem dL_closes_97 : decode cL_closes 97 = .ok (.iload_n 3, 1) := by decide +kernel
theorem dL_closes_98 : decode cL_closes 98 = .ok (.imul, 1) := by decide +kernel
theorem dL_closes_99 : decode cL_closes 99 = .ok (.iload 5, 2) := by decide +kernel
theorem dL_closes_101 : decode cL_closes 101 = .ok (.iadd, 1) := by decide +kernel
theorem dL_closes_102 : decode cL_closes 102 = .ok (.baload, 1) := by decide +kernel
theorem dL_closes_103 : decode cL_closes 103 = .ok (.ior, 1) := by decide +kernel
theorem dL_closes_104 : decode cL_closes 104 = .ok (.bastore, 1) := by decide +kernel
theorem dL_closes_105 : decode cL_closes 105 = .ok (.iinc 5 1, 3) := by decide +kernel
theorem dL_closes_108 : decode cL_closes 108 = .ok (.goto (-31), 3) := by decide +kernel
theorem dL_closes_111 : decode cL_closes 111 = .ok (.iinc 4 1, 3) := by decide +kernel
theorem dL_closes_114 : decode cL_closes 114 = .ok (.goto (-58), 3) := by decide +kernel
theorem dL_closes_117 : decode cL_closes 117 = .ok (.iinc 3 1, 3) := by decide +kernel
theorem dL_closes_120 : decode cL_closes 120 = .ok (.goto (-72), 3) := by decide +kernel
theorem dL_closes_123 : decode cL_closes 123 = .ok (.return_, 1) := by decide +kernel
theorem dL_isRing_0 : decode cL_isRing 0 = .ok (.iconst 0, 1) := by decide +kernel
theorem dL_isRing_1 : decode cL_isRing 1 = .ok (.istore_n 2, 1) := by decide +kernel
theorem dL_isRing_2 : decode cL_isRing 2 = .ok (.iload_n 2, 1) := by decide +kernel
theorem dL_isRing_3 : decode cL_isRing 3 = .ok (.iload_n 1, 1) := by decide +kernel
theorem dL_isRing_4 : decode cL_isRing 4 = .ok (.if_icmp .ge 20, 3) := by decide +kernel
theorem dL_isRing_7 : decode cL_isRing 7 = .ok (.aload_n 0, 1) := by decide +kernel
theorem dL_isRing_8 : decode cL_isRing 8 = .ok (.bipush 81, 2) := by decide +kernel
theorem dL_isRing_10 : decode cL_isRing 10 = .ok (.iload_n 2, 1) := by decide +kernel
theorem dL_isRing_11 : decode cL_isRing 11 = .ok (.imul, 1) := by decide +kernel
theorem dL_isRing_12 : decode cL_isRing 12 = .ok (.baload, 1) := by decide +kernel
theorem dL_isRing_13 : decode cL_isRing 13 = .ok (.ifCond .eq 5, 3) := by decide +kernel
theorem dL_isRing_16 : decode cL_isRing 16 = .ok (.iconst 1, 1) := by decide +kernel
theorem dL_isRing_17 : decode cL_isRing 17 = .ok (.ireturn, 1) := by decide +kernel
theorem dL_isRing_18 : decode cL_isRing 18 = .ok (.iinc 2 1, 3) := by decide +kernel
theorem dL_isRing_21 : decode cL_isRing 21 = .ok (.goto (-19), 3) := by decide +kernel
theorem dL_isRing_24 : decode cL_isRing 24 = .ok (.iconst 0, 1) := by decide +kernel
theorem dL_isRing_25 : decode cL_isRing 25 = .ok (.ireturn, 1) := by decide +kernel
theorem dL_draws_0 : decode cL_draws 0 = .ok (.aload_n 1, 1) := by decide +kernel
theorem dL_draws_1 : decode cL_draws 1 = .ok (.invokestatic 8, 3) := by decide +kernel
theorem dL_draws_4 : decode cL_draws 4 = .ok (.bipush 6, 2) := by decide +kernel
theorem dL_draws_6 : decode cL_draws 6 = .ok (.irem, 1) := by decide +kernel
theorem dL_draws_7 : decode cL_draws 7 = .ok (.istore 4, 2) := by decide +kernel
theorem dL_draws_9 : decode cL_draws 9 = .ok (.iload 4, 2) := by decide +kernel
theorem dL_draws_11 : decode cL_draws 11 = .ok (.ifCond .ne 9, 3) := by decide +kernel
theorem dL_draws_14 : decode cL_draws 14 = .ok (.iload_n 3, 1) := by decide +kernel
theorem dL_draws_15 : decode cL_draws 15 = .ok (.iconst 2, 1) := by decide +kernel
theorem dL_draws_16 : decode cL_draws 16 = .ok (.idiv, 1) := by decide +kernel
theorem dL_draws_17 : decode cL_draws 17 = .ok (.goto 46, 3) := by decide +kernel
theorem dL_draws_20 : decode cL_draws 20 = .ok (.iload 4, 2) := by decide +kernel
theorem dL_draws_22 : decode cL_draws 22 = .ok (.iconst 1, 1) := by decide +kernel
theorem dL_draws_23 : decode cL_draws 23 = .ok (.if_icmp .ne 7, 3) := by decide +kernel
theorem dL_draws_26 : decode cL_draws 26 = .ok (.iload_n 3, 1) := by decide +kernel
theorem dL_draws_27 : decode cL_draws 27 = .ok (.goto 36, 3) := by decide +kernel
theorem dL_draws_30 : decode cL_draws 30 = .ok (.iload 4, 2) := by decide +kernel
theorem dL_draws_32 : decode cL_draws 32 = .ok (.iconst 2, 1) := by decide +kernel
theorem dL_draws_33 : decode cL_draws 33 = .ok (.if_icmp .ne 11, 3) := by decide +kernel
theorem dL_draws_36 : decode cL_draws 36 = .ok (.iconst 3, 1) := by decide +kernel
theorem dL_draws_37 : decode cL_draws 37 = .ok (.iload_n 3, 1) := by decide +kernel
theorem dL_draws_38 : decode cL_draws 38 = .ok (.imul, 1) := by decide +kernel
theorem dL_draws_39 : decode cL_draws 39 = .ok (.iconst 2, 1) := by decide +kernel
theorem dL_draws_40 : decode cL_draws 40 = .ok (.idiv, 1) := by decide +kernel
theorem dL_draws_41 : decode cL_draws 41 = .ok (.goto 22, 3) := by decide +kernel
theorem dL_draws_44 : decode cL_draws 44 = .ok (.iload 4, 2) := by decide +kernel
theorem dL_draws_46 : decode cL_draws 46 = .ok (.iconst 3, 1) := by decide +kernel
theorem dL_draws_47 : decode cL_draws 47 = .ok (.if_icmp .ne 9, 3) := by decide +kernel
theorem dL_draws_50 : decode cL_draws 50 = .ok (.sipush 150, 3) := by decide +kernel
theorem dL_draws_53 : decode cL_draws 53 = .ok (.goto 10, 3) := by decide +kernel
theorem dL_draws_56 : decode cL_draws 56 = .ok (.aload_n 1, 1) := by decide +kernel
theorem dL_draws_57 : decode cL_draws 57 = .ok (.invokestatic 8, 3) := by decide +kernel
theorem dL_draws_60 : decode cL_draws 60 = .ok (.bipush 20, 2) := by decide +kernel
theorem dL_draws_62 : decode cL_draws 62 = .ok (.irem, 1) := by decide +kernel
theorem dL_draws_63 : decode cL_draws 63 = .ok (.istore 5, 2) := by decide +kernel
theorem dL_draws_65 : decode cL_draws 65 = .ok (.aload_n 0, 1) := by decide +kernel
theorem dL_draws_66 : decode cL_draws 66 = .ok (.iconst 4, 1) := by decide +kernel
theorem dL_draws_67 : decode cL_draws 67 = .ok (.iload_n 2, 1) := by decide +kernel
theorem dL_draws_68 : decode cL_draws 68 = .ok (.aload_n 1, 1) := by decide +kernel
theorem dL_draws_69 : decode cL_draws 69 = .ok (.invokestatic 8, 3) := by decide +kernel
theorem dL_draws_72 : decode cL_draws 72 = .ok (.sipush 517, 3) := by decide +kernel
theorem dL_draws_75 : decode cL_draws 75 = .ok (.imul, 1) := by decide +kernel
theorem dL_draws_76 : decode cL_draws 76 = .ok (.iconst 3, 1) := by decide +kernel
theorem dL_draws_77 : decode cL_draws 77 = .ok (.iadd, 1) := by decide +kernel
theorem dL_draws_78 : decode cL_draws 78 = .ok (.sipush 200, 3) := by decide +kernel
theorem dL_draws_81 : decode cL_draws 81 = .ok (.iload 5, 2) := by decide +kernel
theorem dL_draws_83 : decode cL_draws 83 = .ok (.invokestatic 67, 3) := by decide +kernel
theorem dL_draws_86 : decode cL_draws 86 = .ok (.invokestatic 72, 3) := by decide +kernel
theorem dL_draws_89 : decode cL_draws 89 = .ok (.istore 6, 2) := by decide +kernel
theorem dL_draws_91 : decode cL_draws 91 = .ok (.iload 4, 2) := by decide +kernel
theorem dL_draws_93 : decode cL_draws 93 = .ok (.iconst 4, 1) := by decide +kernel
theorem dL_draws_94 : decode cL_draws 94 = .ok (.if_icmp .ne 10, 3) := by decide +kernel
theorem dL_draws_97 : decode cL_draws 97 = .ok (.aload_n 0, 1) := by decide +kernel
theorem dL_draws_98 : decode cL_draws 98 = .ok (.iload_n 2, 1) := by decide +kernel
theorem dL_draws_99 : decode cL_draws 99 = .ok (.invokevirtual 76, 3) := by decide +kernel
theorem dL_draws_102 : decode cL_draws 102 = .ok (.istore 6, 2) := by decide +kernel
theorem dL_draws_104 : decode cL_draws 104 = .ok (.iload 4, 2) := by decide +kernel
theorem dL_draws_106 : decode cL_draws 106 = .ok (.iconst 5, 1) := by decide +kernel
theorem dL_draws_107 : decode cL_draws 107 = .ok (.if_icmp .ge 42, 3) := by decide +kernel
theorem dL_draws_110 : decode cL_draws 110 = .ok (.aload_n 1, 1) := by decide +kernel
theorem dL_draws_111 : decode cL_draws 111 = .ok (.invokestatic 8, 3) := by decide +kernel
theorem dL_draws_114 : decode cL_draws 114 = .ok (.iconst 2, 1) := by decide +kernel
theorem dL_draws_115 : decode cL_draws 115 = .ok (.irem, 1) := by decide +kernel
theorem dL_draws_116 : decode cL_draws 116 = .ok (.ifCond .ne 33, 3) := by decide +kernel
theorem dL_draws_119 : decode cL_draws 119 = .ok (.iconst 0, 1) := by decide +kernel
theorem dL_draws_120 : decode cL_draws 120 = .ok (.istore 7, 2) := by decide +kernel
theorem dL_draws_122 : decode cL_draws 122 = .ok (.iload 7, 2) := by decide +kernel
theorem dL_draws_124 : decode cL_draws 124 = .ok (.iload_n 3, 1) := by decide +kernel
theorem dL_draws_125 : decode cL_draws 125 = .ok (.if_icmp .ge 24, 3) := by decide +kernel
theorem dL_draws_128 : decode cL_draws 128 = .ok (.aload_n 0, 1) := by decide +kernel
theorem dL_draws_129 : decode cL_draws 129 = .ok (.iload_n 2, 1) := by decide +kernel
theorem dL_draws_130 : decode cL_draws 130 = .ok (.iload 7, 2) := by decide +kernel
theorem dL_draws_132 : decode cL_draws 132 = .ok (.iconst 0, 1) := by decide +kernel
theorem dL_draws_133 : decode cL_draws 133 = .ok (.iload 7, 2) := by decide +kernel
theorem dL_draws_135 : decode cL_draws 135 = .ok (.iconst 1, 1) := by decide +kernel
theorem dL_draws_136 : decode cL_draws 136 = .ok (.iadd, 1) := by decide +kernel
theorem dL_draws_137 : decode cL_draws 137 = .ok (.iconst 0, 1) := by decide +kernel
theorem dL_draws_138 : decode cL_draws 138 = .ok (.invokevirtual 47, 3) := by decide +kernel
theorem dL_draws_141 : decode cL_draws 141 = .ok (.istore 6, 2) := by decide +kernel
theorem dL_draws_143 : decode cL_draws 143 = .ok (.iinc 7 1, 3) := by decide +kernel
theorem dL_draws_146 : decode cL_draws 146 = .ok (.goto (-24), 3) := by decide +kernel
theorem dL_draws_149 : decode cL_draws 149 = .ok (.iload 4, 2) := by decide +kernel
theorem dL_draws_151 : decode cL_draws 151 = .ok (.iconst 5, 1) := by decide +kernel
theorem dL_draws_152 : decode cL_draws 152 = .ok (.if_icmp .ne 29, 3) := by decide +kernel
theorem dL_draws_155 : decode cL_draws 155 = .ok (.aload_n 0, 1) := by decide +kernel
theorem dL_draws_156 : decode cL_draws 156 = .ok (.iload_n 2, 1) := by decide +kernel
theorem dL_draws_157 : decode cL_draws 157 = .ok (.aload_n 1, 1) := by decide +kernel
theorem dL_draws_158 : decode cL_draws 158 = .ok (.invokestatic 8, 3) := by decide +kernel
theorem dL_draws_161 : decode cL_draws 161 = .ok (.iload_n 3, 1) := by decide +kernel
theorem dL_draws_162 : decode cL_draws 162 = .ok (.irem, 1) := by decide +kernel
theorem dL_draws_163 : decode cL_draws 163 = .ok (.aload_n 1, 1) := by decide +kernel
theorem dL_draws_164 : decode cL_draws 164 = .ok (.invokestatic 8, 3) := by decide +kernel
theorem dL_draws_167 : decode cL_draws 167 = .ok (.i2l, 1) := by decide +kernel
theorem dL_draws_168 : decode cL_draws 168 = .ok (.ldc2_w 79, 3) := by decide +kernel
theorem dL_draws_171 : decode cL_draws 171 = .ok (.lmul, 1) := by decide +kernel
theorem dL_draws_172 : decode cL_draws 172 = .ok (.ldc2_w 81, 3) := by decide +kernel
theorem dL_draws_175 : decode cL_draws 175 = .ok (.lmul, 1) := by decide +kernel
theorem dL_draws_176 : decode cL_draws 176 = .ok (.invokevirtual 83, 3) := by decide +kernel
theorem dL_draws_179 : decode cL_draws 179 = .ok (.istore 6, 2) := by decide +kernel
theorem dL_draws_181 : decode cL_draws 181 = .ok (.return_, 1) := by decide +kernel
theorem dL_isTrue_0 : decode cL_isTrue 0 = .ok (.aload_n 0, 1) := by decide +kernel
theorem dL_isTrue_1 : decode cL_isTrue 1 = .ok (.iload_n 2, 1) := by decide +kernel
theorem dL_isTrue_2 : decode cL_isTrue 2 = .ok (.iload_n 3, 1) := by decide +kernel
theorem dL_isTrue_3 : decode cL_isTrue 3 = .ok (.aload 4, 2) := by decide +kernel
theorem dL_isTrue_5 : decode cL_isTrue 5 = .ok (.invokestatic 87, 3) := by decide +kernel
theorem dL_isTrue_8 : decode cL_isTrue 8 = .ok (.istore 7, 2) := by decide +kernel
theorem dL_isTrue_10 : decode cL_isTrue 10 = .ok (.aload 4, 2) := by decide +kernel
theorem dL_isTrue_12 : decode cL_isTrue 12 = .ok (.iload_n 3, 1) := by decide +kernel
theorem dL_isTrue_13 : decode cL_isTrue 13 = .ok (.aload 5, 2) := by decide +kernel
theorem dL_isTrue_15 : decode cL_isTrue 15 = .ok (.invokestatic 91, 3) := by decide +kernel
theorem dL_isTrue_18 : decode cL_isTrue 18 = .ok (.aload 5, 2) := by decide +kernel
theorem dL_isTrue_20 : decode cL_isTrue 20 = .ok (.iload_n 3, 1) := by decide +kernel
theorem dL_isTrue_21 : decode cL_isTrue 21 = .ok (.invokestatic 95, 3) := by decide +kernel
theorem dL_isTrue_24 : decode cL_isTrue 24 = .ok (.istore 8, 2) := by decide +kernel
theorem dL_isTrue_26 : decode cL_isTrue 26 = .ok (.aload_n 0, 1) := by decide +kernel
theorem dL_isTrue_27 : decode cL_isTrue 27 = .ok (.iload_n 2, 1) := by decide +kernel
theorem dL_isTrue_28 : decode cL_isTrue 28 = .ok (.invokevirtual 99, 3) := by decide +kernel
theorem dL_isTrue_31 : decode cL_isTrue 31 = .ok (.iload 7, 2) := by decide +kernel
theorem dL_isTrue_33 : decode cL_isTrue 33 = .ok (.if_icmp .ne 39, 3) := by decide +kernel
theorem dL_isTrue_36 : decode cL_isTrue 36 = .ok (.aload_n 0, 1) := by decide +kernel
theorem dL_isTrue_37 : decode cL_isTrue 37 = .ok (.iload_n 2, 1) := by decide +kernel
theorem dL_isTrue_38 : decode cL_isTrue 38 = .ok (.invokevirtual 102, 3) := by decide +kernel
theorem dL_isTrue_41 : decode cL_isTrue 41 = .ok (.iload 8, 2) := by decide +kernel
theorem dL_isTrue_43 : decode cL_isTrue 43 = .ok (.if_icmp .ne 29, 3) := by decide +kernel
theorem dL_isTrue_46 : decode cL_isTrue 46 = .ok (.aload_n 0, 1) := by decide +kernel
theorem dL_isTrue_47 : decode cL_isTrue 47 = .ok (.invokevirtual 106, 3) := by decide +kernel
theorem dL_isTrue_50 : decode cL_isTrue 50 = .ok (.ifCond .ne 22, 3) := by decide +kernel
theorem dL_isTrue_53 : decode cL_isTrue 53 = .ok (.aload_n 0, 1) := by decide +kernel
theorem dL_isTrue_54 : decode cL_isTrue 54 = .ok (.iload_n 2, 1) := by decide +kernel
theorem dL_isTrue_55 : decode cL_isTrue 55 = .ok (.invokevirtual 110, 3) := by decide +kernel
theorem dL_isTrue_58 : decode cL_isTrue 58 = .ok (.iload 7, 2) := by decide +kernel
theorem dL_isTrue_60 : decode cL_isTrue 60 = .ok (.i2d, 1) := by decide +kernel
theorem dL_isTrue_61 : decode cL_isTrue 61 = .ok (.iload_n 3, 1) := by decide +kernel
theorem dL_isTrue_62 : decode cL_isTrue 62 = .ok (.i2d, 1) := by decide +kernel
theorem dL_isTrue_63 : decode cL_isTrue 63 = .ok (.ddiv, 1) := by decide +kernel
theorem dL_isTrue_64 : decode cL_isTrue 64 = .ok (.dcmp .l, 1) := by decide +kernel
theorem dL_isTrue_65 : decode cL_isTrue 65 = .ok (.ifCond .ne 7, 3) := by decide +kernel
theorem dL_isTrue_68 : decode cL_isTrue 68 = .ok (.iconst 1, 1) := by decide +kernel
theorem dL_isTrue_69 : decode cL_isTrue 69 = .ok (.goto 4, 3) := by decide +kernel
theorem dL_isTrue_72 : decode cL_isTrue 72 = .ok (.iconst 0, 1) := by decide +kernel
theorem dL_isTrue_73 : decode cL_isTrue 73 = .ok (.istore 9, 2) := by decide +kernel
theorem dL_isTrue_75 : decode cL_isTrue 75 = .ok (.aload_n 1, 1) := by decide +kernel
theorem dL_isTrue_76 : decode cL_isTrue 76 = .ok (.invokestatic 8, 3) := by decide +kernel
theorem dL_isTrue_79 : decode cL_isTrue 79 = .ok (.iload_n 3, 1) := by decide +kernel
theorem dL_isTrue_80 : decode cL_isTrue 80 = .ok (.irem, 1) := by decide +kernel
theorem dL_isTrue_81 : decode cL_isTrue 81 = .ok (.istore 10, 2) := by decide +kernel
theorem dL_isTrue_83 : decode cL_isTrue 83 = .ok (.aload_n 1, 1) := by decide +kernel
theorem dL_isTrue_84 : decode cL_isTrue 84 = .ok (.invokestatic 8, 3) := by decide +kernel
theorem dL_isTrue_87 : decode cL_isTrue 87 = .ok (.iload_n 3, 1) := by decide +kernel
theorem dL_isTrue_88 : decode cL_isTrue 88 = .ok (.irem, 1) := by decide +kernel
theorem dL_isTrue_89 : decode cL_isTrue 89 = .ok (.istore 11, 2) := by decide +kernel
theorem dL_isTrue_91 : decode cL_isTrue 91 = .ok (.iload 9, 2) := by decide +kernel
theorem dL_isTrue_93 : decode cL_isTrue 93 = .ok (.ifCond .eq 53, 3) := by decide +kernel
theorem dL_isTrue_96 : decode cL_isTrue 96 = .ok (.aload_n 0, 1) := by decide +kernel
theorem dL_isTrue_97 : decode cL_isTrue 97 = .ok (.iload_n 2, 1) := by decide +kernel
theorem dL_isTrue_98 : decode cL_isTrue 98 = .ok (.iload 10, 2) := by decide +kernel
theorem dL_isTrue_100 : decode cL_isTrue 100 = .ok (.iload 11, 2) := by decide +kernel
theorem dL_isTrue_102 : decode cL_isTrue 102 = .ok (.invokevirtual 114, 3) := by decide +kernel
theorem dL_isTrue_105 : decode cL_isTrue 105 = .ok (.ifCond .le 7, 3) := by decide +kernel
theorem dL_isTrue_108 : decode cL_isTrue 108 = .ok (.iconst 1, 1) := by decide +kernel
theorem dL_isTrue_109 : decode cL_isTrue 109 = .ok (.goto 4, 3) := by decide +kernel
theorem dL_isTrue_112 : decode cL_isTrue 112 = .ok (.iconst 0, 1) := by decide +kernel
theorem dL_isTrue_113 : decode cL_isTrue 113 = .ok (.aload 5, 2) := by decide +kernel
theorem dL_isTrue_115 : decode cL_isTrue 115 = .ok (.bipush 80, 2) := by decide +kernel
theorem dL_isTrue_117 : decode cL_isTrue 117 = .ok (.iload 10, 2) := by decide +kernel
theorem dL_isTrue_119 : decode cL_isTrue 119 = .ok (.imul, 1) := by decide +kernel
theorem dL_isTrue_120 : decode cL_isTrue 120 = .ok (.iload 11, 2) := by decide +kernel
theorem dL_isTrue_122 : decode cL_isTrue 122 = .ok (.iadd, 1) := by decide +kernel
theorem dL_isTrue_123 : decode cL_isTrue 123 = .ok (.baload, 1) := by decide +kernel
theorem dL_isTrue_124 : decode cL_isTrue 124 = .ok (.if_icmp .ne 22, 3) := by decide +kernel
theorem dL_isTrue_127 : decode cL_isTrue 127 = .ok (.aload_n 0, 1) := by decide +kernel
theorem dL_isTrue_128 : decode cL_isTrue 128 = .ok (.iload_n 2, 1) := by decide +kernel
theorem dL_isTrue_129 : decode cL_isTrue 129 = .ok (.iload 10, 2) := by decide +kernel
theorem dL_isTrue_131 : decode cL_isTrue 131 = .ok (.iload 11, 2) := by decide +kernel
theorem dL_isTrue_133 : decode cL_isTrue 133 = .ok (.iload_n 3, 1) := by decide +kernel
theorem dL_isTrue_134 : decode cL_isTrue 134 = .ok (.aload 4, 2) := by decide +kernel
theorem dL_isTrue_136 : decode cL_isTrue 136 = .ok (.invokestatic 117, 3) := by decide +kernel
theorem dL_isTrue_139 : decode cL_isTrue 139 = .ok (.ifCond .eq 7, 3) := by decide +kernel
theorem dL_isTrue_142 : decode cL_isTrue 142 = .ok (.iconst 1, 1) := by decide +kernel
theorem dL_isTrue_143 : decode cL_isTrue 143 = .ok (.goto 4, 3) := by decide +kernel
theorem dL_isTrue_146 : decode cL_isTrue 146 = .ok (.iconst 0, 1) := by decide +kernel
theorem dL_isTrue_147 : decode cL_isTrue 147 = .ok (.istore 9, 2) := by decide +kernel
theorem dL_isTrue_149 : decode cL_isTrue 149 = .ok (.iconst 0, 1) := by decide +kernel
theorem dL_isTrue_150 : decode cL_isTrue 150 = .ok (.istore 12, 2) := by decide +kernel
theorem dL_isTrue_152 : decode cL_isTrue 152 = .ok (.iconst 0, 1) := by decide +kernel
theorem dL_isTrue_153 : decode cL_isTrue 153 = .ok (.istore 13, 2) := by decide +kernel
theorem dL_isTrue_155 : decode cL_isTrue 155 = .ok (.iload 13, 2) := by decide +kernel
theorem dL_isTrue_157 : decode cL_isTrue 157 = .ok (.iload_n 3, 1) := by decide +kernel
theorem dL_isTrue_158 : decode cL_isTrue 158 = .ok (.if_icmp .ge 101, 3) := by decide +kernel
theorem dL_isTrue_161 : decode cL_isTrue 161 = .ok (.iload 9, 2) := by decide +kernel
theorem dL_isTrue_163 : decode cL_isTrue 163 = .ok (.ifCond .eq 96, 3) := by decide +kernel
theorem dL_isTrue_166 : decode cL_isTrue 166 = .ok (.iconst 0, 1) := by decide +kernel
theorem dL_isTrue_167 : decode cL_isTrue 167 = .ok (.istore 14, 2) := by decide +kernel
theorem dL_isTrue_169 : decode cL_isTrue 169 = .ok (.iload 14, 2) := by decide +kernel
theorem dL_isTrue_171 : decode cL_isTrue 171 = .ok (.iload 13, 2) := by decide +kernel
theorem dL_isTrue_173 : decode cL_isTrue 173 = .ok (.if_icmp .ge 37, 3) := by decide +kernel
theorem dL_isTrue_176 : decode cL_isTrue 176 = .ok (.aload 5, 2) := by decide +kernel
theorem dL_isTrue_178 : decode cL_isTrue 178 = .ok (.bipush 80, 2) := by decide +kernel
theorem dL_isTrue_180 : decode cL_isTrue 180 = .ok (.iload 14, 2) := by decide +kernel
theorem dL_isTrue_182 : decode cL_isTrue 182 = .ok (.imul, 1) := by decide +kernel
theorem dL_isTrue_183 : decode cL_isTrue 183 = .ok (.iload 13, 2) := by decide +kernel
theorem dL_isTrue_185 : decode cL_isTrue 185 = .ok (.iadd, 1) := by decide +kernel
theorem dL_isTrue_186 : decode cL_isTrue 186 = .ok (.baload, 1) := by decide +kernel
theorem dL_isTrue_187 : decode cL_isTrue 187 = .ok (.ifCond .eq 17, 3) := by decide +kernel
theorem dL_isTrue_190 : decode cL_isTrue 190 = .ok (.aload 5, 2) := by decide +kernel
theorem dL_isTrue_192 : decode cL_isTrue 192 = .ok (.bipush 80, 2) := by decide +kernel
theorem dL_isTrue_194 : decode cL_isTrue 194 = .ok (.iload 13, 2) := by decide +kernel
theorem dL_isTrue_196 : decode cL_isTrue 196 = .ok (.imul, 1) := by decide +kernel
theorem dL_isTrue_197 : decode cL_isTrue 197 = .ok (.iload 14, 2) := by decide +kernel
theorem dL_isTrue_199 : decode cL_isTrue 199 = .ok (.iadd, 1) := by decide +kernel
theorem dL_isTrue_200 : decode cL_isTrue 200 = .ok (.baload, 1) := by decide +kernel
theorem dL_isTrue_201 : decode cL_isTrue 201 = .ok (.ifCond .ne 9, 3) := by decide +kernel
theorem dL_isTrue_204 : decode cL_isTrue 204 = .ok (.iinc 14 1, 3) := by decide +kernel
theorem dL_isTrue_207 : decode cL_isTrue 207 = .ok (.goto (-38), 3) := by decide +kernel
theorem dL_isTrue_210 : decode cL_isTrue 210 = .ok (.iload 12, 2) := by decide +kernel
theorem dL_isTrue_212 : decode cL_isTrue 212 = .ok (.iload 14, 2) := by decide +kernel
theorem dL_isTrue_214 : decode cL_isTrue 214 = .ok (.iload 13, 2) := by decide +kernel
theorem dL_isTrue_216 : decode cL_isTrue 216 = .ok (.if_icmp .ne 7, 3) := by decide +kernel
theorem dL_isTrue_219 : decode cL_isTrue 219 = .ok (.iconst 1, 1) := by decide +kernel
theorem dL_isTrue_220 : decode cL_isTrue 220 = .ok (.goto 4, 3) := by decide +kernel
theorem dL_isTrue_223 : decode cL_isTrue 223 = .ok (.iconst 0, 1) := by decide +kernel
theorem dL_isTrue_224 : decode cL_isTrue 224 = .ok (.iadd, 1) := by decide +kernel
theorem dL_isTrue_225 : decode cL_isTrue 225 = .ok (.istore 12, 2) := by decide +kernel
theorem dL_isTrue_227 : decode cL_isTrue 227 = .ok (.iload 13, 2) := by decide +kernel
theorem dL_isTrue_229 : decode cL_isTrue 229 = .ok (.iconst 3, 1) := by decide +kernel
theorem dL_isTrue_230 : decode cL_isTrue 230 = .ok (.irem, 1) := by decide +kernel
theorem dL_isTrue_231 : decode cL_isTrue 231 = .ok (.ifCond .gt 15, 3) := by decide +kernel
theorem dL_isTrue_234 : decode cL_isTrue 234 = .ok (.aload_n 0, 1) := by decide +kernel
theorem dL_isTrue_235 : decode cL_isTrue 235 = .ok (.iload_n 2, 1) := by decide +kernel
theorem dL_isTrue_236 : decode cL_isTrue 236 = .ok (.iload 13, 2) := by decide +kernel
theorem dL_isTrue_238 : decode cL_isTrue 238 = .ok (.invokevirtual 121, 3) := by decide +kernel
theorem dL_isTrue_241 : decode cL_isTrue 241 = .ok (.iload 14, 2) := by decide +kernel
theorem dL_isTrue_243 : decode cL_isTrue 243 = .ok (.if_icmp .ne 7, 3) := by decide +kernel
theorem dL_isTrue_246 : decode cL_isTrue 246 = .ok (.iconst 1, 1) := by decide +kernel
theorem dL_isTrue_247 : decode cL_isTrue 247 = .ok (.goto 4, 3) := by decide +kernel
theorem dL_isTrue_250 : decode cL_isTrue 250 = .ok (.iconst 0, 1) := by decide +kernel
theorem dL_isTrue_251 : decode cL_isTrue 251 = .ok (.istore 9, 2) := by decide +kernel
theorem dL_isTrue_253 : decode cL_isTrue 253 = .ok (.iinc 13 1, 3) := by decide +kernel
theorem dL_isTrue_256 : decode cL_isTrue 256 = .ok (.goto (-101), 3) := by decide +kernel
theorem dL_isTrue_259 : decode cL_isTrue 259 = .ok (.iload 9, 2) := by decide +kernel
theorem dL_isTrue_261 : decode cL_isTrue 261 = .ok (.ifCond .eq 17, 3) := by decide +kernel
theorem dL_isTrue_264 : decode cL_isTrue 264 = .ok (.aload_n 0, 1) := by decide +kernel
theorem dL_isTrue_265 : decode cL_isTrue 265 = .ok (.iload_n 2, 1) := by decide +kernel
theorem dL_isTrue_266 : decode cL_isTrue 266 = .ok (.invokevirtual 124, 3) := by decide +kernel
theorem dL_isTrue_269 : decode cL_isTrue 269 = .ok (.iload 12, 2) := by decide +kernel
theorem dL_isTrue_271 : decode cL_isTrue 271 = .ok (.if_icmp .ne 7, 3) := by decide +kernel
theorem dL_isTrue_274 : decode cL_isTrue 274 = .ok (.iconst 1, 1) := by decide +kernel
theorem dL_isTrue_275 : decode cL_isTrue 275 = .ok (.goto 4, 3) := by decide +kernel
theorem dL_isTrue_278 : decode cL_isTrue 278 = .ok (.iconst 0, 1) := by decide +kernel
theorem dL_isTrue_279 : decode cL_isTrue 279 = .ok (.istore 9, 2) := by decide +kernel
theorem dL_isTrue_281 : decode cL_isTrue 281 = .ok (.iload 8, 2) := by decide +kernel
theorem dL_isTrue_283 : decode cL_isTrue 283 = .ok (.ifCond .eq 57, 3) := by decide +kernel
theorem dL_isTrue_286 : decode cL_isTrue 286 = .ok (.iload 9, 2) := by decide +kernel
theorem dL_isTrue_288 : decode cL_isTrue 288 = .ok (.ifCond .eq 46, 3) := by decide +kernel
theorem dL_isTrue_291 : decode cL_isTrue 291 = .ok (.aload_n 0, 1) := by decide +kernel
theorem dL_isTrue_292 : decode cL_isTrue 292 = .ok (.iconst 2, 1) := by decide +kernel
theorem dL_isTrue_293 : decode cL_isTrue 293 = .ok (.iload_n 2, 1) := by decide +kernel
theorem dL_isTrue_294 : decode cL_isTrue 294 = .ok (.iconst 0, 1) := by decide +kernel
theorem dL_isTrue_295 : decode cL_isTrue 295 = .ok (.iconst 0, 1) := by decide +kernel
theorem dL_isTrue_296 : decode cL_isTrue 296 = .ok (.invokestatic 72, 3) := by decide +kernel
theorem dL_isTrue_299 : decode cL_isTrue 299 = .ok (.bipush (-3), 2) := by decide +kernel
theorem dL_isTrue_301 : decode cL_isTrue 301 = .ok (.if_icmp .ne 33, 3) := by decide +kernel
theorem dL_isTrue_304 : decode cL_isTrue 304 = .ok (.aload_n 0, 1) := by decide +kernel
theorem dL_isTrue_305 : decode cL_isTrue 305 = .ok (.iconst 3, 1) := by decide +kernel
theorem dL_isTrue_306 : decode cL_isTrue 306 = .ok (.iload_n 2, 1) := by decide +kernel
theorem dL_isTrue_307 : decode cL_isTrue 307 = .ok (.iconst 0, 1) := by decide +kernel
theorem dL_isTrue_308 : decode cL_isTrue 308 = .ok (.iconst 0, 1) := by decide +kernel
theorem dL_isTrue_309 : decode cL_isTrue 309 = .ok (.invokestatic 72, 3) := by decide +kernel
theorem dL_isTrue_312 : decode cL_isTrue 312 = .ok (.bipush (-3), 2) := by decide +kernel
theorem dL_isTrue_314 : decode cL_isTrue 314 = .ok (.if_icmp .ne 20, 3) := by decide +kernel
theorem dL_isTrue_317 : decode cL_isTrue 317 = .ok (.aload_n 0, 1) := by decide +kernel
theorem dL_isTrue_318 : decode cL_isTrue 318 = .ok (.iconst 1, 1) := by decide +kernel
theorem dL_isTrue_319 : decode cL_isTrue 319 = .ok (.iload_n 2, 1) := by decide +kernel
theorem dL_isTrue_320 : decode cL_isTrue 320 = .ok (.iconst 3, 1) := by decide +kernel
theorem dL_isTrue_321 : decode cL_isTrue 321 = .ok (.iconst 0, 1) := by decide +kernel
theorem dL_isTrue_322 : decode cL_isTrue 322 = .ok (.invokestatic 72, 3) := by decide +kernel
theorem dL_isTrue_325 : decode cL_isTrue 325 = .ok (.bipush (-3), 2) := by decide +kernel
theorem dL_isTrue_327 : decode cL_isTrue 327 = .ok (.if_icmp .ne 7, 3) := by decide +kernel
theorem dL_isTrue_330 : decode cL_isTrue 330 = .ok (.iconst 1, 1) := by decide +kernel
theorem dL_isTrue_331 : decode cL_isTrue 331 = .ok (.goto 4, 3) := by decide +kernel
theorem dL_isTrue_334 : decode cL_isTrue 334 = .ok (.iconst 0, 1) := by decide +kernel
theorem dL_isTrue_335 : decode cL_isTrue 335 = .ok (.istore 9, 2) := by decide +kernel
theorem dL_isTrue_337 : decode cL_isTrue 337 = .ok (.goto 39, 3) := by decide +kernel
theorem dL_isTrue_340 : decode cL_isTrue 340 = .ok (.iload 9, 2) := by decide +kernel
theorem dL_isTrue_342 : decode cL_isTrue 342 = .ok (.ifCond .eq 31, 3) := by decide +kernel
theorem dL_isTrue_345 : decode cL_isTrue 345 = .ok (.aload_n 0, 1) := by decide +kernel
theorem dL_isTrue_346 : decode cL_isTrue 346 = .ok (.iload_n 2, 1) := by decide +kernel
theorem dL_isTrue_347 : decode cL_isTrue 347 = .ok (.iload_n 3, 1) := by decide +kernel
theorem dL_isTrue_348 : decode cL_isTrue 348 = .ok (.aload 4, 2) := by decide +kernel
theorem dL_isTrue_350 : decode cL_isTrue 350 = .ok (.invokestatic 127, 3) := by decide +kernel
theorem dL_isTrue_353 : decode cL_isTrue 353 = .ok (.ifCond .eq 20, 3) := by decide +kernel
theorem dL_isTrue_356 : decode cL_isTrue 356 = .ok (.aload_n 0, 1) := by decide +kernel
theorem dL_isTrue_357 : decode cL_isTrue 357 = .ok (.iload_n 2, 1) := by decide +kernel
theorem dL_isTrue_358 : decode cL_isTrue 358 = .ok (.iload_n 3, 1) := by decide +kernel
theorem dL_isTrue_359 : decode cL_isTrue 359 = .ok (.aload 5, 2) := by decide +kernel
theorem dL_isTrue_361 : decode cL_isTrue 361 = .ok (.aload 6, 2) := by decide +kernel
theorem dL_isTrue_363 : decode cL_isTrue 363 = .ok (.invokestatic 131, 3) := by decide +kernel
theorem dL_isTrue_366 : decode cL_isTrue 366 = .ok (.ifCond .eq 7, 3) := by decide +kernel
theorem dL_isTrue_369 : decode cL_isTrue 369 = .ok (.iconst 1, 1) := by decide +kernel
theorem dL_isTrue_370 : decode cL_isTrue 370 = .ok (.goto 4, 3) := by decide +kernel
theorem dL_isTrue_373 : decode cL_isTrue 373 = .ok (.iconst 0, 1) := by decide +kernel
theorem dL_isTrue_374 : decode cL_isTrue 374 = .ok (.istore 9, 2) := by decide +kernel
theorem dL_isTrue_376 : decode cL_isTrue 376 = .ok (.aload_n 0, 1) := by decide +kernel
theorem dL_isTrue_377 : decode cL_isTrue 377 = .ok (.iload_n 2, 1) := by decide +kernel
theorem dL_isTrue_378 : decode cL_isTrue 378 = .ok (.iconst 3, 1) := by decide +kernel
theorem dL_isTrue_379 : decode cL_isTrue 379 = .ok (.invokevirtual 135, 3) := by decide +kernel
theorem dL_isTrue_382 : decode cL_isTrue 382 = .ok (.istore 13, 2) := by decide +kernel
theorem dL_isTrue_384 : decode cL_isTrue 384 = .ok (.aload_n 1, 1) := by decide +kernel
theorem dL_isTrue_385 : decode cL_isTrue 385 = .ok (.invokestatic 8, 3) := by decide +kernel
theorem dL_isTrue_388 : decode cL_isTrue 388 = .ok (.iconst 3, 1) := by decide +kernel
theorem dL_isTrue_389 : decode cL_isTrue 389 = .ok (.irem, 1) := by decide +kernel
theorem dL_isTrue_390 : decode cL_isTrue 390 = .ok (.ifCond .ne 7, 3) := by decide +kernel
theorem dL_isTrue_393 : decode cL_isTrue 393 = .ok (.iconst 1, 1) := by decide +kernel
theorem dL_isTrue_394 : decode cL_isTrue 394 = .ok (.goto 4, 3) := by decide +kernel
theorem dL_isTrue_397 : decode cL_isTrue 397 = .ok (.iconst 0, 1) := by decide +kernel
theorem dL_isTrue_398 : decode cL_isTrue 398 = .ok (.istore 14, 2) := by decide +kernel
theorem dL_isTrue_400 : decode cL_isTrue 400 = .ok (.iconst 0, 1) := by decide +kernel
theorem dL_isTrue_401 : decode cL_isTrue 401 = .ok (.istore 15, 2) := by decide +kernel
theorem dL_isTrue_403 : decode cL_isTrue 403 = .ok (.iload 15, 2) := by decide +kernel
theorem dL_isTrue_405 : decode cL_isTrue 405 = .ok (.iload_n 3, 1) := by decide +kernel
theorem dL_isTrue_406 : decode cL_isTrue 406 = .ok (.if_icmp .ge 23, 3) := by decide +kernel
theorem dL_isTrue_409 : decode cL_isTrue 409 = .ok (.iload 14, 2) := by decide +kernel
theorem dL_isTrue_411 : decode cL_isTrue 411 = .ok (.ifCond .eq 18, 3) := by decide +kernel
theorem dL_isTrue_414 : decode cL_isTrue 414 = .ok (.aload 5, 2) := by decide +kernel
theorem dL_isTrue_416 : decode cL_isTrue 416 = .ok (.bipush 81, 2) := by decide +kernel
theorem dL_isTrue_418 : decode cL_isTrue 418 = .ok (.iload 15, 2) := by decide +kernel
theorem dL_isTrue_420 : decode cL_isTrue 420 = .ok (.imul, 1) := by decide +kernel
theorem dL_isTrue_421 : decode cL_isTrue 421 = .ok (.iconst 1, 1) := by decide +kernel
theorem dL_isTrue_422 : decode cL_isTrue 422 = .ok (.bastore, 1) := by decide +kernel
theorem dL_isTrue_423 : decode cL_isTrue 423 = .ok (.iinc 15 1, 3) := by decide +kernel
theorem dL_isTrue_426 : decode cL_isTrue 426 = .ok (.goto (-23), 3) := by decide +kernel
theorem dL_isTrue_429 : decode cL_isTrue 429 = .ok (.aload_n 0, 1) := by decide +kernel
theorem dL_isTrue_430 : decode cL_isTrue 430 = .ok (.iconst 3, 1) := by decide +kernel
theorem dL_isTrue_431 : decode cL_isTrue 431 = .ok (.iload 14, 2) := by decide +kernel
theorem dL_isTrue_433 : decode cL_isTrue 433 = .ok (.invokevirtual 138, 3) := by decide +kernel
theorem dL_isTrue_436 : decode cL_isTrue 436 = .ok (.istore 15, 2) := by decide +kernel
theorem dL_isTrue_438 : decode cL_isTrue 438 = .ok (.iload 9, 2) := by decide +kernel
theorem dL_isTrue_440 : decode cL_isTrue 440 = .ok (.ifCond .eq 98, 3) := by decide +kernel
theorem dL_isTrue_443 : decode cL_isTrue 443 = .ok (.iload 13, 2) := by decide +kernel
theorem dL_isTrue_445 : decode cL_isTrue 445 = .ok (.iload 7, 2) := by decide +kernel
theorem dL_isTrue_447 : decode cL_isTrue 447 = .ok (.if_icmp .ne 91, 3) := by decide +kernel
theorem dL_isTrue_450 : decode cL_isTrue 450 = .ok (.aload_n 0, 1) := by decide +kernel
theorem dL_isTrue_451 : decode cL_isTrue 451 = .ok (.iconst 3, 1) := by decide +kernel
theorem dL_isTrue_452 : decode cL_isTrue 452 = .ok (.iload_n 3, 1) := by decide +kernel
theorem dL_isTrue_453 : decode cL_isTrue 453 = .ok (.aload 6, 2) := by decide +kernel
theorem dL_isTrue_455 : decode cL_isTrue 455 = .ok (.invokestatic 87, 3) := by decide +kernel
theorem dL_isTrue_458 : decode cL_isTrue 458 = .ok (.iload 15, 2) := by decide +kernel
theorem dL_isTrue_460 : decode cL_isTrue 460 = .ok (.if_icmp .ne 78, 3) := by decide +kernel
theorem dL_isTrue_463 : decode cL_isTrue 463 = .ok (.aload 5, 2) := by decide +kernel
theorem dL_isTrue_465 : decode cL_isTrue 465 = .ok (.aload 6, 2) := by decide +kernel
theorem dL_isTrue_467 : decode cL_isTrue 467 = .ok (.iload_n 3, 1) := by decide +kernel
theorem dL_isTrue_468 : decode cL_isTrue 468 = .ok (.invokestatic 142, 3) := by decide +kernel
theorem dL_isTrue_471 : decode cL_isTrue 471 = .ok (.ifCond .eq 67, 3) := by decide +kernel
theorem dL_isTrue_474 : decode cL_isTrue 474 = .ok (.aload_n 0, 1) := by decide +kernel
theorem dL_isTrue_475 : decode cL_isTrue 475 = .ok (.iconst 3, 1) := by decide +kernel
theorem dL_isTrue_476 : decode cL_isTrue 476 = .ok (.iconst 4, 1) := by decide +kernel
theorem dL_isTrue_477 : decode cL_isTrue 477 = .ok (.invokevirtual 146, 3) := by decide +kernel
theorem dL_isTrue_480 : decode cL_isTrue 480 = .ok (.ifCond .eq 58, 3) := by decide +kernel
theorem dL_isTrue_483 : decode cL_isTrue 483 = .ok (.aload_n 0, 1) := by decide +kernel
theorem dL_isTrue_484 : decode cL_isTrue 484 = .ok (.iconst 3, 1) := by decide +kernel
theorem dL_isTrue_485 : decode cL_isTrue 485 = .ok (.iconst 0, 1) := by decide +kernel
theorem dL_isTrue_486 : decode cL_isTrue 486 = .ok (.invokevirtual 138, 3) := by decide +kernel
theorem dL_isTrue_489 : decode cL_isTrue 489 = .ok (.iload 15, 2) := by decide +kernel
theorem dL_isTrue_491 : decode cL_isTrue 491 = .ok (.if_icmp .ne 47, 3) := by decide +kernel
theorem dL_isTrue_494 : decode cL_isTrue 494 = .ok (.iload 15, 2) := by decide +kernel
theorem dL_isTrue_496 : decode cL_isTrue 496 = .ok (.iload 7, 2) := by decide +kernel
theorem dL_isTrue_498 : decode cL_isTrue 498 = .ok (.if_icmp .ne 7, 3) := by decide +kernel
theorem dL_isTrue_501 : decode cL_isTrue 501 = .ok (.iconst 1, 1) := by decide +kernel
theorem dL_isTrue_502 : decode cL_isTrue 502 = .ok (.goto 4, 3) := by decide +kernel
theorem dL_isTrue_505 : decode cL_isTrue 505 = .ok (.iconst 0, 1) := by decide +kernel
theorem dL_isTrue_506 : decode cL_isTrue 506 = .ok (.aload_n 0, 1) := by decide +kernel
theorem dL_isTrue_507 : decode cL_isTrue 507 = .ok (.iload_n 2, 1) := by decide +kernel
theorem dL_isTrue_508 : decode cL_isTrue 508 = .ok (.iconst 3, 1) := by decide +kernel
theorem dL_isTrue_509 : decode cL_isTrue 509 = .ok (.invokevirtual 150, 3) := by decide +kernel
theorem dL_isTrue_512 : decode cL_isTrue 512 = .ok (.ifCond .ne 7, 3) := by decide +kernel
theorem dL_isTrue_515 : decode cL_isTrue 515 = .ok (.iconst 1, 1) := by decide +kernel
theorem dL_isTrue_516 : decode cL_isTrue 516 = .ok (.goto 4, 3) := by decide +kernel
theorem dL_isTrue_519 : decode cL_isTrue 519 = .ok (.iconst 0, 1) := by decide +kernel
theorem dL_isTrue_520 : decode cL_isTrue 520 = .ok (.if_icmp .ne 18, 3) := by decide +kernel
theorem dL_isTrue_523 : decode cL_isTrue 523 = .ok (.aload_n 0, 1) := by decide +kernel
theorem dL_isTrue_524 : decode cL_isTrue 524 = .ok (.iload_n 2, 1) := by decide +kernel
theorem dL_isTrue_525 : decode cL_isTrue 525 = .ok (.iconst 3, 1) := by decide +kernel
theorem dL_isTrue_526 : decode cL_isTrue 526 = .ok (.invokevirtual 150, 3) := by decide +kernel
theorem dL_isTrue_529 : decode cL_isTrue 529 = .ok (.iconst 2, 1) := by decide +kernel
theorem dL_isTrue_530 : decode cL_isTrue 530 = .ok (.irem, 1) := by decide +kernel
theorem dL_isTrue_531 : decode cL_isTrue 531 = .ok (.ifCond .ne 7, 3) := by decide +kernel
theorem dL_isTrue_534 : decode cL_isTrue 534 = .ok (.iconst 1, 1) := by decide +kernel
theorem dL_isTrue_535 : decode cL_isTrue 535 = .ok (.goto 4, 3) := by decide +kernel
theorem dL_isTrue_538 : decode cL_isTrue 538 = .ok (.iconst 0, 1) := by decide +kernel
theorem dL_isTrue_539 : decode cL_isTrue 539 = .ok (.istore 9, 2) := by decide +kernel
theorem dL_isTrue_541 : decode cL_isTrue 541 = .ok (.iload 9, 2) := by decide +kernel
theorem dL_isTrue_543 : decode cL_isTrue 543 = .ok (.ifCond .eq 21, 3) := by decide +kernel
theorem dL_isTrue_546 : decode cL_isTrue 546 = .ok (.iload 14, 2) := by decide +kernel
theorem dL_isTrue_548 : decode cL_isTrue 548 = .ok (.ifCond .eq 12, 3) := by decide +kernel
theorem dL_isTrue_551 : decode cL_isTrue 551 = .ok (.aload_n 0, 1) := by decide +kernel
theorem dL_isTrue_552 : decode cL_isTrue 552 = .ok (.iconst 3, 1) := by decide +kernel
theorem dL_isTrue_553 : decode cL_isTrue 553 = .ok (.iconst 0, 1) := by decide +kernel
