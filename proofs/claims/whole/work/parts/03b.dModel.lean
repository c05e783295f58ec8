theorem dX5_init_0 : decode cX5_init 0 = .ok (.aload_n 0, 1) := by decide +kernel
theorem dX5_init_1 : decode cX5_init 1 = .ok (.invokespecial 1, 3) := by decide +kernel
theorem dX5_init_4 : decode cX5_init 4 = .ok (.aload_n 0, 1) := by decide +kernel
theorem dX5_init_5 : decode cX5_init 5 = .ok (.sipush 25600, 3) := by decide +kernel
theorem dX5_init_8 : decode cX5_init 8 = .ok (.newarray .boolean, 2) := by decide +kernel
theorem dX5_init_10 : decode cX5_init 10 = .ok (.putfield 7, 3) := by decide +kernel
theorem dX5_init_13 : decode cX5_init 13 = .ok (.aload_n 0, 1) := by decide +kernel
theorem dX5_init_14 : decode cX5_init 14 = .ok (.bipush 80, 2) := by decide +kernel
theorem dX5_init_16 : decode cX5_init 16 = .ok (.newarray .boolean, 2) := by decide +kernel
theorem dX5_init_18 : decode cX5_init 18 = .ok (.putfield 13, 3) := by decide +kernel
theorem dX5_init_21 : decode cX5_init 21 = .ok (.aload_n 0, 1) := by decide +kernel
theorem dX5_init_22 : decode cX5_init 22 = .ok (.bipush 12, 2) := by decide +kernel
theorem dX5_init_24 : decode cX5_init 24 = .ok (.putfield 16, 3) := by decide +kernel
theorem dX5_init_27 : decode cX5_init 27 = .ok (.aload_n 0, 1) := by decide +kernel
theorem dX5_init_28 : decode cX5_init 28 = .ok (.sipush 6400, 3) := by decide +kernel
theorem dX5_init_31 : decode cX5_init 31 = .ok (.newarray .boolean, 2) := by decide +kernel
theorem dX5_init_33 : decode cX5_init 33 = .ok (.putfield 20, 3) := by decide +kernel
theorem dX5_init_36 : decode cX5_init 36 = .ok (.aload_n 0, 1) := by decide +kernel
theorem dX5_init_37 : decode cX5_init 37 = .ok (.sipush 6400, 3) := by decide +kernel
theorem dX5_init_40 : decode cX5_init 40 = .ok (.newarray .boolean, 2) := by decide +kernel
theorem dX5_init_42 : decode cX5_init 42 = .ok (.putfield 23, 3) := by decide +kernel
theorem dX5_init_45 : decode cX5_init 45 = .ok (.aload_n 0, 1) := by decide +kernel
theorem dX5_init_46 : decode cX5_init 46 = .ok (.sipush 6400, 3) := by decide +kernel
theorem dX5_init_49 : decode cX5_init 49 = .ok (.newarray .boolean, 2) := by decide +kernel
theorem dX5_init_51 : decode cX5_init 51 = .ok (.putfield 26, 3) := by decide +kernel
theorem dX5_init_54 : decode cX5_init 54 = .ok (.aload_n 0, 1) := by decide +kernel
theorem dX5_init_55 : decode cX5_init 55 = .ok (.bipush 80, 2) := by decide +kernel
theorem dX5_init_57 : decode cX5_init 57 = .ok (.newarray .boolean, 2) := by decide +kernel
theorem dX5_init_59 : decode cX5_init 59 = .ok (.putfield 29, 3) := by decide +kernel
theorem dX5_init_62 : decode cX5_init 62 = .ok (.aload_n 0, 1) := by decide +kernel
theorem dX5_init_63 : decode cX5_init 63 = .ok (.bipush 80, 2) := by decide +kernel
theorem dX5_init_65 : decode cX5_init 65 = .ok (.newarray .boolean, 2) := by decide +kernel
theorem dX5_init_67 : decode cX5_init 67 = .ok (.putfield 32, 3) := by decide +kernel
theorem dX5_init_70 : decode cX5_init 70 = .ok (.aload_n 0, 1) := by decide +kernel
theorem dX5_init_71 : decode cX5_init 71 = .ok (.bipush 80, 2) := by decide +kernel
theorem dX5_init_73 : decode cX5_init 73 = .ok (.newarray .int, 2) := by decide +kernel
theorem dX5_init_75 : decode cX5_init 75 = .ok (.putfield 35, 3) := by decide +kernel
theorem dX5_init_78 : decode cX5_init 78 = .ok (.aload_n 0, 1) := by decide +kernel
theorem dX5_init_79 : decode cX5_init 79 = .ok (.bipush 80, 2) := by decide +kernel
theorem dX5_init_81 : decode cX5_init 81 = .ok (.newarray .int, 2) := by decide +kernel
theorem dX5_init_83 : decode cX5_init 83 = .ok (.putfield 39, 3) := by decide +kernel
theorem dX5_init_86 : decode cX5_init 86 = .ok (.aload_n 0, 1) := by decide +kernel
theorem dX5_init_87 : decode cX5_init 87 = .ok (.bipush 80, 2) := by decide +kernel
theorem dX5_init_89 : decode cX5_init 89 = .ok (.newarray .int, 2) := by decide +kernel
theorem dX5_init_91 : decode cX5_init 91 = .ok (.putfield 42, 3) := by decide +kernel
theorem dX5_init_94 : decode cX5_init 94 = .ok (.aload_n 0, 1) := by decide +kernel
theorem dX5_init_95 : decode cX5_init 95 = .ok (.bipush 80, 2) := by decide +kernel
theorem dX5_init_97 : decode cX5_init 97 = .ok (.newarray .int, 2) := by decide +kernel
theorem dX5_init_99 : decode cX5_init 99 = .ok (.putfield 45, 3) := by decide +kernel
theorem dX5_init_102 : decode cX5_init 102 = .ok (.return_, 1) := by decide +kernel
theorem dX5_thrown_0 : decode cX5_thrown 0 = .ok (.aload_n 0, 1) := by decide +kernel
theorem dX5_thrown_1 : decode cX5_thrown 1 = .ok (.getfield 48, 3) := by decide +kernel
theorem dX5_thrown_4 : decode cX5_thrown 4 = .ok (.ireturn, 1) := by decide +kernel
theorem dX5_in_0 : decode cX5_in 0 = .ok (.iload_n 0, 1) := by decide +kernel
theorem dX5_in_1 : decode cX5_in 1 = .ok (.iload_n 1, 1) := by decide +kernel
theorem dX5_in_2 : decode cX5_in 2 = .ok (.if_icmp .lt 12, 3) := by decide +kernel
theorem dX5_in_5 : decode cX5_in 5 = .ok (.iload_n 0, 1) := by decide +kernel
theorem dX5_in_6 : decode cX5_in 6 = .ok (.iload_n 2, 1) := by decide +kernel
theorem dX5_in_7 : decode cX5_in 7 = .ok (.if_icmp .gt 7, 3) := by decide +kernel
theorem dX5_in_10 : decode cX5_in 10 = .ok (.iconst 1, 1) := by decide +kernel
theorem dX5_in_11 : decode cX5_in 11 = .ok (.goto 4, 3) := by decide +kernel
theorem dX5_in_14 : decode cX5_in 14 = .ok (.iconst 0, 1) := by decide +kernel
theorem dX5_in_15 : decode cX5_in 15 = .ok (.ireturn, 1) := by decide +kernel
theorem dX5_isRelation_0 : decode cX5_isRelation 0 = .ok (.iload_n 0, 1) := by decide +kernel
theorem dX5_isRelation_1 : decode cX5_isRelation 1 = .ok (.iconst 0, 1) := by decide +kernel
theorem dX5_isRelation_2 : decode cX5_isRelation 2 = .ok (.iconst 3, 1) := by decide +kernel
theorem dX5_isRelation_3 : decode cX5_isRelation 3 = .ok (.invokestatic 51, 3) := by decide +kernel
theorem dX5_isRelation_6 : decode cX5_isRelation 6 = .ok (.ireturn, 1) := by decide +kernel
theorem dX5_isElement_0 : decode cX5_isElement 0 = .ok (.iload_n 1, 1) := by decide +kernel
theorem dX5_isElement_1 : decode cX5_isElement 1 = .ok (.iconst 0, 1) := by decide +kernel
theorem dX5_isElement_2 : decode cX5_isElement 2 = .ok (.aload_n 0, 1) := by decide +kernel
theorem dX5_isElement_3 : decode cX5_isElement 3 = .ok (.getfield 16, 3) := by decide +kernel
theorem dX5_isElement_6 : decode cX5_isElement 6 = .ok (.iconst 1, 1) := by decide +kernel
theorem dX5_isElement_7 : decode cX5_isElement 7 = .ok (.isub, 1) := by decide +kernel
theorem dX5_isElement_8 : decode cX5_isElement 8 = .ok (.invokestatic 51, 3) := by decide +kernel
theorem dX5_isElement_11 : decode cX5_isElement 11 = .ok (.ireturn, 1) := by decide +kernel
theorem dX5_isRow_0 : decode cX5_isRow 0 = .ok (.iload_n 1, 1) := by decide +kernel
theorem dX5_isRow_1 : decode cX5_isRow 1 = .ok (.invokestatic 55, 3) := by decide +kernel
theorem dX5_isRow_4 : decode cX5_isRow 4 = .ok (.ifCond .eq 15, 3) := by decide +kernel
theorem dX5_isRow_7 : decode cX5_isRow 7 = .ok (.aload_n 0, 1) := by decide +kernel
theorem dX5_isRow_8 : decode cX5_isRow 8 = .ok (.iload_n 2, 1) := by decide +kernel
theorem dX5_isRow_9 : decode cX5_isRow 9 = .ok (.invokevirtual 59, 3) := by decide +kernel
theorem dX5_isRow_12 : decode cX5_isRow 12 = .ok (.ifCond .eq 7, 3) := by decide +kernel
theorem dX5_isRow_15 : decode cX5_isRow 15 = .ok (.iconst 1, 1) := by decide +kernel
theorem dX5_isRow_16 : decode cX5_isRow 16 = .ok (.goto 4, 3) := by decide +kernel
theorem dX5_isRow_19 : decode cX5_isRow 19 = .ok (.iconst 0, 1) := by decide +kernel
theorem dX5_isRow_20 : decode cX5_isRow 20 = .ok (.ireturn, 1) := by decide +kernel
theorem dX5_isRange_0 : decode cX5_isRange 0 = .ok (.iload_n 1, 1) := by decide +kernel
theorem dX5_isRange_1 : decode cX5_isRange 1 = .ok (.ifCond .lt 20, 3) := by decide +kernel
theorem dX5_isRange_4 : decode cX5_isRange 4 = .ok (.iload_n 1, 1) := by decide +kernel
theorem dX5_isRange_5 : decode cX5_isRange 5 = .ok (.iload_n 2, 1) := by decide +kernel
theorem dX5_isRange_6 : decode cX5_isRange 6 = .ok (.if_icmp .gt 15, 3) := by decide +kernel
theorem dX5_isRange_9 : decode cX5_isRange 9 = .ok (.iload_n 2, 1) := by decide +kernel
theorem dX5_isRange_10 : decode cX5_isRange 10 = .ok (.aload_n 0, 1) := by decide +kernel
theorem dX5_isRange_11 : decode cX5_isRange 11 = .ok (.getfield 16, 3) := by decide +kernel
theorem dX5_isRange_14 : decode cX5_isRange 14 = .ok (.if_icmp .gt 7, 3) := by decide +kernel
theorem dX5_isRange_17 : decode cX5_isRange 17 = .ok (.iconst 1, 1) := by decide +kernel
theorem dX5_isRange_18 : decode cX5_isRange 18 = .ok (.goto 4, 3) := by decide +kernel
theorem dX5_isRange_21 : decode cX5_isRange 21 = .ok (.iconst 0, 1) := by decide +kernel
theorem dX5_isRange_22 : decode cX5_isRange 22 = .ok (.ireturn, 1) := by decide +kernel
theorem dX5_refuse_0 : decode cX5_refuse 0 = .ok (.aload_n 0, 1) := by decide +kernel
theorem dX5_refuse_1 : decode cX5_refuse 1 = .ok (.iload_n 1, 1) := by decide +kernel
theorem dX5_refuse_2 : decode cX5_refuse 2 = .ok (.putfield 48, 3) := by decide +kernel
theorem dX5_refuse_5 : decode cX5_refuse 5 = .ok (.iconst 0, 1) := by decide +kernel
theorem dX5_refuse_6 : decode cX5_refuse 6 = .ok (.ireturn, 1) := by decide +kernel
theorem dX5_told_0 : decode cX5_told 0 = .ok (.aload_n 0, 1) := by decide +kernel
theorem dX5_told_1 : decode cX5_told 1 = .ok (.iconst 0, 1) := by decide +kernel
theorem dX5_told_2 : decode cX5_told 2 = .ok (.putfield 48, 3) := by decide +kernel
theorem dX5_told_5 : decode cX5_told 5 = .ok (.iload_n 1, 1) := by decide +kernel
theorem dX5_told_6 : decode cX5_told 6 = .ok (.ireturn, 1) := by decide +kernel
theorem dX5_says_0 : decode cX5_says 0 = .ok (.aload_n 0, 1) := by decide +kernel
theorem dX5_says_1 : decode cX5_says 1 = .ok (.iconst 0, 1) := by decide +kernel
theorem dX5_says_2 : decode cX5_says 2 = .ok (.putfield 48, 3) := by decide +kernel
theorem dX5_says_5 : decode cX5_says 5 = .ok (.iload_n 1, 1) := by decide +kernel
theorem dX5_says_6 : decode cX5_says 6 = .ok (.ireturn, 1) := by decide +kernel
theorem dX5_denies_0 : decode cX5_denies 0 = .ok (.aload_n 0, 1) := by decide +kernel
theorem dX5_denies_1 : decode cX5_denies 1 = .ok (.iload_n 1, 1) := by decide +kernel
theorem dX5_denies_2 : decode cX5_denies 2 = .ok (.putfield 48, 3) := by decide +kernel
theorem dX5_denies_5 : decode cX5_denies 5 = .ok (.iconst 0, 1) := by decide +kernel
theorem dX5_denies_6 : decode cX5_denies 6 = .ok (.ireturn, 1) := by decide +kernel
theorem dX5_place_0 : decode cX5_place 0 = .ok (.sipush 6400, 3) := by decide +kernel
theorem dX5_place_3 : decode cX5_place 3 = .ok (.iload_n 0, 1) := by decide +kernel
theorem dX5_place_4 : decode cX5_place 4 = .ok (.imul, 1) := by decide +kernel
theorem dX5_place_5 : decode cX5_place 5 = .ok (.bipush 80, 2) := by decide +kernel
theorem dX5_place_7 : decode cX5_place 7 = .ok (.iload_n 1, 1) := by decide +kernel
theorem dX5_place_8 : decode cX5_place 8 = .ok (.imul, 1) := by decide +kernel
theorem dX5_place_9 : decode cX5_place 9 = .ok (.iadd, 1) := by decide +kernel
theorem dX5_place_10 : decode cX5_place 10 = .ok (.iload_n 2, 1) := by decide +kernel
theorem dX5_place_11 : decode cX5_place 11 = .ok (.iadd, 1) := by decide +kernel
theorem dX5_place_12 : decode cX5_place 12 = .ok (.ireturn, 1) := by decide +kernel
theorem dX5_leads_0 : decode cX5_leads 0 = .ok (.aload_n 0, 1) := by decide +kernel
theorem dX5_leads_1 : decode cX5_leads 1 = .ok (.getfield 7, 3) := by decide +kernel
theorem dX5_leads_4 : decode cX5_leads 4 = .ok (.iload_n 1, 1) := by decide +kernel
theorem dX5_leads_5 : decode cX5_leads 5 = .ok (.iload_n 2, 1) := by decide +kernel
theorem dX5_leads_6 : decode cX5_leads 6 = .ok (.iload_n 3, 1) := by decide +kernel
theorem dX5_leads_7 : decode cX5_leads 7 = .ok (.invokestatic 62, 3) := by decide +kernel
theorem dX5_leads_10 : decode cX5_leads 10 = .ok (.baload, 1) := by decide +kernel
theorem dX5_leads_11 : decode cX5_leads 11 = .ok (.ireturn, 1) := by decide +kernel
theorem dX5_inRow_0 : decode cX5_inRow 0 = .ok (.iconst 0, 1) := by decide +kernel
theorem dX5_inRow_1 : decode cX5_inRow 1 = .ok (.istore_n 3, 1) := by decide +kernel
theorem dX5_inRow_2 : decode cX5_inRow 2 = .ok (.iconst 0, 1) := by decide +kernel
theorem dX5_inRow_3 : decode cX5_inRow 3 = .ok (.istore 4, 2) := by decide +kernel
theorem dX5_inRow_5 : decode cX5_inRow 5 = .ok (.iload 4, 2) := by decide +kernel
theorem dX5_inRow_7 : decode cX5_inRow 7 = .ok (.aload_n 0, 1) := by decide +kernel
theorem dX5_inRow_8 : decode cX5_inRow 8 = .ok (.getfield 16, 3) := by decide +kernel
theorem dX5_inRow_11 : decode cX5_inRow 11 = .ok (.if_icmp .ge 28, 3) := by decide +kernel
theorem dX5_inRow_14 : decode cX5_inRow 14 = .ok (.iload_n 3, 1) := by decide +kernel
theorem dX5_inRow_15 : decode cX5_inRow 15 = .ok (.aload_n 0, 1) := by decide +kernel
theorem dX5_inRow_16 : decode cX5_inRow 16 = .ok (.iload_n 1, 1) := by decide +kernel
theorem dX5_inRow_17 : decode cX5_inRow 17 = .ok (.iload_n 2, 1) := by decide +kernel
theorem dX5_inRow_18 : decode cX5_inRow 18 = .ok (.iload 4, 2) := by decide +kernel
theorem dX5_inRow_20 : decode cX5_inRow 20 = .ok (.invokevirtual 66, 3) := by decide +kernel
theorem dX5_inRow_23 : decode cX5_inRow 23 = .ok (.ifCond .eq 7, 3) := by decide +kernel
theorem dX5_inRow_26 : decode cX5_inRow 26 = .ok (.iconst 1, 1) := by decide +kernel
theorem dX5_inRow_27 : decode cX5_inRow 27 = .ok (.goto 4, 3) := by decide +kernel
theorem dX5_inRow_30 : decode cX5_inRow 30 = .ok (.iconst 0, 1) := by decide +kernel
theorem dX5_inRow_31 : decode cX5_inRow 31 = .ok (.iadd, 1) := by decide +kernel
theorem dX5_inRow_32 : decode cX5_inRow 32 = .ok (.istore_n 3, 1) := by decide +kernel
theorem dX5_inRow_33 : decode cX5_inRow 33 = .ok (.iinc 4 1, 3) := by decide +kernel
theorem dX5_inRow_36 : decode cX5_inRow 36 = .ok (.goto (-31), 3) := by decide +kernel
theorem dX5_inRow_39 : decode cX5_inRow 39 = .ok (.iload_n 3, 1) := by decide +kernel
theorem dX5_inRow_40 : decode cX5_inRow 40 = .ok (.ireturn, 1) := by decide +kernel
theorem dX5_pairs_0 : decode cX5_pairs 0 = .ok (.iconst 0, 1) := by decide +kernel
theorem dX5_pairs_1 : decode cX5_pairs 1 = .ok (.istore_n 2, 1) := by decide +kernel
theorem dX5_pairs_2 : decode cX5_pairs 2 = .ok (.iconst 0, 1) := by decide +kernel
theorem dX5_pairs_3 : decode cX5_pairs 3 = .ok (.istore_n 3, 1) := by decide +kernel
theorem dX5_pairs_4 : decode cX5_pairs 4 = .ok (.iload_n 3, 1) := by decide +kernel
theorem dX5_pairs_5 : decode cX5_pairs 5 = .ok (.aload_n 0, 1) := by decide +kernel
theorem dX5_pairs_6 : decode cX5_pairs 6 = .ok (.getfield 16, 3) := by decide +kernel
theorem dX5_pairs_9 : decode cX5_pairs 9 = .ok (.if_icmp .ge 18, 3) := by decide +kernel
theorem dX5_pairs_12 : decode cX5_pairs 12 = .ok (.iload_n 2, 1) := by decide +kernel
theorem dX5_pairs_13 : decode cX5_pairs 13 = .ok (.aload_n 0, 1) := by decide +kernel
theorem dX5_pairs_14 : decode cX5_pairs 14 = .ok (.iload_n 1, 1) := by decide +kernel
theorem dX5_pairs_15 : decode cX5_pairs 15 = .ok (.iload_n 3, 1) := by decide +kernel
theorem dX5_pairs_16 : decode cX5_pairs 16 = .ok (.invokevirtual 69, 3) := by decide +kernel
theorem dX5_pairs_19 : decode cX5_pairs 19 = .ok (.iadd, 1) := by decide +kernel
theorem dX5_pairs_20 : decode cX5_pairs 20 = .ok (.istore_n 2, 1) := by decide +kernel
theorem dX5_pairs_21 : decode cX5_pairs 21 = .ok (.iinc 3 1, 3) := by decide +kernel
theorem dX5_pairs_24 : decode cX5_pairs 24 = .ok (.goto (-20), 3) := by decide +kernel
theorem dX5_pairs_27 : decode cX5_pairs 27 = .ok (.iload_n 2, 1) := by decide +kernel
theorem dX5_pairs_28 : decode cX5_pairs 28 = .ok (.ireturn, 1) := by decide +kernel
theorem dX5_lays_0 : decode cX5_lays 0 = .ok (.iconst 0, 1) := by decide +kernel
theorem dX5_lays_1 : decode cX5_lays 1 = .ok (.istore_n 2, 1) := by decide +kernel
theorem dX5_lays_2 : decode cX5_lays 2 = .ok (.iload_n 2, 1) := by decide +kernel
theorem dX5_lays_3 : decode cX5_lays 3 = .ok (.aload_n 0, 1) := by decide +kernel
theorem dX5_lays_4 : decode cX5_lays 4 = .ok (.getfield 16, 3) := by decide +kernel
theorem dX5_lays_7 : decode cX5_lays 7 = .ok (.if_icmp .ge 47, 3) := by decide +kernel
theorem dX5_lays_10 : decode cX5_lays 10 = .ok (.iconst 0, 1) := by decide +kernel
theorem dX5_lays_11 : decode cX5_lays 11 = .ok (.istore_n 3, 1) := by decide +kernel
theorem dX5_lays_12 : decode cX5_lays 12 = .ok (.iload_n 3, 1) := by decide +kernel
theorem dX5_lays_13 : decode cX5_lays 13 = .ok (.aload_n 0, 1) := by decide +kernel
theorem dX5_lays_14 : decode cX5_lays 14 = .ok (.getfield 16, 3) := by decide +kernel
theorem dX5_lays_17 : decode cX5_lays 17 = .ok (.if_icmp .ge 31, 3) := by decide +kernel
theorem dX5_lays_20 : decode cX5_lays 20 = .ok (.aload_n 0, 1) := by decide +kernel
theorem dX5_lays_21 : decode cX5_lays 21 = .ok (.getfield 7, 3) := by decide +kernel
theorem dX5_lays_24 : decode cX5_lays 24 = .ok (.iload_n 1, 1) := by decide +kernel
theorem dX5_lays_25 : decode cX5_lays 25 = .ok (.iload_n 2, 1) := by decide +kernel
theorem dX5_lays_26 : decode cX5_lays 26 = .ok (.iload_n 3, 1) := by decide +kernel
theorem dX5_lays_27 : decode cX5_lays 27 = .ok (.invokestatic 62, 3) := by decide +kernel
theorem dX5_lays_30 : decode cX5_lays 30 = .ok (.aload_n 0, 1) := by decide +kernel
theorem dX5_lays_31 : decode cX5_lays 31 = .ok (.getfield 20, 3) := by decide +kernel
theorem dX5_lays_34 : decode cX5_lays 34 = .ok (.bipush 80, 2) := by decide +kernel
theorem dX5_lays_36 : decode cX5_lays 36 = .ok (.iload_n 2, 1) := by decide +kernel
theorem dX5_lays_37 : decode cX5_lays 37 = .ok (.imul, 1) := by decide +kernel
theorem dX5_lays_38 : decode cX5_lays 38 = .ok (.iload_n 3, 1) := by decide +kernel
theorem dX5_lays_39 : decode cX5_lays 39 = .ok (.iadd, 1) := by decide +kernel
theorem dX5_lays_40 : decode cX5_lays 40 = .ok (.baload, 1) := by decide +kernel
theorem dX5_lays_41 : decode cX5_lays 41 = .ok (.bastore, 1) := by decide +kernel
theorem dX5_lays_42 : decode cX5_lays 42 = .ok (.iinc 3 1, 3) := by decide +kernel
theorem dX5_lays_45 : decode cX5_lays 45 = .ok (.goto (-33), 3) := by decide +kernel
theorem dX5_lays_48 : decode cX5_lays 48 = .ok (.iinc 2 1, 3) := by decide +kernel
theorem dX5_lays_51 : decode cX5_lays 51 = .ok (.goto (-49), 3) := by decide +kernel
theorem dX5_lays_54 : decode cX5_lays 54 = .ok (.aload_n 0, 1) := by decide +kernel
theorem dX5_lays_55 : decode cX5_lays 55 = .ok (.iload_n 1, 1) := by decide +kernel
theorem dX5_lays_56 : decode cX5_lays 56 = .ok (.invokevirtual 73, 3) := by decide +kernel
theorem dX5_lays_59 : decode cX5_lays 59 = .ok (.ireturn, 1) := by decide +kernel
theorem dX5_begin_0 : decode cX5_begin 0 = .ok (.iload_n 1, 1) := by decide +kernel
theorem dX5_begin_1 : decode cX5_begin 1 = .ok (.iconst 1, 1) := by decide +kernel
theorem dX5_begin_2 : decode cX5_begin 2 = .ok (.bipush 80, 2) := by decide +kernel
theorem dX5_begin_4 : decode cX5_begin 4 = .ok (.invokestatic 51, 3) := by decide +kernel
theorem dX5_begin_7 : decode cX5_begin 7 = .ok (.ifCond .ne 9, 3) := by decide +kernel
theorem dX5_begin_10 : decode cX5_begin 10 = .ok (.aload_n 0, 1) := by decide +kernel
theorem dX5_begin_11 : decode cX5_begin 11 = .ok (.iconst 1, 1) := by decide +kernel
theorem dX5_begin_12 : decode cX5_begin 12 = .ok (.invokevirtual 77, 3) := by decide +kernel
theorem dX5_begin_15 : decode cX5_begin 15 = .ok (.ireturn, 1) := by decide +kernel
theorem dX5_begin_16 : decode cX5_begin 16 = .ok (.aload_n 0, 1) := by decide +kernel
theorem dX5_begin_17 : decode cX5_begin 17 = .ok (.getfield 16, 3) := by decide +kernel
theorem dX5_begin_20 : decode cX5_begin 20 = .ok (.istore_n 2, 1) := by decide +kernel
theorem dX5_begin_21 : decode cX5_begin 21 = .ok (.aload_n 0, 1) := by decide +kernel
theorem dX5_begin_22 : decode cX5_begin 22 = .ok (.iload_n 1, 1) := by decide +kernel
theorem dX5_begin_23 : decode cX5_begin 23 = .ok (.putfield 16, 3) := by decide +kernel
theorem dX5_begin_26 : decode cX5_begin 26 = .ok (.iconst 0, 1) := by decide +kernel
theorem dX5_begin_27 : decode cX5_begin 27 = .ok (.istore_n 3, 1) := by decide +kernel
theorem dX5_begin_28 : decode cX5_begin 28 = .ok (.iload_n 3, 1) := by decide +kernel
theorem dX5_begin_29 : decode cX5_begin 29 = .ok (.sipush 25600, 3) := by decide +kernel
theorem dX5_begin_32 : decode cX5_begin 32 = .ok (.if_icmp .ge 16, 3) := by decide +kernel
theorem dX5_begin_35 : decode cX5_begin 35 = .ok (.aload_n 0, 1) := by decide +kernel
theorem dX5_begin_36 : decode cX5_begin 36 = .ok (.getfield 7, 3) := by decide +kernel
theorem dX5_begin_39 : decode cX5_begin 39 = .ok (.iload_n 3, 1) := by decide +kernel
theorem dX5_begin_40 : decode cX5_begin 40 = .ok (.iconst 0, 1) := by decide +kernel
theorem dX5_begin_41 : decode cX5_begin 41 = .ok (.bastore, 1) := by decide +kernel
theorem dX5_begin_42 : decode cX5_begin 42 = .ok (.iinc 3 1, 3) := by decide +kernel
theorem dX5_begin_45 : decode cX5_begin 45 = .ok (.goto (-17), 3) := by decide +kernel
theorem dX5_begin_48 : decode cX5_begin 48 = .ok (.iconst 0, 1) := by decide +kernel
theorem dX5_begin_49 : decode cX5_begin 49 = .ok (.istore_n 3, 1) := by decide +kernel
theorem dX5_begin_50 : decode cX5_begin 50 = .ok (.iload_n 3, 1) := by decide +kernel
theorem dX5_begin_51 : decode cX5_begin 51 = .ok (.bipush 80, 2) := by decide +kernel
theorem dX5_begin_53 : decode cX5_begin 53 = .ok (.if_icmp .ge 16, 3) := by decide +kernel
theorem dX5_begin_56 : decode cX5_begin 56 = .ok (.aload_n 0, 1) := by decide +kernel
theorem dX5_begin_57 : decode cX5_begin 57 = .ok (.getfield 13, 3) := by decide +kernel
theorem dX5_begin_60 : decode cX5_begin 60 = .ok (.iload_n 3, 1) := by decide +kernel
theorem dX5_begin_61 : decode cX5_begin 61 = .ok (.iconst 0, 1) := by decide +kernel
theorem dX5_begin_62 : decode cX5_begin 62 = .ok (.bastore, 1) := by decide +kernel
theorem dX5_begin_63 : decode cX5_begin 63 = .ok (.iinc 3 1, 3) := by decide +kernel
theorem dX5_begin_66 : decode cX5_begin 66 = .ok (.goto (-16), 3) := by decide +kernel
theorem dX5_begin_69 : decode cX5_begin 69 = .ok (.aload_n 0, 1) := by decide +kernel
theorem dX5_begin_70 : decode cX5_begin 70 = .ok (.iload_n 2, 1) := by decide +kernel
theorem dX5_begin_71 : decode cX5_begin 71 = .ok (.invokevirtual 80, 3) := by decide +kernel
theorem dX5_begin_74 : decode cX5_begin 74 = .ok (.ireturn, 1) := by decide +kernel
theorem dX5_set_0 : decode cX5_set 0 = .ok (.aload_n 0, 1) := by decide +kernel
theorem dX5_set_1 : decode cX5_set 1 = .ok (.iload_n 1, 1) := by decide +kernel
theorem dX5_set_2 : decode cX5_set 2 = .ok (.iload_n 2, 1) := by decide +kernel
theorem dX5_set_3 : decode cX5_set 3 = .ok (.invokevirtual 83, 3) := by decide +kernel
theorem dX5_set_6 : decode cX5_set 6 = .ok (.ifCond .eq 11, 3) := by decide +kernel
theorem dX5_set_9 : decode cX5_set 9 = .ok (.aload_n 0, 1) := by decide +kernel
theorem dX5_set_10 : decode cX5_set 10 = .ok (.iload_n 3, 1) := by decide +kernel
theorem dX5_set_11 : decode cX5_set 11 = .ok (.invokevirtual 59, 3) := by decide +kernel
theorem dX5_set_14 : decode cX5_set 14 = .ok (.ifCond .ne 9, 3) := by decide +kernel
theorem dX5_set_17 : decode cX5_set 17 = .ok (.aload_n 0, 1) := by decide +kernel
theorem dX5_set_18 : decode cX5_set 18 = .ok (.iconst 1, 1) := by decide +kernel
theorem dX5_set_19 : decode cX5_set 19 = .ok (.invokevirtual 87, 3) := by decide +kernel
theorem dX5_set_22 : decode cX5_set 22 = .ok (.ireturn, 1) := by decide +kernel
theorem dX5_set_23 : decode cX5_set 23 = .ok (.aload_n 0, 1) := by decide +kernel
theorem dX5_set_24 : decode cX5_set 24 = .ok (.iload_n 1, 1) := by decide +kernel
theorem dX5_set_25 : decode cX5_set 25 = .ok (.iload_n 2, 1) := by decide +kernel
theorem dX5_set_26 : decode cX5_set 26 = .ok (.iload_n 3, 1) := by decide +kernel
theorem dX5_set_27 : decode cX5_set 27 = .ok (.invokevirtual 66, 3) := by decide +kernel
theorem dX5_set_30 : decode cX5_set 30 = .ok (.istore 5, 2) := by decide +kernel
theorem dX5_set_32 : decode cX5_set 32 = .ok (.aload_n 0, 1) := by decide +kernel
theorem dX5_set_33 : decode cX5_set 33 = .ok (.getfield 7, 3) := by decide +kernel
theorem dX5_set_36 : decode cX5_set 36 = .ok (.iload_n 1, 1) := by decide +kernel
theorem dX5_set_37 : decode cX5_set 37 = .ok (.iload_n 2, 1) := by decide +kernel
theorem dX5_set_38 : decode cX5_set 38 = .ok (.iload_n 3, 1) := by decide +kernel
theorem dX5_set_39 : decode cX5_set 39 = .ok (.invokestatic 62, 3) := by decide +kernel
theorem dX5_set_42 : decode cX5_set 42 = .ok (.iload 4, 2) := by decide +kernel
theorem dX5_set_44 : decode cX5_set 44 = .ok (.bastore, 1) := by decide +kernel
theorem dX5_set_45 : decode cX5_set 45 = .ok (.aload_n 0, 1) := by decide +kernel
theorem dX5_set_46 : decode cX5_set 46 = .ok (.iload 5, 2) := by decide +kernel
theorem dX5_set_48 : decode cX5_set 48 = .ok (.invokevirtual 90, 3) := by decide +kernel
theorem dX5_set_51 : decode cX5_set 51 = .ok (.ireturn, 1) := by decide +kernel
theorem dX5_setRange_0 : decode cX5_setRange 0 = .ok (.aload_n 0, 1) := by decide +kernel
theorem dX5_setRange_1 : decode cX5_setRange 1 = .ok (.iload_n 1, 1) := by decide +kernel
theorem dX5_setRange_2 : decode cX5_setRange 2 = .ok (.iload_n 2, 1) := by decide +kernel
theorem dX5_setRange_3 : decode cX5_setRange 3 = .ok (.invokevirtual 83, 3) := by decide +kernel
theorem dX5_setRange_6 : decode cX5_setRange 6 = .ok (.ifCond .eq 13, 3) := by decide +kernel
theorem dX5_setRange_9 : decode cX5_setRange 9 = .ok (.aload_n 0, 1) := by decide +kernel
theorem dX5_setRange_10 : decode cX5_setRange 10 = .ok (.iload_n 3, 1) := by decide +kernel
theorem dX5_setRange_11 : decode cX5_setRange 11 = .ok (.iload 4, 2) := by decide +kernel
theorem dX5_setRange_13 : decode cX5_setRange 13 = .ok (.invokevirtual 94, 3) := by decide +kernel
theorem dX5_setRange_16 : decode cX5_setRange 16 = .ok (.ifCond .ne 9, 3) := by decide +kernel
theorem dX5_setRange_19 : decode cX5_setRange 19 = .ok (.aload_n 0, 1) := by decide +kernel
theorem dX5_setRange_20 : decode cX5_setRange 20 = .ok (.iconst 1, 1) := by decide +kernel
theorem dX5_setRange_21 : decode cX5_setRange 21 = .ok (.invokevirtual 77, 3) := by decide +kernel
theorem dX5_setRange_24 : decode cX5_setRange 24 = .ok (.ireturn, 1) := by decide +kernel
theorem dX5_setRange_25 : decode cX5_setRange 25 = .ok (.iload_n 3, 1) := by decide +kernel
theorem dX5_setRange_26 : decode cX5_setRange 26 = .ok (.istore 6, 2) := by decide +kernel
theorem dX5_setRange_28 : decode cX5_setRange 28 = .ok (.iload 6, 2) := by decide +kernel
theorem dX5_setRange_30 : decode cX5_setRange 30 = .ok (.iload 4, 2) := by decide +kernel
theorem dX5_setRange_32 : decode cX5_setRange 32 = .ok (.if_icmp .ge 23, 3) := by decide +kernel
theorem dX5_setRange_35 : decode cX5_setRange 35 = .ok (.aload_n 0, 1) := by decide +kernel
theorem dX5_setRange_36 : decode cX5_setRange 36 = .ok (.getfield 7, 3) := by decide +kernel
theorem dX5_setRange_39 : decode cX5_setRange 39 = .ok (.iload_n 1, 1) := by decide +kernel
theorem dX5_setRange_40 : decode cX5_setRange 40 = .ok (.iload_n 2, 1) := by decide +kernel
theorem dX5_setRange_41 : decode cX5_setRange 41 = .ok (.iload 6, 2) := by decide +kernel
theorem dX5_setRange_43 : decode cX5_setRange 43 = .ok (.invokestatic 62, 3) := by decide +kernel
theorem dX5_setRange_46 : decode cX5_setRange 46 = .ok (.iload 5, 2) := by decide +kernel
theorem dX5_setRange_48 : decode cX5_setRange 48 = .ok (.bastore, 1) := by decide +kernel
theorem dX5_setRange_49 : decode cX5_setRange 49 = .ok (.iinc 6 1, 3) := by decide +kernel
theorem dX5_setRange_52 : decode cX5_setRange 52 = .ok (.goto (-24), 3) := by decide +kernel
theorem dX5_setRange_55 : decode cX5_setRange 55 = .ok (.aload_n 0, 1) := by decide +kernel
theorem dX5_setRange_56 : decode cX5_setRange 56 = .ok (.aload_n 0, 1) := by decide +kernel
theorem dX5_setRange_57 : decode cX5_setRange 57 = .ok (.iload_n 1, 1) := by decide +kernel
theorem dX5_setRange_58 : decode cX5_setRange 58 = .ok (.iload_n 2, 1) := by decide +kernel
theorem dX5_setRange_59 : decode cX5_setRange 59 = .ok (.invokevirtual 69, 3) := by decide +kernel
theorem dX5_setRange_62 : decode cX5_setRange 62 = .ok (.invokevirtual 80, 3) := by decide +kernel
theorem dX5_setRange_65 : decode cX5_setRange 65 = .ok (.ireturn, 1) := by decide +kernel
theorem dX5_flipRange_0 : decode cX5_flipRange 0 = .ok (.aload_n 0, 1) := by decide +kernel
theorem dX5_flipRange_1 : decode cX5_flipRange 1 = .ok (.iload_n 1, 1) := by decide +kernel
theorem dX5_flipRange_2 : decode cX5_flipRange 2 = .ok (.iload_n 2, 1) := by decide +kernel
theorem dX5_flipRange_3 : decode cX5_flipRange 3 = .ok (.invokevirtual 83, 3) := by decide +kernel
theorem dX5_flipRange_6 : decode cX5_flipRange 6 = .ok (.ifCond .eq 13, 3) := by decide +kernel
theorem dX5_flipRange_9 : decode cX5_flipRange 9 = .ok (.aload_n 0, 1) := by decide +kernel
theorem dX5_flipRange_10 : decode cX5_flipRange 10 = .ok (.iload_n 3, 1) := by decide +kernel
theorem dX5_flipRange_11 : decode cX5_flipRange 11 = .ok (.iload 4, 2) := by decide +kernel
theorem dX5_flipRange_13 : decode cX5_flipRange 13 = .ok (.invokevirtual 94, 3) := by decide +kernel
theorem dX5_flipRange_16 : decode cX5_flipRange 16 = .ok (.ifCond .ne 9, 3) := by decide +kernel
theorem dX5_flipRange_19 : decode cX5_flipRange 19 = .ok (.aload_n 0, 1) := by decide +kernel
theorem dX5_flipRange_20 : decode cX5_flipRange 20 = .ok (.iconst 1, 1) := by decide +kernel
theorem dX5_flipRange_21 : decode cX5_flipRange 21 = .ok (.invokevirtual 77, 3) := by decide +kernel
theorem dX5_flipRange_24 : decode cX5_flipRange 24 = .ok (.ireturn, 1) := by decide +kernel
theorem dX5_flipRange_25 : decode cX5_flipRange 25 = .ok (.iload_n 3, 1) := by decide +kernel
theorem dX5_flipRange_26 : decode cX5_flipRange 26 = .ok (.istore 5, 2) := by decide +kernel
theorem dX5_flipRange_28 : decode cX5_flipRange 28 = .ok (.iload 5, 2) := by decide +kernel
theorem dX5_flipRange_30 : decode cX5_flipRange 30 = .ok (.iload 4, 2) := by decide +kernel
theorem dX5_flipRange_32 : decode cX5_flipRange 32 = .ok (.if_icmp .ge 41, 3) := by decide +kernel
theorem dX5_flipRange_35 : decode cX5_flipRange 35 = .ok (.aload_n 0, 1) := by decide +kernel
theorem dX5_flipRange_36 : decode cX5_flipRange 36 = .ok (.getfield 7, 3) := by decide +kernel
theorem dX5_flipRange_39 : decode cX5_flipRange 39 = .ok (.iload_n 1, 1) := by decide +kernel
theorem dX5_flipRange_40 : decode cX5_flipRange 40 = .ok (.iload_n 2, 1) := by decide +kernel
theorem dX5_flipRange_41 : decode cX5_flipRange 41 = .ok (.iload 5, 2) := by decide +kernel
theorem dX5_flipRange_43 : decode cX5_flipRange 43 = .ok (.invokestatic 62, 3) := by decide +kernel
theorem dX5_flipRange_46 : decode cX5_flipRange 46 = .ok (.aload_n 0, 1) := by decide +kernel
theorem dX5_flipRange_47 : decode cX5_flipRange 47 = .ok (.getfield 7, 3) := by decide +kernel
theorem dX5_flipRange_50 : decode cX5_flipRange 50 = .ok (.iload_n 1, 1) := by decide +kernel
theorem dX5_flipRange_51 : decode cX5_flipRange 51 = .ok (.iload_n 2, 1) := by decide +kernel
theorem dX5_flipRange_52 : decode cX5_flipRange 52 = .ok (.iload 5, 2) := by decide +kernel
theorem dX5_flipRange_54 : decode cX5_flipRange 54 = .ok (.invokestatic 62, 3) := by decide +kernel
theorem dX5_flipRange_57 : decode cX5_flipRange 57 = .ok (.baload, 1) := by decide +kernel
theorem dX5_flipRange_58 : decode cX5_flipRange 58 = .ok (.ifCond .ne 7, 3) := by decide +kernel
theorem dX5_flipRange_61 : decode cX5_flipRange 61 = .ok (.iconst 1, 1) := by decide +kernel
theorem dX5_flipRange_62 : decode cX5_flipRange 62 = .ok (.goto 4, 3) := by decide +kernel
theorem dX5_flipRange_65 : decode cX5_flipRange 65 = .ok (.iconst 0, 1) := by decide +kernel
theorem dX5_flipRange_66 : decode cX5_flipRange 66 = .ok (.bastore, 1) := by decide +kernel
theorem dX5_flipRange_67 : decode cX5_flipRange 67 = .ok (.iinc 5 1, 3) := by decide +kernel
theorem dX5_flipRange_70 : decode cX5_flipRange 70 = .ok (.goto (-42), 3) := by decide +kernel
theorem dX5_flipRange_73 : decode cX5_flipRange 73 = .ok (.aload_n 0, 1) := by decide +kernel
theorem dX5_flipRange_74 : decode cX5_flipRange 74 = .ok (.aload_n 0, 1) := by decide +kernel
theorem dX5_flipRange_75 : decode cX5_flipRange 75 = .ok (.iload_n 1, 1) := by decide +kernel
theorem dX5_flipRange_76 : decode cX5_flipRange 76 = .ok (.iload_n 2, 1) := by decide +kernel
theorem dX5_flipRange_77 : decode cX5_flipRange 77 = .ok (.invokevirtual 69, 3) := by decide +kernel
theorem dX5_flipRange_80 : decode cX5_flipRange 80 = .ok (.invokevirtual 80, 3) := by decide +kernel
theorem dX5_flipRange_83 : decode cX5_flipRange 83 = .ok (.ireturn, 1) := by decide +kernel
theorem dX5_setRow_0 : decode cX5_setRow 0 = .ok (.aload_n 0, 1) := by decide +kernel
theorem dX5_setRow_1 : decode cX5_setRow 1 = .ok (.iload_n 1, 1) := by decide +kernel
theorem dX5_setRow_2 : decode cX5_setRow 2 = .ok (.iload_n 2, 1) := by decide +kernel
theorem dX5_setRow_3 : decode cX5_setRow 3 = .ok (.invokevirtual 83, 3) := by decide +kernel
theorem dX5_setRow_6 : decode cX5_setRow 6 = .ok (.ifCond .ne 9, 3) := by decide +kernel
theorem dX5_setRow_9 : decode cX5_setRow 9 = .ok (.aload_n 0, 1) := by decide +kernel
theorem dX5_setRow_10 : decode cX5_setRow 10 = .ok (.iconst 1, 1) := by decide +kernel
theorem dX5_setRow_11 : decode cX5_setRow 11 = .ok (.invokevirtual 77, 3) := by decide +kernel
theorem dX5_setRow_14 : decode cX5_setRow 14 = .ok (.ireturn, 1) := by decide +kernel
theorem dX5_setRow_15 : decode cX5_setRow 15 = .ok (.iconst 0, 1) := by decide +kernel
theorem dX5_setRow_16 : decode cX5_setRow 16 = .ok (.istore 5, 2) := by decide +kernel
theorem dX5_setRow_18 : decode cX5_setRow 18 = .ok (.iload 5, 2) := by decide +kernel
theorem dX5_setRow_20 : decode cX5_setRow 20 = .ok (.aload_n 0, 1) := by decide +kernel
theorem dX5_setRow_21 : decode cX5_setRow 21 = .ok (.getfield 16, 3) := by decide +kernel
theorem dX5_setRow_24 : decode cX5_setRow 24 = .ok (.if_icmp .ge 44, 3) := by decide +kernel
theorem dX5_setRow_27 : decode cX5_setRow 27 = .ok (.aload_n 0, 1) := by decide +kernel
theorem dX5_setRow_28 : decode cX5_setRow 28 = .ok (.getfield 7, 3) := by decide +kernel
theorem dX5_setRow_31 : decode cX5_setRow 31 = .ok (.iload_n 1, 1) := by decide +kernel
theorem dX5_setRow_32 : decode cX5_setRow 32 = .ok (.iload_n 2, 1) := by decide +kernel
theorem dX5_setRow_33 : decode cX5_setRow 33 = .ok (.iload 5, 2) := by decide +kernel
theorem dX5_setRow_35 : decode cX5_setRow 35 = .ok (.invokestatic 62, 3) := by decide +kernel
theorem dX5_setRow_38 : decode cX5_setRow 38 = .ok (.iload 5, 2) := by decide +kernel
theorem dX5_setRow_40 : decode cX5_setRow 40 = .ok (.bipush 64, 2) := by decide +kernel
theorem dX5_setRow_42 : decode cX5_setRow 42 = .ok (.if_icmp .ge 18, 3) := by decide +kernel
theorem dX5_setRow_45 : decode cX5_setRow 45 = .ok (.lload_n 3, 1) := by decide +kernel
theorem dX5_setRow_46 : decode cX5_setRow 46 = .ok (.iload 5, 2) := by decide +kernel
theorem dX5_setRow_48 : decode cX5_setRow 48 = .ok (.lushr, 1) := by decide +kernel
theorem dX5_setRow_49 : decode cX5_setRow 49 = .ok (.lconst 1, 1) := by decide +kernel
theorem dX5_setRow_50 : decode cX5_setRow 50 = .ok (.land, 1) := by decide +kernel
theorem dX5_setRow_51 : decode cX5_setRow 51 = .ok (.lconst 1, 1) := by decide +kernel
theorem dX5_setRow_52 : decode cX5_setRow 52 = .ok (.lcmp, 1) := by decide +kernel
theorem dX5_setRow_53 : decode cX5_setRow 53 = .ok (.ifCond .ne 7, 3) := by decide +kernel
theorem dX5_setRow_56 : decode cX5_setRow 56 = .ok (.iconst 1, 1) := by decide +kernel
theorem dX5_setRow_57 : decode cX5_setRow 57 = .ok (.goto 4, 3) := by decide +kernel
theorem dX5_setRow_60 : decode cX5_setRow 60 = .ok (.iconst 0, 1) := by decide +kernel
theorem dX5_setRow_61 : decode cX5_setRow 61 = .ok (.bastore, 1) := by decide +kernel
theorem dX5_setRow_62 : decode cX5_setRow 62 = .ok (.iinc 5 1, 3) := by decide +kernel
theorem dX5_setRow_65 : decode cX5_setRow 65 = .ok (.goto (-47), 3) := by decide +kernel
theorem dX5_setRow_68 : decode cX5_setRow 68 = .ok (.aload_n 0, 1) := by decide +kernel
theorem dX5_setRow_69 : decode cX5_setRow 69 = .ok (.aload_n 0, 1) := by decide +kernel
theorem dX5_setRow_70 : decode cX5_setRow 70 = .ok (.iload_n 1, 1) := by decide +kernel
theorem dX5_setRow_71 : decode cX5_setRow 71 = .ok (.iload_n 2, 1) := by decide +kernel
theorem dX5_setRow_72 : decode cX5_setRow 72 = .ok (.invokevirtual 69, 3) := by decide +kernel
theorem dX5_setRow_75 : decode cX5_setRow 75 = .ok (.invokevirtual 80, 3) := by decide +kernel
theorem dX5_setRow_78 : decode cX5_setRow 78 = .ok (.ireturn, 1) := by decide +kernel
theorem dX5_chain_0 : decode cX5_chain 0 = .ok (.iload_n 1, 1) := by decide +kernel
theorem dX5_chain_1 : decode cX5_chain 1 = .ok (.invokestatic 55, 3) := by decide +kernel
theorem dX5_chain_4 : decode cX5_chain 4 = .ok (.ifCond .ne 9, 3) := by decide +kernel
theorem dX5_chain_7 : decode cX5_chain 7 = .ok (.aload_n 0, 1) := by decide +kernel
theorem dX5_chain_8 : decode cX5_chain 8 = .ok (.iconst 1, 1) := by decide +kernel
theorem dX5_chain_9 : decode cX5_chain 9 = .ok (.invokevirtual 77, 3) := by decide +kernel
theorem dX5_chain_12 : decode cX5_chain 12 = .ok (.ireturn, 1) := by decide +kernel
theorem dX5_chain_13 : decode cX5_chain 13 = .ok (.iconst 0, 1) := by decide +kernel
theorem dX5_chain_14 : decode cX5_chain 14 = .ok (.istore_n 2, 1) := by decide +kernel
theorem dX5_chain_15 : decode cX5_chain 15 = .ok (.iload_n 2, 1) := by decide +kernel
theorem dX5_chain_16 : decode cX5_chain 16 = .ok (.iconst 1, 1) := by decide +kernel
theorem dX5_chain_17 : decode cX5_chain 17 = .ok (.iadd, 1) := by decide +kernel
theorem dX5_chain_18 : decode cX5_chain 18 = .ok (.aload_n 0, 1) := by decide +kernel
theorem dX5_chain_19 : decode cX5_chain 19 = .ok (.getfield 16, 3) := by decide +kernel
theorem dX5_chain_22 : decode cX5_chain 22 = .ok (.if_icmp .ge 23, 3) := by decide +kernel
theorem dX5_chain_25 : decode cX5_chain 25 = .ok (.aload_n 0, 1) := by decide +kernel
theorem dX5_chain_26 : decode cX5_chain 26 = .ok (.getfield 7, 3) := by decide +kernel
theorem dX5_chain_29 : decode cX5_chain 29 = .ok (.iload_n 1, 1) := by decide +kernel
theorem dX5_chain_30 : decode cX5_chain 30 = .ok (.iload_n 2, 1) := by decide +kernel
theorem dX5_chain_31 : decode cX5_chain 31 = .ok (.iload_n 2, 1) := by decide +kernel
theorem dX5_chain_32 : decode cX5_chain 32 = .ok (.iconst 1, 1) := by decide +kernel
theorem dX5_chain_33 : decode cX5_chain 33 = .ok (.iadd, 1) := by decide +kernel
theorem dX5_chain_34 : decode cX5_chain 34 = .ok (.invokestatic 62, 3) := by decide +kernel
theorem dX5_chain_37 : decode cX5_chain 37 = .ok (.iconst 1, 1) := by decide +kernel
theorem dX5_chain_38 : decode cX5_chain 38 = .ok (.bastore, 1) := by decide +kernel
theorem dX5_chain_39 : decode cX5_chain 39 = .ok (.iinc 2 1, 3) := by decide +kernel
theorem dX5_chain_42 : decode cX5_chain 42 = .ok (.goto (-27), 3) := by decide +kernel
theorem dX5_chain_45 : decode cX5_chain 45 = .ok (.aload_n 0, 1) := by decide +kernel
theorem dX5_chain_46 : decode cX5_chain 46 = .ok (.aload_n 0, 1) := by decide +kernel
theorem dX5_chain_47 : decode cX5_chain 47 = .ok (.iload_n 1, 1) := by decide +kernel
theorem dX5_chain_48 : decode cX5_chain 48 = .ok (.invokevirtual 73, 3) := by decide +kernel
theorem dX5_chain_51 : decode cX5_chain 51 = .ok (.invokevirtual 80, 3) := by decide +kernel
theorem dX5_chain_54 : decode cX5_chain 54 = .ok (.ireturn, 1) := by decide +kernel
theorem dX5_draw_0 : decode cX5_draw 0 = .ok (.iload_n 1, 1) := by decide +kernel
theorem dX5_draw_1 : decode cX5_draw 1 = .ok (.invokestatic 55, 3) := by decide +kernel
theorem dX5_draw_4 : decode cX5_draw 4 = .ok (.ifCond .ne 9, 3) := by decide +kernel
theorem dX5_draw_7 : decode cX5_draw 7 = .ok (.aload_n 0, 1) := by decide +kernel
theorem dX5_draw_8 : decode cX5_draw 8 = .ok (.iconst 1, 1) := by decide +kernel
theorem dX5_draw_9 : decode cX5_draw 9 = .ok (.invokevirtual 77, 3) := by decide +kernel
theorem dX5_draw_12 : decode cX5_draw 12 = .ok (.ireturn, 1) := by decide +kernel
theorem dX5_draw_13 : decode cX5_draw 13 = .ok (.iload_n 3, 1) := by decide +kernel
theorem dX5_draw_14 : decode cX5_draw 14 = .ok (.iconst 0, 1) := by decide +kernel
theorem dX5_draw_15 : decode cX5_draw 15 = .ok (.sipush 200, 3) := by decide +kernel
theorem dX5_draw_18 : decode cX5_draw 18 = .ok (.invokestatic 51, 3) := by decide +kernel
theorem dX5_draw_21 : decode cX5_draw 21 = .ok (.ifCond .ne 9, 3) := by decide +kernel
theorem dX5_draw_24 : decode cX5_draw 24 = .ok (.aload_n 0, 1) := by decide +kernel
theorem dX5_draw_25 : decode cX5_draw 25 = .ok (.iconst 2, 1) := by decide +kernel
theorem dX5_draw_26 : decode cX5_draw 26 = .ok (.invokevirtual 77, 3) := by decide +kernel
theorem dX5_draw_29 : decode cX5_draw 29 = .ok (.ireturn, 1) := by decide +kernel
theorem dX5_draw_30 : decode cX5_draw 30 = .ok (.iload_n 2, 1) := by decide +kernel
theorem dX5_draw_31 : decode cX5_draw 31 = .ok (.istore 4, 2) := by decide +kernel
theorem dX5_draw_33 : decode cX5_draw 33 = .ok (.iconst 0, 1) := by decide +kernel
theorem dX5_draw_34 : decode cX5_draw 34 = .ok (.istore 5, 2) := by decide +kernel
theorem dX5_draw_36 : decode cX5_draw 36 = .ok (.iload 5, 2) := by decide +kernel
theorem dX5_draw_38 : decode cX5_draw 38 = .ok (.iload_n 3, 1) := by decide +kernel
theorem dX5_draw_39 : decode cX5_draw 39 = .ok (.if_icmp .ge 65, 3) := by decide +kernel
theorem dX5_draw_42 : decode cX5_draw 42 = .ok (.iload 4, 2) := by decide +kernel
theorem dX5_draw_44 : decode cX5_draw 44 = .ok (.ldc 97, 2) := by decide +kernel
theorem dX5_draw_46 : decode cX5_draw 46 = .ok (.imul, 1) := by decide +kernel
theorem dX5_draw_47 : decode cX5_draw 47 = .ok (.sipush 12345, 3) := by decide +kernel
theorem dX5_draw_50 : decode cX5_draw 50 = .ok (.iadd, 1) := by decide +kernel
theorem dX5_draw_51 : decode cX5_draw 51 = .ok (.istore 4, 2) := by decide +kernel
theorem dX5_draw_53 : decode cX5_draw 53 = .ok (.iload 4, 2) := by decide +kernel
theorem dX5_draw_55 : decode cX5_draw 55 = .ok (.bipush 16, 2) := by decide +kernel
theorem dX5_draw_57 : decode cX5_draw 57 = .ok (.iushr, 1) := by decide +kernel
theorem dX5_draw_58 : decode cX5_draw 58 = .ok (.aload_n 0, 1) := by decide +kernel
theorem dX5_draw_59 : decode cX5_draw 59 = .ok (.getfield 16, 3) := by decide +kernel
theorem dX5_draw_62 : decode cX5_draw 62 = .ok (.irem, 1) := by decide +kernel
theorem dX5_draw_63 : decode cX5_draw 63 = .ok (.istore 6, 2) := by decide +kernel
theorem dX5_draw_65 : decode cX5_draw 65 = .ok (.iload 4, 2) := by decide +kernel
theorem dX5_draw_67 : decode cX5_draw 67 = .ok (.ldc 97, 2) := by decide +kernel
theorem dX5_draw_69 : decode cX5_draw 69 = .ok (.imul, 1) := by decide +kernel
theorem dX5_draw_70 : decode cX5_draw 70 = .ok (.sipush 12345, 3) := by decide +kernel
theorem dX5_draw_73 : decode cX5_draw 73 = .ok (.iadd, 1) := by decide +kernel
theorem dX5_draw_74 : decode cX5_draw 74 = .ok (.istore 4, 2) := by decide +kernel
theorem dX5_draw_76 : decode cX5_draw 76 = .ok (.aload_n 0, 1) := by decide +kernel
theorem dX5_draw_77 : decode cX5_draw 77 = .ok (.getfield 7, 3) := by decide +kernel
theorem dX5_draw_80 : decode cX5_draw 80 = .ok (.iload_n 1, 1) := by decide +kernel
theorem dX5_draw_81 : decode cX5_draw 81 = .ok (.iload 6, 2) := by decide +kernel
theorem dX5_draw_83 : decode cX5_draw 83 = .ok (.iload 4, 2) := by decide +kernel
theorem dX5_draw_85 : decode cX5_draw 85 = .ok (.bipush 16, 2) := by decide +kernel
theorem dX5_draw_87 : decode cX5_draw 87 = .ok (.iushr, 1) := by decide +kernel
theorem dX5_draw_88 : decode cX5_draw 88 = .ok (.aload_n 0, 1) := by decide +kernel
theorem dX5_draw_89 : decode cX5_draw 89 = .ok (.getfield 16, 3) := by decide +kernel
theorem dX5_draw_92 : decode cX5_draw 92 = .ok (.irem, 1) := by decide +kernel
theorem dX5_draw_93 : decode cX5_draw 93 = .ok (.invokestatic 62, 3) := by decide +kernel
theorem dX5_draw_96 : decode cX5_draw 96 = .ok (.iconst 1, 1) := by decide +kernel
theorem dX5_draw_97 : decode cX5_draw 97 = .ok (.bastore, 1) := by decide +kernel
theorem dX5_draw_98 : decode cX5_draw 98 = .ok (.iinc 5 1, 3) := by decide +kernel
theorem dX5_draw_101 : decode cX5_draw 101 = .ok (.goto (-65), 3) := by decide +kernel
theorem dX5_draw_104 : decode cX5_draw 104 = .ok (.aload_n 0, 1) := by decide +kernel
theorem dX5_draw_105 : decode cX5_draw 105 = .ok (.aload_n 0, 1) := by decide +kernel
theorem dX5_draw_106 : decode cX5_draw 106 = .ok (.iload_n 1, 1) := by decide +kernel
theorem dX5_draw_107 : decode cX5_draw 107 = .ok (.invokevirtual 73, 3) := by decide +kernel
theorem dX5_draw_110 : decode cX5_draw 110 = .ok (.invokevirtual 80, 3) := by decide +kernel
theorem dX5_draw_113 : decode cX5_draw 113 = .ok (.ireturn, 1) := by decide +kernel
theorem dX5_copy_0 : decode cX5_copy 0 = .ok (.iload_n 1, 1) := by decide +kernel
theorem dX5_copy_1 : decode cX5_copy 1 = .ok (.invokestatic 55, 3) := by decide +kernel
theorem dX5_copy_4 : decode cX5_copy 4 = .ok (.ifCond .eq 10, 3) := by decide +kernel
theorem dX5_copy_7 : decode cX5_copy 7 = .ok (.iload_n 2, 1) := by decide +kernel
theorem dX5_copy_8 : decode cX5_copy 8 = .ok (.invokestatic 55, 3) := by decide +kernel
theorem dX5_copy_11 : decode cX5_copy 11 = .ok (.ifCond .ne 9, 3) := by decide +kernel
theorem dX5_copy_14 : decode cX5_copy 14 = .ok (.aload_n 0, 1) := by decide +kernel
theorem dX5_copy_15 : decode cX5_copy 15 = .ok (.iconst 1, 1) := by decide +kernel
theorem dX5_copy_16 : decode cX5_copy 16 = .ok (.invokevirtual 77, 3) := by decide +kernel
theorem dX5_copy_19 : decode cX5_copy 19 = .ok (.ireturn, 1) := by decide +kernel
theorem dX5_copy_20 : decode cX5_copy 20 = .ok (.iconst 0, 1) := by decide +kernel
theorem dX5_copy_21 : decode cX5_copy 21 = .ok (.istore_n 3, 1) := by decide +kernel
theorem dX5_copy_22 : decode cX5_copy 22 = .ok (.iload_n 3, 1) := by decide +kernel
theorem dX5_copy_23 : decode cX5_copy 23 = .ok (.sipush 6400, 3) := by decide +kernel
theorem dX5_copy_26 : decode cX5_copy 26 = .ok (.if_icmp .ge 33, 3) := by decide +kernel
theorem dX5_copy_29 : decode cX5_copy 29 = .ok (.aload_n 0, 1) := by decide +kernel
theorem dX5_copy_30 : decode cX5_copy 30 = .ok (.getfield 7, 3) := by decide +kernel
theorem dX5_copy_33 : decode cX5_copy 33 = .ok (.sipush 6400, 3) := by decide +kernel
theorem dX5_copy_36 : decode cX5_copy 36 = .ok (.iload_n 2, 1) := by decide +kernel
theorem dX5_copy_37 : decode cX5_copy 37 = .ok (.imul, 1) := by decide +kernel
theorem dX5_copy_38 : decode cX5_copy 38 = .ok (.iload_n 3, 1) := by decide +kernel
theorem dX5_copy_39 : decode cX5_copy 39 = .ok (.iadd, 1) := by decide +kernel
theorem dX5_copy_40 : decode cX5_copy 40 = .ok (.aload_n 0, 1) := by decide +kernel
theorem dX5_copy_41 : decode cX5_copy 41 = .ok (.getfield 7, 3) := by decide +kernel
theorem dX5_copy_44 : decode cX5_copy 44 = .ok (.sipush 6400, 3) := by decide +kernel
theorem dX5_copy_47 : decode cX5_copy 47 = .ok (.iload_n 1, 1) := by decide +kernel
theorem dX5_copy_48 : decode cX5_copy 48 = .ok (.imul, 1) := by decide +kernel
theorem dX5_copy_49 : decode cX5_copy 49 = .ok (.iload_n 3, 1) := by decide +kernel
theorem dX5_copy_50 : decode cX5_copy 50 = .ok (.iadd, 1) := by decide +kernel
theorem dX5_copy_51 : decode cX5_copy 51 = .ok (.baload, 1) := by decide +kernel
theorem dX5_copy_52 : decode cX5_copy 52 = .ok (.bastore, 1) := by decide +kernel
theorem dX5_copy_53 : decode cX5_copy 53 = .ok (.iinc 3 1, 3) := by decide +kernel
theorem dX5_copy_56 : decode cX5_copy 56 = .ok (.goto (-34), 3) := by decide +kernel
theorem dX5_copy_59 : decode cX5_copy 59 = .ok (.aload_n 0, 1) := by decide +kernel
theorem dX5_copy_60 : decode cX5_copy 60 = .ok (.aload_n 0, 1) := by decide +kernel
theorem dX5_copy_61 : decode cX5_copy 61 = .ok (.iload_n 2, 1) := by decide +kernel
theorem dX5_copy_62 : decode cX5_copy 62 = .ok (.invokevirtual 73, 3) := by decide +kernel
theorem dX5_copy_65 : decode cX5_copy 65 = .ok (.invokevirtual 80, 3) := by decide +kernel
theorem dX5_copy_68 : decode cX5_copy 68 = .ok (.ireturn, 1) := by decide +kernel
theorem dX5_combine_0 : decode cX5_combine 0 = .ok (.iload_n 1, 1) := by decide +kernel
theorem dX5_combine_1 : decode cX5_combine 1 = .ok (.invokestatic 55, 3) := by decide +kernel
theorem dX5_combine_4 : decode cX5_combine 4 = .ok (.ifCond .eq 10, 3) := by decide +kernel
theorem dX5_combine_7 : decode cX5_combine 7 = .ok (.iload_n 2, 1) := by decide +kernel
theorem dX5_combine_8 : decode cX5_combine 8 = .ok (.invokestatic 55, 3) := by decide +kernel
theorem dX5_combine_11 : decode cX5_combine 11 = .ok (.ifCond .ne 9, 3) := by decide +kernel
theorem dX5_combine_14 : decode cX5_combine 14 = .ok (.aload_n 0, 1) := by decide +kernel
theorem dX5_combine_15 : decode cX5_combine 15 = .ok (.iconst 1, 1) := by decide +kernel
theorem dX5_combine_16 : decode cX5_combine 16 = .ok (.invokevirtual 77, 3) := by decide +kernel
theorem dX5_combine_19 : decode cX5_combine 19 = .ok (.ireturn, 1) := by decide +kernel
theorem dX5_combine_20 : decode cX5_combine 20 = .ok (.iload_n 3, 1) := by decide +kernel
theorem dX5_combine_21 : decode cX5_combine 21 = .ok (.iconst 0, 1) := by decide +kernel
theorem dX5_combine_22 : decode cX5_combine 22 = .ok (.iconst 3, 1) := by decide +kernel
theorem dX5_combine_23 : decode cX5_combine 23 = .ok (.invokestatic 51, 3) := by decide +kernel
theorem dX5_combine_26 : decode cX5_combine 26 = .ok (.ifCond .ne 9, 3) := by decide +kernel
theorem dX5_combine_29 : decode cX5_combine 29 = .ok (.aload_n 0, 1) := by decide +kernel
theorem dX5_combine_30 : decode cX5_combine 30 = .ok (.iconst 2, 1) := by decide +kernel
theorem dX5_combine_31 : decode cX5_combine 31 = .ok (.invokevirtual 77, 3) := by decide +kernel
theorem dX5_combine_34 : decode cX5_combine 34 = .ok (.ireturn, 1) := by decide +kernel
theorem dX5_combine_35 : decode cX5_combine 35 = .ok (.iconst 0, 1) := by decide +kernel
theorem dX5_combine_36 : decode cX5_combine 36 = .ok (.istore 4, 2) := by decide +kernel
theorem dX5_combine_38 : decode cX5_combine 38 = .ok (.iload 4, 2) := by decide +kernel
theorem dX5_combine_40 : decode cX5_combine 40 = .ok (.sipush 6400, 3) := by decide +kernel
theorem dX5_combine_43 : decode cX5_combine 43 = .ok (.if_icmp .ge 132, 3) := by decide +kernel
theorem dX5_combine_46 : decode cX5_combine 46 = .ok (.aload_n 0, 1) := by decide +kernel
theorem dX5_combine_47 : decode cX5_combine 47 = .ok (.getfield 7, 3) := by decide +kernel
theorem dX5_combine_50 : decode cX5_combine 50 = .ok (.sipush 6400, 3) := by decide +kernel
theorem dX5_combine_53 : decode cX5_combine 53 = .ok (.iload_n 1, 1) := by decide +kernel
theorem dX5_combine_54 : decode cX5_combine 54 = .ok (.imul, 1) := by decide +kernel
theorem dX5_combine_55 : decode cX5_combine 55 = .ok (.iload 4, 2) := by decide +kernel
theorem dX5_combine_57 : decode cX5_combine 57 = .ok (.iadd, 1) := by decide +kernel
theorem dX5_combine_58 : decode cX5_combine 58 = .ok (.baload, 1) := by decide +kernel
theorem dX5_combine_59 : decode cX5_combine 59 = .ok (.istore 5, 2) := by decide +kernel
theorem dX5_combine_61 : decode cX5_combine 61 = .ok (.aload_n 0, 1) := by decide +kernel
theorem dX5_combine_62 : decode cX5_combine 62 = .ok (.getfield 7, 3) := by decide +kernel
theorem dX5_combine_65 : decode cX5_combine 65 = .ok (.sipush 6400, 3) := by decide +kernel
theorem dX5_combine_68 : decode cX5_combine 68 = .ok (.iload_n 2, 1) := by decide +kernel
theorem dX5_combine_69 : decode cX5_combine 69 = .ok (.imul, 1) := by decide +kernel
theorem dX5_combine_70 : decode cX5_combine 70 = .ok (.iload 4, 2) := by decide +kernel
theorem dX5_combine_72 : decode cX5_combine 72 = .ok (.iadd, 1) := by decide +kernel
theorem dX5_combine_73 : decode cX5_combine 73 = .ok (.baload, 1) := by decide +kernel
theorem dX5_combine_74 : decode cX5_combine 74 = .ok (.istore 6, 2) := by decide +kernel
theorem dX5_combine_76 : decode cX5_combine 76 = .ok (.aload_n 0, 1) := by decide +kernel
theorem dX5_combine_77 : decode cX5_combine 77 = .ok (.getfield 7, 3) := by decide +kernel
theorem dX5_combine_80 : decode cX5_combine 80 = .ok (.sipush 6400, 3) := by decide +kernel
theorem dX5_combine_83 : decode cX5_combine 83 = .ok (.iload_n 1, 1) := by decide +kernel
theorem dX5_combine_84 : decode cX5_combine 84 = .ok (.imul, 1) := by decide +kernel
theorem dX5_combine_85 : decode cX5_combine 85 = .ok (.iload 4, 2) := by decide +kernel
theorem dX5_combine_87 : decode cX5_combine 87 = .ok (.iadd, 1) := by decide +kernel
theorem dX5_combine_88 : decode cX5_combine 88 = .ok (.iload_n 3, 1) := by decide +kernel
theorem dX5_combine_89 : decode cX5_combine 89 = .ok (.ifCond .ne 21, 3) := by decide +kernel
theorem dX5_combine_92 : decode cX5_combine 92 = .ok (.iload 5, 2) := by decide +kernel
theorem dX5_combine_94 : decode cX5_combine 94 = .ok (.ifCond .ne 8, 3) := by decide +kernel
theorem dX5_combine_97 : decode cX5_combine 97 = .ok (.iload 6, 2) := by decide +kernel
theorem dX5_combine_99 : decode cX5_combine 99 = .ok (.ifCond .eq 7, 3) := by decide +kernel
theorem dX5_combine_102 : decode cX5_combine 102 = .ok (.iconst 1, 1) := by decide +kernel
theorem dX5_combine_103 : decode cX5_combine 103 = .ok (.goto 65, 3) := by decide +kernel
theorem dX5_combine_106 : decode cX5_combine 106 = .ok (.iconst 0, 1) := by decide +kernel
theorem dX5_combine_107 : decode cX5_combine 107 = .ok (.goto 61, 3) := by decide +kernel
theorem dX5_combine_110 : decode cX5_combine 110 = .ok (.iload_n 3, 1) := by decide +kernel
theorem dX5_combine_111 : decode cX5_combine 111 = .ok (.iconst 1, 1) := by decide +kernel
theorem dX5_combine_112 : decode cX5_combine 112 = .ok (.if_icmp .ne 21, 3) := by decide +kernel
theorem dX5_combine_115 : decode cX5_combine 115 = .ok (.iload 5, 2) := by decide +kernel
theorem dX5_combine_117 : decode cX5_combine 117 = .ok (.ifCond .eq 12, 3) := by decide +kernel
theorem dX5_combine_120 : decode cX5_combine 120 = .ok (.iload 6, 2) := by decide +kernel
theorem dX5_combine_122 : decode cX5_combine 122 = .ok (.ifCond .eq 7, 3) := by decide +kernel
theorem dX5_combine_125 : decode cX5_combine 125 = .ok (.iconst 1, 1) := by decide +kernel
theorem dX5_combine_126 : decode cX5_combine 126 = .ok (.goto 42, 3) := by decide +kernel
theorem dX5_combine_129 : decode cX5_combine 129 = .ok (.iconst 0, 1) := by decide +kernel
theorem dX5_combine_130 : decode cX5_combine 130 = .ok (.goto 38, 3) := by decide +kernel
theorem dX5_combine_133 : decode cX5_combine 133 = .ok (.iload_n 3, 1) := by decide +kernel
theorem dX5_combine_134 : decode cX5_combine 134 = .ok (.iconst 2, 1) := by decide +kernel
theorem dX5_combine_135 : decode cX5_combine 135 = .ok (.if_icmp .ne 21, 3) := by decide +kernel
theorem dX5_combine_138 : decode cX5_combine 138 = .ok (.iload 5, 2) := by decide +kernel
theorem dX5_combine_140 : decode cX5_combine 140 = .ok (.ifCond .eq 12, 3) := by decide +kernel
theorem dX5_combine_143 : decode cX5_combine 143 = .ok (.iload 6, 2) := by decide +kernel
theorem dX5_combine_145 : decode cX5_combine 145 = .ok (.ifCond .ne 7, 3) := by decide +kernel
theorem dX5_combine_148 : decode cX5_combine 148 = .ok (.iconst 1, 1) := by decide +kernel
theorem dX5_combine_149 : decode cX5_combine 149 = .ok (.goto 19, 3) := by decide +kernel
theorem dX5_combine_152 : decode cX5_combine 152 = .ok (.iconst 0, 1) := by decide +kernel
theorem dX5_combine_153 : decode cX5_combine 153 = .ok (.goto 15, 3) := by decide +kernel
theorem dX5_combine_156 : decode cX5_combine 156 = .ok (.iload 5, 2) := by decide +kernel
theorem dX5_combine_158 : decode cX5_combine 158 = .ok (.iload 6, 2) := by decide +kernel
theorem dX5_combine_160 : decode cX5_combine 160 = .ok (.if_icmp .eq 7, 3) := by decide +kernel
theorem dX5_combine_163 : decode cX5_combine 163 = .ok (.iconst 1, 1) := by decide +kernel
theorem dX5_combine_164 : decode cX5_combine 164 = .ok (.goto 4, 3) := by decide +kernel
theorem dX5_combine_167 : decode cX5_combine 167 = .ok (.iconst 0, 1) := by decide +kernel
theorem dX5_combine_168 : decode cX5_combine 168 = .ok (.bastore, 1) := by decide +kernel
theorem dX5_combine_169 : decode cX5_combine 169 = .ok (.iinc 4 1, 3) := by decide +kernel
theorem dX5_combine_172 : decode cX5_combine 172 = .ok (.goto (-134), 3) := by decide +kernel
theorem dX5_combine_175 : decode cX5_combine 175 = .ok (.aload_n 0, 1) := by decide +kernel
theorem dX5_combine_176 : decode cX5_combine 176 = .ok (.aload_n 0, 1) := by decide +kernel
theorem dX5_combine_177 : decode cX5_combine 177 = .ok (.iload_n 1, 1) := by decide +kernel
theorem dX5_combine_178 : decode cX5_combine 178 = .ok (.invokevirtual 73, 3) := by decide +kernel
theorem dX5_combine_181 : decode cX5_combine 181 = .ok (.invokevirtual 80, 3) := by decide +kernel
theorem dX5_combine_184 : decode cX5_combine 184 = .ok (.ireturn, 1) := by decide +kernel
theorem dX5_composes_0 : decode cX5_composes 0 = .ok (.iconst 0, 1) := by decide +kernel
theorem dX5_composes_1 : decode cX5_composes 1 = .ok (.istore_n 3, 1) := by decide +kernel
theorem dX5_composes_2 : decode cX5_composes 2 = .ok (.iload_n 3, 1) := by decide +kernel
theorem dX5_composes_3 : decode cX5_composes 3 = .ok (.aload_n 0, 1) := by decide +kernel
theorem dX5_composes_4 : decode cX5_composes 4 = .ok (.getfield 16, 3) := by decide +kernel
theorem dX5_composes_7 : decode cX5_composes 7 = .ok (.if_icmp .ge 97, 3) := by decide +kernel
theorem dX5_composes_10 : decode cX5_composes 10 = .ok (.iconst 0, 1) := by decide +kernel
theorem dX5_composes_11 : decode cX5_composes 11 = .ok (.istore 4, 2) := by decide +kernel
theorem dX5_composes_13 : decode cX5_composes 13 = .ok (.iload 4, 2) := by decide +kernel
theorem dX5_composes_15 : decode cX5_composes 15 = .ok (.aload_n 0, 1) := by decide +kernel
theorem dX5_composes_16 : decode cX5_composes 16 = .ok (.getfield 16, 3) := by decide +kernel
theorem dX5_composes_19 : decode cX5_composes 19 = .ok (.if_icmp .ge 79, 3) := by decide +kernel
theorem dX5_composes_22 : decode cX5_composes 22 = .ok (.iconst 0, 1) := by decide +kernel
theorem dX5_composes_23 : decode cX5_composes 23 = .ok (.istore 5, 2) := by decide +kernel
theorem dX5_composes_25 : decode cX5_composes 25 = .ok (.iconst 0, 1) := by decide +kernel
theorem dX5_composes_26 : decode cX5_composes 26 = .ok (.istore 6, 2) := by decide +kernel
theorem dX5_composes_28 : decode cX5_composes 28 = .ok (.iload 6, 2) := by decide +kernel
theorem dX5_composes_30 : decode cX5_composes 30 = .ok (.aload_n 0, 1) := by decide +kernel
theorem dX5_composes_31 : decode cX5_composes 31 = .ok (.getfield 16, 3) := by decide +kernel
theorem dX5_composes_34 : decode cX5_composes 34 = .ok (.if_icmp .ge 44, 3) := by decide +kernel
theorem dX5_composes_37 : decode cX5_composes 37 = .ok (.iload 5, 2) := by decide +kernel
theorem dX5_composes_39 : decode cX5_composes 39 = .ok (.ifCond .ne 39, 3) := by decide +kernel
theorem dX5_composes_42 : decode cX5_composes 42 = .ok (.aload_n 0, 1) := by decide +kernel
theorem dX5_composes_43 : decode cX5_composes 43 = .ok (.iload_n 1, 1) := by decide +kernel
theorem dX5_composes_44 : decode cX5_composes 44 = .ok (.iload_n 3, 1) := by decide +kernel
theorem dX5_composes_45 : decode cX5_composes 45 = .ok (.iload 6, 2) := by decide +kernel
theorem dX5_composes_47 : decode cX5_composes 47 = .ok (.invokevirtual 66, 3) := by decide +kernel
theorem dX5_composes_50 : decode cX5_composes 50 = .ok (.ifCond .eq 19, 3) := by decide +kernel
theorem dX5_composes_53 : decode cX5_composes 53 = .ok (.aload_n 0, 1) := by decide +kernel
theorem dX5_composes_54 : decode cX5_composes 54 = .ok (.iload_n 2, 1) := by decide +kernel
theorem dX5_composes_55 : decode cX5_composes 55 = .ok (.iload 6, 2) := by decide +kernel
theorem dX5_composes_57 : decode cX5_composes 57 = .ok (.iload 4, 2) := by decide +kernel
theorem dX5_composes_59 : decode cX5_composes 59 = .ok (.invokevirtual 66, 3) := by decide +kernel
theorem dX5_composes_62 : decode cX5_composes 62 = .ok (.ifCond .eq 7, 3) := by decide +kernel
theorem dX5_composes_65 : decode cX5_composes 65 = .ok (.iconst 1, 1) := by decide +kernel
theorem dX5_composes_66 : decode cX5_composes 66 = .ok (.goto 4, 3) := by decide +kernel
theorem dX5_composes_69 : decode cX5_composes 69 = .ok (.iconst 0, 1) := by decide +kernel
theorem dX5_composes_70 : decode cX5_composes 70 = .ok (.istore 5, 2) := by decide +kernel
theorem dX5_composes_72 : decode cX5_composes 72 = .ok (.iinc 6 1, 3) := by decide +kernel
theorem dX5_composes_75 : decode cX5_composes 75 = .ok (.goto (-47), 3) := by decide +kernel
theorem dX5_composes_78 : decode cX5_composes 78 = .ok (.aload_n 0, 1) := by decide +kernel
theorem dX5_composes_79 : decode cX5_composes 79 = .ok (.getfield 20, 3) := by decide +kernel
theorem dX5_composes_82 : decode cX5_composes 82 = .ok (.bipush 80, 2) := by decide +kernel
theorem dX5_composes_84 : decode cX5_composes 84 = .ok (.iload_n 3, 1) := by decide +kernel
theorem dX5_composes_85 : decode cX5_composes 85 = .ok (.imul, 1) := by decide +kernel
theorem dX5_composes_86 : decode cX5_composes 86 = .ok (.iload 4, 2) := by decide +kernel
theorem dX5_composes_88 : decode cX5_composes 88 = .ok (.iadd, 1) := by decide +kernel
theorem dX5_composes_89 : decode cX5_composes 89 = .ok (.iload 5, 2) := by decide +kernel
theorem dX5_composes_91 : decode cX5_composes 91 = .ok (.bastore, 1) := by decide +kernel
theorem dX5_composes_92 : decode cX5_composes 92 = .ok (.iinc 4 1, 3) := by decide +kernel
theorem dX5_composes_95 : decode cX5_composes 95 = .ok (.goto (-82), 3) := by decide +kernel
theorem dX5_composes_98 : decode cX5_composes 98 = .ok (.iinc 3 1, 3) := by decide +kernel
theorem dX5_composes_101 : decode cX5_composes 101 = .ok (.goto (-99), 3) := by decide +kernel
theorem dX5_composes_104 : decode cX5_composes 104 = .ok (.return_, 1) := by decide +kernel
theorem dX5_compose_0 : decode cX5_compose 0 = .ok (.iload_n 1, 1) := by decide +kernel
theorem dX5_compose_1 : decode cX5_compose 1 = .ok (.invokestatic 55, 3) := by decide +kernel
theorem dX5_compose_4 : decode cX5_compose 4 = .ok (.ifCond .eq 17, 3) := by decide +kernel
theorem dX5_compose_7 : decode cX5_compose 7 = .ok (.iload_n 2, 1) := by decide +kernel
theorem dX5_compose_8 : decode cX5_compose 8 = .ok (.invokestatic 55, 3) := by decide +kernel
theorem dX5_compose_11 : decode cX5_compose 11 = .ok (.ifCond .eq 10, 3) := by decide +kernel
theorem dX5_compose_14 : decode cX5_compose 14 = .ok (.iload_n 3, 1) := by decide +kernel
theorem dX5_compose_15 : decode cX5_compose 15 = .ok (.invokestatic 55, 3) := by decide +kernel
theorem dX5_compose_18 : decode cX5_compose 18 = .ok (.ifCond .ne 9, 3) := by decide +kernel
theorem dX5_compose_21 : decode cX5_compose 21 = .ok (.aload_n 0, 1) := by decide +kernel
theorem dX5_compose_22 : decode cX5_compose 22 = .ok (.iconst 1, 1) := by decide +kernel
theorem dX5_compose_23 : decode cX5_compose 23 = .ok (.invokevirtual 77, 3) := by decide +kernel
theorem dX5_compose_26 : decode cX5_compose 26 = .ok (.ireturn, 1) := by decide +kernel
theorem dX5_compose_27 : decode cX5_compose 27 = .ok (.aload_n 0, 1) := by decide +kernel
theorem dX5_compose_28 : decode cX5_compose 28 = .ok (.iload_n 1, 1) := by decide +kernel
theorem dX5_compose_29 : decode cX5_compose 29 = .ok (.iload_n 2, 1) := by decide +kernel
theorem dX5_compose_30 : decode cX5_compose 30 = .ok (.invokevirtual 98, 3) := by decide +kernel
theorem dX5_compose_33 : decode cX5_compose 33 = .ok (.aload_n 0, 1) := by decide +kernel
theorem dX5_compose_34 : decode cX5_compose 34 = .ok (.aload_n 0, 1) := by decide +kernel
theorem dX5_compose_35 : decode cX5_compose 35 = .ok (.iload_n 3, 1) := by decide +kernel
theorem dX5_compose_36 : decode cX5_compose 36 = .ok (.invokevirtual 102, 3) := by decide +kernel
theorem dX5_compose_39 : decode cX5_compose 39 = .ok (.invokevirtual 80, 3) := by decide +kernel
theorem dX5_compose_42 : decode cX5_compose 42 = .ok (.ireturn, 1) := by decide +kernel
theorem dX5_turn_0 : decode cX5_turn 0 = .ok (.iload_n 1, 1) := by decide +kernel
theorem dX5_turn_1 : decode cX5_turn 1 = .ok (.invokestatic 55, 3) := by decide +kernel
theorem dX5_turn_4 : decode cX5_turn 4 = .ok (.ifCond .ne 9, 3) := by decide +kernel
theorem dX5_turn_7 : decode cX5_turn 7 = .ok (.aload_n 0, 1) := by decide +kernel
theorem dX5_turn_8 : decode cX5_turn 8 = .ok (.iconst 1, 1) := by decide +kernel
theorem dX5_turn_9 : decode cX5_turn 9 = .ok (.invokevirtual 77, 3) := by decide +kernel
theorem dX5_turn_12 : decode cX5_turn 12 = .ok (.ireturn, 1) := by decide +kernel
theorem dX5_turn_13 : decode cX5_turn 13 = .ok (.iconst 0, 1) := by decide +kernel
theorem dX5_turn_14 : decode cX5_turn 14 = .ok (.istore_n 2, 1) := by decide +kernel
theorem dX5_turn_15 : decode cX5_turn 15 = .ok (.iload_n 2, 1) := by decide +kernel
theorem dX5_turn_16 : decode cX5_turn 16 = .ok (.aload_n 0, 1) := by decide +kernel
theorem dX5_turn_17 : decode cX5_turn 17 = .ok (.getfield 16, 3) := by decide +kernel
theorem dX5_turn_20 : decode cX5_turn 20 = .ok (.if_icmp .ge 43, 3) := by decide +kernel
theorem dX5_turn_23 : decode cX5_turn 23 = .ok (.iconst 0, 1) := by decide +kernel
theorem dX5_turn_24 : decode cX5_turn 24 = .ok (.istore_n 3, 1) := by decide +kernel
theorem dX5_turn_25 : decode cX5_turn 25 = .ok (.iload_n 3, 1) := by decide +kernel
theorem dX5_turn_26 : decode cX5_turn 26 = .ok (.aload_n 0, 1) := by decide +kernel
theorem dX5_turn_27 : decode cX5_turn 27 = .ok (.getfield 16, 3) := by decide +kernel
theorem dX5_turn_30 : decode cX5_turn 30 = .ok (.if_icmp .ge 27, 3) := by decide +kernel
theorem dX5_turn_33 : decode cX5_turn 33 = .ok (.aload_n 0, 1) := by decide +kernel
theorem dX5_turn_34 : decode cX5_turn 34 = .ok (.getfield 20, 3) := by decide +kernel
theorem dX5_turn_37 : decode cX5_turn 37 = .ok (.bipush 80, 2) := by decide +kernel
theorem dX5_turn_39 : decode cX5_turn 39 = .ok (.iload_n 2, 1) := by decide +kernel
theorem dX5_turn_40 : decode cX5_turn 40 = .ok (.imul, 1) := by decide +kernel
theorem dX5_turn_41 : decode cX5_turn 41 = .ok (.iload_n 3, 1) := by decide +kernel
theorem dX5_turn_42 : decode cX5_turn 42 = .ok (.iadd, 1) := by decide +kernel
theorem dX5_turn_43 : decode cX5_turn 43 = .ok (.aload_n 0, 1) := by decide +kernel
theorem dX5_turn_44 : decode cX5_turn 44 = .ok (.iload_n 1, 1) := by decide +kernel
theorem dX5_turn_45 : decode cX5_turn 45 = .ok (.iload_n 3, 1) := by decide +kernel
theorem dX5_turn_46 : decode cX5_turn 46 = .ok (.iload_n 2, 1) := by decide +kernel
theorem dX5_turn_47 : decode cX5_turn 47 = .ok (.invokevirtual 66, 3) := by decide +kernel
theorem dX5_turn_50 : decode cX5_turn 50 = .ok (.bastore, 1) := by decide +kernel
theorem dX5_turn_51 : decode cX5_turn 51 = .ok (.iinc 3 1, 3) := by decide +kernel
theorem dX5_turn_54 : decode cX5_turn 54 = .ok (.goto (-29), 3) := by decide +kernel
theorem dX5_turn_57 : decode cX5_turn 57 = .ok (.iinc 2 1, 3) := by decide +kernel
theorem dX5_turn_60 : decode cX5_turn 60 = .ok (.goto (-45), 3) := by decide +kernel
theorem dX5_turn_63 : decode cX5_turn 63 = .ok (.aload_n 0, 1) := by decide +kernel
theorem dX5_turn_64 : decode cX5_turn 64 = .ok (.aload_n 0, 1) := by decide +kernel
theorem dX5_turn_65 : decode cX5_turn 65 = .ok (.iload_n 1, 1) := by decide +kernel
theorem dX5_turn_66 : decode cX5_turn 66 = .ok (.invokevirtual 102, 3) := by decide +kernel
theorem dX5_turn_69 : decode cX5_turn 69 = .ok (.invokevirtual 80, 3) := by decide +kernel
theorem dX5_turn_72 : decode cX5_turn 72 = .ok (.ireturn, 1) := by decide +kernel
theorem dX5_oppose_0 : decode cX5_oppose 0 = .ok (.iload_n 1, 1) := by decide +kernel
theorem dX5_oppose_1 : decode cX5_oppose 1 = .ok (.invokestatic 55, 3) := by decide +kernel
theorem dX5_oppose_4 : decode cX5_oppose 4 = .ok (.ifCond .ne 9, 3) := by decide +kernel
theorem dX5_oppose_7 : decode cX5_oppose 7 = .ok (.aload_n 0, 1) := by decide +kernel
theorem dX5_oppose_8 : decode cX5_oppose 8 = .ok (.iconst 1, 1) := by decide +kernel
theorem dX5_oppose_9 : decode cX5_oppose 9 = .ok (.invokevirtual 77, 3) := by decide +kernel
theorem dX5_oppose_12 : decode cX5_oppose 12 = .ok (.ireturn, 1) := by decide +kernel
theorem dX5_oppose_13 : decode cX5_oppose 13 = .ok (.iconst 0, 1) := by decide +kernel
theorem dX5_oppose_14 : decode cX5_oppose 14 = .ok (.istore_n 2, 1) := by decide +kernel
theorem dX5_oppose_15 : decode cX5_oppose 15 = .ok (.iload_n 2, 1) := by decide +kernel
theorem dX5_oppose_16 : decode cX5_oppose 16 = .ok (.aload_n 0, 1) := by decide +kernel
theorem dX5_oppose_17 : decode cX5_oppose 17 = .ok (.getfield 16, 3) := by decide +kernel
theorem dX5_oppose_20 : decode cX5_oppose 20 = .ok (.if_icmp .ge 51, 3) := by decide +kernel
theorem dX5_oppose_23 : decode cX5_oppose 23 = .ok (.iconst 0, 1) := by decide +kernel
theorem dX5_oppose_24 : decode cX5_oppose 24 = .ok (.istore_n 3, 1) := by decide +kernel
theorem dX5_oppose_25 : decode cX5_oppose 25 = .ok (.iload_n 3, 1) := by decide +kernel
theorem dX5_oppose_26 : decode cX5_oppose 26 = .ok (.aload_n 0, 1) := by decide +kernel
theorem dX5_oppose_27 : decode cX5_oppose 27 = .ok (.getfield 16, 3) := by decide +kernel
theorem dX5_oppose_30 : decode cX5_oppose 30 = .ok (.if_icmp .ge 35, 3) := by decide +kernel
theorem dX5_oppose_33 : decode cX5_oppose 33 = .ok (.aload_n 0, 1) := by decide +kernel
theorem dX5_oppose_34 : decode cX5_oppose 34 = .ok (.getfield 7, 3) := by decide +kernel
theorem dX5_oppose_37 : decode cX5_oppose 37 = .ok (.iload_n 1, 1) := by decide +kernel
theorem dX5_oppose_38 : decode cX5_oppose 38 = .ok (.iload_n 2, 1) := by decide +kernel
theorem dX5_oppose_39 : decode cX5_oppose 39 = .ok (.iload_n 3, 1) := by decide +kernel
theorem dX5_oppose_40 : decode cX5_oppose 40 = .ok (.invokestatic 62, 3) := by decide +kernel
theorem dX5_oppose_43 : decode cX5_oppose 43 = .ok (.aload_n 0, 1) := by decide +kernel
theorem dX5_oppose_44 : decode cX5_oppose 44 = .ok (.iload_n 1, 1) := by decide +kernel
theorem dX5_oppose_45 : decode cX5_oppose 45 = .ok (.iload_n 2, 1) := by decide +kernel
theorem dX5_oppose_46 : decode cX5_oppose 46 = .ok (.iload_n 3, 1) := by decide +kernel
theorem dX5_oppose_47 : decode cX5_oppose 47 = .ok (.invokevirtual 66, 3) := by decide +kernel
theorem dX5_oppose_50 : decode cX5_oppose 50 = .ok (.ifCond .ne 7, 3) := by decide +kernel
theorem dX5_oppose_53 : decode cX5_oppose 53 = .ok (.iconst 1, 1) := by decide +kernel
theorem dX5_oppose_54 : decode cX5_oppose 54 = .ok (.goto 4, 3) := by decide +kernel
theorem dX5_oppose_57 : decode cX5_oppose 57 = .ok (.iconst 0, 1) := by decide +kernel
theorem dX5_oppose_58 : decode cX5_oppose 58 = .ok (.bastore, 1) := by decide +kernel
theorem dX5_oppose_59 : decode cX5_oppose 59 = .ok (.iinc 3 1, 3) := by decide +kernel
theorem dX5_oppose_62 : decode cX5_oppose 62 = .ok (.goto (-37), 3) := by decide +kernel
theorem dX5_oppose_65 : decode cX5_oppose 65 = .ok (.iinc 2 1, 3) := by decide +kernel
theorem dX5_oppose_68 : decode cX5_oppose 68 = .ok (.goto (-53), 3) := by decide +kernel
theorem dX5_oppose_71 : decode cX5_oppose 71 = .ok (.aload_n 0, 1) := by decide +kernel
theorem dX5_oppose_72 : decode cX5_oppose 72 = .ok (.aload_n 0, 1) := by decide +kernel
theorem dX5_oppose_73 : decode cX5_oppose 73 = .ok (.iload_n 1, 1) := by decide +kernel
theorem dX5_oppose_74 : decode cX5_oppose 74 = .ok (.invokevirtual 73, 3) := by decide +kernel
theorem dX5_oppose_77 : decode cX5_oppose 77 = .ok (.invokevirtual 80, 3) := by decide +kernel
theorem dX5_oppose_80 : decode cX5_oppose 80 = .ok (.ireturn, 1) := by decide +kernel
theorem dX5_walks_0 : decode cX5_walks 0 = .ok (.iconst 0, 1) := by decide +kernel
theorem dX5_walks_1 : decode cX5_walks 1 = .ok (.istore_n 3, 1) := by decide +kernel
theorem dX5_walks_2 : decode cX5_walks 2 = .ok (.iload_n 3, 1) := by decide +kernel
theorem dX5_walks_3 : decode cX5_walks 3 = .ok (.aload_n 0, 1) := by decide +kernel
theorem dX5_walks_4 : decode cX5_walks 4 = .ok (.getfield 16, 3) := by decide +kernel
theorem dX5_walks_7 : decode cX5_walks 7 = .ok (.if_icmp .ge 16, 3) := by decide +kernel
theorem dX5_walks_10 : decode cX5_walks 10 = .ok (.aload_n 0, 1) := by decide +kernel
theorem dX5_walks_11 : decode cX5_walks 11 = .ok (.getfield 39, 3) := by decide +kernel
theorem dX5_walks_14 : decode cX5_walks 14 = .ok (.iload_n 3, 1) := by decide +kernel
theorem dX5_walks_15 : decode cX5_walks 15 = .ok (.iconst (-1), 1) := by decide +kernel
theorem dX5_walks_16 : decode cX5_walks 16 = .ok (.iastore, 1) := by decide +kernel
theorem dX5_walks_17 : decode cX5_walks 17 = .ok (.iinc 3 1, 3) := by decide +kernel
theorem dX5_walks_20 : decode cX5_walks 20 = .ok (.goto (-18), 3) := by decide +kernel
theorem dX5_walks_23 : decode cX5_walks 23 = .ok (.iconst 0, 1) := by decide +kernel
theorem dX5_walks_24 : decode cX5_walks 24 = .ok (.istore_n 3, 1) := by decide +kernel
theorem dX5_walks_25 : decode cX5_walks 25 = .ok (.iconst 0, 1) := by decide +kernel
theorem dX5_walks_26 : decode cX5_walks 26 = .ok (.istore 4, 2) := by decide +kernel
theorem dX5_walks_28 : decode cX5_walks 28 = .ok (.iconst 0, 1) := by decide +kernel
theorem dX5_walks_29 : decode cX5_walks 29 = .ok (.istore 5, 2) := by decide +kernel
theorem dX5_walks_31 : decode cX5_walks 31 = .ok (.iload 5, 2) := by decide +kernel
theorem dX5_walks_33 : decode cX5_walks 33 = .ok (.aload_n 0, 1) := by decide +kernel
theorem dX5_walks_34 : decode cX5_walks 34 = .ok (.getfield 16, 3) := by decide +kernel
theorem dX5_walks_37 : decode cX5_walks 37 = .ok (.if_icmp .ge 40, 3) := by decide +kernel
theorem dX5_walks_40 : decode cX5_walks 40 = .ok (.aload_n 0, 1) := by decide +kernel
theorem dX5_walks_41 : decode cX5_walks 41 = .ok (.iload_n 1, 1) := by decide +kernel
theorem dX5_walks_42 : decode cX5_walks 42 = .ok (.iload_n 2, 1) := by decide +kernel
theorem dX5_walks_43 : decode cX5_walks 43 = .ok (.iload 5, 2) := by decide +kernel
theorem dX5_walks_45 : decode cX5_walks 45 = .ok (.invokevirtual 66, 3) := by decide +kernel
theorem dX5_walks_48 : decode cX5_walks 48 = .ok (.ifCond .eq 23, 3) := by decide +kernel
theorem dX5_walks_51 : decode cX5_walks 51 = .ok (.aload_n 0, 1) := by decide +kernel
theorem dX5_walks_52 : decode cX5_walks 52 = .ok (.getfield 39, 3) := by decide +kernel
theorem dX5_walks_55 : decode cX5_walks 55 = .ok (.iload 5, 2) := by decide +kernel
theorem dX5_walks_57 : decode cX5_walks 57 = .ok (.iconst 1, 1) := by decide +kernel
theorem dX5_walks_58 : decode cX5_walks 58 = .ok (.iastore, 1) := by decide +kernel
theorem dX5_walks_59 : decode cX5_walks 59 = .ok (.aload_n 0, 1) := by decide +kernel
theorem dX5_walks_60 : decode cX5_walks 60 = .ok (.getfield 35, 3) := by decide +kernel
theorem dX5_walks_63 : decode cX5_walks 63 = .ok (.iload 4, 2) := by decide +kernel
theorem dX5_walks_65 : decode cX5_walks 65 = .ok (.iload 5, 2) := by decide +kernel
theorem dX5_walks_67 : decode cX5_walks 67 = .ok (.iastore, 1) := by decide +kernel
theorem dX5_walks_68 : decode cX5_walks 68 = .ok (.iinc 4 1, 3) := by decide +kernel
theorem dX5_walks_71 : decode cX5_walks 71 = .ok (.iinc 5 1, 3) := by decide +kernel
theorem dX5_walks_74 : decode cX5_walks 74 = .ok (.goto (-43), 3) := by decide +kernel
theorem dX5_walks_77 : decode cX5_walks 77 = .ok (.iload_n 3, 1) := by decide +kernel
theorem dX5_walks_78 : decode cX5_walks 78 = .ok (.iload 4, 2) := by decide +kernel
theorem dX5_walks_80 : decode cX5_walks 80 = .ok (.if_icmp .ge 86, 3) := by decide +kernel
theorem dX5_walks_83 : decode cX5_walks 83 = .ok (.aload_n 0, 1) := by decide +kernel
theorem dX5_walks_84 : decode cX5_walks 84 = .ok (.getfield 35, 3) := by decide +kernel
theorem dX5_walks_87 : decode cX5_walks 87 = .ok (.iload_n 3, 1) := by decide +kernel
theorem dX5_walks_88 : decode cX5_walks 88 = .ok (.iaload, 1) := by decide +kernel
theorem dX5_walks_89 : decode cX5_walks 89 = .ok (.istore 5, 2) := by decide +kernel
theorem dX5_walks_91 : decode cX5_walks 91 = .ok (.iinc 3 1, 3) := by decide +kernel
theorem dX5_walks_94 : decode cX5_walks 94 = .ok (.iconst 0, 1) := by decide +kernel
theorem dX5_walks_95 : decode cX5_walks 95 = .ok (.istore 6, 2) := by decide +kernel
theorem dX5_walks_97 : decode cX5_walks 97 = .ok (.iload 6, 2) := by decide +kernel
theorem dX5_walks_99 : decode cX5_walks 99 = .ok (.aload_n 0, 1) := by decide +kernel
theorem dX5_walks_100 : decode cX5_walks 100 = .ok (.getfield 16, 3) := by decide +kernel
theorem dX5_walks_103 : decode cX5_walks 103 = .ok (.if_icmp .ge 60, 3) := by decide +kernel
theorem dX5_walks_106 : decode cX5_walks 106 = .ok (.aload_n 0, 1) := by decide +kernel
theorem dX5_walks_107 : decode cX5_walks 107 = .ok (.getfield 39, 3) := by decide +kernel
theorem dX5_walks_110 : decode cX5_walks 110 = .ok (.iload 6, 2) := by decide +kernel
theorem dX5_walks_112 : decode cX5_walks 112 = .ok (.iaload, 1) := by decide +kernel
theorem dX5_walks_113 : decode cX5_walks 113 = .ok (.iconst (-1), 1) := by decide +kernel
theorem dX5_walks_114 : decode cX5_walks 114 = .ok (.if_icmp .ne 43, 3) := by decide +kernel
theorem dX5_walks_117 : decode cX5_walks 117 = .ok (.aload_n 0, 1) := by decide +kernel
theorem dX5_walks_118 : decode cX5_walks 118 = .ok (.iload_n 1, 1) := by decide +kernel
theorem dX5_walks_119 : decode cX5_walks 119 = .ok (.iload 5, 2) := by decide +kernel
theorem dX5_walks_121 : decode cX5_walks 121 = .ok (.iload 6, 2) := by decide +kernel
theorem dX5_walks_123 : decode cX5_walks 123 = .ok (.invokevirtual 66, 3) := by decide +kernel
theorem dX5_walks_126 : decode cX5_walks 126 = .ok (.ifCond .eq 31, 3) := by decide +kernel
theorem dX5_walks_129 : decode cX5_walks 129 = .ok (.aload_n 0, 1) := by decide +kernel
theorem dX5_walks_130 : decode cX5_walks 130 = .ok (.getfield 39, 3) := by decide +kernel
theorem dX5_walks_133 : decode cX5_walks 133 = .ok (.iload 6, 2) := by decide +kernel
theorem dX5_walks_135 : decode cX5_walks 135 = .ok (.aload_n 0, 1) := by decide +kernel
theorem dX5_walks_136 : decode cX5_walks 136 = .ok (.getfield 39, 3) := by decide +kernel
theorem dX5_walks_139 : decode cX5_walks 139 = .ok (.iload 5, 2) := by decide +kernel
theorem dX5_walks_141 : decode cX5_walks 141 = .ok (.iaload, 1) := by decide +kernel
theorem dX5_walks_142 : decode cX5_walks 142 = .ok (.iconst 1, 1) := by decide +kernel
theorem dX5_walks_143 : decode cX5_walks 143 = .ok (.iadd, 1) := by decide +kernel
theorem dX5_walks_144 : decode cX5_walks 144 = .ok (.iastore, 1) := by decide +kernel
theorem dX5_walks_145 : decode cX5_walks 145 = .ok (.aload_n 0, 1) := by decide +kernel
theorem dX5_walks_146 : decode cX5_walks 146 = .ok (.getfield 35, 3) := by decide +kernel
theorem dX5_walks_149 : decode cX5_walks 149 = .ok (.iload 4, 2) := by decide +kernel
theorem dX5_walks_151 : decode cX5_walks 151 = .ok (.iload 6, 2) := by decide +kernel
theorem dX5_walks_153 : decode cX5_walks 153 = .ok (.iastore, 1) := by decide +kernel
theorem dX5_walks_154 : decode cX5_walks 154 = .ok (.iinc 4 1, 3) := by decide +kernel
theorem dX5_walks_157 : decode cX5_walks 157 = .ok (.iinc 6 1, 3) := by decide +kernel
theorem dX5_walks_160 : decode cX5_walks 160 = .ok (.goto (-63), 3) := by decide +kernel
theorem dX5_walks_163 : decode cX5_walks 163 = .ok (.goto (-86), 3) := by decide +kernel
theorem dX5_walks_166 : decode cX5_walks 166 = .ok (.return_, 1) := by decide +kernel
theorem dX5_closes_0 : decode cX5_closes 0 = .ok (.iconst 0, 1) := by decide +kernel
theorem dX5_closes_1 : decode cX5_closes 1 = .ok (.istore_n 2, 1) := by decide +kernel
theorem dX5_closes_2 : decode cX5_closes 2 = .ok (.iload_n 2, 1) := by decide +kernel
theorem dX5_closes_3 : decode cX5_closes 3 = .ok (.aload_n 0, 1) := by decide +kernel
theorem dX5_closes_4 : decode cX5_closes 4 = .ok (.getfield 16, 3) := by decide +kernel
theorem dX5_closes_7 : decode cX5_closes 7 = .ok (.if_icmp .ge 57, 3) := by decide +kernel
theorem dX5_closes_10 : decode cX5_closes 10 = .ok (.aload_n 0, 1) := by decide +kernel
theorem dX5_closes_11 : decode cX5_closes 11 = .ok (.iload_n 1, 1) := by decide +kernel
theorem dX5_closes_12 : decode cX5_closes 12 = .ok (.iload_n 2, 1) := by decide +kernel
theorem dX5_closes_13 : decode cX5_closes 13 = .ok (.invokevirtual 105, 3) := by decide +kernel
theorem dX5_closes_16 : decode cX5_closes 16 = .ok (.iconst 0, 1) := by decide +kernel
theorem dX5_closes_17 : decode cX5_closes 17 = .ok (.istore_n 3, 1) := by decide +kernel
theorem dX5_closes_18 : decode cX5_closes 18 = .ok (.iload_n 3, 1) := by decide +kernel
theorem dX5_closes_19 : decode cX5_closes 19 = .ok (.aload_n 0, 1) := by decide +kernel
theorem dX5_closes_20 : decode cX5_closes 20 = .ok (.getfield 16, 3) := by decide +kernel
theorem dX5_closes_23 : decode cX5_closes 23 = .ok (.if_icmp .ge 35, 3) := by decide +kernel
theorem dX5_closes_26 : decode cX5_closes 26 = .ok (.aload_n 0, 1) := by decide +kernel
theorem dX5_closes_27 : decode cX5_closes 27 = .ok (.getfield 20, 3) := by decide +kernel
theorem dX5_closes_30 : decode cX5_closes 30 = .ok (.bipush 80, 2) := by decide +kernel
theorem dX5_closes_32 : decode cX5_closes 32 = .ok (.iload_n 2, 1) := by decide +kernel
theorem dX5_closes_33 : decode cX5_closes 33 = .ok (.imul, 1) := by decide +kernel
theorem dX5_closes_34 : decode cX5_closes 34 = .ok (.iload_n 3, 1) := by decide +kernel
theorem dX5_closes_35 : decode cX5_closes 35 = .ok (.iadd, 1) := by decide +kernel
theorem dX5_closes_36 : decode cX5_closes 36 = .ok (.aload_n 0, 1) := by decide +kernel
theorem dX5_closes_37 : decode cX5_closes 37 = .ok (.getfield 39, 3) := by decide +kernel
theorem dX5_closes_40 : decode cX5_closes 40 = .ok (.iload_n 3, 1) := by decide +kernel
theorem dX5_closes_41 : decode cX5_closes 41 = .ok (.iaload, 1) := by decide +kernel
theorem dX5_closes_42 : decode cX5_closes 42 = .ok (.iconst (-1), 1) := by decide +kernel
theorem dX5_closes_43 : decode cX5_closes 43 = .ok (.if_icmp .eq 7, 3) := by decide +kernel
theorem dX5_closes_46 : decode cX5_closes 46 = .ok (.iconst 1, 1) := by decide +kernel
theorem dX5_closes_47 : decode cX5_closes 47 = .ok (.goto 4, 3) := by decide +kernel
theorem dX5_closes_50 : decode cX5_closes 50 = .ok (.iconst 0, 1) := by decide +kernel
theorem dX5_closes_51 : decode cX5_closes 51 = .ok (.bastore, 1) := by decide +kernel
theorem dX5_closes_52 : decode cX5_closes 52 = .ok (.iinc 3 1, 3) := by decide +kernel
theorem dX5_closes_55 : decode cX5_closes 55 = .ok (.goto (-37), 3) := by decide +kernel
theorem dX5_closes_58 : decode cX5_closes 58 = .ok (.iinc 2 1, 3) := by decide +kernel
theorem dX5_closes_61 : decode cX5_closes 61 = .ok (.goto (-59), 3) := by decide +kernel
theorem dX5_closes_64 : decode cX5_closes 64 = .ok (.return_, 1) := by decide +kernel
theorem dX5_close_0 : decode cX5_close 0 = .ok (.iload_n 1, 1) := by decide +kernel
theorem dX5_close_1 : decode cX5_close 1 = .ok (.invokestatic 55, 3) := by decide +kernel
theorem dX5_close_4 : decode cX5_close 4 = .ok (.ifCond .ne 9, 3) := by decide +kernel
theorem dX5_close_7 : decode cX5_close 7 = .ok (.aload_n 0, 1) := by decide +kernel
theorem dX5_close_8 : decode cX5_close 8 = .ok (.iconst 1, 1) := by decide +kernel
theorem dX5_close_9 : decode cX5_close 9 = .ok (.invokevirtual 77, 3) := by decide +kernel
theorem dX5_close_12 : decode cX5_close 12 = .ok (.ireturn, 1) := by decide +kernel
theorem dX5_close_13 : decode cX5_close 13 = .ok (.aload_n 0, 1) := by decide +kernel
theorem dX5_close_14 : decode cX5_close 14 = .ok (.iload_n 1, 1) := by decide +kernel
theorem dX5_close_15 : decode cX5_close 15 = .ok (.invokevirtual 108, 3) := by decide +kernel
theorem dX5_close_18 : decode cX5_close 18 = .ok (.iconst 0, 1) := by decide +kernel
theorem dX5_close_19 : decode cX5_close 19 = .ok (.istore_n 3, 1) := by decide +kernel
theorem dX5_close_20 : decode cX5_close 20 = .ok (.iload_n 3, 1) := by decide +kernel
theorem dX5_close_21 : decode cX5_close 21 = .ok (.aload_n 0, 1) := by decide +kernel
theorem dX5_close_22 : decode cX5_close 22 = .ok (.getfield 16, 3) := by decide +kernel
theorem dX5_close_25 : decode cX5_close 25 = .ok (.if_icmp .ge 43, 3) := by decide +kernel
theorem dX5_close_28 : decode cX5_close 28 = .ok (.aload_n 0, 1) := by decide +kernel
theorem dX5_close_29 : decode cX5_close 29 = .ok (.getfield 20, 3) := by decide +kernel
theorem dX5_close_32 : decode cX5_close 32 = .ok (.bipush 80, 2) := by decide +kernel
theorem dX5_close_34 : decode cX5_close 34 = .ok (.iload_n 3, 1) := by decide +kernel
theorem dX5_close_35 : decode cX5_close 35 = .ok (.imul, 1) := by decide +kernel
theorem dX5_close_36 : decode cX5_close 36 = .ok (.iload_n 3, 1) := by decide +kernel
theorem dX5_close_37 : decode cX5_close 37 = .ok (.iadd, 1) := by decide +kernel
theorem dX5_close_38 : decode cX5_close 38 = .ok (.aload_n 0, 1) := by decide +kernel
theorem dX5_close_39 : decode cX5_close 39 = .ok (.getfield 20, 3) := by decide +kernel
theorem dX5_close_42 : decode cX5_close 42 = .ok (.bipush 80, 2) := by decide +kernel
theorem dX5_close_44 : decode cX5_close 44 = .ok (.iload_n 3, 1) := by decide +kernel
theorem dX5_close_45 : decode cX5_close 45 = .ok (.imul, 1) := by decide +kernel
theorem dX5_close_46 : decode cX5_close 46 = .ok (.iload_n 3, 1) := by decide +kernel
theorem dX5_close_47 : decode cX5_close 47 = .ok (.iadd, 1) := by decide +kernel
theorem dX5_close_48 : decode cX5_close 48 = .ok (.baload, 1) := by decide +kernel
theorem dX5_close_49 : decode cX5_close 49 = .ok (.ifCond .ne 7, 3) := by decide +kernel
theorem dX5_close_52 : decode cX5_close 52 = .ok (.iload_n 2, 1) := by decide +kernel
theorem dX5_close_53 : decode cX5_close 53 = .ok (.ifCond .eq 7, 3) := by decide +kernel
theorem dX5_close_56 : decode cX5_close 56 = .ok (.iconst 1, 1) := by decide +kernel
theorem dX5_close_57 : decode cX5_close 57 = .ok (.goto 4, 3) := by decide +kernel
theorem dX5_close_60 : decode cX5_close 60 = .ok (.iconst 0, 1) := by decide +kernel
theorem dX5_close_61 : decode cX5_close 61 = .ok (.bastore, 1) := by decide +kernel
theorem dX5_close_62 : decode cX5_close 62 = .ok (.iinc 3 1, 3) := by decide +kernel
theorem dX5_close_65 : decode cX5_close 65 = .ok (.goto (-45), 3) := by decide +kernel
theorem dX5_close_68 : decode cX5_close 68 = .ok (.aload_n 0, 1) := by decide +kernel
theorem dX5_close_69 : decode cX5_close 69 = .ok (.aload_n 0, 1) := by decide +kernel
theorem dX5_close_70 : decode cX5_close 70 = .ok (.iload_n 1, 1) := by decide +kernel
theorem dX5_close_71 : decode cX5_close 71 = .ok (.invokevirtual 102, 3) := by decide +kernel
theorem dX5_close_74 : decode cX5_close 74 = .ok (.invokevirtual 80, 3) := by decide +kernel
theorem dX5_close_77 : decode cX5_close 77 = .ok (.ireturn, 1) := by decide +kernel
theorem dX5_isRinged_0 : decode cX5_isRinged 0 = .ok (.iconst 0, 1) := by decide +kernel
theorem dX5_isRinged_1 : decode cX5_isRinged 1 = .ok (.istore_n 2, 1) := by decide +kernel
theorem dX5_isRinged_2 : decode cX5_isRinged 2 = .ok (.iconst 0, 1) := by decide +kernel
theorem dX5_isRinged_3 : decode cX5_isRinged 3 = .ok (.istore_n 3, 1) := by decide +kernel
theorem dX5_isRinged_4 : decode cX5_isRinged 4 = .ok (.iload_n 3, 1) := by decide +kernel
theorem dX5_isRinged_5 : decode cX5_isRinged 5 = .ok (.aload_n 0, 1) := by decide +kernel
theorem dX5_isRinged_6 : decode cX5_isRinged 6 = .ok (.getfield 16, 3) := by decide +kernel
theorem dX5_isRinged_9 : decode cX5_isRinged 9 = .ok (.if_icmp .ge 35, 3) := by decide +kernel
theorem dX5_isRinged_12 : decode cX5_isRinged 12 = .ok (.iload_n 2, 1) := by decide +kernel
theorem dX5_isRinged_13 : decode cX5_isRinged 13 = .ok (.ifCond .ne 31, 3) := by decide +kernel
theorem dX5_isRinged_16 : decode cX5_isRinged 16 = .ok (.aload_n 0, 1) := by decide +kernel
theorem dX5_isRinged_17 : decode cX5_isRinged 17 = .ok (.iload_n 1, 1) := by decide +kernel
theorem dX5_isRinged_18 : decode cX5_isRinged 18 = .ok (.iload_n 3, 1) := by decide +kernel
theorem dX5_isRinged_19 : decode cX5_isRinged 19 = .ok (.invokevirtual 105, 3) := by decide +kernel
theorem dX5_isRinged_22 : decode cX5_isRinged 22 = .ok (.aload_n 0, 1) := by decide +kernel
theorem dX5_isRinged_23 : decode cX5_isRinged 23 = .ok (.getfield 39, 3) := by decide +kernel
theorem dX5_isRinged_26 : decode cX5_isRinged 26 = .ok (.iload_n 3, 1) := by decide +kernel
theorem dX5_isRinged_27 : decode cX5_isRinged 27 = .ok (.iaload, 1) := by decide +kernel
theorem dX5_isRinged_28 : decode cX5_isRinged 28 = .ok (.iconst (-1), 1) := by decide +kernel
theorem dX5_isRinged_29 : decode cX5_isRinged 29 = .ok (.if_icmp .eq 7, 3) := by decide +kernel
theorem dX5_isRinged_32 : decode cX5_isRinged 32 = .ok (.iconst 1, 1) := by decide +kernel
theorem dX5_isRinged_33 : decode cX5_isRinged 33 = .ok (.goto 4, 3) := by decide +kernel
theorem dX5_isRinged_36 : decode cX5_isRinged 36 = .ok (.iconst 0, 1) := by decide +kernel
theorem dX5_isRinged_37 : decode cX5_isRinged 37 = .ok (.istore_n 2, 1) := by decide +kernel
theorem dX5_isRinged_38 : decode cX5_isRinged 38 = .ok (.iinc 3 1, 3) := by decide +kernel
theorem dX5_isRinged_41 : decode cX5_isRinged 41 = .ok (.goto (-37), 3) := by decide +kernel
theorem dX5_isRinged_44 : decode cX5_isRinged 44 = .ok (.iload_n 2, 1) := by decide +kernel
theorem dX5_isRinged_45 : decode cX5_isRinged 45 = .ok (.ireturn, 1) := by decide +kernel
theorem dX5_covers_0 : decode cX5_covers 0 = .ok (.iconst 0, 1) := by decide +kernel
theorem dX5_covers_1 : decode cX5_covers 1 = .ok (.istore_n 1, 1) := by decide +kernel
theorem dX5_covers_2 : decode cX5_covers 2 = .ok (.iload_n 1, 1) := by decide +kernel
theorem dX5_covers_3 : decode cX5_covers 3 = .ok (.aload_n 0, 1) := by decide +kernel
theorem dX5_covers_4 : decode cX5_covers 4 = .ok (.getfield 16, 3) := by decide +kernel
theorem dX5_covers_7 : decode cX5_covers 7 = .ok (.if_icmp .ge 107, 3) := by decide +kernel
theorem dX5_covers_10 : decode cX5_covers 10 = .ok (.iconst 0, 1) := by decide +kernel
theorem dX5_covers_11 : decode cX5_covers 11 = .ok (.istore_n 2, 1) := by decide +kernel
theorem dX5_covers_12 : decode cX5_covers 12 = .ok (.iload_n 2, 1) := by decide +kernel
theorem dX5_covers_13 : decode cX5_covers 13 = .ok (.aload_n 0, 1) := by decide +kernel
theorem dX5_covers_14 : decode cX5_covers 14 = .ok (.getfield 16, 3) := by decide +kernel
theorem dX5_covers_17 : decode cX5_covers 17 = .ok (.if_icmp .ge 91, 3) := by decide +kernel
theorem dX5_covers_20 : decode cX5_covers 20 = .ok (.aload_n 0, 1) := by decide +kernel
theorem dX5_covers_21 : decode cX5_covers 21 = .ok (.getfield 20, 3) := by decide +kernel
theorem dX5_covers_24 : decode cX5_covers 24 = .ok (.bipush 80, 2) := by decide +kernel
theorem dX5_covers_26 : decode cX5_covers 26 = .ok (.iload_n 1, 1) := by decide +kernel
theorem dX5_covers_27 : decode cX5_covers 27 = .ok (.imul, 1) := by decide +kernel
theorem dX5_covers_28 : decode cX5_covers 28 = .ok (.iload_n 2, 1) := by decide +kernel
theorem dX5_covers_29 : decode cX5_covers 29 = .ok (.iadd, 1) := by decide +kernel
theorem dX5_covers_30 : decode cX5_covers 30 = .ok (.baload, 1) := by decide +kernel
theorem dX5_covers_31 : decode cX5_covers 31 = .ok (.istore_n 3, 1) := by decide +kernel
theorem dX5_covers_32 : decode cX5_covers 32 = .ok (.iconst 0, 1) := by decide +kernel
theorem dX5_covers_33 : decode cX5_covers 33 = .ok (.istore 4, 2) := by decide +kernel
theorem dX5_covers_35 : decode cX5_covers 35 = .ok (.iload 4, 2) := by decide +kernel
theorem dX5_covers_37 : decode cX5_covers 37 = .ok (.aload_n 0, 1) := by decide +kernel
theorem dX5_covers_38 : decode cX5_covers 38 = .ok (.getfield 16, 3) := by decide +kernel
theorem dX5_covers_41 : decode cX5_covers 41 = .ok (.if_icmp .ge 49, 3) := by decide +kernel
theorem dX5_covers_44 : decode cX5_covers 44 = .ok (.iload_n 3, 1) := by decide +kernel
theorem dX5_covers_45 : decode cX5_covers 45 = .ok (.ifCond .eq 45, 3) := by decide +kernel
theorem dX5_covers_48 : decode cX5_covers 48 = .ok (.aload_n 0, 1) := by decide +kernel
theorem dX5_covers_49 : decode cX5_covers 49 = .ok (.getfield 20, 3) := by decide +kernel
theorem dX5_covers_52 : decode cX5_covers 52 = .ok (.bipush 80, 2) := by decide +kernel
theorem dX5_covers_54 : decode cX5_covers 54 = .ok (.iload_n 1, 1) := by decide +kernel
theorem dX5_covers_55 : decode cX5_covers 55 = .ok (.imul, 1) := by decide +kernel
theorem dX5_covers_56 : decode cX5_covers 56 = .ok (.iload 4, 2) := by decide +kernel
theorem dX5_covers_58 : decode cX5_covers 58 = .ok (.iadd, 1) := by decide +kernel
theorem dX5_covers_59 : decode cX5_covers 59 = .ok (.baload, 1) := by decide +kernel
theorem dX5_covers_60 : decode cX5_covers 60 = .ok (.ifCond .eq 18, 3) := by decide +kernel
theorem dX5_covers_63 : decode cX5_covers 63 = .ok (.aload_n 0, 1) := by decide +kernel
theorem dX5_covers_64 : decode cX5_covers 64 = .ok (.getfield 20, 3) := by decide +kernel
theorem dX5_covers_67 : decode cX5_covers 67 = .ok (.bipush 80, 2) := by decide +kernel
theorem dX5_covers_69 : decode cX5_covers 69 = .ok (.iload 4, 2) := by decide +kernel
theorem dX5_covers_71 : decode cX5_covers 71 = .ok (.imul, 1) := by decide +kernel
theorem dX5_covers_72 : decode cX5_covers 72 = .ok (.iload_n 2, 1) := by decide +kernel
theorem dX5_covers_73 : decode cX5_covers 73 = .ok (.iadd, 1) := by decide +kernel
theorem dX5_covers_74 : decode cX5_covers 74 = .ok (.baload, 1) := by decide +kernel
theorem dX5_covers_75 : decode cX5_covers 75 = .ok (.ifCond .ne 7, 3) := by decide +kernel
theorem dX5_covers_78 : decode cX5_covers 78 = .ok (.iconst 1, 1) := by decide +kernel
theorem dX5_covers_79 : decode cX5_covers 79 = .ok (.goto 4, 3) := by decide +kernel
theorem dX5_covers_82 : decode cX5_covers 82 = .ok (.iconst 0, 1) := by decide +kernel
theorem dX5_covers_83 : decode cX5_covers 83 = .ok (.istore_n 3, 1) := by decide +kernel
theorem dX5_covers_84 : decode cX5_covers 84 = .ok (.iinc 4 1, 3) := by decide +kernel
theorem dX5_covers_87 : decode cX5_covers 87 = .ok (.goto (-52), 3) := by decide +kernel
theorem dX5_covers_90 : decode cX5_covers 90 = .ok (.aload_n 0, 1) := by decide +kernel
theorem dX5_covers_91 : decode cX5_covers 91 = .ok (.getfield 23, 3) := by decide +kernel
theorem dX5_covers_94 : decode cX5_covers 94 = .ok (.bipush 80, 2) := by decide +kernel
theorem dX5_covers_96 : decode cX5_covers 96 = .ok (.iload_n 1, 1) := by decide +kernel
theorem dX5_covers_97 : decode cX5_covers 97 = .ok (.imul, 1) := by decide +kernel
theorem dX5_covers_98 : decode cX5_covers 98 = .ok (.iload_n 2, 1) := by decide +kernel
theorem dX5_covers_99 : decode cX5_covers 99 = .ok (.iadd, 1) := by decide +kernel
theorem dX5_covers_100 : decode cX5_covers 100 = .ok (.iload_n 3, 1) := by decide +kernel
theorem dX5_covers_101 : decode cX5_covers 101 = .ok (.bastore, 1) := by decide +kernel
theorem dX5_covers_102 : decode cX5_covers 102 = .ok (.iinc 2 1, 3) := by decide +kernel
theorem dX5_covers_105 : decode cX5_covers 105 = .ok (.goto (-93), 3) := by decide +kernel
theorem dX5_covers_108 : decode cX5_covers 108 = .ok (.iinc 1 1, 3) := by decide +kernel
theorem dX5_covers_111 : decode cX5_covers 111 = .ok (.goto (-109), 3) := by decide +kernel
theorem dX5_covers_114 : decode cX5_covers 114 = .ok (.return_, 1) := by decide +kernel
theorem dX5_cover_0 : decode cX5_cover 0 = .ok (.iload_n 1, 1) := by decide +kernel
theorem dX5_cover_1 : decode cX5_cover 1 = .ok (.invokestatic 55, 3) := by decide +kernel
theorem dX5_cover_4 : decode cX5_cover 4 = .ok (.ifCond .eq 10, 3) := by decide +kernel
theorem dX5_cover_7 : decode cX5_cover 7 = .ok (.iload_n 2, 1) := by decide +kernel
theorem dX5_cover_8 : decode cX5_cover 8 = .ok (.invokestatic 55, 3) := by decide +kernel
theorem dX5_cover_11 : decode cX5_cover 11 = .ok (.ifCond .ne 9, 3) := by decide +kernel
theorem dX5_cover_14 : decode cX5_cover 14 = .ok (.aload_n 0, 1) := by decide +kernel
theorem dX5_cover_15 : decode cX5_cover 15 = .ok (.iconst 1, 1) := by decide +kernel
theorem dX5_cover_16 : decode cX5_cover 16 = .ok (.invokevirtual 77, 3) := by decide +kernel
theorem dX5_cover_19 : decode cX5_cover 19 = .ok (.ireturn, 1) := by decide +kernel
theorem dX5_cover_20 : decode cX5_cover 20 = .ok (.aload_n 0, 1) := by decide +kernel
theorem dX5_cover_21 : decode cX5_cover 21 = .ok (.iload_n 1, 1) := by decide +kernel
theorem dX5_cover_22 : decode cX5_cover 22 = .ok (.invokevirtual 112, 3) := by decide +kernel
theorem dX5_cover_25 : decode cX5_cover 25 = .ok (.ifCond .eq 9, 3) := by decide +kernel
theorem dX5_cover_28 : decode cX5_cover 28 = .ok (.aload_n 0, 1) := by decide +kernel
theorem dX5_cover_29 : decode cX5_cover 29 = .ok (.iconst 2, 1) := by decide +kernel
theorem dX5_cover_30 : decode cX5_cover 30 = .ok (.invokevirtual 77, 3) := by decide +kernel
theorem dX5_cover_33 : decode cX5_cover 33 = .ok (.ireturn, 1) := by decide +kernel
theorem dX5_cover_34 : decode cX5_cover 34 = .ok (.aload_n 0, 1) := by decide +kernel
theorem dX5_cover_35 : decode cX5_cover 35 = .ok (.iload_n 1, 1) := by decide +kernel
theorem dX5_cover_36 : decode cX5_cover 36 = .ok (.invokevirtual 108, 3) := by decide +kernel
theorem dX5_cover_39 : decode cX5_cover 39 = .ok (.aload_n 0, 1) := by decide +kernel
theorem dX5_cover_40 : decode cX5_cover 40 = .ok (.invokevirtual 115, 3) := by decide +kernel
theorem dX5_cover_43 : decode cX5_cover 43 = .ok (.iconst 0, 1) := by decide +kernel
theorem dX5_cover_44 : decode cX5_cover 44 = .ok (.istore_n 3, 1) := by decide +kernel
theorem dX5_cover_45 : decode cX5_cover 45 = .ok (.iload_n 3, 1) := by decide +kernel
theorem dX5_cover_46 : decode cX5_cover 46 = .ok (.sipush 6400, 3) := by decide +kernel
theorem dX5_cover_49 : decode cX5_cover 49 = .ok (.if_icmp .ge 21, 3) := by decide +kernel
theorem dX5_cover_52 : decode cX5_cover 52 = .ok (.aload_n 0, 1) := by decide +kernel
theorem dX5_cover_53 : decode cX5_cover 53 = .ok (.getfield 20, 3) := by decide +kernel
theorem dX5_cover_56 : decode cX5_cover 56 = .ok (.iload_n 3, 1) := by decide +kernel
theorem dX5_cover_57 : decode cX5_cover 57 = .ok (.aload_n 0, 1) := by decide +kernel
theorem dX5_cover_58 : decode cX5_cover 58 = .ok (.getfield 23, 3) := by decide +kernel
theorem dX5_cover_61 : decode cX5_cover 61 = .ok (.iload_n 3, 1) := by decide +kernel
theorem dX5_cover_62 : decode cX5_cover 62 = .ok (.baload, 1) := by decide +kernel
theorem dX5_cover_63 : decode cX5_cover 63 = .ok (.bastore, 1) := by decide +kernel
theorem dX5_cover_64 : decode cX5_cover 64 = .ok (.iinc 3 1, 3) := by decide +kernel
theorem dX5_cover_67 : decode cX5_cover 67 = .ok (.goto (-22), 3) := by decide +kernel
theorem dX5_cover_70 : decode cX5_cover 70 = .ok (.aload_n 0, 1) := by decide +kernel
theorem dX5_cover_71 : decode cX5_cover 71 = .ok (.aload_n 0, 1) := by decide +kernel
theorem dX5_cover_72 : decode cX5_cover 72 = .ok (.iload_n 2, 1) := by decide +kernel
theorem dX5_cover_73 : decode cX5_cover 73 = .ok (.invokevirtual 102, 3) := by decide +kernel
theorem dX5_cover_76 : decode cX5_cover 76 = .ok (.invokevirtual 80, 3) := by decide +kernel
theorem dX5_cover_79 : decode cX5_cover 79 = .ok (.ireturn, 1) := by decide +kernel
theorem dX5_has_0 : decode cX5_has 0 = .ok (.aload_n 0, 1) := by decide +kernel
theorem dX5_has_1 : decode cX5_has 1 = .ok (.iload_n 1, 1) := by decide +kernel
theorem dX5_has_2 : decode cX5_has 2 = .ok (.iload_n 2, 1) := by decide +kernel
theorem dX5_has_3 : decode cX5_has 3 = .ok (.invokevirtual 83, 3) := by decide +kernel
theorem dX5_has_6 : decode cX5_has 6 = .ok (.ifCond .eq 25, 3) := by decide +kernel
theorem dX5_has_9 : decode cX5_has 9 = .ok (.aload_n 0, 1) := by decide +kernel
theorem dX5_has_10 : decode cX5_has 10 = .ok (.iload_n 3, 1) := by decide +kernel
theorem dX5_has_11 : decode cX5_has 11 = .ok (.invokevirtual 59, 3) := by decide +kernel
theorem dX5_has_14 : decode cX5_has 14 = .ok (.ifCond .eq 17, 3) := by decide +kernel
theorem dX5_has_17 : decode cX5_has 17 = .ok (.aload_n 0, 1) := by decide +kernel
theorem dX5_has_18 : decode cX5_has 18 = .ok (.aload_n 0, 1) := by decide +kernel
theorem dX5_has_19 : decode cX5_has 19 = .ok (.iload_n 1, 1) := by decide +kernel
theorem dX5_has_20 : decode cX5_has 20 = .ok (.iload_n 2, 1) := by decide +kernel
theorem dX5_has_21 : decode cX5_has 21 = .ok (.iload_n 3, 1) := by decide +kernel
theorem dX5_has_22 : decode cX5_has 22 = .ok (.invokevirtual 66, 3) := by decide +kernel
theorem dX5_has_25 : decode cX5_has 25 = .ok (.invokevirtual 90, 3) := by decide +kernel
theorem dX5_has_28 : decode cX5_has 28 = .ok (.goto 8, 3) := by decide +kernel
theorem dX5_has_31 : decode cX5_has 31 = .ok (.aload_n 0, 1) := by decide +kernel
theorem dX5_has_32 : decode cX5_has 32 = .ok (.iconst 1, 1) := by decide +kernel
theorem dX5_has_33 : decode cX5_has 33 = .ok (.invokevirtual 87, 3) := by decide +kernel
theorem dX5_has_36 : decode cX5_has 36 = .ok (.ireturn, 1) := by decide +kernel
theorem dX5_count_0 : decode cX5_count 0 = .ok (.iload_n 1, 1) := by decide +kernel
theorem dX5_count_1 : decode cX5_count 1 = .ok (.invokestatic 55, 3) := by decide +kernel
theorem dX5_count_4 : decode cX5_count 4 = .ok (.ifCond .eq 15, 3) := by decide +kernel
theorem dX5_count_7 : decode cX5_count 7 = .ok (.aload_n 0, 1) := by decide +kernel
theorem dX5_count_8 : decode cX5_count 8 = .ok (.aload_n 0, 1) := by decide +kernel
theorem dX5_count_9 : decode cX5_count 9 = .ok (.iload_n 1, 1) := by decide +kernel
theorem dX5_count_10 : decode cX5_count 10 = .ok (.invokevirtual 73, 3) := by decide +kernel
theorem dX5_count_13 : decode cX5_count 13 = .ok (.invokevirtual 80, 3) := by decide +kernel
theorem dX5_count_16 : decode cX5_count 16 = .ok (.goto 8, 3) := by decide +kernel
theorem dX5_count_19 : decode cX5_count 19 = .ok (.aload_n 0, 1) := by decide +kernel
theorem dX5_count_20 : decode cX5_count 20 = .ok (.iconst 1, 1) := by decide +kernel
theorem dX5_count_21 : decode cX5_count 21 = .ok (.invokevirtual 77, 3) := by decide +kernel
theorem dX5_count_24 : decode cX5_count 24 = .ok (.ireturn, 1) := by decide +kernel
theorem dX5_countOf_0 : decode cX5_countOf 0 = .ok (.aload_n 0, 1) := by decide +kernel
theorem dX5_countOf_1 : decode cX5_countOf 1 = .ok (.iload_n 1, 1) := by decide +kernel
theorem dX5_countOf_2 : decode cX5_countOf 2 = .ok (.iload_n 2, 1) := by decide +kernel
theorem dX5_countOf_3 : decode cX5_countOf 3 = .ok (.invokevirtual 83, 3) := by decide +kernel
theorem dX5_countOf_6 : decode cX5_countOf 6 = .ok (.ifCond .eq 16, 3) := by decide +kernel
theorem dX5_countOf_9 : decode cX5_countOf 9 = .ok (.aload_n 0, 1) := by decide +kernel
theorem dX5_countOf_10 : decode cX5_countOf 10 = .ok (.aload_n 0, 1) := by decide +kernel
theorem dX5_countOf_11 : decode cX5_countOf 11 = .ok (.iload_n 1, 1) := by decide +kernel
theorem dX5_countOf_12 : decode cX5_countOf 12 = .ok (.iload_n 2, 1) := by decide +kernel
theorem dX5_countOf_13 : decode cX5_countOf 13 = .ok (.invokevirtual 69, 3) := by decide +kernel
theorem dX5_countOf_16 : decode cX5_countOf 16 = .ok (.invokevirtual 80, 3) := by decide +kernel
theorem dX5_countOf_19 : decode cX5_countOf 19 = .ok (.goto 8, 3) := by decide +kernel
theorem dX5_countOf_22 : decode cX5_countOf 22 = .ok (.aload_n 0, 1) := by decide +kernel
theorem dX5_countOf_23 : decode cX5_countOf 23 = .ok (.iconst 1, 1) := by decide +kernel
theorem dX5_countOf_24 : decode cX5_countOf 24 = .ok (.invokevirtual 77, 3) := by decide +kernel
theorem dX5_countOf_27 : decode cX5_countOf 27 = .ok (.ireturn, 1) := by decide +kernel
theorem dX5_beside_0 : decode cX5_beside 0 = .ok (.aload_n 0, 1) := by decide +kernel
theorem dX5_beside_1 : decode cX5_beside 1 = .ok (.iload_n 1, 1) := by decide +kernel
theorem dX5_beside_2 : decode cX5_beside 2 = .ok (.iload_n 2, 1) := by decide +kernel
theorem dX5_beside_3 : decode cX5_beside 3 = .ok (.invokevirtual 83, 3) := by decide +kernel
theorem dX5_beside_6 : decode cX5_beside 6 = .ok (.ifCond .eq 11, 3) := by decide +kernel
theorem dX5_beside_9 : decode cX5_beside 9 = .ok (.aload_n 0, 1) := by decide +kernel
theorem dX5_beside_10 : decode cX5_beside 10 = .ok (.iload_n 3, 1) := by decide +kernel
theorem dX5_beside_11 : decode cX5_beside 11 = .ok (.invokevirtual 59, 3) := by decide +kernel
theorem dX5_beside_14 : decode cX5_beside 14 = .ok (.ifCond .ne 9, 3) := by decide +kernel
theorem dX5_beside_17 : decode cX5_beside 17 = .ok (.aload_n 0, 1) := by decide +kernel
theorem dX5_beside_18 : decode cX5_beside 18 = .ok (.iconst 1, 1) := by decide +kernel
theorem dX5_beside_19 : decode cX5_beside 19 = .ok (.invokevirtual 77, 3) := by decide +kernel
theorem dX5_beside_22 : decode cX5_beside 22 = .ok (.ireturn, 1) := by decide +kernel
theorem dX5_beside_23 : decode cX5_beside 23 = .ok (.iload 4, 2) := by decide +kernel
theorem dX5_beside_25 : decode cX5_beside 25 = .ok (.iconst 0, 1) := by decide +kernel
theorem dX5_beside_26 : decode cX5_beside 26 = .ok (.iconst 3, 1) := by decide +kernel
theorem dX5_beside_27 : decode cX5_beside 27 = .ok (.invokestatic 51, 3) := by decide +kernel
theorem dX5_beside_30 : decode cX5_beside 30 = .ok (.ifCond .ne 9, 3) := by decide +kernel
theorem dX5_beside_33 : decode cX5_beside 33 = .ok (.aload_n 0, 1) := by decide +kernel
theorem dX5_beside_34 : decode cX5_beside 34 = .ok (.iconst 2, 1) := by decide +kernel
theorem dX5_beside_35 : decode cX5_beside 35 = .ok (.invokevirtual 77, 3) := by decide +kernel
theorem dX5_beside_38 : decode cX5_beside 38 = .ok (.ireturn, 1) := by decide +kernel
theorem dX5_beside_39 : decode cX5_beside 39 = .ok (.iload 4, 2) := by decide +kernel
theorem dX5_beside_41 : decode cX5_beside 41 = .ok (.ifCond .eq 9, 3) := by decide +kernel
theorem dX5_beside_44 : decode cX5_beside 44 = .ok (.iload 4, 2) := by decide +kernel
theorem dX5_beside_46 : decode cX5_beside 46 = .ok (.iconst 2, 1) := by decide +kernel
theorem dX5_beside_47 : decode cX5_beside 47 = .ok (.if_icmp .ne 7, 3) := by decide +kernel
theorem dX5_beside_50 : decode cX5_beside 50 = .ok (.iconst 1, 1) := by decide +kernel
theorem dX5_beside_51 : decode cX5_beside 51 = .ok (.goto 4, 3) := by decide +kernel
theorem dX5_beside_54 : decode cX5_beside 54 = .ok (.iconst 0, 1) := by decide +kernel
theorem dX5_beside_55 : decode cX5_beside 55 = .ok (.istore 5, 2) := by decide +kernel
theorem dX5_beside_57 : decode cX5_beside 57 = .ok (.iload_n 3, 1) := by decide +kernel
theorem dX5_beside_58 : decode cX5_beside 58 = .ok (.istore 6, 2) := by decide +kernel
theorem dX5_beside_60 : decode cX5_beside 60 = .ok (.aload_n 0, 1) := by decide +kernel
theorem dX5_beside_61 : decode cX5_beside 61 = .ok (.iload 6, 2) := by decide +kernel
theorem dX5_beside_63 : decode cX5_beside 63 = .ok (.invokevirtual 59, 3) := by decide +kernel
theorem dX5_beside_66 : decode cX5_beside 66 = .ok (.ifCond .eq 35, 3) := by decide +kernel
theorem dX5_beside_69 : decode cX5_beside 69 = .ok (.aload_n 0, 1) := by decide +kernel
theorem dX5_beside_70 : decode cX5_beside 70 = .ok (.iload_n 1, 1) := by decide +kernel
theorem dX5_beside_71 : decode cX5_beside 71 = .ok (.iload_n 2, 1) := by decide +kernel
theorem dX5_beside_72 : decode cX5_beside 72 = .ok (.iload 6, 2) := by decide +kernel
theorem dX5_beside_74 : decode cX5_beside 74 = .ok (.invokevirtual 66, 3) := by decide +kernel
theorem dX5_beside_77 : decode cX5_beside 77 = .ok (.iload 5, 2) := by decide +kernel
theorem dX5_beside_79 : decode cX5_beside 79 = .ok (.if_icmp .eq 22, 3) := by decide +kernel
theorem dX5_beside_82 : decode cX5_beside 82 = .ok (.iload 6, 2) := by decide +kernel
theorem dX5_beside_84 : decode cX5_beside 84 = .ok (.iload 4, 2) := by decide +kernel
theorem dX5_beside_86 : decode cX5_beside 86 = .ok (.iconst 2, 1) := by decide +kernel
theorem dX5_beside_87 : decode cX5_beside 87 = .ok (.if_icmp .ge 7, 3) := by decide +kernel
theorem dX5_beside_90 : decode cX5_beside 90 = .ok (.iconst 1, 1) := by decide +kernel
theorem dX5_beside_91 : decode cX5_beside 91 = .ok (.goto 4, 3) := by decide +kernel
theorem dX5_beside_94 : decode cX5_beside 94 = .ok (.iconst (-1), 1) := by decide +kernel
theorem dX5_beside_95 : decode cX5_beside 95 = .ok (.iadd, 1) := by decide +kernel
theorem dX5_beside_96 : decode cX5_beside 96 = .ok (.istore 6, 2) := by decide +kernel
theorem dX5_beside_98 : decode cX5_beside 98 = .ok (.goto (-38), 3) := by decide +kernel
theorem dX5_beside_101 : decode cX5_beside 101 = .ok (.aload_n 0, 1) := by decide +kernel
theorem dX5_beside_102 : decode cX5_beside 102 = .ok (.aload_n 0, 1) := by decide +kernel
theorem dX5_beside_103 : decode cX5_beside 103 = .ok (.iload 6, 2) := by decide +kernel
theorem dX5_beside_105 : decode cX5_beside 105 = .ok (.invokevirtual 59, 3) := by decide +kernel
theorem dX5_beside_108 : decode cX5_beside 108 = .ok (.ifCond .eq 8, 3) := by decide +kernel
theorem dX5_beside_111 : decode cX5_beside 111 = .ok (.iload 6, 2) := by decide +kernel
theorem dX5_beside_113 : decode cX5_beside 113 = .ok (.goto 4, 3) := by decide +kernel
theorem dX5_beside_116 : decode cX5_beside 116 = .ok (.iconst (-1), 1) := by decide +kernel
theorem dX5_beside_117 : decode cX5_beside 117 = .ok (.invokevirtual 80, 3) := by decide +kernel
theorem dX5_beside_120 : decode cX5_beside 120 = .ok (.ireturn, 1) := by decide +kernel
theorem dX5_wordOf_0 : decode cX5_wordOf 0 = .ok (.aload_n 0, 1) := by decide +kernel
theorem dX5_wordOf_1 : decode cX5_wordOf 1 = .ok (.aload_n 0, 1) := by decide +kernel
theorem dX5_wordOf_2 : decode cX5_wordOf 2 = .ok (.iload_n 1, 1) := by decide +kernel
theorem dX5_wordOf_3 : decode cX5_wordOf 3 = .ok (.iload_n 2, 1) := by decide +kernel
theorem dX5_wordOf_4 : decode cX5_wordOf 4 = .ok (.invokevirtual 83, 3) := by decide +kernel
theorem dX5_wordOf_7 : decode cX5_wordOf 7 = .ok (.ifCond .ne 7, 3) := by decide +kernel
theorem dX5_wordOf_10 : decode cX5_wordOf 10 = .ok (.iconst 1, 1) := by decide +kernel
theorem dX5_wordOf_11 : decode cX5_wordOf 11 = .ok (.goto 17, 3) := by decide +kernel
theorem dX5_wordOf_14 : decode cX5_wordOf 14 = .ok (.iload_n 3, 1) := by decide +kernel
theorem dX5_wordOf_15 : decode cX5_wordOf 15 = .ok (.iconst 0, 1) := by decide +kernel
theorem dX5_wordOf_16 : decode cX5_wordOf 16 = .ok (.iconst 1, 1) := by decide +kernel
theorem dX5_wordOf_17 : decode cX5_wordOf 17 = .ok (.invokestatic 51, 3) := by decide +kernel
theorem dX5_wordOf_20 : decode cX5_wordOf 20 = .ok (.ifCond .ne 7, 3) := by decide +kernel
theorem dX5_wordOf_23 : decode cX5_wordOf 23 = .ok (.iconst 2, 1) := by decide +kernel
theorem dX5_wordOf_24 : decode cX5_wordOf 24 = .ok (.goto 4, 3) := by decide +kernel
theorem dX5_wordOf_27 : decode cX5_wordOf 27 = .ok (.iconst 0, 1) := by decide +kernel
theorem dX5_wordOf_28 : decode cX5_wordOf 28 = .ok (.putfield 48, 3) := by decide +kernel
theorem dX5_wordOf_31 : decode cX5_wordOf 31 = .ok (.lconst 0, 1) := by decide +kernel
theorem dX5_wordOf_32 : decode cX5_wordOf 32 = .ok (.lstore 4, 2) := by decide +kernel
theorem dX5_wordOf_34 : decode cX5_wordOf 34 = .ok (.iconst 0, 1) := by decide +kernel
theorem dX5_wordOf_35 : decode cX5_wordOf 35 = .ok (.istore 6, 2) := by decide +kernel
theorem dX5_wordOf_37 : decode cX5_wordOf 37 = .ok (.aload_n 0, 1) := by decide +kernel
theorem dX5_wordOf_38 : decode cX5_wordOf 38 = .ok (.getfield 48, 3) := by decide +kernel
theorem dX5_wordOf_41 : decode cX5_wordOf 41 = .ok (.ifCond .ne 54, 3) := by decide +kernel
theorem dX5_wordOf_44 : decode cX5_wordOf 44 = .ok (.iload 6, 2) := by decide +kernel
theorem dX5_wordOf_46 : decode cX5_wordOf 46 = .ok (.bipush 64, 2) := by decide +kernel
theorem dX5_wordOf_48 : decode cX5_wordOf 48 = .ok (.if_icmp .ge 47, 3) := by decide +kernel
theorem dX5_wordOf_51 : decode cX5_wordOf 51 = .ok (.bipush 64, 2) := by decide +kernel
theorem dX5_wordOf_53 : decode cX5_wordOf 53 = .ok (.iload_n 3, 1) := by decide +kernel
theorem dX5_wordOf_54 : decode cX5_wordOf 54 = .ok (.imul, 1) := by decide +kernel
theorem dX5_wordOf_55 : decode cX5_wordOf 55 = .ok (.iload 6, 2) := by decide +kernel
theorem dX5_wordOf_57 : decode cX5_wordOf 57 = .ok (.iadd, 1) := by decide +kernel
theorem dX5_wordOf_58 : decode cX5_wordOf 58 = .ok (.istore 7, 2) := by decide +kernel
theorem dX5_wordOf_60 : decode cX5_wordOf 60 = .ok (.aload_n 0, 1) := by decide +kernel
theorem dX5_wordOf_61 : decode cX5_wordOf 61 = .ok (.iload 7, 2) := by decide +kernel
theorem dX5_wordOf_63 : decode cX5_wordOf 63 = .ok (.invokevirtual 59, 3) := by decide +kernel
theorem dX5_wordOf_66 : decode cX5_wordOf 66 = .ok (.ifCond .eq 23, 3) := by decide +kernel
theorem dX5_wordOf_69 : decode cX5_wordOf 69 = .ok (.aload_n 0, 1) := by decide +kernel
theorem dX5_wordOf_70 : decode cX5_wordOf 70 = .ok (.iload_n 1, 1) := by decide +kernel
theorem dX5_wordOf_71 : decode cX5_wordOf 71 = .ok (.iload_n 2, 1) := by decide +kernel
theorem dX5_wordOf_72 : decode cX5_wordOf 72 = .ok (.iload 7, 2) := by decide +kernel
theorem dX5_wordOf_74 : decode cX5_wordOf 74 = .ok (.invokevirtual 66, 3) := by decide +kernel
theorem dX5_wordOf_77 : decode cX5_wordOf 77 = .ok (.ifCond .eq 12, 3) := by decide +kernel
theorem dX5_wordOf_80 : decode cX5_wordOf 80 = .ok (.lload 4, 2) := by decide +kernel
theorem dX5_wordOf_82 : decode cX5_wordOf 82 = .ok (.lconst 1, 1) := by decide +kernel
theorem dX5_wordOf_83 : decode cX5_wordOf 83 = .ok (.iload 6, 2) := by decide +kernel
theorem dX5_wordOf_85 : decode cX5_wordOf 85 = .ok (.lshl, 1) := by decide +kernel
theorem dX5_wordOf_86 : decode cX5_wordOf 86 = .ok (.lor, 1) := by decide +kernel
theorem dX5_wordOf_87 : decode cX5_wordOf 87 = .ok (.lstore 4, 2) := by decide +kernel
theorem dX5_wordOf_89 : decode cX5_wordOf 89 = .ok (.iinc 6 1, 3) := by decide +kernel
theorem dX5_wordOf_92 : decode cX5_wordOf 92 = .ok (.goto (-55), 3) := by decide +kernel
theorem dX5_wordOf_95 : decode cX5_wordOf 95 = .ok (.lload 4, 2) := by decide +kernel
theorem dX5_wordOf_97 : decode cX5_wordOf 97 = .ok (.lreturn, 1) := by decide +kernel
theorem dX5_meet_0 : decode cX5_meet 0 = .ok (.aload_n 0, 1) := by decide +kernel
theorem dX5_meet_1 : decode cX5_meet 1 = .ok (.iload_n 1, 1) := by decide +kernel
theorem dX5_meet_2 : decode cX5_meet 2 = .ok (.iload_n 2, 1) := by decide +kernel
theorem dX5_meet_3 : decode cX5_meet 3 = .ok (.invokevirtual 83, 3) := by decide +kernel
theorem dX5_meet_6 : decode cX5_meet 6 = .ok (.ifCond .eq 13, 3) := by decide +kernel
theorem dX5_meet_9 : decode cX5_meet 9 = .ok (.aload_n 0, 1) := by decide +kernel
theorem dX5_meet_10 : decode cX5_meet 10 = .ok (.iload_n 3, 1) := by decide +kernel
theorem dX5_meet_11 : decode cX5_meet 11 = .ok (.iload 4, 2) := by decide +kernel
theorem dX5_meet_13 : decode cX5_meet 13 = .ok (.invokevirtual 83, 3) := by decide +kernel
theorem dX5_meet_16 : decode cX5_meet 16 = .ok (.ifCond .ne 9, 3) := by decide +kernel
theorem dX5_meet_19 : decode cX5_meet 19 = .ok (.aload_n 0, 1) := by decide +kernel
theorem dX5_meet_20 : decode cX5_meet 20 = .ok (.iconst 1, 1) := by decide +kernel
theorem dX5_meet_21 : decode cX5_meet 21 = .ok (.invokevirtual 87, 3) := by decide +kernel
theorem dX5_meet_24 : decode cX5_meet 24 = .ok (.ireturn, 1) := by decide +kernel
theorem dX5_meet_25 : decode cX5_meet 25 = .ok (.iconst 0, 1) := by decide +kernel
theorem dX5_meet_26 : decode cX5_meet 26 = .ok (.istore 5, 2) := by decide +kernel
theorem dX5_meet_28 : decode cX5_meet 28 = .ok (.iconst 0, 1) := by decide +kernel
theorem dX5_meet_29 : decode cX5_meet 29 = .ok (.istore 6, 2) := by decide +kernel
theorem dX5_meet_31 : decode cX5_meet 31 = .ok (.iload 6, 2) := by decide +kernel
theorem dX5_meet_33 : decode cX5_meet 33 = .ok (.aload_n 0, 1) := by decide +kernel
theorem dX5_meet_34 : decode cX5_meet 34 = .ok (.getfield 16, 3) := by decide +kernel
theorem dX5_meet_37 : decode cX5_meet 37 = .ok (.if_icmp .ge 44, 3) := by decide +kernel
theorem dX5_meet_40 : decode cX5_meet 40 = .ok (.iload 5, 2) := by decide +kernel
theorem dX5_meet_42 : decode cX5_meet 42 = .ok (.ifCond .ne 26, 3) := by decide +kernel
theorem dX5_meet_45 : decode cX5_meet 45 = .ok (.aload_n 0, 1) := by decide +kernel
theorem dX5_meet_46 : decode cX5_meet 46 = .ok (.iload_n 1, 1) := by decide +kernel
theorem dX5_meet_47 : decode cX5_meet 47 = .ok (.iload_n 2, 1) := by decide +kernel
theorem dX5_meet_48 : decode cX5_meet 48 = .ok (.iload 6, 2) := by decide +kernel
theorem dX5_meet_50 : decode cX5_meet 50 = .ok (.invokevirtual 66, 3) := by decide +kernel
theorem dX5_meet_53 : decode cX5_meet 53 = .ok (.ifCond .eq 19, 3) := by decide +kernel
theorem dX5_meet_56 : decode cX5_meet 56 = .ok (.aload_n 0, 1) := by decide +kernel
theorem dX5_meet_57 : decode cX5_meet 57 = .ok (.iload_n 3, 1) := by decide +kernel
theorem dX5_meet_58 : decode cX5_meet 58 = .ok (.iload 4, 2) := by decide +kernel
theorem dX5_meet_60 : decode cX5_meet 60 = .ok (.iload 6, 2) := by decide +kernel
theorem dX5_meet_62 : decode cX5_meet 62 = .ok (.invokevirtual 66, 3) := by decide +kernel
theorem dX5_meet_65 : decode cX5_meet 65 = .ok (.ifCond .eq 7, 3) := by decide +kernel
theorem dX5_meet_68 : decode cX5_meet 68 = .ok (.iconst 1, 1) := by decide +kernel
theorem dX5_meet_69 : decode cX5_meet 69 = .ok (.goto 4, 3) := by decide +kernel
theorem dX5_meet_72 : decode cX5_meet 72 = .ok (.iconst 0, 1) := by decide +kernel
theorem dX5_meet_73 : decode cX5_meet 73 = .ok (.istore 5, 2) := by decide +kernel
theorem dX5_meet_75 : decode cX5_meet 75 = .ok (.iinc 6 1, 3) := by decide +kernel
theorem dX5_meet_78 : decode cX5_meet 78 = .ok (.goto (-47), 3) := by decide +kernel
theorem dX5_meet_81 : decode cX5_meet 81 = .ok (.aload_n 0, 1) := by decide +kernel
theorem dX5_meet_82 : decode cX5_meet 82 = .ok (.iload 5, 2) := by decide +kernel
theorem dX5_meet_84 : decode cX5_meet 84 = .ok (.invokevirtual 90, 3) := by decide +kernel
theorem dX5_meet_87 : decode cX5_meet 87 = .ok (.ireturn, 1) := by decide +kernel
theorem dX5_compare_0 : decode cX5_compare 0 = .ok (.iload_n 1, 1) := by decide +kernel
theorem dX5_compare_1 : decode cX5_compare 1 = .ok (.invokestatic 55, 3) := by decide +kernel
theorem dX5_compare_4 : decode cX5_compare 4 = .ok (.ifCond .eq 10, 3) := by decide +kernel
theorem dX5_compare_7 : decode cX5_compare 7 = .ok (.iload_n 2, 1) := by decide +kernel
theorem dX5_compare_8 : decode cX5_compare 8 = .ok (.invokestatic 55, 3) := by decide +kernel
theorem dX5_compare_11 : decode cX5_compare 11 = .ok (.ifCond .ne 9, 3) := by decide +kernel
theorem dX5_compare_14 : decode cX5_compare 14 = .ok (.aload_n 0, 1) := by decide +kernel
theorem dX5_compare_15 : decode cX5_compare 15 = .ok (.iconst 1, 1) := by decide +kernel
theorem dX5_compare_16 : decode cX5_compare 16 = .ok (.invokevirtual 77, 3) := by decide +kernel
theorem dX5_compare_19 : decode cX5_compare 19 = .ok (.ireturn, 1) := by decide +kernel
theorem dX5_compare_20 : decode cX5_compare 20 = .ok (.iconst 0, 1) := by decide +kernel
theorem dX5_compare_21 : decode cX5_compare 21 = .ok (.istore_n 3, 1) := by decide +kernel
theorem dX5_compare_22 : decode cX5_compare 22 = .ok (.iconst 0, 1) := by decide +kernel
theorem dX5_compare_23 : decode cX5_compare 23 = .ok (.istore 4, 2) := by decide +kernel
theorem dX5_compare_25 : decode cX5_compare 25 = .ok (.iconst 0, 1) := by decide +kernel
theorem dX5_compare_26 : decode cX5_compare 26 = .ok (.istore 5, 2) := by decide +kernel
theorem dX5_compare_28 : decode cX5_compare 28 = .ok (.iload 5, 2) := by decide +kernel
theorem dX5_compare_30 : decode cX5_compare 30 = .ok (.sipush 6400, 3) := by decide +kernel
theorem dX5_compare_33 : decode cX5_compare 33 = .ok (.if_icmp .ge 95, 3) := by decide +kernel
theorem dX5_compare_36 : decode cX5_compare 36 = .ok (.iload_n 3, 1) := by decide +kernel
theorem dX5_compare_37 : decode cX5_compare 37 = .ok (.ifCond .ne 35, 3) := by decide +kernel
theorem dX5_compare_40 : decode cX5_compare 40 = .ok (.aload_n 0, 1) := by decide +kernel
theorem dX5_compare_41 : decode cX5_compare 41 = .ok (.getfield 7, 3) := by decide +kernel
theorem dX5_compare_44 : decode cX5_compare 44 = .ok (.sipush 6400, 3) := by decide +kernel
theorem dX5_compare_47 : decode cX5_compare 47 = .ok (.iload_n 1, 1) := by decide +kernel
theorem dX5_compare_48 : decode cX5_compare 48 = .ok (.imul, 1) := by decide +kernel
theorem dX5_compare_49 : decode cX5_compare 49 = .ok (.iload 5, 2) := by decide +kernel
theorem dX5_compare_51 : decode cX5_compare 51 = .ok (.iadd, 1) := by decide +kernel
theorem dX5_compare_52 : decode cX5_compare 52 = .ok (.baload, 1) := by decide +kernel
theorem dX5_compare_53 : decode cX5_compare 53 = .ok (.ifCond .eq 23, 3) := by decide +kernel
theorem dX5_compare_56 : decode cX5_compare 56 = .ok (.aload_n 0, 1) := by decide +kernel
theorem dX5_compare_57 : decode cX5_compare 57 = .ok (.getfield 7, 3) := by decide +kernel
theorem dX5_compare_60 : decode cX5_compare 60 = .ok (.sipush 6400, 3) := by decide +kernel
theorem dX5_compare_63 : decode cX5_compare 63 = .ok (.iload_n 2, 1) := by decide +kernel
theorem dX5_compare_64 : decode cX5_compare 64 = .ok (.imul, 1) := by decide +kernel
theorem dX5_compare_65 : decode cX5_compare 65 = .ok (.iload 5, 2) := by decide +kernel
theorem dX5_compare_67 : decode cX5_compare 67 = .ok (.iadd, 1) := by decide +kernel
theorem dX5_compare_68 : decode cX5_compare 68 = .ok (.baload, 1) := by decide +kernel
theorem dX5_compare_69 : decode cX5_compare 69 = .ok (.ifCond .ne 7, 3) := by decide +kernel
theorem dX5_compare_72 : decode cX5_compare 72 = .ok (.iconst 1, 1) := by decide +kernel
theorem dX5_compare_73 : decode cX5_compare 73 = .ok (.goto 4, 3) := by decide +kernel
theorem dX5_compare_76 : decode cX5_compare 76 = .ok (.iconst 0, 1) := by decide +kernel
theorem dX5_compare_77 : decode cX5_compare 77 = .ok (.istore_n 3, 1) := by decide +kernel
theorem dX5_compare_78 : decode cX5_compare 78 = .ok (.iload 4, 2) := by decide +kernel
theorem dX5_compare_80 : decode cX5_compare 80 = .ok (.ifCond .ne 35, 3) := by decide +kernel
theorem dX5_compare_83 : decode cX5_compare 83 = .ok (.aload_n 0, 1) := by decide +kernel
theorem dX5_compare_84 : decode cX5_compare 84 = .ok (.getfield 7, 3) := by decide +kernel
theorem dX5_compare_87 : decode cX5_compare 87 = .ok (.sipush 6400, 3) := by decide +kernel
theorem dX5_compare_90 : decode cX5_compare 90 = .ok (.iload_n 1, 1) := by decide +kernel
theorem dX5_compare_91 : decode cX5_compare 91 = .ok (.imul, 1) := by decide +kernel
theorem dX5_compare_92 : decode cX5_compare 92 = .ok (.iload 5, 2) := by decide +kernel
theorem dX5_compare_94 : decode cX5_compare 94 = .ok (.iadd, 1) := by decide +kernel
theorem dX5_compare_95 : decode cX5_compare 95 = .ok (.baload, 1) := by decide +kernel
theorem dX5_compare_96 : decode cX5_compare 96 = .ok (.ifCond .ne 23, 3) := by decide +kernel
theorem dX5_compare_99 : decode cX5_compare 99 = .ok (.aload_n 0, 1) := by decide +kernel
theorem dX5_compare_100 : decode cX5_compare 100 = .ok (.getfield 7, 3) := by decide +kernel
theorem dX5_compare_103 : decode cX5_compare 103 = .ok (.sipush 6400, 3) := by decide +kernel
theorem dX5_compare_106 : decode cX5_compare 106 = .ok (.iload_n 2, 1) := by decide +kernel
theorem dX5_compare_107 : decode cX5_compare 107 = .ok (.imul, 1) := by decide +kernel
theorem dX5_compare_108 : decode cX5_compare 108 = .ok (.iload 5, 2) := by decide +kernel
theorem dX5_compare_110 : decode cX5_compare 110 = .ok (.iadd, 1) := by decide +kernel
theorem dX5_compare_111 : decode cX5_compare 111 = .ok (.baload, 1) := by decide +kernel
theorem dX5_compare_112 : decode cX5_compare 112 = .ok (.ifCond .eq 7, 3) := by decide +kernel
theorem dX5_compare_115 : decode cX5_compare 115 = .ok (.iconst 1, 1) := by decide +kernel
theorem dX5_compare_116 : decode cX5_compare 116 = .ok (.goto 4, 3) := by decide +kernel
theorem dX5_compare_119 : decode cX5_compare 119 = .ok (.iconst 0, 1) := by decide +kernel
theorem dX5_compare_120 : decode cX5_compare 120 = .ok (.istore 4, 2) := by decide +kernel
theorem dX5_compare_122 : decode cX5_compare 122 = .ok (.iinc 5 1, 3) := by decide +kernel
theorem dX5_compare_125 : decode cX5_compare 125 = .ok (.goto (-97), 3) := by decide +kernel
theorem dX5_compare_128 : decode cX5_compare 128 = .ok (.aload_n 0, 1) := by decide +kernel
theorem dX5_compare_129 : decode cX5_compare 129 = .ok (.iload_n 3, 1) := by decide +kernel
theorem dX5_compare_130 : decode cX5_compare 130 = .ok (.ifCond .eq 7, 3) := by decide +kernel
theorem dX5_compare_133 : decode cX5_compare 133 = .ok (.iconst 1, 1) := by decide +kernel
theorem dX5_compare_134 : decode cX5_compare 134 = .ok (.goto 4, 3) := by decide +kernel
theorem dX5_compare_137 : decode cX5_compare 137 = .ok (.iconst 0, 1) := by decide +kernel
theorem dX5_compare_138 : decode cX5_compare 138 = .ok (.iload 4, 2) := by decide +kernel
theorem dX5_compare_140 : decode cX5_compare 140 = .ok (.ifCond .eq 7, 3) := by decide +kernel
theorem dX5_compare_143 : decode cX5_compare 143 = .ok (.iconst 2, 1) := by decide +kernel
theorem dX5_compare_144 : decode cX5_compare 144 = .ok (.goto 4, 3) := by decide +kernel
theorem dX5_compare_147 : decode cX5_compare 147 = .ok (.iconst 0, 1) := by decide +kernel
theorem dX5_compare_148 : decode cX5_compare 148 = .ok (.iadd, 1) := by decide +kernel
theorem dX5_compare_149 : decode cX5_compare 149 = .ok (.invokevirtual 80, 3) := by decide +kernel
theorem dX5_compare_152 : decode cX5_compare 152 = .ok (.ireturn, 1) := by decide +kernel
theorem dX5_keeps_0 : decode cX5_keeps 0 = .ok (.aload_n 0, 1) := by decide +kernel
theorem dX5_keeps_1 : decode cX5_keeps 1 = .ok (.iload_n 1, 1) := by decide +kernel
theorem dX5_keeps_2 : decode cX5_keeps 2 = .ok (.iload_n 3, 1) := by decide +kernel
theorem dX5_keeps_3 : decode cX5_keeps 3 = .ok (.iload 4, 2) := by decide +kernel
theorem dX5_keeps_5 : decode cX5_keeps 5 = .ok (.invokevirtual 66, 3) := by decide +kernel
theorem dX5_keeps_8 : decode cX5_keeps 8 = .ok (.istore 5, 2) := by decide +kernel
theorem dX5_keeps_10 : decode cX5_keeps 10 = .ok (.aload_n 0, 1) := by decide +kernel
theorem dX5_keeps_11 : decode cX5_keeps 11 = .ok (.iload_n 1, 1) := by decide +kernel
theorem dX5_keeps_12 : decode cX5_keeps 12 = .ok (.iload 4, 2) := by decide +kernel
theorem dX5_keeps_14 : decode cX5_keeps 14 = .ok (.iload_n 3, 1) := by decide +kernel
theorem dX5_keeps_15 : decode cX5_keeps 15 = .ok (.invokevirtual 66, 3) := by decide +kernel
theorem dX5_keeps_18 : decode cX5_keeps 18 = .ok (.istore 6, 2) := by decide +kernel
theorem dX5_keeps_20 : decode cX5_keeps 20 = .ok (.iload_n 2, 1) := by decide +kernel
theorem dX5_keeps_21 : decode cX5_keeps 21 = .ok (.tableswitch 130 0 4 #[35, 52, 69, 82, 104], 35) := by decide +kernel
theorem dX5_keeps_56 : decode cX5_keeps 56 = .ok (.iload_n 3, 1) := by decide +kernel
theorem dX5_keeps_57 : decode cX5_keeps 57 = .ok (.iload 4, 2) := by decide +kernel
theorem dX5_keeps_59 : decode cX5_keeps 59 = .ok (.if_icmp .ne 8, 3) := by decide +kernel
theorem dX5_keeps_62 : decode cX5_keeps 62 = .ok (.iload 5, 2) := by decide +kernel
theorem dX5_keeps_64 : decode cX5_keeps 64 = .ok (.ifCond .eq 7, 3) := by decide +kernel
theorem dX5_keeps_67 : decode cX5_keeps 67 = .ok (.iconst 1, 1) := by decide +kernel
theorem dX5_keeps_68 : decode cX5_keeps 68 = .ok (.goto 4, 3) := by decide +kernel
theorem dX5_keeps_71 : decode cX5_keeps 71 = .ok (.iconst 0, 1) := by decide +kernel
theorem dX5_keeps_72 : decode cX5_keeps 72 = .ok (.ireturn, 1) := by decide +kernel
theorem dX5_keeps_73 : decode cX5_keeps 73 = .ok (.iload_n 3, 1) := by decide +kernel
theorem dX5_keeps_74 : decode cX5_keeps 74 = .ok (.iload 4, 2) := by decide +kernel
theorem dX5_keeps_76 : decode cX5_keeps 76 = .ok (.if_icmp .ne 8, 3) := by decide +kernel
theorem dX5_keeps_79 : decode cX5_keeps 79 = .ok (.iload 5, 2) := by decide +kernel
theorem dX5_keeps_81 : decode cX5_keeps 81 = .ok (.ifCond .ne 7, 3) := by decide +kernel
theorem dX5_keeps_84 : decode cX5_keeps 84 = .ok (.iconst 1, 1) := by decide +kernel
theorem dX5_keeps_85 : decode cX5_keeps 85 = .ok (.goto 4, 3) := by decide +kernel
theorem dX5_keeps_88 : decode cX5_keeps 88 = .ok (.iconst 0, 1) := by decide +kernel
theorem dX5_keeps_89 : decode cX5_keeps 89 = .ok (.ireturn, 1) := by decide +kernel
theorem dX5_keeps_90 : decode cX5_keeps 90 = .ok (.iload 5, 2) := by decide +kernel
theorem dX5_keeps_92 : decode cX5_keeps 92 = .ok (.iload 6, 2) := by decide +kernel
theorem dX5_keeps_94 : decode cX5_keeps 94 = .ok (.if_icmp .ne 7, 3) := by decide +kernel
theorem dX5_keeps_97 : decode cX5_keeps 97 = .ok (.iconst 1, 1) := by decide +kernel
theorem dX5_keeps_98 : decode cX5_keeps 98 = .ok (.goto 4, 3) := by decide +kernel
theorem dX5_keeps_101 : decode cX5_keeps 101 = .ok (.iconst 0, 1) := by decide +kernel
theorem dX5_keeps_102 : decode cX5_keeps 102 = .ok (.ireturn, 1) := by decide +kernel
theorem dX5_keeps_103 : decode cX5_keeps 103 = .ok (.iload_n 3, 1) := by decide +kernel
theorem dX5_keeps_104 : decode cX5_keeps 104 = .ok (.iload 4, 2) := by decide +kernel
theorem dX5_keeps_106 : decode cX5_keeps 106 = .ok (.if_icmp .eq 13, 3) := by decide +kernel
theorem dX5_keeps_109 : decode cX5_keeps 109 = .ok (.iload 5, 2) := by decide +kernel
theorem dX5_keeps_111 : decode cX5_keeps 111 = .ok (.ifCond .eq 8, 3) := by decide +kernel
theorem dX5_keeps_114 : decode cX5_keeps 114 = .ok (.iload 6, 2) := by decide +kernel
theorem dX5_keeps_116 : decode cX5_keeps 116 = .ok (.ifCond .ne 7, 3) := by decide +kernel
theorem dX5_keeps_119 : decode cX5_keeps 119 = .ok (.iconst 1, 1) := by decide +kernel
theorem dX5_keeps_120 : decode cX5_keeps 120 = .ok (.goto 4, 3) := by decide +kernel
theorem dX5_keeps_123 : decode cX5_keeps 123 = .ok (.iconst 0, 1) := by decide +kernel
theorem dX5_keeps_124 : decode cX5_keeps 124 = .ok (.ireturn, 1) := by decide +kernel
theorem dX5_keeps_125 : decode cX5_keeps 125 = .ok (.iload 5, 2) := by decide +kernel
theorem dX5_keeps_127 : decode cX5_keeps 127 = .ok (.ifCond .ne 18, 3) := by decide +kernel
theorem dX5_keeps_130 : decode cX5_keeps 130 = .ok (.aload_n 0, 1) := by decide +kernel
theorem dX5_keeps_131 : decode cX5_keeps 131 = .ok (.getfield 20, 3) := by decide +kernel
theorem dX5_keeps_134 : decode cX5_keeps 134 = .ok (.bipush 80, 2) := by decide +kernel
theorem dX5_keeps_136 : decode cX5_keeps 136 = .ok (.iload_n 3, 1) := by decide +kernel
theorem dX5_keeps_137 : decode cX5_keeps 137 = .ok (.imul, 1) := by decide +kernel
theorem dX5_keeps_138 : decode cX5_keeps 138 = .ok (.iload 4, 2) := by decide +kernel
theorem dX5_keeps_140 : decode cX5_keeps 140 = .ok (.iadd, 1) := by decide +kernel
theorem dX5_keeps_141 : decode cX5_keeps 141 = .ok (.baload, 1) := by decide +kernel
theorem dX5_keeps_142 : decode cX5_keeps 142 = .ok (.ifCond .ne 7, 3) := by decide +kernel
theorem dX5_keeps_145 : decode cX5_keeps 145 = .ok (.iconst 1, 1) := by decide +kernel
theorem dX5_keeps_146 : decode cX5_keeps 146 = .ok (.goto 4, 3) := by decide +kernel
theorem dX5_keeps_149 : decode cX5_keeps 149 = .ok (.iconst 0, 1) := by decide +kernel
theorem dX5_keeps_150 : decode cX5_keeps 150 = .ok (.ireturn, 1) := by decide +kernel
theorem dX5_keeps_151 : decode cX5_keeps 151 = .ok (.iload_n 3, 1) := by decide +kernel
theorem dX5_keeps_152 : decode cX5_keeps 152 = .ok (.iload 4, 2) := by decide +kernel
theorem dX5_keeps_154 : decode cX5_keeps 154 = .ok (.if_icmp .eq 13, 3) := by decide +kernel
theorem dX5_keeps_157 : decode cX5_keeps 157 = .ok (.iload 5, 2) := by decide +kernel
theorem dX5_keeps_159 : decode cX5_keeps 159 = .ok (.ifCond .ne 8, 3) := by decide +kernel
theorem dX5_keeps_162 : decode cX5_keeps 162 = .ok (.iload 6, 2) := by decide +kernel
theorem dX5_keeps_164 : decode cX5_keeps 164 = .ok (.ifCond .eq 7, 3) := by decide +kernel
theorem dX5_keeps_167 : decode cX5_keeps 167 = .ok (.iconst 1, 1) := by decide +kernel
theorem dX5_keeps_168 : decode cX5_keeps 168 = .ok (.goto 4, 3) := by decide +kernel
theorem dX5_keeps_171 : decode cX5_keeps 171 = .ok (.iconst 0, 1) := by decide +kernel
theorem dX5_keeps_172 : decode cX5_keeps 172 = .ok (.ireturn, 1) := by decide +kernel
theorem dX5_is_0 : decode cX5_is 0 = .ok (.iload_n 1, 1) := by decide +kernel
theorem dX5_is_1 : decode cX5_is 1 = .ok (.invokestatic 55, 3) := by decide +kernel
theorem dX5_is_4 : decode cX5_is 4 = .ok (.ifCond .ne 9, 3) := by decide +kernel
theorem dX5_is_7 : decode cX5_is 7 = .ok (.aload_n 0, 1) := by decide +kernel
theorem dX5_is_8 : decode cX5_is 8 = .ok (.iconst 1, 1) := by decide +kernel
theorem dX5_is_9 : decode cX5_is 9 = .ok (.invokevirtual 87, 3) := by decide +kernel
theorem dX5_is_12 : decode cX5_is 12 = .ok (.ireturn, 1) := by decide +kernel
theorem dX5_is_13 : decode cX5_is 13 = .ok (.iload_n 2, 1) := by decide +kernel
theorem dX5_is_14 : decode cX5_is 14 = .ok (.iconst 0, 1) := by decide +kernel
theorem dX5_is_15 : decode cX5_is 15 = .ok (.iconst 5, 1) := by decide +kernel
theorem dX5_is_16 : decode cX5_is 16 = .ok (.invokestatic 51, 3) := by decide +kernel
theorem dX5_is_19 : decode cX5_is 19 = .ok (.ifCond .ne 9, 3) := by decide +kernel
theorem dX5_is_22 : decode cX5_is 22 = .ok (.aload_n 0, 1) := by decide +kernel
theorem dX5_is_23 : decode cX5_is 23 = .ok (.iconst 2, 1) := by decide +kernel
theorem dX5_is_24 : decode cX5_is 24 = .ok (.invokevirtual 87, 3) := by decide +kernel
theorem dX5_is_27 : decode cX5_is 27 = .ok (.ireturn, 1) := by decide +kernel
theorem dX5_is_28 : decode cX5_is 28 = .ok (.iload_n 2, 1) := by decide +kernel
theorem dX5_is_29 : decode cX5_is 29 = .ok (.iconst 4, 1) := by decide +kernel
theorem dX5_is_30 : decode cX5_is 30 = .ok (.if_icmp .ne 9, 3) := by decide +kernel
theorem dX5_is_33 : decode cX5_is 33 = .ok (.aload_n 0, 1) := by decide +kernel
theorem dX5_is_34 : decode cX5_is 34 = .ok (.iload_n 1, 1) := by decide +kernel
theorem dX5_is_35 : decode cX5_is 35 = .ok (.iload_n 1, 1) := by decide +kernel
theorem dX5_is_36 : decode cX5_is 36 = .ok (.invokevirtual 98, 3) := by decide +kernel
theorem dX5_is_39 : decode cX5_is 39 = .ok (.iconst 1, 1) := by decide +kernel
theorem dX5_is_40 : decode cX5_is 40 = .ok (.istore_n 3, 1) := by decide +kernel
theorem dX5_is_41 : decode cX5_is 41 = .ok (.iconst 0, 1) := by decide +kernel
theorem dX5_is_42 : decode cX5_is 42 = .ok (.istore 4, 2) := by decide +kernel
theorem dX5_is_44 : decode cX5_is 44 = .ok (.iload 4, 2) := by decide +kernel
theorem dX5_is_46 : decode cX5_is 46 = .ok (.aload_n 0, 1) := by decide +kernel
theorem dX5_is_47 : decode cX5_is 47 = .ok (.getfield 16, 3) := by decide +kernel
theorem dX5_is_50 : decode cX5_is 50 = .ok (.if_icmp .ge 46, 3) := by decide +kernel
theorem dX5_is_53 : decode cX5_is 53 = .ok (.iload_n 3, 1) := by decide +kernel
theorem dX5_is_54 : decode cX5_is 54 = .ok (.ifCond .eq 42, 3) := by decide +kernel
theorem dX5_is_57 : decode cX5_is 57 = .ok (.iconst 0, 1) := by decide +kernel
theorem dX5_is_58 : decode cX5_is 58 = .ok (.istore 5, 2) := by decide +kernel
theorem dX5_is_60 : decode cX5_is 60 = .ok (.iload 5, 2) := by decide +kernel
theorem dX5_is_62 : decode cX5_is 62 = .ok (.aload_n 0, 1) := by decide +kernel
theorem dX5_is_63 : decode cX5_is 63 = .ok (.getfield 16, 3) := by decide +kernel
theorem dX5_is_66 : decode cX5_is 66 = .ok (.if_icmp .ge 24, 3) := by decide +kernel
theorem dX5_is_69 : decode cX5_is 69 = .ok (.iload_n 3, 1) := by decide +kernel
theorem dX5_is_70 : decode cX5_is 70 = .ok (.ifCond .eq 20, 3) := by decide +kernel
theorem dX5_is_73 : decode cX5_is 73 = .ok (.aload_n 0, 1) := by decide +kernel
theorem dX5_is_74 : decode cX5_is 74 = .ok (.iload_n 1, 1) := by decide +kernel
theorem dX5_is_75 : decode cX5_is 75 = .ok (.iload_n 2, 1) := by decide +kernel
theorem dX5_is_76 : decode cX5_is 76 = .ok (.iload 4, 2) := by decide +kernel
theorem dX5_is_78 : decode cX5_is 78 = .ok (.iload 5, 2) := by decide +kernel
theorem dX5_is_80 : decode cX5_is 80 = .ok (.invokevirtual 118, 3) := by decide +kernel
theorem dX5_is_83 : decode cX5_is 83 = .ok (.istore_n 3, 1) := by decide +kernel
theorem dX5_is_84 : decode cX5_is 84 = .ok (.iinc 5 1, 3) := by decide +kernel
theorem dX5_is_87 : decode cX5_is 87 = .ok (.goto (-27), 3) := by decide +kernel
theorem dX5_is_90 : decode cX5_is 90 = .ok (.iinc 4 1, 3) := by decide +kernel
theorem dX5_is_93 : decode cX5_is 93 = .ok (.goto (-49), 3) := by decide +kernel
theorem dX5_is_96 : decode cX5_is 96 = .ok (.aload_n 0, 1) := by decide +kernel
theorem dX5_is_97 : decode cX5_is 97 = .ok (.iload_n 3, 1) := by decide +kernel
theorem dX5_is_98 : decode cX5_is 98 = .ok (.invokevirtual 90, 3) := by decide +kernel
theorem dX5_is_101 : decode cX5_is 101 = .ok (.ireturn, 1) := by decide +kernel
theorem dX5_steps_0 : decode cX5_steps 0 = .ok (.aload_n 0, 1) := by decide +kernel
theorem dX5_steps_1 : decode cX5_steps 1 = .ok (.iload_n 1, 1) := by decide +kernel
theorem dX5_steps_2 : decode cX5_steps 2 = .ok (.iload_n 2, 1) := by decide +kernel
theorem dX5_steps_3 : decode cX5_steps 3 = .ok (.invokevirtual 83, 3) := by decide +kernel
theorem dX5_steps_6 : decode cX5_steps 6 = .ok (.ifCond .eq 11, 3) := by decide +kernel
theorem dX5_steps_9 : decode cX5_steps 9 = .ok (.aload_n 0, 1) := by decide +kernel
theorem dX5_steps_10 : decode cX5_steps 10 = .ok (.iload_n 3, 1) := by decide +kernel
theorem dX5_steps_11 : decode cX5_steps 11 = .ok (.invokevirtual 59, 3) := by decide +kernel
theorem dX5_steps_14 : decode cX5_steps 14 = .ok (.ifCond .ne 9, 3) := by decide +kernel
theorem dX5_steps_17 : decode cX5_steps 17 = .ok (.aload_n 0, 1) := by decide +kernel
theorem dX5_steps_18 : decode cX5_steps 18 = .ok (.iconst 1, 1) := by decide +kernel
theorem dX5_steps_19 : decode cX5_steps 19 = .ok (.invokevirtual 77, 3) := by decide +kernel
theorem dX5_steps_22 : decode cX5_steps 22 = .ok (.ireturn, 1) := by decide +kernel
theorem dX5_steps_23 : decode cX5_steps 23 = .ok (.aload_n 0, 1) := by decide +kernel
theorem dX5_steps_24 : decode cX5_steps 24 = .ok (.iload_n 1, 1) := by decide +kernel
theorem dX5_steps_25 : decode cX5_steps 25 = .ok (.iload_n 2, 1) := by decide +kernel
theorem dX5_steps_26 : decode cX5_steps 26 = .ok (.invokevirtual 105, 3) := by decide +kernel
theorem dX5_steps_29 : decode cX5_steps 29 = .ok (.aload_n 0, 1) := by decide +kernel
theorem dX5_steps_30 : decode cX5_steps 30 = .ok (.aload_n 0, 1) := by decide +kernel
theorem dX5_steps_31 : decode cX5_steps 31 = .ok (.getfield 39, 3) := by decide +kernel
theorem dX5_steps_34 : decode cX5_steps 34 = .ok (.iload_n 3, 1) := by decide +kernel
theorem dX5_steps_35 : decode cX5_steps 35 = .ok (.iaload, 1) := by decide +kernel
theorem dX5_steps_36 : decode cX5_steps 36 = .ok (.invokevirtual 80, 3) := by decide +kernel
theorem dX5_steps_39 : decode cX5_steps 39 = .ok (.ireturn, 1) := by decide +kernel
theorem dX5_leastOf_0 : decode cX5_leastOf 0 = .ok (.iconst 0, 1) := by decide +kernel
theorem dX5_leastOf_1 : decode cX5_leastOf 1 = .ok (.istore_n 2, 1) := by decide +kernel
theorem dX5_leastOf_2 : decode cX5_leastOf 2 = .ok (.iload_n 2, 1) := by decide +kernel
theorem dX5_leastOf_3 : decode cX5_leastOf 3 = .ok (.iload_n 1, 1) := by decide +kernel
theorem dX5_leastOf_4 : decode cX5_leastOf 4 = .ok (.if_icmp .eq 37, 3) := by decide +kernel
theorem dX5_leastOf_7 : decode cX5_leastOf 7 = .ok (.aload_n 0, 1) := by decide +kernel
theorem dX5_leastOf_8 : decode cX5_leastOf 8 = .ok (.getfield 20, 3) := by decide +kernel
theorem dX5_leastOf_11 : decode cX5_leastOf 11 = .ok (.bipush 80, 2) := by decide +kernel
theorem dX5_leastOf_13 : decode cX5_leastOf 13 = .ok (.iload_n 2, 1) := by decide +kernel
theorem dX5_leastOf_14 : decode cX5_leastOf 14 = .ok (.imul, 1) := by decide +kernel
theorem dX5_leastOf_15 : decode cX5_leastOf 15 = .ok (.iload_n 1, 1) := by decide +kernel
theorem dX5_leastOf_16 : decode cX5_leastOf 16 = .ok (.iadd, 1) := by decide +kernel
theorem dX5_leastOf_17 : decode cX5_leastOf 17 = .ok (.baload, 1) := by decide +kernel
theorem dX5_leastOf_18 : decode cX5_leastOf 18 = .ok (.ifCond .eq 17, 3) := by decide +kernel
theorem dX5_leastOf_21 : decode cX5_leastOf 21 = .ok (.aload_n 0, 1) := by decide +kernel
theorem dX5_leastOf_22 : decode cX5_leastOf 22 = .ok (.getfield 20, 3) := by decide +kernel
theorem dX5_leastOf_25 : decode cX5_leastOf 25 = .ok (.bipush 80, 2) := by decide +kernel
theorem dX5_leastOf_27 : decode cX5_leastOf 27 = .ok (.iload_n 1, 1) := by decide +kernel
theorem dX5_leastOf_28 : decode cX5_leastOf 28 = .ok (.imul, 1) := by decide +kernel
theorem dX5_leastOf_29 : decode cX5_leastOf 29 = .ok (.iload_n 2, 1) := by decide +kernel
theorem dX5_leastOf_30 : decode cX5_leastOf 30 = .ok (.iadd, 1) := by decide +kernel
theorem dX5_leastOf_31 : decode cX5_leastOf 31 = .ok (.baload, 1) := by decide +kernel
theorem dX5_leastOf_32 : decode cX5_leastOf 32 = .ok (.ifCond .ne 9, 3) := by decide +kernel
theorem dX5_leastOf_35 : decode cX5_leastOf 35 = .ok (.iinc 2 1, 3) := by decide +kernel
theorem dX5_leastOf_38 : decode cX5_leastOf 38 = .ok (.goto (-36), 3) := by decide +kernel
theorem dX5_leastOf_41 : decode cX5_leastOf 41 = .ok (.iload_n 2, 1) := by decide +kernel
theorem dX5_leastOf_42 : decode cX5_leastOf 42 = .ok (.ireturn, 1) := by decide +kernel
theorem dX5_classOf_0 : decode cX5_classOf 0 = .ok (.aload_n 0, 1) := by decide +kernel
theorem dX5_classOf_1 : decode cX5_classOf 1 = .ok (.iload_n 1, 1) := by decide +kernel
theorem dX5_classOf_2 : decode cX5_classOf 2 = .ok (.iload_n 2, 1) := by decide +kernel
theorem dX5_classOf_3 : decode cX5_classOf 3 = .ok (.invokevirtual 83, 3) := by decide +kernel
theorem dX5_classOf_6 : decode cX5_classOf 6 = .ok (.ifCond .ne 9, 3) := by decide +kernel
theorem dX5_classOf_9 : decode cX5_classOf 9 = .ok (.aload_n 0, 1) := by decide +kernel
theorem dX5_classOf_10 : decode cX5_classOf 10 = .ok (.iconst 1, 1) := by decide +kernel
theorem dX5_classOf_11 : decode cX5_classOf 11 = .ok (.invokevirtual 77, 3) := by decide +kernel
theorem dX5_classOf_14 : decode cX5_classOf 14 = .ok (.ireturn, 1) := by decide +kernel
theorem dX5_classOf_15 : decode cX5_classOf 15 = .ok (.aload_n 0, 1) := by decide +kernel
theorem dX5_classOf_16 : decode cX5_classOf 16 = .ok (.iload_n 1, 1) := by decide +kernel
theorem dX5_classOf_17 : decode cX5_classOf 17 = .ok (.invokevirtual 108, 3) := by decide +kernel
theorem dX5_classOf_20 : decode cX5_classOf 20 = .ok (.aload_n 0, 1) := by decide +kernel
theorem dX5_classOf_21 : decode cX5_classOf 21 = .ok (.aload_n 0, 1) := by decide +kernel
theorem dX5_classOf_22 : decode cX5_classOf 22 = .ok (.iload_n 2, 1) := by decide +kernel
theorem dX5_classOf_23 : decode cX5_classOf 23 = .ok (.invokevirtual 122, 3) := by decide +kernel
theorem dX5_classOf_26 : decode cX5_classOf 26 = .ok (.invokevirtual 80, 3) := by decide +kernel
theorem dX5_classOf_29 : decode cX5_classOf 29 = .ok (.ireturn, 1) := by decide +kernel
theorem dX5_classes_0 : decode cX5_classes 0 = .ok (.iload_n 1, 1) := by decide +kernel
theorem dX5_classes_1 : decode cX5_classes 1 = .ok (.invokestatic 55, 3) := by decide +kernel
theorem dX5_classes_4 : decode cX5_classes 4 = .ok (.ifCond .ne 9, 3) := by decide +kernel
theorem dX5_classes_7 : decode cX5_classes 7 = .ok (.aload_n 0, 1) := by decide +kernel
theorem dX5_classes_8 : decode cX5_classes 8 = .ok (.iconst 1, 1) := by decide +kernel
theorem dX5_classes_9 : decode cX5_classes 9 = .ok (.invokevirtual 77, 3) := by decide +kernel
theorem dX5_classes_12 : decode cX5_classes 12 = .ok (.ireturn, 1) := by decide +kernel
theorem dX5_classes_13 : decode cX5_classes 13 = .ok (.aload_n 0, 1) := by decide +kernel
theorem dX5_classes_14 : decode cX5_classes 14 = .ok (.iload_n 1, 1) := by decide +kernel
theorem dX5_classes_15 : decode cX5_classes 15 = .ok (.invokevirtual 108, 3) := by decide +kernel
theorem dX5_classes_18 : decode cX5_classes 18 = .ok (.iconst 0, 1) := by decide +kernel
theorem dX5_classes_19 : decode cX5_classes 19 = .ok (.istore_n 2, 1) := by decide +kernel
theorem dX5_classes_20 : decode cX5_classes 20 = .ok (.iconst 0, 1) := by decide +kernel
theorem dX5_classes_21 : decode cX5_classes 21 = .ok (.istore_n 3, 1) := by decide +kernel
theorem dX5_classes_22 : decode cX5_classes 22 = .ok (.iload_n 3, 1) := by decide +kernel
theorem dX5_classes_23 : decode cX5_classes 23 = .ok (.aload_n 0, 1) := by decide +kernel
theorem dX5_classes_24 : decode cX5_classes 24 = .ok (.getfield 16, 3) := by decide +kernel
theorem dX5_classes_27 : decode cX5_classes 27 = .ok (.if_icmp .ge 26, 3) := by decide +kernel
theorem dX5_classes_30 : decode cX5_classes 30 = .ok (.iload_n 2, 1) := by decide +kernel
theorem dX5_classes_31 : decode cX5_classes 31 = .ok (.aload_n 0, 1) := by decide +kernel
theorem dX5_classes_32 : decode cX5_classes 32 = .ok (.iload_n 3, 1) := by decide +kernel
theorem dX5_classes_33 : decode cX5_classes 33 = .ok (.invokevirtual 122, 3) := by decide +kernel
theorem dX5_classes_36 : decode cX5_classes 36 = .ok (.iload_n 3, 1) := by decide +kernel
theorem dX5_classes_37 : decode cX5_classes 37 = .ok (.if_icmp .ne 7, 3) := by decide +kernel
theorem dX5_classes_40 : decode cX5_classes 40 = .ok (.iconst 1, 1) := by decide +kernel
theorem dX5_classes_41 : decode cX5_classes 41 = .ok (.goto 4, 3) := by decide +kernel
theorem dX5_classes_44 : decode cX5_classes 44 = .ok (.iconst 0, 1) := by decide +kernel
theorem dX5_classes_45 : decode cX5_classes 45 = .ok (.iadd, 1) := by decide +kernel
theorem dX5_classes_46 : decode cX5_classes 46 = .ok (.istore_n 2, 1) := by decide +kernel
theorem dX5_classes_47 : decode cX5_classes 47 = .ok (.iinc 3 1, 3) := by decide +kernel
theorem dX5_classes_50 : decode cX5_classes 50 = .ok (.goto (-28), 3) := by decide +kernel
theorem dX5_classes_53 : decode cX5_classes 53 = .ok (.aload_n 0, 1) := by decide +kernel
theorem dX5_classes_54 : decode cX5_classes 54 = .ok (.iload_n 2, 1) := by decide +kernel
theorem dX5_classes_55 : decode cX5_classes 55 = .ok (.invokevirtual 80, 3) := by decide +kernel
theorem dX5_classes_58 : decode cX5_classes 58 = .ok (.ireturn, 1) := by decide +kernel
theorem dX5_hasRing_0 : decode cX5_hasRing 0 = .ok (.iload_n 1, 1) := by decide +kernel
theorem dX5_hasRing_1 : decode cX5_hasRing 1 = .ok (.invokestatic 55, 3) := by decide +kernel
theorem dX5_hasRing_4 : decode cX5_hasRing 4 = .ok (.ifCond .eq 15, 3) := by decide +kernel
theorem dX5_hasRing_7 : decode cX5_hasRing 7 = .ok (.aload_n 0, 1) := by decide +kernel
theorem dX5_hasRing_8 : decode cX5_hasRing 8 = .ok (.aload_n 0, 1) := by decide +kernel
theorem dX5_hasRing_9 : decode cX5_hasRing 9 = .ok (.iload_n 1, 1) := by decide +kernel
theorem dX5_hasRing_10 : decode cX5_hasRing 10 = .ok (.invokevirtual 112, 3) := by decide +kernel
theorem dX5_hasRing_13 : decode cX5_hasRing 13 = .ok (.invokevirtual 90, 3) := by decide +kernel
theorem dX5_hasRing_16 : decode cX5_hasRing 16 = .ok (.goto 8, 3) := by decide +kernel
theorem dX5_hasRing_19 : decode cX5_hasRing 19 = .ok (.aload_n 0, 1) := by decide +kernel
theorem dX5_hasRing_20 : decode cX5_hasRing 20 = .ok (.iconst 1, 1) := by decide +kernel
theorem dX5_hasRing_21 : decode cX5_hasRing 21 = .ok (.invokevirtual 87, 3) := by decide +kernel
theorem dX5_hasRing_24 : decode cX5_hasRing 24 = .ok (.ireturn, 1) := by decide +kernel
theorem dX5_isFree_0 : decode cX5_isFree 0 = .ok (.aload_n 0, 1) := by decide +kernel
theorem dX5_isFree_1 : decode cX5_isFree 1 = .ok (.getfield 29, 3) := by decide +kernel
theorem dX5_isFree_4 : decode cX5_isFree 4 = .ok (.iload_n 2, 1) := by decide +kernel
theorem dX5_isFree_5 : decode cX5_isFree 5 = .ok (.baload, 1) := by decide +kernel
theorem dX5_isFree_6 : decode cX5_isFree 6 = .ok (.ifCond .ne 7, 3) := by decide +kernel
theorem dX5_isFree_9 : decode cX5_isFree 9 = .ok (.iconst 1, 1) := by decide +kernel
theorem dX5_isFree_10 : decode cX5_isFree 10 = .ok (.goto 4, 3) := by decide +kernel
theorem dX5_isFree_13 : decode cX5_isFree 13 = .ok (.iconst 0, 1) := by decide +kernel
theorem dX5_isFree_14 : decode cX5_isFree 14 = .ok (.istore_n 3, 1) := by decide +kernel
theorem dX5_isFree_15 : decode cX5_isFree 15 = .ok (.iconst 0, 1) := by decide +kernel
theorem dX5_isFree_16 : decode cX5_isFree 16 = .ok (.istore 4, 2) := by decide +kernel
theorem dX5_isFree_18 : decode cX5_isFree 18 = .ok (.iload 4, 2) := by decide +kernel
theorem dX5_isFree_20 : decode cX5_isFree 20 = .ok (.aload_n 0, 1) := by decide +kernel
theorem dX5_isFree_21 : decode cX5_isFree 21 = .ok (.getfield 16, 3) := by decide +kernel
theorem dX5_isFree_24 : decode cX5_isFree 24 = .ok (.if_icmp .ge 40, 3) := by decide +kernel
theorem dX5_isFree_27 : decode cX5_isFree 27 = .ok (.iload_n 3, 1) := by decide +kernel
theorem dX5_isFree_28 : decode cX5_isFree 28 = .ok (.ifCond .eq 36, 3) := by decide +kernel
theorem dX5_isFree_31 : decode cX5_isFree 31 = .ok (.aload_n 0, 1) := by decide +kernel
theorem dX5_isFree_32 : decode cX5_isFree 32 = .ok (.getfield 29, 3) := by decide +kernel
theorem dX5_isFree_35 : decode cX5_isFree 35 = .ok (.iload 4, 2) := by decide +kernel
theorem dX5_isFree_37 : decode cX5_isFree 37 = .ok (.baload, 1) := by decide +kernel
theorem dX5_isFree_38 : decode cX5_isFree 38 = .ok (.ifCond .ne 14, 3) := by decide +kernel
theorem dX5_isFree_41 : decode cX5_isFree 41 = .ok (.aload_n 0, 1) := by decide +kernel
theorem dX5_isFree_42 : decode cX5_isFree 42 = .ok (.iload_n 1, 1) := by decide +kernel
theorem dX5_isFree_43 : decode cX5_isFree 43 = .ok (.iload 4, 2) := by decide +kernel
theorem dX5_isFree_45 : decode cX5_isFree 45 = .ok (.iload_n 2, 1) := by decide +kernel
theorem dX5_isFree_46 : decode cX5_isFree 46 = .ok (.invokevirtual 66, 3) := by decide +kernel
theorem dX5_isFree_49 : decode cX5_isFree 49 = .ok (.ifCond .ne 7, 3) := by decide +kernel
theorem dX5_isFree_52 : decode cX5_isFree 52 = .ok (.iconst 1, 1) := by decide +kernel
theorem dX5_isFree_53 : decode cX5_isFree 53 = .ok (.goto 4, 3) := by decide +kernel
theorem dX5_isFree_56 : decode cX5_isFree 56 = .ok (.iconst 0, 1) := by decide +kernel
theorem dX5_isFree_57 : decode cX5_isFree 57 = .ok (.istore_n 3, 1) := by decide +kernel
theorem dX5_isFree_58 : decode cX5_isFree 58 = .ok (.iinc 4 1, 3) := by decide +kernel
theorem dX5_isFree_61 : decode cX5_isFree 61 = .ok (.goto (-43), 3) := by decide +kernel
theorem dX5_isFree_64 : decode cX5_isFree 64 = .ok (.iload_n 3, 1) := by decide +kernel
theorem dX5_isFree_65 : decode cX5_isFree 65 = .ok (.ireturn, 1) := by decide +kernel
theorem dX5_orders_0 : decode cX5_orders 0 = .ok (.iconst 0, 1) := by decide +kernel
theorem dX5_orders_1 : decode cX5_orders 1 = .ok (.istore_n 2, 1) := by decide +kernel
theorem dX5_orders_2 : decode cX5_orders 2 = .ok (.iload_n 2, 1) := by decide +kernel
theorem dX5_orders_3 : decode cX5_orders 3 = .ok (.aload_n 0, 1) := by decide +kernel
theorem dX5_orders_4 : decode cX5_orders 4 = .ok (.getfield 16, 3) := by decide +kernel
theorem dX5_orders_7 : decode cX5_orders 7 = .ok (.if_icmp .ge 16, 3) := by decide +kernel
theorem dX5_orders_10 : decode cX5_orders 10 = .ok (.aload_n 0, 1) := by decide +kernel
theorem dX5_orders_11 : decode cX5_orders 11 = .ok (.getfield 29, 3) := by decide +kernel
theorem dX5_orders_14 : decode cX5_orders 14 = .ok (.iload_n 2, 1) := by decide +kernel
theorem dX5_orders_15 : decode cX5_orders 15 = .ok (.iconst 0, 1) := by decide +kernel
theorem dX5_orders_16 : decode cX5_orders 16 = .ok (.bastore, 1) := by decide +kernel
theorem dX5_orders_17 : decode cX5_orders 17 = .ok (.iinc 2 1, 3) := by decide +kernel
theorem dX5_orders_20 : decode cX5_orders 20 = .ok (.goto (-18), 3) := by decide +kernel
theorem dX5_orders_23 : decode cX5_orders 23 = .ok (.iconst 0, 1) := by decide +kernel
theorem dX5_orders_24 : decode cX5_orders 24 = .ok (.istore_n 2, 1) := by decide +kernel
theorem dX5_orders_25 : decode cX5_orders 25 = .ok (.iconst 0, 1) := by decide +kernel
theorem dX5_orders_26 : decode cX5_orders 26 = .ok (.istore_n 3, 1) := by decide +kernel
theorem dX5_orders_27 : decode cX5_orders 27 = .ok (.iload_n 3, 1) := by decide +kernel
theorem dX5_orders_28 : decode cX5_orders 28 = .ok (.aload_n 0, 1) := by decide +kernel
theorem dX5_orders_29 : decode cX5_orders 29 = .ok (.getfield 16, 3) := by decide +kernel
theorem dX5_orders_32 : decode cX5_orders 32 = .ok (.if_icmp .ge 56, 3) := by decide +kernel
theorem dX5_orders_35 : decode cX5_orders 35 = .ok (.iconst 0, 1) := by decide +kernel
theorem dX5_orders_36 : decode cX5_orders 36 = .ok (.istore_n 3, 1) := by decide +kernel
theorem dX5_orders_37 : decode cX5_orders 37 = .ok (.iload_n 3, 1) := by decide +kernel
theorem dX5_orders_38 : decode cX5_orders 38 = .ok (.aload_n 0, 1) := by decide +kernel
theorem dX5_orders_39 : decode cX5_orders 39 = .ok (.getfield 16, 3) := by decide +kernel
theorem dX5_orders_42 : decode cX5_orders 42 = .ok (.if_icmp .ge 18, 3) := by decide +kernel
theorem dX5_orders_45 : decode cX5_orders 45 = .ok (.aload_n 0, 1) := by decide +kernel
theorem dX5_orders_46 : decode cX5_orders 46 = .ok (.iload_n 1, 1) := by decide +kernel
theorem dX5_orders_47 : decode cX5_orders 47 = .ok (.iload_n 3, 1) := by decide +kernel
theorem dX5_orders_48 : decode cX5_orders 48 = .ok (.invokevirtual 125, 3) := by decide +kernel
theorem dX5_orders_51 : decode cX5_orders 51 = .ok (.ifCond .ne 9, 3) := by decide +kernel
theorem dX5_orders_54 : decode cX5_orders 54 = .ok (.iinc 3 1, 3) := by decide +kernel
theorem dX5_orders_57 : decode cX5_orders 57 = .ok (.goto (-20), 3) := by decide +kernel
theorem dX5_orders_60 : decode cX5_orders 60 = .ok (.iload_n 3, 1) := by decide +kernel
theorem dX5_orders_61 : decode cX5_orders 61 = .ok (.aload_n 0, 1) := by decide +kernel
theorem dX5_orders_62 : decode cX5_orders 62 = .ok (.getfield 16, 3) := by decide +kernel
theorem dX5_orders_65 : decode cX5_orders 65 = .ok (.if_icmp .ge (-38), 3) := by decide +kernel
theorem dX5_orders_68 : decode cX5_orders 68 = .ok (.aload_n 0, 1) := by decide +kernel
theorem dX5_orders_69 : decode cX5_orders 69 = .ok (.getfield 29, 3) := by decide +kernel
theorem dX5_orders_72 : decode cX5_orders 72 = .ok (.iload_n 3, 1) := by decide +kernel
theorem dX5_orders_73 : decode cX5_orders 73 = .ok (.iconst 1, 1) := by decide +kernel
theorem dX5_orders_74 : decode cX5_orders 74 = .ok (.bastore, 1) := by decide +kernel
theorem dX5_orders_75 : decode cX5_orders 75 = .ok (.aload_n 0, 1) := by decide +kernel
theorem dX5_orders_76 : decode cX5_orders 76 = .ok (.getfield 42, 3) := by decide +kernel
theorem dX5_orders_79 : decode cX5_orders 79 = .ok (.iload_n 2, 1) := by decide +kernel
theorem dX5_orders_80 : decode cX5_orders 80 = .ok (.iload_n 3, 1) := by decide +kernel
theorem dX5_orders_81 : decode cX5_orders 81 = .ok (.iastore, 1) := by decide +kernel
theorem dX5_orders_82 : decode cX5_orders 82 = .ok (.iinc 2 1, 3) := by decide +kernel
theorem dX5_orders_85 : decode cX5_orders 85 = .ok (.goto (-58), 3) := by decide +kernel
theorem dX5_orders_88 : decode cX5_orders 88 = .ok (.iload_n 2, 1) := by decide +kernel
theorem dX5_orders_89 : decode cX5_orders 89 = .ok (.ireturn, 1) := by decide +kernel
theorem dX5_orderAt_0 : decode cX5_orderAt 0 = .ok (.aload_n 0, 1) := by decide +kernel
theorem dX5_orderAt_1 : decode cX5_orderAt 1 = .ok (.iload_n 1, 1) := by decide +kernel
theorem dX5_orderAt_2 : decode cX5_orderAt 2 = .ok (.iload_n 2, 1) := by decide +kernel
theorem dX5_orderAt_3 : decode cX5_orderAt 3 = .ok (.invokevirtual 83, 3) := by decide +kernel
theorem dX5_orderAt_6 : decode cX5_orderAt 6 = .ok (.ifCond .ne 9, 3) := by decide +kernel
theorem dX5_orderAt_9 : decode cX5_orderAt 9 = .ok (.aload_n 0, 1) := by decide +kernel
theorem dX5_orderAt_10 : decode cX5_orderAt 10 = .ok (.iconst 1, 1) := by decide +kernel
theorem dX5_orderAt_11 : decode cX5_orderAt 11 = .ok (.invokevirtual 77, 3) := by decide +kernel
theorem dX5_orderAt_14 : decode cX5_orderAt 14 = .ok (.ireturn, 1) := by decide +kernel
theorem dX5_orderAt_15 : decode cX5_orderAt 15 = .ok (.aload_n 0, 1) := by decide +kernel
theorem dX5_orderAt_16 : decode cX5_orderAt 16 = .ok (.iload_n 1, 1) := by decide +kernel
theorem dX5_orderAt_17 : decode cX5_orderAt 17 = .ok (.invokevirtual 128, 3) := by decide +kernel
theorem dX5_orderAt_20 : decode cX5_orderAt 20 = .ok (.aload_n 0, 1) := by decide +kernel
theorem dX5_orderAt_21 : decode cX5_orderAt 21 = .ok (.getfield 16, 3) := by decide +kernel
theorem dX5_orderAt_24 : decode cX5_orderAt 24 = .ok (.if_icmp .ge 11, 3) := by decide +kernel
theorem dX5_orderAt_27 : decode cX5_orderAt 27 = .ok (.aload_n 0, 1) := by decide +kernel
theorem dX5_orderAt_28 : decode cX5_orderAt 28 = .ok (.iconst 2, 1) := by decide +kernel
theorem dX5_orderAt_29 : decode cX5_orderAt 29 = .ok (.invokevirtual 77, 3) := by decide +kernel
theorem dX5_orderAt_32 : decode cX5_orderAt 32 = .ok (.goto 13, 3) := by decide +kernel
theorem dX5_orderAt_35 : decode cX5_orderAt 35 = .ok (.aload_n 0, 1) := by decide +kernel
theorem dX5_orderAt_36 : decode cX5_orderAt 36 = .ok (.aload_n 0, 1) := by decide +kernel
theorem dX5_orderAt_37 : decode cX5_orderAt 37 = .ok (.getfield 42, 3) := by decide +kernel
theorem dX5_orderAt_40 : decode cX5_orderAt 40 = .ok (.iload_n 2, 1) := by decide +kernel
theorem dX5_orderAt_41 : decode cX5_orderAt 41 = .ok (.iaload, 1) := by decide +kernel
theorem dX5_orderAt_42 : decode cX5_orderAt 42 = .ok (.invokevirtual 80, 3) := by decide +kernel
theorem dX5_orderAt_45 : decode cX5_orderAt 45 = .ok (.ireturn, 1) := by decide +kernel
theorem dX5_longestWalk_0 : decode cX5_longestWalk 0 = .ok (.iload_n 1, 1) := by decide +kernel
theorem dX5_longestWalk_1 : decode cX5_longestWalk 1 = .ok (.invokestatic 55, 3) := by decide +kernel
theorem dX5_longestWalk_4 : decode cX5_longestWalk 4 = .ok (.ifCond .ne 9, 3) := by decide +kernel
theorem dX5_longestWalk_7 : decode cX5_longestWalk 7 = .ok (.aload_n 0, 1) := by decide +kernel
theorem dX5_longestWalk_8 : decode cX5_longestWalk 8 = .ok (.iconst 1, 1) := by decide +kernel
theorem dX5_longestWalk_9 : decode cX5_longestWalk 9 = .ok (.invokevirtual 77, 3) := by decide +kernel
theorem dX5_longestWalk_12 : decode cX5_longestWalk 12 = .ok (.ireturn, 1) := by decide +kernel
theorem dX5_longestWalk_13 : decode cX5_longestWalk 13 = .ok (.aload_n 0, 1) := by decide +kernel
theorem dX5_longestWalk_14 : decode cX5_longestWalk 14 = .ok (.iload_n 1, 1) := by decide +kernel
theorem dX5_longestWalk_15 : decode cX5_longestWalk 15 = .ok (.invokevirtual 128, 3) := by decide +kernel
theorem dX5_longestWalk_18 : decode cX5_longestWalk 18 = .ok (.aload_n 0, 1) := by decide +kernel
theorem dX5_longestWalk_19 : decode cX5_longestWalk 19 = .ok (.getfield 16, 3) := by decide +kernel
theorem dX5_longestWalk_22 : decode cX5_longestWalk 22 = .ok (.if_icmp .ge 9, 3) := by decide +kernel
theorem dX5_longestWalk_25 : decode cX5_longestWalk 25 = .ok (.aload_n 0, 1) := by decide +kernel
theorem dX5_longestWalk_26 : decode cX5_longestWalk 26 = .ok (.iconst 2, 1) := by decide +kernel
theorem dX5_longestWalk_27 : decode cX5_longestWalk 27 = .ok (.invokevirtual 77, 3) := by decide +kernel
theorem dX5_longestWalk_30 : decode cX5_longestWalk 30 = .ok (.ireturn, 1) := by decide +kernel
theorem dX5_longestWalk_31 : decode cX5_longestWalk 31 = .ok (.iconst 0, 1) := by decide +kernel
theorem dX5_longestWalk_32 : decode cX5_longestWalk 32 = .ok (.istore_n 2, 1) := by decide +kernel
theorem dX5_longestWalk_33 : decode cX5_longestWalk 33 = .ok (.iconst 0, 1) := by decide +kernel
theorem dX5_longestWalk_34 : decode cX5_longestWalk 34 = .ok (.istore_n 3, 1) := by decide +kernel
theorem dX5_longestWalk_35 : decode cX5_longestWalk 35 = .ok (.iload_n 3, 1) := by decide +kernel
theorem dX5_longestWalk_36 : decode cX5_longestWalk 36 = .ok (.aload_n 0, 1) := by decide +kernel
theorem dX5_longestWalk_37 : decode cX5_longestWalk 37 = .ok (.getfield 16, 3) := by decide +kernel
theorem dX5_longestWalk_40 : decode cX5_longestWalk 40 = .ok (.if_icmp .ge 119, 3) := by decide +kernel
theorem dX5_longestWalk_43 : decode cX5_longestWalk 43 = .ok (.aload_n 0, 1) := by decide +kernel
theorem dX5_longestWalk_44 : decode cX5_longestWalk 44 = .ok (.getfield 42, 3) := by decide +kernel
theorem dX5_longestWalk_47 : decode cX5_longestWalk 47 = .ok (.iload_n 3, 1) := by decide +kernel
theorem dX5_longestWalk_48 : decode cX5_longestWalk 48 = .ok (.iaload, 1) := by decide +kernel
theorem dX5_longestWalk_49 : decode cX5_longestWalk 49 = .ok (.istore 4, 2) := by decide +kernel
theorem dX5_longestWalk_51 : decode cX5_longestWalk 51 = .ok (.aload_n 0, 1) := by decide +kernel
theorem dX5_longestWalk_52 : decode cX5_longestWalk 52 = .ok (.getfield 45, 3) := by decide +kernel
theorem dX5_longestWalk_55 : decode cX5_longestWalk 55 = .ok (.iload 4, 2) := by decide +kernel
theorem dX5_longestWalk_57 : decode cX5_longestWalk 57 = .ok (.iconst 0, 1) := by decide +kernel
theorem dX5_longestWalk_58 : decode cX5_longestWalk 58 = .ok (.iastore, 1) := by decide +kernel
theorem dX5_longestWalk_59 : decode cX5_longestWalk 59 = .ok (.iconst 0, 1) := by decide +kernel
theorem dX5_longestWalk_60 : decode cX5_longestWalk 60 = .ok (.istore 5, 2) := by decide +kernel
theorem dX5_longestWalk_62 : decode cX5_longestWalk 62 = .ok (.iload 5, 2) := by decide +kernel
theorem dX5_longestWalk_64 : decode cX5_longestWalk 64 = .ok (.iload_n 3, 1) := by decide +kernel
theorem dX5_longestWalk_65 : decode cX5_longestWalk 65 = .ok (.if_icmp .ge 65, 3) := by decide +kernel
theorem dX5_longestWalk_68 : decode cX5_longestWalk 68 = .ok (.aload_n 0, 1) := by decide +kernel
theorem dX5_longestWalk_69 : decode cX5_longestWalk 69 = .ok (.getfield 42, 3) := by decide +kernel
theorem dX5_longestWalk_72 : decode cX5_longestWalk 72 = .ok (.iload 5, 2) := by decide +kernel
theorem dX5_longestWalk_74 : decode cX5_longestWalk 74 = .ok (.iaload, 1) := by decide +kernel
theorem dX5_longestWalk_75 : decode cX5_longestWalk 75 = .ok (.istore 6, 2) := by decide +kernel
theorem dX5_longestWalk_77 : decode cX5_longestWalk 77 = .ok (.aload_n 0, 1) := by decide +kernel
theorem dX5_longestWalk_78 : decode cX5_longestWalk 78 = .ok (.iload_n 1, 1) := by decide +kernel
theorem dX5_longestWalk_79 : decode cX5_longestWalk 79 = .ok (.iload 6, 2) := by decide +kernel
theorem dX5_longestWalk_81 : decode cX5_longestWalk 81 = .ok (.iload 4, 2) := by decide +kernel
theorem dX5_longestWalk_83 : decode cX5_longestWalk 83 = .ok (.invokevirtual 66, 3) := by decide +kernel
theorem dX5_longestWalk_86 : decode cX5_longestWalk 86 = .ok (.ifCond .eq 38, 3) := by decide +kernel
theorem dX5_longestWalk_89 : decode cX5_longestWalk 89 = .ok (.aload_n 0, 1) := by decide +kernel
theorem dX5_longestWalk_90 : decode cX5_longestWalk 90 = .ok (.getfield 45, 3) := by decide +kernel
theorem dX5_longestWalk_93 : decode cX5_longestWalk 93 = .ok (.iload 6, 2) := by decide +kernel
theorem dX5_longestWalk_95 : decode cX5_longestWalk 95 = .ok (.iaload, 1) := by decide +kernel
theorem dX5_longestWalk_96 : decode cX5_longestWalk 96 = .ok (.iconst 1, 1) := by decide +kernel
theorem dX5_longestWalk_97 : decode cX5_longestWalk 97 = .ok (.iadd, 1) := by decide +kernel
theorem dX5_longestWalk_98 : decode cX5_longestWalk 98 = .ok (.aload_n 0, 1) := by decide +kernel
theorem dX5_longestWalk_99 : decode cX5_longestWalk 99 = .ok (.getfield 45, 3) := by decide +kernel
theorem dX5_longestWalk_102 : decode cX5_longestWalk 102 = .ok (.iload 4, 2) := by decide +kernel
theorem dX5_longestWalk_104 : decode cX5_longestWalk 104 = .ok (.iaload, 1) := by decide +kernel
theorem dX5_longestWalk_105 : decode cX5_longestWalk 105 = .ok (.if_icmp .le 19, 3) := by decide +kernel
theorem dX5_longestWalk_108 : decode cX5_longestWalk 108 = .ok (.aload_n 0, 1) := by decide +kernel
theorem dX5_longestWalk_109 : decode cX5_longestWalk 109 = .ok (.getfield 45, 3) := by decide +kernel
theorem dX5_longestWalk_112 : decode cX5_longestWalk 112 = .ok (.iload 4, 2) := by decide +kernel
theorem dX5_longestWalk_114 : decode cX5_longestWalk 114 = .ok (.aload_n 0, 1) := by decide +kernel
theorem dX5_longestWalk_115 : decode cX5_longestWalk 115 = .ok (.getfield 45, 3) := by decide +kernel
theorem dX5_longestWalk_118 : decode cX5_longestWalk 118 = .ok (.iload 6, 2) := by decide +kernel
theorem dX5_longestWalk_120 : decode cX5_longestWalk 120 = .ok (.iaload, 1) := by decide +kernel
theorem dX5_longestWalk_121 : decode cX5_longestWalk 121 = .ok (.iconst 1, 1) := by decide +kernel
theorem dX5_longestWalk_122 : decode cX5_longestWalk 122 = .ok (.iadd, 1) := by decide +kernel
theorem dX5_longestWalk_123 : decode cX5_longestWalk 123 = .ok (.iastore, 1) := by decide +kernel
theorem dX5_longestWalk_124 : decode cX5_longestWalk 124 = .ok (.iinc 5 1, 3) := by decide +kernel
theorem dX5_longestWalk_127 : decode cX5_longestWalk 127 = .ok (.goto (-65), 3) := by decide +kernel
theorem dX5_longestWalk_130 : decode cX5_longestWalk 130 = .ok (.aload_n 0, 1) := by decide +kernel
theorem dX5_longestWalk_131 : decode cX5_longestWalk 131 = .ok (.getfield 45, 3) := by decide +kernel
theorem dX5_longestWalk_134 : decode cX5_longestWalk 134 = .ok (.iload 4, 2) := by decide +kernel
theorem dX5_longestWalk_136 : decode cX5_longestWalk 136 = .ok (.iaload, 1) := by decide +kernel
theorem dX5_longestWalk_137 : decode cX5_longestWalk 137 = .ok (.iload_n 2, 1) := by decide +kernel
theorem dX5_longestWalk_138 : decode cX5_longestWalk 138 = .ok (.if_icmp .le 13, 3) := by decide +kernel
theorem dX5_longestWalk_141 : decode cX5_longestWalk 141 = .ok (.aload_n 0, 1) := by decide +kernel
theorem dX5_longestWalk_142 : decode cX5_longestWalk 142 = .ok (.getfield 45, 3) := by decide +kernel
theorem dX5_longestWalk_145 : decode cX5_longestWalk 145 = .ok (.iload 4, 2) := by decide +kernel
theorem dX5_longestWalk_147 : decode cX5_longestWalk 147 = .ok (.iaload, 1) := by decide +kernel
theorem dX5_longestWalk_148 : decode cX5_longestWalk 148 = .ok (.goto 4, 3) := by decide +kernel
theorem dX5_longestWalk_151 : decode cX5_longestWalk 151 = .ok (.iload_n 2, 1) := by decide +kernel
theorem dX5_longestWalk_152 : decode cX5_longestWalk 152 = .ok (.istore_n 2, 1) := by decide +kernel
theorem dX5_longestWalk_153 : decode cX5_longestWalk 153 = .ok (.iinc 3 1, 3) := by decide +kernel
theorem dX5_longestWalk_156 : decode cX5_longestWalk 156 = .ok (.goto (-121), 3) := by decide +kernel
theorem dX5_longestWalk_159 : decode cX5_longestWalk 159 = .ok (.aload_n 0, 1) := by decide +kernel
theorem dX5_longestWalk_160 : decode cX5_longestWalk 160 = .ok (.iload_n 2, 1) := by decide +kernel
theorem dX5_longestWalk_161 : decode cX5_longestWalk 161 = .ok (.invokevirtual 80, 3) := by decide +kernel
theorem dX5_longestWalk_164 : decode cX5_longestWalk 164 = .ok (.ireturn, 1) := by decide +kernel
theorem dX5_marks_0 : decode cX5_marks 0 = .ok (.iconst 0, 1) := by decide +kernel
theorem dX5_marks_1 : decode cX5_marks 1 = .ok (.istore_n 1, 1) := by decide +kernel
theorem dX5_marks_2 : decode cX5_marks 2 = .ok (.iconst 0, 1) := by decide +kernel
theorem dX5_marks_3 : decode cX5_marks 3 = .ok (.istore_n 2, 1) := by decide +kernel
theorem dX5_marks_4 : decode cX5_marks 4 = .ok (.iload_n 2, 1) := by decide +kernel
theorem dX5_marks_5 : decode cX5_marks 5 = .ok (.aload_n 0, 1) := by decide +kernel
theorem dX5_marks_6 : decode cX5_marks 6 = .ok (.getfield 16, 3) := by decide +kernel
theorem dX5_marks_9 : decode cX5_marks 9 = .ok (.if_icmp .ge 26, 3) := by decide +kernel
theorem dX5_marks_12 : decode cX5_marks 12 = .ok (.iload_n 1, 1) := by decide +kernel
theorem dX5_marks_13 : decode cX5_marks 13 = .ok (.aload_n 0, 1) := by decide +kernel
theorem dX5_marks_14 : decode cX5_marks 14 = .ok (.getfield 13, 3) := by decide +kernel
theorem dX5_marks_17 : decode cX5_marks 17 = .ok (.iload_n 2, 1) := by decide +kernel
theorem dX5_marks_18 : decode cX5_marks 18 = .ok (.baload, 1) := by decide +kernel
theorem dX5_marks_19 : decode cX5_marks 19 = .ok (.ifCond .eq 7, 3) := by decide +kernel
theorem dX5_marks_22 : decode cX5_marks 22 = .ok (.iconst 1, 1) := by decide +kernel
theorem dX5_marks_23 : decode cX5_marks 23 = .ok (.goto 4, 3) := by decide +kernel
theorem dX5_marks_26 : decode cX5_marks 26 = .ok (.iconst 0, 1) := by decide +kernel
theorem dX5_marks_27 : decode cX5_marks 27 = .ok (.iadd, 1) := by decide +kernel
theorem dX5_marks_28 : decode cX5_marks 28 = .ok (.istore_n 1, 1) := by decide +kernel
theorem dX5_marks_29 : decode cX5_marks 29 = .ok (.iinc 2 1, 3) := by decide +kernel
theorem dX5_marks_32 : decode cX5_marks 32 = .ok (.goto (-28), 3) := by decide +kernel
theorem dX5_marks_35 : decode cX5_marks 35 = .ok (.iload_n 1, 1) := by decide +kernel
theorem dX5_marks_36 : decode cX5_marks 36 = .ok (.ireturn, 1) := by decide +kernel
theorem dX5_mark_0 : decode cX5_mark 0 = .ok (.aload_n 0, 1) := by decide +kernel
theorem dX5_mark_1 : decode cX5_mark 1 = .ok (.iload_n 1, 1) := by decide +kernel
theorem dX5_mark_2 : decode cX5_mark 2 = .ok (.iload_n 2, 1) := by decide +kernel
theorem dX5_mark_3 : decode cX5_mark 3 = .ok (.invokevirtual 94, 3) := by decide +kernel
theorem dX5_mark_6 : decode cX5_mark 6 = .ok (.ifCond .ne 9, 3) := by decide +kernel
theorem dX5_mark_9 : decode cX5_mark 9 = .ok (.aload_n 0, 1) := by decide +kernel
theorem dX5_mark_10 : decode cX5_mark 10 = .ok (.iconst 1, 1) := by decide +kernel
theorem dX5_mark_11 : decode cX5_mark 11 = .ok (.invokevirtual 77, 3) := by decide +kernel
theorem dX5_mark_14 : decode cX5_mark 14 = .ok (.ireturn, 1) := by decide +kernel
theorem dX5_mark_15 : decode cX5_mark 15 = .ok (.iload_n 1, 1) := by decide +kernel
theorem dX5_mark_16 : decode cX5_mark 16 = .ok (.istore 4, 2) := by decide +kernel
theorem dX5_mark_18 : decode cX5_mark 18 = .ok (.iload 4, 2) := by decide +kernel
theorem dX5_mark_20 : decode cX5_mark 20 = .ok (.iload_n 2, 1) := by decide +kernel
theorem dX5_mark_21 : decode cX5_mark 21 = .ok (.if_icmp .ge 17, 3) := by decide +kernel
theorem dX5_mark_24 : decode cX5_mark 24 = .ok (.aload_n 0, 1) := by decide +kernel
theorem dX5_mark_25 : decode cX5_mark 25 = .ok (.getfield 13, 3) := by decide +kernel
theorem dX5_mark_28 : decode cX5_mark 28 = .ok (.iload 4, 2) := by decide +kernel
theorem dX5_mark_30 : decode cX5_mark 30 = .ok (.iload_n 3, 1) := by decide +kernel
theorem dX5_mark_31 : decode cX5_mark 31 = .ok (.bastore, 1) := by decide +kernel
theorem dX5_mark_32 : decode cX5_mark 32 = .ok (.iinc 4 1, 3) := by decide +kernel
theorem dX5_mark_35 : decode cX5_mark 35 = .ok (.goto (-17), 3) := by decide +kernel
theorem dX5_mark_38 : decode cX5_mark 38 = .ok (.aload_n 0, 1) := by decide +kernel
theorem dX5_mark_39 : decode cX5_mark 39 = .ok (.aload_n 0, 1) := by decide +kernel
theorem dX5_mark_40 : decode cX5_mark 40 = .ok (.invokevirtual 131, 3) := by decide +kernel
theorem dX5_mark_43 : decode cX5_mark 43 = .ok (.invokevirtual 80, 3) := by decide +kernel
theorem dX5_mark_46 : decode cX5_mark 46 = .ok (.ireturn, 1) := by decide +kernel
theorem dX5_spread_0 : decode cX5_spread 0 = .ok (.iload_n 1, 1) := by decide +kernel
theorem dX5_spread_1 : decode cX5_spread 1 = .ok (.invokestatic 55, 3) := by decide +kernel
theorem dX5_spread_4 : decode cX5_spread 4 = .ok (.ifCond .ne 9, 3) := by decide +kernel
theorem dX5_spread_7 : decode cX5_spread 7 = .ok (.aload_n 0, 1) := by decide +kernel
theorem dX5_spread_8 : decode cX5_spread 8 = .ok (.iconst 1, 1) := by decide +kernel
theorem dX5_spread_9 : decode cX5_spread 9 = .ok (.invokevirtual 77, 3) := by decide +kernel
theorem dX5_spread_12 : decode cX5_spread 12 = .ok (.ireturn, 1) := by decide +kernel
theorem dX5_spread_13 : decode cX5_spread 13 = .ok (.iconst 0, 1) := by decide +kernel
theorem dX5_spread_14 : decode cX5_spread 14 = .ok (.istore_n 3, 1) := by decide +kernel
theorem dX5_spread_15 : decode cX5_spread 15 = .ok (.iload_n 3, 1) := by decide +kernel
theorem dX5_spread_16 : decode cX5_spread 16 = .ok (.aload_n 0, 1) := by decide +kernel
theorem dX5_spread_17 : decode cX5_spread 17 = .ok (.getfield 16, 3) := by decide +kernel
theorem dX5_spread_20 : decode cX5_spread 20 = .ok (.if_icmp .ge 21, 3) := by decide +kernel
theorem dX5_spread_23 : decode cX5_spread 23 = .ok (.aload_n 0, 1) := by decide +kernel
theorem dX5_spread_24 : decode cX5_spread 24 = .ok (.getfield 32, 3) := by decide +kernel
theorem dX5_spread_27 : decode cX5_spread 27 = .ok (.iload_n 3, 1) := by decide +kernel
theorem dX5_spread_28 : decode cX5_spread 28 = .ok (.aload_n 0, 1) := by decide +kernel
theorem dX5_spread_29 : decode cX5_spread 29 = .ok (.getfield 13, 3) := by decide +kernel
theorem dX5_spread_32 : decode cX5_spread 32 = .ok (.iload_n 3, 1) := by decide +kernel
theorem dX5_spread_33 : decode cX5_spread 33 = .ok (.baload, 1) := by decide +kernel
theorem dX5_spread_34 : decode cX5_spread 34 = .ok (.bastore, 1) := by decide +kernel
theorem dX5_spread_35 : decode cX5_spread 35 = .ok (.iinc 3 1, 3) := by decide +kernel
theorem dX5_spread_38 : decode cX5_spread 38 = .ok (.goto (-23), 3) := by decide +kernel
theorem dX5_spread_41 : decode cX5_spread 41 = .ok (.iconst 0, 1) := by decide +kernel
theorem dX5_spread_42 : decode cX5_spread 42 = .ok (.istore_n 3, 1) := by decide +kernel
theorem dX5_spread_43 : decode cX5_spread 43 = .ok (.iload_n 3, 1) := by decide +kernel
theorem dX5_spread_44 : decode cX5_spread 44 = .ok (.aload_n 0, 1) := by decide +kernel
theorem dX5_spread_45 : decode cX5_spread 45 = .ok (.getfield 16, 3) := by decide +kernel
theorem dX5_spread_48 : decode cX5_spread 48 = .ok (.if_icmp .ge 88, 3) := by decide +kernel
theorem dX5_spread_51 : decode cX5_spread 51 = .ok (.iload_n 2, 1) := by decide +kernel
theorem dX5_spread_52 : decode cX5_spread 52 = .ok (.ifCond .eq 16, 3) := by decide +kernel
theorem dX5_spread_55 : decode cX5_spread 55 = .ok (.aload_n 0, 1) := by decide +kernel
theorem dX5_spread_56 : decode cX5_spread 56 = .ok (.getfield 32, 3) := by decide +kernel
theorem dX5_spread_59 : decode cX5_spread 59 = .ok (.iload_n 3, 1) := by decide +kernel
theorem dX5_spread_60 : decode cX5_spread 60 = .ok (.baload, 1) := by decide +kernel
theorem dX5_spread_61 : decode cX5_spread 61 = .ok (.ifCond .eq 7, 3) := by decide +kernel
theorem dX5_spread_64 : decode cX5_spread 64 = .ok (.iconst 1, 1) := by decide +kernel
theorem dX5_spread_65 : decode cX5_spread 65 = .ok (.goto 4, 3) := by decide +kernel
theorem dX5_spread_68 : decode cX5_spread 68 = .ok (.iconst 0, 1) := by decide +kernel
theorem dX5_spread_69 : decode cX5_spread 69 = .ok (.istore 4, 2) := by decide +kernel
theorem dX5_spread_71 : decode cX5_spread 71 = .ok (.iconst 0, 1) := by decide +kernel
theorem dX5_spread_72 : decode cX5_spread 72 = .ok (.istore 5, 2) := by decide +kernel
theorem dX5_spread_74 : decode cX5_spread 74 = .ok (.iload 5, 2) := by decide +kernel
theorem dX5_spread_76 : decode cX5_spread 76 = .ok (.aload_n 0, 1) := by decide +kernel
theorem dX5_spread_77 : decode cX5_spread 77 = .ok (.getfield 16, 3) := by decide +kernel
theorem dX5_spread_80 : decode cX5_spread 80 = .ok (.if_icmp .ge 42, 3) := by decide +kernel
theorem dX5_spread_83 : decode cX5_spread 83 = .ok (.iload 4, 2) := by decide +kernel
theorem dX5_spread_85 : decode cX5_spread 85 = .ok (.ifCond .ne 24, 3) := by decide +kernel
theorem dX5_spread_88 : decode cX5_spread 88 = .ok (.aload_n 0, 1) := by decide +kernel
theorem dX5_spread_89 : decode cX5_spread 89 = .ok (.getfield 32, 3) := by decide +kernel
theorem dX5_spread_92 : decode cX5_spread 92 = .ok (.iload 5, 2) := by decide +kernel
theorem dX5_spread_94 : decode cX5_spread 94 = .ok (.baload, 1) := by decide +kernel
theorem dX5_spread_95 : decode cX5_spread 95 = .ok (.ifCond .eq 18, 3) := by decide +kernel
theorem dX5_spread_98 : decode cX5_spread 98 = .ok (.aload_n 0, 1) := by decide +kernel
theorem dX5_spread_99 : decode cX5_spread 99 = .ok (.iload_n 1, 1) := by decide +kernel
theorem dX5_spread_100 : decode cX5_spread 100 = .ok (.iload 5, 2) := by decide +kernel
theorem dX5_spread_102 : decode cX5_spread 102 = .ok (.iload_n 3, 1) := by decide +kernel
theorem dX5_spread_103 : decode cX5_spread 103 = .ok (.invokevirtual 66, 3) := by decide +kernel
theorem dX5_spread_106 : decode cX5_spread 106 = .ok (.ifCond .eq 7, 3) := by decide +kernel
theorem dX5_spread_109 : decode cX5_spread 109 = .ok (.iconst 1, 1) := by decide +kernel
theorem dX5_spread_110 : decode cX5_spread 110 = .ok (.goto 4, 3) := by decide +kernel
theorem dX5_spread_113 : decode cX5_spread 113 = .ok (.iconst 0, 1) := by decide +kernel
theorem dX5_spread_114 : decode cX5_spread 114 = .ok (.istore 4, 2) := by decide +kernel
theorem dX5_spread_116 : decode cX5_spread 116 = .ok (.iinc 5 1, 3) := by decide +kernel
theorem dX5_spread_119 : decode cX5_spread 119 = .ok (.goto (-45), 3) := by decide +kernel
theorem dX5_spread_122 : decode cX5_spread 122 = .ok (.aload_n 0, 1) := by decide +kernel
theorem dX5_spread_123 : decode cX5_spread 123 = .ok (.getfield 13, 3) := by decide +kernel
theorem dX5_spread_126 : decode cX5_spread 126 = .ok (.iload_n 3, 1) := by decide +kernel
theorem dX5_spread_127 : decode cX5_spread 127 = .ok (.iload 4, 2) := by decide +kernel
theorem dX5_spread_129 : decode cX5_spread 129 = .ok (.bastore, 1) := by decide +kernel
theorem dX5_spread_130 : decode cX5_spread 130 = .ok (.iinc 3 1, 3) := by decide +kernel
theorem dX5_spread_133 : decode cX5_spread 133 = .ok (.goto (-90), 3) := by decide +kernel
theorem dX5_spread_136 : decode cX5_spread 136 = .ok (.aload_n 0, 1) := by decide +kernel
theorem dX5_spread_137 : decode cX5_spread 137 = .ok (.aload_n 0, 1) := by decide +kernel
theorem dX5_spread_138 : decode cX5_spread 138 = .ok (.invokevirtual 131, 3) := by decide +kernel
theorem dX5_spread_141 : decode cX5_spread 141 = .ok (.invokevirtual 80, 3) := by decide +kernel
theorem dX5_spread_144 : decode cX5_spread 144 = .ok (.ireturn, 1) := by decide +kernel
theorem dX5_markedAt_0 : decode cX5_markedAt 0 = .ok (.iload_n 1, 1) := by decide +kernel
theorem dX5_markedAt_1 : decode cX5_markedAt 1 = .ok (.istore_n 2, 1) := by decide +kernel
theorem dX5_markedAt_2 : decode cX5_markedAt 2 = .ok (.iconst 0, 1) := by decide +kernel
theorem dX5_markedAt_3 : decode cX5_markedAt 3 = .ok (.istore_n 3, 1) := by decide +kernel
theorem dX5_markedAt_4 : decode cX5_markedAt 4 = .ok (.iload_n 3, 1) := by decide +kernel
theorem dX5_markedAt_5 : decode cX5_markedAt 5 = .ok (.aload_n 0, 1) := by decide +kernel
theorem dX5_markedAt_6 : decode cX5_markedAt 6 = .ok (.getfield 16, 3) := by decide +kernel
theorem dX5_markedAt_9 : decode cX5_markedAt 9 = .ok (.if_icmp .ge 35, 3) := by decide +kernel
theorem dX5_markedAt_12 : decode cX5_markedAt 12 = .ok (.iload_n 1, 1) := by decide +kernel
theorem dX5_markedAt_13 : decode cX5_markedAt 13 = .ok (.ifCond .lt 31, 3) := by decide +kernel
theorem dX5_markedAt_16 : decode cX5_markedAt 16 = .ok (.aload_n 0, 1) := by decide +kernel
theorem dX5_markedAt_17 : decode cX5_markedAt 17 = .ok (.getfield 13, 3) := by decide +kernel
theorem dX5_markedAt_20 : decode cX5_markedAt 20 = .ok (.iload_n 3, 1) := by decide +kernel
theorem dX5_markedAt_21 : decode cX5_markedAt 21 = .ok (.baload, 1) := by decide +kernel
theorem dX5_markedAt_22 : decode cX5_markedAt 22 = .ok (.ifCond .eq 16, 3) := by decide +kernel
theorem dX5_markedAt_25 : decode cX5_markedAt 25 = .ok (.iload_n 2, 1) := by decide +kernel
theorem dX5_markedAt_26 : decode cX5_markedAt 26 = .ok (.ifCond .ne 9, 3) := by decide +kernel
theorem dX5_markedAt_29 : decode cX5_markedAt 29 = .ok (.aload_n 0, 1) := by decide +kernel
theorem dX5_markedAt_30 : decode cX5_markedAt 30 = .ok (.iload_n 3, 1) := by decide +kernel
theorem dX5_markedAt_31 : decode cX5_markedAt 31 = .ok (.invokevirtual 80, 3) := by decide +kernel
theorem dX5_markedAt_34 : decode cX5_markedAt 34 = .ok (.ireturn, 1) := by decide +kernel
theorem dX5_markedAt_35 : decode cX5_markedAt 35 = .ok (.iinc 2 (-1), 3) := by decide +kernel
theorem dX5_markedAt_38 : decode cX5_markedAt 38 = .ok (.iinc 3 1, 3) := by decide +kernel
theorem dX5_markedAt_41 : decode cX5_markedAt 41 = .ok (.goto (-37), 3) := by decide +kernel
theorem dX5_markedAt_44 : decode cX5_markedAt 44 = .ok (.aload_n 0, 1) := by decide +kernel
theorem dX5_markedAt_45 : decode cX5_markedAt 45 = .ok (.iconst 1, 1) := by decide +kernel
theorem dX5_markedAt_46 : decode cX5_markedAt 46 = .ok (.invokevirtual 77, 3) := by decide +kernel
theorem dX5_markedAt_49 : decode cX5_markedAt 49 = .ok (.ireturn, 1) := by decide +kernel
theorem dX5_endOfMarks_0 : decode cX5_endOfMarks 0 = .ok (.iconst 0, 1) := by decide +kernel
theorem dX5_endOfMarks_1 : decode cX5_endOfMarks 1 = .ok (.istore_n 1, 1) := by decide +kernel
theorem dX5_endOfMarks_2 : decode cX5_endOfMarks 2 = .ok (.iconst 0, 1) := by decide +kernel
theorem dX5_endOfMarks_3 : decode cX5_endOfMarks 3 = .ok (.istore_n 2, 1) := by decide +kernel
theorem dX5_endOfMarks_4 : decode cX5_endOfMarks 4 = .ok (.iload_n 2, 1) := by decide +kernel
theorem dX5_endOfMarks_5 : decode cX5_endOfMarks 5 = .ok (.aload_n 0, 1) := by decide +kernel
theorem dX5_endOfMarks_6 : decode cX5_endOfMarks 6 = .ok (.getfield 16, 3) := by decide +kernel
theorem dX5_endOfMarks_9 : decode cX5_endOfMarks 9 = .ok (.if_icmp .ge 26, 3) := by decide +kernel
theorem dX5_endOfMarks_12 : decode cX5_endOfMarks 12 = .ok (.aload_n 0, 1) := by decide +kernel
theorem dX5_endOfMarks_13 : decode cX5_endOfMarks 13 = .ok (.getfield 13, 3) := by decide +kernel
theorem dX5_endOfMarks_16 : decode cX5_endOfMarks 16 = .ok (.iload_n 2, 1) := by decide +kernel
theorem dX5_endOfMarks_17 : decode cX5_endOfMarks 17 = .ok (.baload, 1) := by decide +kernel
theorem dX5_endOfMarks_18 : decode cX5_endOfMarks 18 = .ok (.ifCond .eq 9, 3) := by decide +kernel
theorem dX5_endOfMarks_21 : decode cX5_endOfMarks 21 = .ok (.iload_n 2, 1) := by decide +kernel
theorem dX5_endOfMarks_22 : decode cX5_endOfMarks 22 = .ok (.iconst 1, 1) := by decide +kernel
theorem dX5_endOfMarks_23 : decode cX5_endOfMarks 23 = .ok (.iadd, 1) := by decide +kernel
theorem dX5_endOfMarks_24 : decode cX5_endOfMarks 24 = .ok (.goto 4, 3) := by decide +kernel
theorem dX5_endOfMarks_27 : decode cX5_endOfMarks 27 = .ok (.iload_n 1, 1) := by decide +kernel
theorem dX5_endOfMarks_28 : decode cX5_endOfMarks 28 = .ok (.istore_n 1, 1) := by decide +kernel
theorem dX5_endOfMarks_29 : decode cX5_endOfMarks 29 = .ok (.iinc 2 1, 3) := by decide +kernel
theorem dX5_endOfMarks_32 : decode cX5_endOfMarks 32 = .ok (.goto (-28), 3) := by decide +kernel
theorem dX5_endOfMarks_35 : decode cX5_endOfMarks 35 = .ok (.aload_n 0, 1) := by decide +kernel
theorem dX5_endOfMarks_36 : decode cX5_endOfMarks 36 = .ok (.iload_n 1, 1) := by decide +kernel
theorem dX5_endOfMarks_37 : decode cX5_endOfMarks 37 = .ok (.invokevirtual 80, 3) := by decide +kernel
theorem dX5_endOfMarks_40 : decode cX5_endOfMarks 40 = .ok (.ireturn, 1) := by decide +kernel
theorem dX5_meanRow_0 : decode cX5_meanRow 0 = .ok (.aload_n 0, 1) := by decide +kernel
theorem dX5_meanRow_1 : decode cX5_meanRow 1 = .ok (.iload_n 1, 1) := by decide +kernel
theorem dX5_meanRow_2 : decode cX5_meanRow 2 = .ok (.invokestatic 55, 3) := by decide +kernel
theorem dX5_meanRow_5 : decode cX5_meanRow 5 = .ok (.ifCond .eq 7, 3) := by decide +kernel
theorem dX5_meanRow_8 : decode cX5_meanRow 8 = .ok (.iconst 0, 1) := by decide +kernel
theorem dX5_meanRow_9 : decode cX5_meanRow 9 = .ok (.goto 4, 3) := by decide +kernel
theorem dX5_meanRow_12 : decode cX5_meanRow 12 = .ok (.iconst 1, 1) := by decide +kernel
theorem dX5_meanRow_13 : decode cX5_meanRow 13 = .ok (.putfield 48, 3) := by decide +kernel
theorem dX5_meanRow_16 : decode cX5_meanRow 16 = .ok (.aload_n 0, 1) := by decide +kernel
theorem dX5_meanRow_17 : decode cX5_meanRow 17 = .ok (.getfield 48, 3) := by decide +kernel
theorem dX5_meanRow_20 : decode cX5_meanRow 20 = .ok (.ifCond .eq 7, 3) := by decide +kernel
theorem dX5_meanRow_23 : decode cX5_meanRow 23 = .ok (.dconst 0, 1) := by decide +kernel
theorem dX5_meanRow_24 : decode cX5_meanRow 24 = .ok (.goto 15, 3) := by decide +kernel
theorem dX5_meanRow_27 : decode cX5_meanRow 27 = .ok (.aload_n 0, 1) := by decide +kernel
theorem dX5_meanRow_28 : decode cX5_meanRow 28 = .ok (.iload_n 1, 1) := by decide +kernel
theorem dX5_meanRow_29 : decode cX5_meanRow 29 = .ok (.invokevirtual 73, 3) := by decide +kernel
theorem dX5_meanRow_32 : decode cX5_meanRow 32 = .ok (.i2d, 1) := by decide +kernel
theorem dX5_meanRow_33 : decode cX5_meanRow 33 = .ok (.aload_n 0, 1) := by decide +kernel
theorem dX5_meanRow_34 : decode cX5_meanRow 34 = .ok (.getfield 16, 3) := by decide +kernel
theorem dX5_meanRow_37 : decode cX5_meanRow 37 = .ok (.i2d, 1) := by decide +kernel
theorem dX5_meanRow_38 : decode cX5_meanRow 38 = .ok (.ddiv, 1) := by decide +kernel
theorem dX5_meanRow_39 : decode cX5_meanRow 39 = .ok (.dreturn, 1) := by decide +kernel
theorem dX5_share_0 : decode cX5_share 0 = .ok (.aload_n 0, 1) := by decide +kernel
theorem dX5_share_1 : decode cX5_share 1 = .ok (.iload_n 1, 1) := by decide +kernel
theorem dX5_share_2 : decode cX5_share 2 = .ok (.invokestatic 55, 3) := by decide +kernel
theorem dX5_share_5 : decode cX5_share 5 = .ok (.ifCond .eq 7, 3) := by decide +kernel
theorem dX5_share_8 : decode cX5_share 8 = .ok (.iconst 0, 1) := by decide +kernel
theorem dX5_share_9 : decode cX5_share 9 = .ok (.goto 4, 3) := by decide +kernel
theorem dX5_share_12 : decode cX5_share 12 = .ok (.iconst 1, 1) := by decide +kernel
theorem dX5_share_13 : decode cX5_share 13 = .ok (.putfield 48, 3) := by decide +kernel
theorem dX5_share_16 : decode cX5_share 16 = .ok (.aload_n 0, 1) := by decide +kernel
theorem dX5_share_17 : decode cX5_share 17 = .ok (.getfield 48, 3) := by decide +kernel
theorem dX5_share_20 : decode cX5_share 20 = .ok (.ifCond .eq 7, 3) := by decide +kernel
theorem dX5_share_23 : decode cX5_share 23 = .ok (.fconst 0, 1) := by decide +kernel
theorem dX5_share_24 : decode cX5_share 24 = .ok (.goto 20, 3) := by decide +kernel
theorem dX5_share_27 : decode cX5_share 27 = .ok (.aload_n 0, 1) := by decide +kernel
theorem dX5_share_28 : decode cX5_share 28 = .ok (.iload_n 1, 1) := by decide +kernel
theorem dX5_share_29 : decode cX5_share 29 = .ok (.invokevirtual 73, 3) := by decide +kernel
theorem dX5_share_32 : decode cX5_share 32 = .ok (.i2f, 1) := by decide +kernel
theorem dX5_share_33 : decode cX5_share 33 = .ok (.aload_n 0, 1) := by decide +kernel
theorem dX5_share_34 : decode cX5_share 34 = .ok (.getfield 16, 3) := by decide +kernel
theorem dX5_share_37 : decode cX5_share 37 = .ok (.aload_n 0, 1) := by decide +kernel
theorem dX5_share_38 : decode cX5_share 38 = .ok (.getfield 16, 3) := by decide +kernel
theorem dX5_share_41 : decode cX5_share 41 = .ok (.imul, 1) := by decide +kernel
theorem dX5_share_42 : decode cX5_share 42 = .ok (.i2f, 1) := by decide +kernel
theorem dX5_share_43 : decode cX5_share 43 = .ok (.fdiv, 1) := by decide +kernel
theorem dX5_share_44 : decode cX5_share 44 = .ok (.freturn, 1) := by decide +kernel
theorem dX5_isClosed_0 : decode cX5_isClosed 0 = .ok (.aload_n 0, 1) := by decide +kernel
theorem dX5_isClosed_1 : decode cX5_isClosed 1 = .ok (.iload_n 1, 1) := by decide +kernel
theorem dX5_isClosed_2 : decode cX5_isClosed 2 = .ok (.invokevirtual 108, 3) := by decide +kernel
theorem dX5_isClosed_5 : decode cX5_isClosed 5 = .ok (.iconst 0, 1) := by decide +kernel
theorem dX5_isClosed_6 : decode cX5_isClosed 6 = .ok (.istore_n 2, 1) := by decide +kernel
theorem dX5_isClosed_7 : decode cX5_isClosed 7 = .ok (.iload_n 2, 1) := by decide +kernel
theorem dX5_isClosed_8 : decode cX5_isClosed 8 = .ok (.aload_n 0, 1) := by decide +kernel
theorem dX5_isClosed_9 : decode cX5_isClosed 9 = .ok (.getfield 16, 3) := by decide +kernel
theorem dX5_isClosed_12 : decode cX5_isClosed 12 = .ok (.if_icmp .ge 112, 3) := by decide +kernel
theorem dX5_isClosed_15 : decode cX5_isClosed 15 = .ok (.iconst 0, 1) := by decide +kernel
theorem dX5_isClosed_16 : decode cX5_isClosed 16 = .ok (.istore_n 3, 1) := by decide +kernel
theorem dX5_isClosed_17 : decode cX5_isClosed 17 = .ok (.iload_n 3, 1) := by decide +kernel
theorem dX5_isClosed_18 : decode cX5_isClosed 18 = .ok (.aload_n 0, 1) := by decide +kernel
theorem dX5_isClosed_19 : decode cX5_isClosed 19 = .ok (.getfield 16, 3) := by decide +kernel
theorem dX5_isClosed_22 : decode cX5_isClosed 22 = .ok (.if_icmp .ge 96, 3) := by decide +kernel
theorem dX5_isClosed_25 : decode cX5_isClosed 25 = .ok (.aload_n 0, 1) := by decide +kernel
theorem dX5_isClosed_26 : decode cX5_isClosed 26 = .ok (.getfield 20, 3) := by decide +kernel
theorem dX5_isClosed_29 : decode cX5_isClosed 29 = .ok (.bipush 80, 2) := by decide +kernel
theorem dX5_isClosed_31 : decode cX5_isClosed 31 = .ok (.iload_n 2, 1) := by decide +kernel
theorem dX5_isClosed_32 : decode cX5_isClosed 32 = .ok (.imul, 1) := by decide +kernel
theorem dX5_isClosed_33 : decode cX5_isClosed 33 = .ok (.iload_n 3, 1) := by decide +kernel
theorem dX5_isClosed_34 : decode cX5_isClosed 34 = .ok (.iadd, 1) := by decide +kernel
theorem dX5_isClosed_35 : decode cX5_isClosed 35 = .ok (.baload, 1) := by decide +kernel
theorem dX5_isClosed_36 : decode cX5_isClosed 36 = .ok (.istore 4, 2) := by decide +kernel
theorem dX5_isClosed_38 : decode cX5_isClosed 38 = .ok (.aload_n 0, 1) := by decide +kernel
theorem dX5_isClosed_39 : decode cX5_isClosed 39 = .ok (.iload_n 1, 1) := by decide +kernel
theorem dX5_isClosed_40 : decode cX5_isClosed 40 = .ok (.iload_n 2, 1) := by decide +kernel
theorem dX5_isClosed_41 : decode cX5_isClosed 41 = .ok (.iload_n 3, 1) := by decide +kernel
theorem dX5_isClosed_42 : decode cX5_isClosed 42 = .ok (.invokevirtual 66, 3) := by decide +kernel
theorem dX5_isClosed_45 : decode cX5_isClosed 45 = .ok (.istore 5, 2) := by decide +kernel
theorem dX5_isClosed_47 : decode cX5_isClosed 47 = .ok (.iconst 0, 1) := by decide +kernel
theorem dX5_isClosed_48 : decode cX5_isClosed 48 = .ok (.istore 6, 2) := by decide +kernel
theorem dX5_isClosed_50 : decode cX5_isClosed 50 = .ok (.iload 6, 2) := by decide +kernel
theorem dX5_isClosed_52 : decode cX5_isClosed 52 = .ok (.aload_n 0, 1) := by decide +kernel
theorem dX5_isClosed_53 : decode cX5_isClosed 53 = .ok (.getfield 16, 3) := by decide +kernel
theorem dX5_isClosed_56 : decode cX5_isClosed 56 = .ok (.if_icmp .ge 47, 3) := by decide +kernel
theorem dX5_isClosed_59 : decode cX5_isClosed 59 = .ok (.iload 5, 2) := by decide +kernel
theorem dX5_isClosed_61 : decode cX5_isClosed 61 = .ok (.ifCond .ne 42, 3) := by decide +kernel
theorem dX5_isClosed_64 : decode cX5_isClosed 64 = .ok (.aload_n 0, 1) := by decide +kernel
theorem dX5_isClosed_65 : decode cX5_isClosed 65 = .ok (.iload_n 1, 1) := by decide +kernel
theorem dX5_isClosed_66 : decode cX5_isClosed 66 = .ok (.iload_n 2, 1) := by decide +kernel
theorem dX5_isClosed_67 : decode cX5_isClosed 67 = .ok (.iload 6, 2) := by decide +kernel
theorem dX5_isClosed_69 : decode cX5_isClosed 69 = .ok (.invokevirtual 66, 3) := by decide +kernel
theorem dX5_isClosed_72 : decode cX5_isClosed 72 = .ok (.ifCond .eq 22, 3) := by decide +kernel
theorem dX5_isClosed_75 : decode cX5_isClosed 75 = .ok (.aload_n 0, 1) := by decide +kernel
theorem dX5_isClosed_76 : decode cX5_isClosed 76 = .ok (.getfield 20, 3) := by decide +kernel
theorem dX5_isClosed_79 : decode cX5_isClosed 79 = .ok (.bipush 80, 2) := by decide +kernel
theorem dX5_isClosed_81 : decode cX5_isClosed 81 = .ok (.iload 6, 2) := by decide +kernel
theorem dX5_isClosed_83 : decode cX5_isClosed 83 = .ok (.imul, 1) := by decide +kernel
theorem dX5_isClosed_84 : decode cX5_isClosed 84 = .ok (.iload_n 3, 1) := by decide +kernel
theorem dX5_isClosed_85 : decode cX5_isClosed 85 = .ok (.iadd, 1) := by decide +kernel
theorem dX5_isClosed_86 : decode cX5_isClosed 86 = .ok (.baload, 1) := by decide +kernel
theorem dX5_isClosed_87 : decode cX5_isClosed 87 = .ok (.ifCond .eq 7, 3) := by decide +kernel
theorem dX5_isClosed_90 : decode cX5_isClosed 90 = .ok (.iconst 1, 1) := by decide +kernel
theorem dX5_isClosed_91 : decode cX5_isClosed 91 = .ok (.goto 4, 3) := by decide +kernel
theorem dX5_isClosed_94 : decode cX5_isClosed 94 = .ok (.iconst 0, 1) := by decide +kernel
theorem dX5_isClosed_95 : decode cX5_isClosed 95 = .ok (.istore 5, 2) := by decide +kernel
theorem dX5_isClosed_97 : decode cX5_isClosed 97 = .ok (.iinc 6 1, 3) := by decide +kernel
theorem dX5_isClosed_100 : decode cX5_isClosed 100 = .ok (.goto (-50), 3) := by decide +kernel
theorem dX5_isClosed_103 : decode cX5_isClosed 103 = .ok (.iload 4, 2) := by decide +kernel
theorem dX5_isClosed_105 : decode cX5_isClosed 105 = .ok (.iload 5, 2) := by decide +kernel
theorem dX5_isClosed_107 : decode cX5_isClosed 107 = .ok (.if_icmp .eq 5, 3) := by decide +kernel
theorem dX5_isClosed_110 : decode cX5_isClosed 110 = .ok (.iconst 0, 1) := by decide +kernel
theorem dX5_isClosed_111 : decode cX5_isClosed 111 = .ok (.ireturn, 1) := by decide +kernel
theorem dX5_isClosed_112 : decode cX5_isClosed 112 = .ok (.iinc 3 1, 3) := by decide +kernel
theorem dX5_isClosed_115 : decode cX5_isClosed 115 = .ok (.goto (-98), 3) := by decide +kernel
theorem dX5_isClosed_118 : decode cX5_isClosed 118 = .ok (.iinc 2 1, 3) := by decide +kernel
theorem dX5_isClosed_121 : decode cX5_isClosed 121 = .ok (.goto (-114), 3) := by decide +kernel
theorem dX5_isClosed_124 : decode cX5_isClosed 124 = .ok (.iconst 1, 1) := by decide +kernel
theorem dX5_isClosed_125 : decode cX5_isClosed 125 = .ok (.ireturn, 1) := by decide +kernel
theorem dX5_isOrdered_0 : decode cX5_isOrdered 0 = .ok (.aload_n 0, 1) := by decide +kernel
theorem dX5_isOrdered_1 : decode cX5_isOrdered 1 = .ok (.iload_n 1, 1) := by decide +kernel
theorem dX5_isOrdered_2 : decode cX5_isOrdered 2 = .ok (.invokevirtual 128, 3) := by decide +kernel
theorem dX5_isOrdered_5 : decode cX5_isOrdered 5 = .ok (.aload_n 0, 1) := by decide +kernel
theorem dX5_isOrdered_6 : decode cX5_isOrdered 6 = .ok (.getfield 16, 3) := by decide +kernel
theorem dX5_isOrdered_9 : decode cX5_isOrdered 9 = .ok (.if_icmp .ne 7, 3) := by decide +kernel
theorem dX5_isOrdered_12 : decode cX5_isOrdered 12 = .ok (.iconst 1, 1) := by decide +kernel
theorem dX5_isOrdered_13 : decode cX5_isOrdered 13 = .ok (.goto 4, 3) := by decide +kernel
theorem dX5_isOrdered_16 : decode cX5_isOrdered 16 = .ok (.iconst 0, 1) := by decide +kernel
theorem dX5_isOrdered_17 : decode cX5_isOrdered 17 = .ok (.istore_n 2, 1) := by decide +kernel
theorem dX5_isOrdered_18 : decode cX5_isOrdered 18 = .ok (.iload_n 2, 1) := by decide +kernel
theorem dX5_isOrdered_19 : decode cX5_isOrdered 19 = .ok (.aload_n 0, 1) := by decide +kernel
theorem dX5_isOrdered_20 : decode cX5_isOrdered 20 = .ok (.iload_n 1, 1) := by decide +kernel
theorem dX5_isOrdered_21 : decode cX5_isOrdered 21 = .ok (.invokevirtual 112, 3) := by decide +kernel
theorem dX5_isOrdered_24 : decode cX5_isOrdered 24 = .ok (.if_icmp .eq 7, 3) := by decide +kernel
theorem dX5_isOrdered_27 : decode cX5_isOrdered 27 = .ok (.iconst 1, 1) := by decide +kernel
theorem dX5_isOrdered_28 : decode cX5_isOrdered 28 = .ok (.goto 4, 3) := by decide +kernel
theorem dX5_isOrdered_31 : decode cX5_isOrdered 31 = .ok (.iconst 0, 1) := by decide +kernel
theorem dX5_isOrdered_32 : decode cX5_isOrdered 32 = .ok (.ireturn, 1) := by decide +kernel
theorem dX5_areComposed_0 : decode cX5_areComposed 0 = .ok (.aload_n 0, 1) := by decide +kernel
theorem dX5_areComposed_1 : decode cX5_areComposed 1 = .ok (.iconst 0, 1) := by decide +kernel
theorem dX5_areComposed_2 : decode cX5_areComposed 2 = .ok (.iconst 1, 1) := by decide +kernel
theorem dX5_areComposed_3 : decode cX5_areComposed 3 = .ok (.invokevirtual 98, 3) := by decide +kernel
theorem dX5_areComposed_6 : decode cX5_areComposed 6 = .ok (.iconst 0, 1) := by decide +kernel
theorem dX5_areComposed_7 : decode cX5_areComposed 7 = .ok (.istore_n 1, 1) := by decide +kernel
theorem dX5_areComposed_8 : decode cX5_areComposed 8 = .ok (.iload_n 1, 1) := by decide +kernel
theorem dX5_areComposed_9 : decode cX5_areComposed 9 = .ok (.sipush 6400, 3) := by decide +kernel
theorem dX5_areComposed_12 : decode cX5_areComposed 12 = .ok (.if_icmp .ge 21, 3) := by decide +kernel
theorem dX5_areComposed_15 : decode cX5_areComposed 15 = .ok (.aload_n 0, 1) := by decide +kernel
theorem dX5_areComposed_16 : decode cX5_areComposed 16 = .ok (.getfield 26, 3) := by decide +kernel
theorem dX5_areComposed_19 : decode cX5_areComposed 19 = .ok (.iload_n 1, 1) := by decide +kernel
theorem dX5_areComposed_20 : decode cX5_areComposed 20 = .ok (.aload_n 0, 1) := by decide +kernel
theorem dX5_areComposed_21 : decode cX5_areComposed 21 = .ok (.getfield 20, 3) := by decide +kernel
theorem dX5_areComposed_24 : decode cX5_areComposed 24 = .ok (.iload_n 1, 1) := by decide +kernel
theorem dX5_areComposed_25 : decode cX5_areComposed 25 = .ok (.baload, 1) := by decide +kernel
theorem dX5_areComposed_26 : decode cX5_areComposed 26 = .ok (.bastore, 1) := by decide +kernel
theorem dX5_areComposed_27 : decode cX5_areComposed 27 = .ok (.iinc 1 1, 3) := by decide +kernel
theorem dX5_areComposed_30 : decode cX5_areComposed 30 = .ok (.goto (-22), 3) := by decide +kernel
theorem dX5_areComposed_33 : decode cX5_areComposed 33 = .ok (.aload_n 0, 1) := by decide +kernel
theorem dX5_areComposed_34 : decode cX5_areComposed 34 = .ok (.iconst 1, 1) := by decide +kernel
theorem dX5_areComposed_35 : decode cX5_areComposed 35 = .ok (.iconst 2, 1) := by decide +kernel
theorem dX5_areComposed_36 : decode cX5_areComposed 36 = .ok (.invokevirtual 98, 3) := by decide +kernel
theorem dX5_areComposed_39 : decode cX5_areComposed 39 = .ok (.iconst 0, 1) := by decide +kernel
theorem dX5_areComposed_40 : decode cX5_areComposed 40 = .ok (.istore_n 1, 1) := by decide +kernel
theorem dX5_areComposed_41 : decode cX5_areComposed 41 = .ok (.iload_n 1, 1) := by decide +kernel
theorem dX5_areComposed_42 : decode cX5_areComposed 42 = .ok (.aload_n 0, 1) := by decide +kernel
theorem dX5_areComposed_43 : decode cX5_areComposed 43 = .ok (.getfield 16, 3) := by decide +kernel
theorem dX5_areComposed_46 : decode cX5_areComposed 46 = .ok (.if_icmp .ge 130, 3) := by decide +kernel
theorem dX5_areComposed_49 : decode cX5_areComposed 49 = .ok (.iconst 0, 1) := by decide +kernel
theorem dX5_areComposed_50 : decode cX5_areComposed 50 = .ok (.istore_n 2, 1) := by decide +kernel
theorem dX5_areComposed_51 : decode cX5_areComposed 51 = .ok (.iload_n 2, 1) := by decide +kernel
theorem dX5_areComposed_52 : decode cX5_areComposed 52 = .ok (.aload_n 0, 1) := by decide +kernel
theorem dX5_areComposed_53 : decode cX5_areComposed 53 = .ok (.getfield 16, 3) := by decide +kernel
theorem dX5_areComposed_56 : decode cX5_areComposed 56 = .ok (.if_icmp .ge 114, 3) := by decide +kernel
theorem dX5_areComposed_59 : decode cX5_areComposed 59 = .ok (.iconst 0, 1) := by decide +kernel
theorem dX5_areComposed_60 : decode cX5_areComposed 60 = .ok (.istore_n 3, 1) := by decide +kernel
theorem dX5_areComposed_61 : decode cX5_areComposed 61 = .ok (.iconst 0, 1) := by decide +kernel
theorem dX5_areComposed_62 : decode cX5_areComposed 62 = .ok (.istore 4, 2) := by decide +kernel
theorem dX5_areComposed_64 : decode cX5_areComposed 64 = .ok (.iconst 0, 1) := by decide +kernel
theorem dX5_areComposed_65 : decode cX5_areComposed 65 = .ok (.istore 5, 2) := by decide +kernel
theorem dX5_areComposed_67 : decode cX5_areComposed 67 = .ok (.iload 5, 2) := by decide +kernel
theorem dX5_areComposed_69 : decode cX5_areComposed 69 = .ok (.aload_n 0, 1) := by decide +kernel
theorem dX5_areComposed_70 : decode cX5_areComposed 70 = .ok (.getfield 16, 3) := by decide +kernel
theorem dX5_areComposed_73 : decode cX5_areComposed 73 = .ok (.if_icmp .ge 83, 3) := by decide +kernel
theorem dX5_areComposed_76 : decode cX5_areComposed 76 = .ok (.iload_n 3, 1) := by decide +kernel
theorem dX5_areComposed_77 : decode cX5_areComposed 77 = .ok (.ifCond .ne 29, 3) := by decide +kernel
theorem dX5_areComposed_80 : decode cX5_areComposed 80 = .ok (.aload_n 0, 1) := by decide +kernel
theorem dX5_areComposed_81 : decode cX5_areComposed 81 = .ok (.getfield 26, 3) := by decide +kernel
theorem dX5_areComposed_84 : decode cX5_areComposed 84 = .ok (.bipush 80, 2) := by decide +kernel
theorem dX5_areComposed_86 : decode cX5_areComposed 86 = .ok (.iload_n 1, 1) := by decide +kernel
theorem dX5_areComposed_87 : decode cX5_areComposed 87 = .ok (.imul, 1) := by decide +kernel
theorem dX5_areComposed_88 : decode cX5_areComposed 88 = .ok (.iload 5, 2) := by decide +kernel
theorem dX5_areComposed_90 : decode cX5_areComposed 90 = .ok (.iadd, 1) := by decide +kernel
theorem dX5_areComposed_91 : decode cX5_areComposed 91 = .ok (.baload, 1) := by decide +kernel
theorem dX5_areComposed_92 : decode cX5_areComposed 92 = .ok (.ifCond .eq 18, 3) := by decide +kernel
theorem dX5_areComposed_95 : decode cX5_areComposed 95 = .ok (.aload_n 0, 1) := by decide +kernel
theorem dX5_areComposed_96 : decode cX5_areComposed 96 = .ok (.iconst 2, 1) := by decide +kernel
theorem dX5_areComposed_97 : decode cX5_areComposed 97 = .ok (.iload 5, 2) := by decide +kernel
theorem dX5_areComposed_99 : decode cX5_areComposed 99 = .ok (.iload_n 2, 1) := by decide +kernel
theorem dX5_areComposed_100 : decode cX5_areComposed 100 = .ok (.invokevirtual 66, 3) := by decide +kernel
theorem dX5_areComposed_103 : decode cX5_areComposed 103 = .ok (.ifCond .eq 7, 3) := by decide +kernel
theorem dX5_areComposed_106 : decode cX5_areComposed 106 = .ok (.iconst 1, 1) := by decide +kernel
theorem dX5_areComposed_107 : decode cX5_areComposed 107 = .ok (.goto 4, 3) := by decide +kernel
theorem dX5_areComposed_110 : decode cX5_areComposed 110 = .ok (.iconst 0, 1) := by decide +kernel
theorem dX5_areComposed_111 : decode cX5_areComposed 111 = .ok (.istore_n 3, 1) := by decide +kernel
theorem dX5_areComposed_112 : decode cX5_areComposed 112 = .ok (.iload 4, 2) := by decide +kernel
theorem dX5_areComposed_114 : decode cX5_areComposed 114 = .ok (.ifCond .ne 29, 3) := by decide +kernel
theorem dX5_areComposed_117 : decode cX5_areComposed 117 = .ok (.aload_n 0, 1) := by decide +kernel
theorem dX5_areComposed_118 : decode cX5_areComposed 118 = .ok (.iconst 0, 1) := by decide +kernel
theorem dX5_areComposed_119 : decode cX5_areComposed 119 = .ok (.iload_n 1, 1) := by decide +kernel
theorem dX5_areComposed_120 : decode cX5_areComposed 120 = .ok (.iload 5, 2) := by decide +kernel
theorem dX5_areComposed_122 : decode cX5_areComposed 122 = .ok (.invokevirtual 66, 3) := by decide +kernel
theorem dX5_areComposed_125 : decode cX5_areComposed 125 = .ok (.ifCond .eq 22, 3) := by decide +kernel
theorem dX5_areComposed_128 : decode cX5_areComposed 128 = .ok (.aload_n 0, 1) := by decide +kernel
theorem dX5_areComposed_129 : decode cX5_areComposed 129 = .ok (.getfield 20, 3) := by decide +kernel
theorem dX5_areComposed_132 : decode cX5_areComposed 132 = .ok (.bipush 80, 2) := by decide +kernel
theorem dX5_areComposed_134 : decode cX5_areComposed 134 = .ok (.iload 5, 2) := by decide +kernel
theorem dX5_areComposed_136 : decode cX5_areComposed 136 = .ok (.imul, 1) := by decide +kernel
theorem dX5_areComposed_137 : decode cX5_areComposed 137 = .ok (.iload_n 2, 1) := by decide +kernel
theorem dX5_areComposed_138 : decode cX5_areComposed 138 = .ok (.iadd, 1) := by decide +kernel
theorem dX5_areComposed_139 : decode cX5_areComposed 139 = .ok (.baload, 1) := by decide +kernel
theorem dX5_areComposed_140 : decode cX5_areComposed 140 = .ok (.ifCond .eq 7, 3) := by decide +kernel
theorem dX5_areComposed_143 : decode cX5_areComposed 143 = .ok (.iconst 1, 1) := by decide +kernel
theorem dX5_areComposed_144 : decode cX5_areComposed 144 = .ok (.goto 4, 3) := by decide +kernel
theorem dX5_areComposed_147 : decode cX5_areComposed 147 = .ok (.iconst 0, 1) := by decide +kernel
theorem dX5_areComposed_148 : decode cX5_areComposed 148 = .ok (.istore 4, 2) := by decide +kernel
theorem dX5_areComposed_150 : decode cX5_areComposed 150 = .ok (.iinc 5 1, 3) := by decide +kernel
theorem dX5_areComposed_153 : decode cX5_areComposed 153 = .ok (.goto (-86), 3) := by decide +kernel
theorem dX5_areComposed_156 : decode cX5_areComposed 156 = .ok (.iload_n 3, 1) := by decide +kernel
theorem dX5_areComposed_157 : decode cX5_areComposed 157 = .ok (.iload 4, 2) := by decide +kernel
theorem dX5_areComposed_159 : decode cX5_areComposed 159 = .ok (.if_icmp .eq 5, 3) := by decide +kernel
theorem dX5_areComposed_162 : decode cX5_areComposed 162 = .ok (.iconst 0, 1) := by decide +kernel
theorem dX5_areComposed_163 : decode cX5_areComposed 163 = .ok (.ireturn, 1) := by decide +kernel
theorem dX5_areComposed_164 : decode cX5_areComposed 164 = .ok (.iinc 2 1, 3) := by decide +kernel
theorem dX5_areComposed_167 : decode cX5_areComposed 167 = .ok (.goto (-116), 3) := by decide +kernel
theorem dX5_areComposed_170 : decode cX5_areComposed 170 = .ok (.iinc 1 1, 3) := by decide +kernel
theorem dX5_areComposed_173 : decode cX5_areComposed 173 = .ok (.goto (-132), 3) := by decide +kernel
theorem dX5_areComposed_176 : decode cX5_areComposed 176 = .ok (.iconst 1, 1) := by decide +kernel
theorem dX5_areComposed_177 : decode cX5_areComposed 177 = .ok (.ireturn, 1) := by decide +kernel
theorem dX5_errors_0 : decode cX5_errors 0 = .ok (.aload_n 0, 1) := by decide +kernel
theorem dX5_errors_1 : decode cX5_errors 1 = .ok (.invokevirtual 135, 3) := by decide +kernel
theorem dX5_errors_4 : decode cX5_errors 4 = .ok (.ifCond .eq 7, 3) := by decide +kernel
theorem dX5_errors_7 : decode cX5_errors 7 = .ok (.iconst 0, 1) := by decide +kernel
theorem dX5_errors_8 : decode cX5_errors 8 = .ok (.goto 4, 3) := by decide +kernel
theorem dX5_errors_11 : decode cX5_errors 11 = .ok (.iconst 1, 1) := by decide +kernel
theorem dX5_errors_12 : decode cX5_errors 12 = .ok (.istore_n 1, 1) := by decide +kernel
theorem dX5_errors_13 : decode cX5_errors 13 = .ok (.iconst 0, 1) := by decide +kernel
theorem dX5_errors_14 : decode cX5_errors 14 = .ok (.istore_n 2, 1) := by decide +kernel
theorem dX5_errors_15 : decode cX5_errors 15 = .ok (.iload_n 2, 1) := by decide +kernel
theorem dX5_errors_16 : decode cX5_errors 16 = .ok (.iconst 3, 1) := by decide +kernel
theorem dX5_errors_17 : decode cX5_errors 17 = .ok (.if_icmp .ge 41, 3) := by decide +kernel
theorem dX5_errors_20 : decode cX5_errors 20 = .ok (.iload_n 1, 1) := by decide +kernel
theorem dX5_errors_21 : decode cX5_errors 21 = .ok (.aload_n 0, 1) := by decide +kernel
theorem dX5_errors_22 : decode cX5_errors 22 = .ok (.iload_n 2, 1) := by decide +kernel
theorem dX5_errors_23 : decode cX5_errors 23 = .ok (.invokevirtual 139, 3) := by decide +kernel
theorem dX5_errors_26 : decode cX5_errors 26 = .ok (.ifCond .eq 7, 3) := by decide +kernel
theorem dX5_errors_29 : decode cX5_errors 29 = .ok (.iconst 0, 1) := by decide +kernel
theorem dX5_errors_30 : decode cX5_errors 30 = .ok (.goto 4, 3) := by decide +kernel
theorem dX5_errors_33 : decode cX5_errors 33 = .ok (.iconst 1, 1) := by decide +kernel
theorem dX5_errors_34 : decode cX5_errors 34 = .ok (.iadd, 1) := by decide +kernel
theorem dX5_errors_35 : decode cX5_errors 35 = .ok (.istore_n 1, 1) := by decide +kernel
theorem dX5_errors_36 : decode cX5_errors 36 = .ok (.iload_n 1, 1) := by decide +kernel
theorem dX5_errors_37 : decode cX5_errors 37 = .ok (.aload_n 0, 1) := by decide +kernel
theorem dX5_errors_38 : decode cX5_errors 38 = .ok (.iload_n 2, 1) := by decide +kernel
theorem dX5_errors_39 : decode cX5_errors 39 = .ok (.invokevirtual 142, 3) := by decide +kernel
theorem dX5_errors_42 : decode cX5_errors 42 = .ok (.ifCond .eq 7, 3) := by decide +kernel
theorem dX5_errors_45 : decode cX5_errors 45 = .ok (.iconst 0, 1) := by decide +kernel
theorem dX5_errors_46 : decode cX5_errors 46 = .ok (.goto 4, 3) := by decide +kernel
theorem dX5_errors_49 : decode cX5_errors 49 = .ok (.iconst 1, 1) := by decide +kernel
theorem dX5_errors_50 : decode cX5_errors 50 = .ok (.iadd, 1) := by decide +kernel
theorem dX5_errors_51 : decode cX5_errors 51 = .ok (.istore_n 1, 1) := by decide +kernel
theorem dX5_errors_52 : decode cX5_errors 52 = .ok (.iinc 2 1, 3) := by decide +kernel
theorem dX5_errors_55 : decode cX5_errors 55 = .ok (.goto (-40), 3) := by decide +kernel
theorem dX5_errors_58 : decode cX5_errors 58 = .ok (.aload_n 0, 1) := by decide +kernel
theorem dX5_errors_59 : decode cX5_errors 59 = .ok (.iload_n 1, 1) := by decide +kernel
theorem dX5_errors_60 : decode cX5_errors 60 = .ok (.invokevirtual 80, 3) := by decide +kernel
theorem dX5_errors_63 : decode cX5_errors 63 = .ok (.ireturn, 1) := by decide +kernel
