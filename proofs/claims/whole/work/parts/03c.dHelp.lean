theorem dL_begin_0 : decode cL_begin 0 = .ok (.aload_n 2, 1) := by decide +kernel
theorem dL_begin_1 : decode cL_begin 1 = .ok (.iconst 0, 1) := by decide +kernel
theorem dL_begin_2 : decode cL_begin 2 = .ok (.aload_n 0, 1) := by decide +kernel
theorem dL_begin_3 : decode cL_begin 3 = .ok (.iload_n 1, 1) := by decide +kernel
theorem dL_begin_4 : decode cL_begin 4 = .ok (.invokevirtual 7, 3) := by decide +kernel
theorem dL_begin_7 : decode cL_begin 7 = .ok (.i2l, 1) := by decide +kernel
theorem dL_begin_8 : decode cL_begin 8 = .ok (.lastore, 1) := by decide +kernel
theorem dL_begin_9 : decode cL_begin 9 = .ok (.goto 6, 3) := by decide +kernel
theorem dL_begin_12 : decode cL_begin 12 = .ok (.astore_n 3, 1) := by decide +kernel
theorem dL_begin_13 : decode cL_begin 13 = .ok (.iconst 1, 1) := by decide +kernel
theorem dL_begin_14 : decode cL_begin 14 = .ok (.ireturn, 1) := by decide +kernel
theorem dL_begin_15 : decode cL_begin 15 = .ok (.iconst 0, 1) := by decide +kernel
theorem dL_begin_16 : decode cL_begin 16 = .ok (.ireturn, 1) := by decide +kernel
theorem dL_set_0 : decode cL_set 0 = .ok (.aload 5, 2) := by decide +kernel
theorem dL_set_2 : decode cL_set 2 = .ok (.iconst 0, 1) := by decide +kernel
theorem dL_set_3 : decode cL_set 3 = .ok (.aload_n 0, 1) := by decide +kernel
theorem dL_set_4 : decode cL_set 4 = .ok (.iload_n 1, 1) := by decide +kernel
theorem dL_set_5 : decode cL_set 5 = .ok (.iload_n 2, 1) := by decide +kernel
theorem dL_set_6 : decode cL_set 6 = .ok (.iload_n 3, 1) := by decide +kernel
theorem dL_set_7 : decode cL_set 7 = .ok (.iload 4, 2) := by decide +kernel
theorem dL_set_9 : decode cL_set 9 = .ok (.invokevirtual 15, 3) := by decide +kernel
theorem dL_set_12 : decode cL_set 12 = .ok (.ifCond .eq 7, 3) := by decide +kernel
theorem dL_set_15 : decode cL_set 15 = .ok (.lconst 1, 1) := by decide +kernel
theorem dL_set_16 : decode cL_set 16 = .ok (.goto 4, 3) := by decide +kernel
theorem dL_set_19 : decode cL_set 19 = .ok (.lconst 0, 1) := by decide +kernel
theorem dL_set_20 : decode cL_set 20 = .ok (.lastore, 1) := by decide +kernel
theorem dL_set_21 : decode cL_set 21 = .ok (.goto 7, 3) := by decide +kernel
theorem dL_set_24 : decode cL_set 24 = .ok (.astore 6, 2) := by decide +kernel
theorem dL_set_26 : decode cL_set 26 = .ok (.iconst 1, 1) := by decide +kernel
theorem dL_set_27 : decode cL_set 27 = .ok (.ireturn, 1) := by decide +kernel
theorem dL_set_28 : decode cL_set 28 = .ok (.iconst 0, 1) := by decide +kernel
theorem dL_set_29 : decode cL_set 29 = .ok (.ireturn, 1) := by decide +kernel
theorem dL_setRange_0 : decode cL_setRange 0 = .ok (.aload 6, 2) := by decide +kernel
theorem dL_setRange_2 : decode cL_setRange 2 = .ok (.iconst 0, 1) := by decide +kernel
theorem dL_setRange_3 : decode cL_setRange 3 = .ok (.aload_n 0, 1) := by decide +kernel
theorem dL_setRange_4 : decode cL_setRange 4 = .ok (.iload_n 1, 1) := by decide +kernel
theorem dL_setRange_5 : decode cL_setRange 5 = .ok (.iload_n 2, 1) := by decide +kernel
theorem dL_setRange_6 : decode cL_setRange 6 = .ok (.iload_n 3, 1) := by decide +kernel
theorem dL_setRange_7 : decode cL_setRange 7 = .ok (.iload 4, 2) := by decide +kernel
theorem dL_setRange_9 : decode cL_setRange 9 = .ok (.iload 5, 2) := by decide +kernel
theorem dL_setRange_11 : decode cL_setRange 11 = .ok (.invokevirtual 21, 3) := by decide +kernel
theorem dL_setRange_14 : decode cL_setRange 14 = .ok (.i2l, 1) := by decide +kernel
theorem dL_setRange_15 : decode cL_setRange 15 = .ok (.lastore, 1) := by decide +kernel
theorem dL_setRange_16 : decode cL_setRange 16 = .ok (.goto 7, 3) := by decide +kernel
theorem dL_setRange_19 : decode cL_setRange 19 = .ok (.astore 7, 2) := by decide +kernel
theorem dL_setRange_21 : decode cL_setRange 21 = .ok (.iconst 1, 1) := by decide +kernel
theorem dL_setRange_22 : decode cL_setRange 22 = .ok (.ireturn, 1) := by decide +kernel
theorem dL_setRange_23 : decode cL_setRange 23 = .ok (.iconst 0, 1) := by decide +kernel
theorem dL_setRange_24 : decode cL_setRange 24 = .ok (.ireturn, 1) := by decide +kernel
theorem dL_flipRange_0 : decode cL_flipRange 0 = .ok (.aload 5, 2) := by decide +kernel
theorem dL_flipRange_2 : decode cL_flipRange 2 = .ok (.iconst 0, 1) := by decide +kernel
theorem dL_flipRange_3 : decode cL_flipRange 3 = .ok (.aload_n 0, 1) := by decide +kernel
theorem dL_flipRange_4 : decode cL_flipRange 4 = .ok (.iload_n 1, 1) := by decide +kernel
theorem dL_flipRange_5 : decode cL_flipRange 5 = .ok (.iload_n 2, 1) := by decide +kernel
theorem dL_flipRange_6 : decode cL_flipRange 6 = .ok (.iload_n 3, 1) := by decide +kernel
theorem dL_flipRange_7 : decode cL_flipRange 7 = .ok (.iload 4, 2) := by decide +kernel
theorem dL_flipRange_9 : decode cL_flipRange 9 = .ok (.invokevirtual 25, 3) := by decide +kernel
theorem dL_flipRange_12 : decode cL_flipRange 12 = .ok (.i2l, 1) := by decide +kernel
theorem dL_flipRange_13 : decode cL_flipRange 13 = .ok (.lastore, 1) := by decide +kernel
theorem dL_flipRange_14 : decode cL_flipRange 14 = .ok (.goto 7, 3) := by decide +kernel
theorem dL_flipRange_17 : decode cL_flipRange 17 = .ok (.astore 6, 2) := by decide +kernel
theorem dL_flipRange_19 : decode cL_flipRange 19 = .ok (.iconst 1, 1) := by decide +kernel
theorem dL_flipRange_20 : decode cL_flipRange 20 = .ok (.ireturn, 1) := by decide +kernel
theorem dL_flipRange_21 : decode cL_flipRange 21 = .ok (.iconst 0, 1) := by decide +kernel
theorem dL_flipRange_22 : decode cL_flipRange 22 = .ok (.ireturn, 1) := by decide +kernel
theorem dL_setRow_0 : decode cL_setRow 0 = .ok (.aload 5, 2) := by decide +kernel
theorem dL_setRow_2 : decode cL_setRow 2 = .ok (.iconst 0, 1) := by decide +kernel
theorem dL_setRow_3 : decode cL_setRow 3 = .ok (.aload_n 0, 1) := by decide +kernel
theorem dL_setRow_4 : decode cL_setRow 4 = .ok (.iload_n 1, 1) := by decide +kernel
theorem dL_setRow_5 : decode cL_setRow 5 = .ok (.iload_n 2, 1) := by decide +kernel
theorem dL_setRow_6 : decode cL_setRow 6 = .ok (.lload_n 3, 1) := by decide +kernel
theorem dL_setRow_7 : decode cL_setRow 7 = .ok (.invokevirtual 29, 3) := by decide +kernel
theorem dL_setRow_10 : decode cL_setRow 10 = .ok (.i2l, 1) := by decide +kernel
theorem dL_setRow_11 : decode cL_setRow 11 = .ok (.lastore, 1) := by decide +kernel
theorem dL_setRow_12 : decode cL_setRow 12 = .ok (.goto 7, 3) := by decide +kernel
theorem dL_setRow_15 : decode cL_setRow 15 = .ok (.astore 6, 2) := by decide +kernel
theorem dL_setRow_17 : decode cL_setRow 17 = .ok (.iconst 1, 1) := by decide +kernel
theorem dL_setRow_18 : decode cL_setRow 18 = .ok (.ireturn, 1) := by decide +kernel
theorem dL_setRow_19 : decode cL_setRow 19 = .ok (.iconst 0, 1) := by decide +kernel
theorem dL_setRow_20 : decode cL_setRow 20 = .ok (.ireturn, 1) := by decide +kernel
theorem dL_chain_0 : decode cL_chain 0 = .ok (.aload_n 2, 1) := by decide +kernel
theorem dL_chain_1 : decode cL_chain 1 = .ok (.iconst 0, 1) := by decide +kernel
theorem dL_chain_2 : decode cL_chain 2 = .ok (.aload_n 0, 1) := by decide +kernel
theorem dL_chain_3 : decode cL_chain 3 = .ok (.iload_n 1, 1) := by decide +kernel
theorem dL_chain_4 : decode cL_chain 4 = .ok (.invokevirtual 33, 3) := by decide +kernel
theorem dL_chain_7 : decode cL_chain 7 = .ok (.i2l, 1) := by decide +kernel
theorem dL_chain_8 : decode cL_chain 8 = .ok (.lastore, 1) := by decide +kernel
theorem dL_chain_9 : decode cL_chain 9 = .ok (.goto 6, 3) := by decide +kernel
theorem dL_chain_12 : decode cL_chain 12 = .ok (.astore_n 3, 1) := by decide +kernel
theorem dL_chain_13 : decode cL_chain 13 = .ok (.iconst 1, 1) := by decide +kernel
theorem dL_chain_14 : decode cL_chain 14 = .ok (.ireturn, 1) := by decide +kernel
theorem dL_chain_15 : decode cL_chain 15 = .ok (.iconst 0, 1) := by decide +kernel
theorem dL_chain_16 : decode cL_chain 16 = .ok (.ireturn, 1) := by decide +kernel
theorem dL_draw_0 : decode cL_draw 0 = .ok (.aload 4, 2) := by decide +kernel
theorem dL_draw_2 : decode cL_draw 2 = .ok (.iconst 0, 1) := by decide +kernel
theorem dL_draw_3 : decode cL_draw 3 = .ok (.aload_n 0, 1) := by decide +kernel
theorem dL_draw_4 : decode cL_draw 4 = .ok (.iload_n 1, 1) := by decide +kernel
theorem dL_draw_5 : decode cL_draw 5 = .ok (.iload_n 2, 1) := by decide +kernel
theorem dL_draw_6 : decode cL_draw 6 = .ok (.iload_n 3, 1) := by decide +kernel
theorem dL_draw_7 : decode cL_draw 7 = .ok (.invokevirtual 36, 3) := by decide +kernel
theorem dL_draw_10 : decode cL_draw 10 = .ok (.i2l, 1) := by decide +kernel
theorem dL_draw_11 : decode cL_draw 11 = .ok (.lastore, 1) := by decide +kernel
theorem dL_draw_12 : decode cL_draw 12 = .ok (.goto 11, 3) := by decide +kernel
theorem dL_draw_15 : decode cL_draw 15 = .ok (.astore 5, 2) := by decide +kernel
theorem dL_draw_17 : decode cL_draw 17 = .ok (.iconst 1, 1) := by decide +kernel
theorem dL_draw_18 : decode cL_draw 18 = .ok (.ireturn, 1) := by decide +kernel
theorem dL_draw_19 : decode cL_draw 19 = .ok (.astore 5, 2) := by decide +kernel
theorem dL_draw_21 : decode cL_draw 21 = .ok (.iconst 2, 1) := by decide +kernel
theorem dL_draw_22 : decode cL_draw 22 = .ok (.ireturn, 1) := by decide +kernel
theorem dL_draw_23 : decode cL_draw 23 = .ok (.iconst 0, 1) := by decide +kernel
theorem dL_draw_24 : decode cL_draw 24 = .ok (.ireturn, 1) := by decide +kernel
theorem dL_copy_0 : decode cL_copy 0 = .ok (.aload_n 3, 1) := by decide +kernel
theorem dL_copy_1 : decode cL_copy 1 = .ok (.iconst 0, 1) := by decide +kernel
theorem dL_copy_2 : decode cL_copy 2 = .ok (.aload_n 0, 1) := by decide +kernel
theorem dL_copy_3 : decode cL_copy 3 = .ok (.iload_n 1, 1) := by decide +kernel
theorem dL_copy_4 : decode cL_copy 4 = .ok (.iload_n 2, 1) := by decide +kernel
theorem dL_copy_5 : decode cL_copy 5 = .ok (.invokevirtual 40, 3) := by decide +kernel
theorem dL_copy_8 : decode cL_copy 8 = .ok (.i2l, 1) := by decide +kernel
theorem dL_copy_9 : decode cL_copy 9 = .ok (.lastore, 1) := by decide +kernel
theorem dL_copy_10 : decode cL_copy 10 = .ok (.goto 7, 3) := by decide +kernel
theorem dL_copy_13 : decode cL_copy 13 = .ok (.astore 4, 2) := by decide +kernel
theorem dL_copy_15 : decode cL_copy 15 = .ok (.iconst 1, 1) := by decide +kernel
theorem dL_copy_16 : decode cL_copy 16 = .ok (.ireturn, 1) := by decide +kernel
theorem dL_copy_17 : decode cL_copy 17 = .ok (.iconst 0, 1) := by decide +kernel
theorem dL_copy_18 : decode cL_copy 18 = .ok (.ireturn, 1) := by decide +kernel
theorem dL_combine_0 : decode cL_combine 0 = .ok (.aload 4, 2) := by decide +kernel
theorem dL_combine_2 : decode cL_combine 2 = .ok (.iconst 0, 1) := by decide +kernel
theorem dL_combine_3 : decode cL_combine 3 = .ok (.aload_n 0, 1) := by decide +kernel
theorem dL_combine_4 : decode cL_combine 4 = .ok (.iload_n 1, 1) := by decide +kernel
theorem dL_combine_5 : decode cL_combine 5 = .ok (.iload_n 2, 1) := by decide +kernel
theorem dL_combine_6 : decode cL_combine 6 = .ok (.iload_n 3, 1) := by decide +kernel
theorem dL_combine_7 : decode cL_combine 7 = .ok (.invokevirtual 44, 3) := by decide +kernel
theorem dL_combine_10 : decode cL_combine 10 = .ok (.i2l, 1) := by decide +kernel
theorem dL_combine_11 : decode cL_combine 11 = .ok (.lastore, 1) := by decide +kernel
theorem dL_combine_12 : decode cL_combine 12 = .ok (.goto 11, 3) := by decide +kernel
theorem dL_combine_15 : decode cL_combine 15 = .ok (.astore 5, 2) := by decide +kernel
theorem dL_combine_17 : decode cL_combine 17 = .ok (.iconst 1, 1) := by decide +kernel
theorem dL_combine_18 : decode cL_combine 18 = .ok (.ireturn, 1) := by decide +kernel
theorem dL_combine_19 : decode cL_combine 19 = .ok (.astore 5, 2) := by decide +kernel
theorem dL_combine_21 : decode cL_combine 21 = .ok (.iconst 2, 1) := by decide +kernel
theorem dL_combine_22 : decode cL_combine 22 = .ok (.ireturn, 1) := by decide +kernel
theorem dL_combine_23 : decode cL_combine 23 = .ok (.iconst 0, 1) := by decide +kernel
theorem dL_combine_24 : decode cL_combine 24 = .ok (.ireturn, 1) := by decide +kernel
theorem dL_compose_0 : decode cL_compose 0 = .ok (.aload 4, 2) := by decide +kernel
theorem dL_compose_2 : decode cL_compose 2 = .ok (.iconst 0, 1) := by decide +kernel
theorem dL_compose_3 : decode cL_compose 3 = .ok (.aload_n 0, 1) := by decide +kernel
theorem dL_compose_4 : decode cL_compose 4 = .ok (.iload_n 1, 1) := by decide +kernel
theorem dL_compose_5 : decode cL_compose 5 = .ok (.iload_n 2, 1) := by decide +kernel
theorem dL_compose_6 : decode cL_compose 6 = .ok (.iload_n 3, 1) := by decide +kernel
theorem dL_compose_7 : decode cL_compose 7 = .ok (.invokevirtual 47, 3) := by decide +kernel
theorem dL_compose_10 : decode cL_compose 10 = .ok (.i2l, 1) := by decide +kernel
theorem dL_compose_11 : decode cL_compose 11 = .ok (.lastore, 1) := by decide +kernel
theorem dL_compose_12 : decode cL_compose 12 = .ok (.goto 7, 3) := by decide +kernel
theorem dL_compose_15 : decode cL_compose 15 = .ok (.astore 5, 2) := by decide +kernel
theorem dL_compose_17 : decode cL_compose 17 = .ok (.iconst 1, 1) := by decide +kernel
theorem dL_compose_18 : decode cL_compose 18 = .ok (.ireturn, 1) := by decide +kernel
theorem dL_compose_19 : decode cL_compose 19 = .ok (.iconst 0, 1) := by decide +kernel
theorem dL_compose_20 : decode cL_compose 20 = .ok (.ireturn, 1) := by decide +kernel
theorem dL_turn_0 : decode cL_turn 0 = .ok (.aload_n 2, 1) := by decide +kernel
theorem dL_turn_1 : decode cL_turn 1 = .ok (.iconst 0, 1) := by decide +kernel
theorem dL_turn_2 : decode cL_turn 2 = .ok (.aload_n 0, 1) := by decide +kernel
theorem dL_turn_3 : decode cL_turn 3 = .ok (.iload_n 1, 1) := by decide +kernel
theorem dL_turn_4 : decode cL_turn 4 = .ok (.invokevirtual 50, 3) := by decide +kernel
theorem dL_turn_7 : decode cL_turn 7 = .ok (.i2l, 1) := by decide +kernel
theorem dL_turn_8 : decode cL_turn 8 = .ok (.lastore, 1) := by decide +kernel
theorem dL_turn_9 : decode cL_turn 9 = .ok (.goto 6, 3) := by decide +kernel
theorem dL_turn_12 : decode cL_turn 12 = .ok (.astore_n 3, 1) := by decide +kernel
theorem dL_turn_13 : decode cL_turn 13 = .ok (.iconst 1, 1) := by decide +kernel
theorem dL_turn_14 : decode cL_turn 14 = .ok (.ireturn, 1) := by decide +kernel
theorem dL_turn_15 : decode cL_turn 15 = .ok (.iconst 0, 1) := by decide +kernel
theorem dL_turn_16 : decode cL_turn 16 = .ok (.ireturn, 1) := by decide +kernel
theorem dL_oppose_0 : decode cL_oppose 0 = .ok (.aload_n 2, 1) := by decide +kernel
theorem dL_oppose_1 : decode cL_oppose 1 = .ok (.iconst 0, 1) := by decide +kernel
theorem dL_oppose_2 : decode cL_oppose 2 = .ok (.aload_n 0, 1) := by decide +kernel
theorem dL_oppose_3 : decode cL_oppose 3 = .ok (.iload_n 1, 1) := by decide +kernel
theorem dL_oppose_4 : decode cL_oppose 4 = .ok (.invokevirtual 53, 3) := by decide +kernel
theorem dL_oppose_7 : decode cL_oppose 7 = .ok (.i2l, 1) := by decide +kernel
theorem dL_oppose_8 : decode cL_oppose 8 = .ok (.lastore, 1) := by decide +kernel
theorem dL_oppose_9 : decode cL_oppose 9 = .ok (.goto 6, 3) := by decide +kernel
theorem dL_oppose_12 : decode cL_oppose 12 = .ok (.astore_n 3, 1) := by decide +kernel
theorem dL_oppose_13 : decode cL_oppose 13 = .ok (.iconst 1, 1) := by decide +kernel
theorem dL_oppose_14 : decode cL_oppose 14 = .ok (.ireturn, 1) := by decide +kernel
theorem dL_oppose_15 : decode cL_oppose 15 = .ok (.iconst 0, 1) := by decide +kernel
theorem dL_oppose_16 : decode cL_oppose 16 = .ok (.ireturn, 1) := by decide +kernel
theorem dL_close_0 : decode cL_close 0 = .ok (.aload_n 3, 1) := by decide +kernel
theorem dL_close_1 : decode cL_close 1 = .ok (.iconst 0, 1) := by decide +kernel
theorem dL_close_2 : decode cL_close 2 = .ok (.aload_n 0, 1) := by decide +kernel
theorem dL_close_3 : decode cL_close 3 = .ok (.iload_n 1, 1) := by decide +kernel
theorem dL_close_4 : decode cL_close 4 = .ok (.iload_n 2, 1) := by decide +kernel
theorem dL_close_5 : decode cL_close 5 = .ok (.invokevirtual 56, 3) := by decide +kernel
theorem dL_close_8 : decode cL_close 8 = .ok (.i2l, 1) := by decide +kernel
theorem dL_close_9 : decode cL_close 9 = .ok (.lastore, 1) := by decide +kernel
theorem dL_close_10 : decode cL_close 10 = .ok (.goto 7, 3) := by decide +kernel
theorem dL_close_13 : decode cL_close 13 = .ok (.astore 4, 2) := by decide +kernel
theorem dL_close_15 : decode cL_close 15 = .ok (.iconst 1, 1) := by decide +kernel
theorem dL_close_16 : decode cL_close 16 = .ok (.ireturn, 1) := by decide +kernel
theorem dL_close_17 : decode cL_close 17 = .ok (.iconst 0, 1) := by decide +kernel
theorem dL_close_18 : decode cL_close 18 = .ok (.ireturn, 1) := by decide +kernel
theorem dL_cover_0 : decode cL_cover 0 = .ok (.aload_n 3, 1) := by decide +kernel
theorem dL_cover_1 : decode cL_cover 1 = .ok (.iconst 0, 1) := by decide +kernel
theorem dL_cover_2 : decode cL_cover 2 = .ok (.aload_n 0, 1) := by decide +kernel
theorem dL_cover_3 : decode cL_cover 3 = .ok (.iload_n 1, 1) := by decide +kernel
theorem dL_cover_4 : decode cL_cover 4 = .ok (.iload_n 2, 1) := by decide +kernel
theorem dL_cover_5 : decode cL_cover 5 = .ok (.invokevirtual 60, 3) := by decide +kernel
theorem dL_cover_8 : decode cL_cover 8 = .ok (.i2l, 1) := by decide +kernel
theorem dL_cover_9 : decode cL_cover 9 = .ok (.lastore, 1) := by decide +kernel
theorem dL_cover_10 : decode cL_cover 10 = .ok (.goto 11, 3) := by decide +kernel
theorem dL_cover_13 : decode cL_cover 13 = .ok (.astore 4, 2) := by decide +kernel
theorem dL_cover_15 : decode cL_cover 15 = .ok (.iconst 1, 1) := by decide +kernel
theorem dL_cover_16 : decode cL_cover 16 = .ok (.ireturn, 1) := by decide +kernel
theorem dL_cover_17 : decode cL_cover 17 = .ok (.astore 4, 2) := by decide +kernel
theorem dL_cover_19 : decode cL_cover 19 = .ok (.iconst 2, 1) := by decide +kernel
theorem dL_cover_20 : decode cL_cover 20 = .ok (.ireturn, 1) := by decide +kernel
theorem dL_cover_21 : decode cL_cover 21 = .ok (.iconst 0, 1) := by decide +kernel
theorem dL_cover_22 : decode cL_cover 22 = .ok (.ireturn, 1) := by decide +kernel
theorem dL_has_0 : decode cL_has 0 = .ok (.aload 4, 2) := by decide +kernel
theorem dL_has_2 : decode cL_has 2 = .ok (.iconst 0, 1) := by decide +kernel
theorem dL_has_3 : decode cL_has 3 = .ok (.aload_n 0, 1) := by decide +kernel
theorem dL_has_4 : decode cL_has 4 = .ok (.iload_n 1, 1) := by decide +kernel
theorem dL_has_5 : decode cL_has 5 = .ok (.iload_n 2, 1) := by decide +kernel
theorem dL_has_6 : decode cL_has 6 = .ok (.iload_n 3, 1) := by decide +kernel
theorem dL_has_7 : decode cL_has 7 = .ok (.invokevirtual 65, 3) := by decide +kernel
theorem dL_has_10 : decode cL_has 10 = .ok (.ifCond .eq 7, 3) := by decide +kernel
theorem dL_has_13 : decode cL_has 13 = .ok (.lconst 1, 1) := by decide +kernel
theorem dL_has_14 : decode cL_has 14 = .ok (.goto 4, 3) := by decide +kernel
theorem dL_has_17 : decode cL_has 17 = .ok (.lconst 0, 1) := by decide +kernel
theorem dL_has_18 : decode cL_has 18 = .ok (.lastore, 1) := by decide +kernel
theorem dL_has_19 : decode cL_has 19 = .ok (.goto 7, 3) := by decide +kernel
theorem dL_has_22 : decode cL_has 22 = .ok (.astore 5, 2) := by decide +kernel
theorem dL_has_24 : decode cL_has 24 = .ok (.iconst 1, 1) := by decide +kernel
theorem dL_has_25 : decode cL_has 25 = .ok (.ireturn, 1) := by decide +kernel
theorem dL_has_26 : decode cL_has 26 = .ok (.iconst 0, 1) := by decide +kernel
theorem dL_has_27 : decode cL_has 27 = .ok (.ireturn, 1) := by decide +kernel
theorem dL_count_0 : decode cL_count 0 = .ok (.aload_n 2, 1) := by decide +kernel
theorem dL_count_1 : decode cL_count 1 = .ok (.iconst 0, 1) := by decide +kernel
theorem dL_count_2 : decode cL_count 2 = .ok (.aload_n 0, 1) := by decide +kernel
theorem dL_count_3 : decode cL_count 3 = .ok (.iload_n 1, 1) := by decide +kernel
theorem dL_count_4 : decode cL_count 4 = .ok (.invokevirtual 69, 3) := by decide +kernel
theorem dL_count_7 : decode cL_count 7 = .ok (.i2l, 1) := by decide +kernel
theorem dL_count_8 : decode cL_count 8 = .ok (.lastore, 1) := by decide +kernel
theorem dL_count_9 : decode cL_count 9 = .ok (.goto 6, 3) := by decide +kernel
theorem dL_count_12 : decode cL_count 12 = .ok (.astore_n 3, 1) := by decide +kernel
theorem dL_count_13 : decode cL_count 13 = .ok (.iconst 1, 1) := by decide +kernel
theorem dL_count_14 : decode cL_count 14 = .ok (.ireturn, 1) := by decide +kernel
theorem dL_count_15 : decode cL_count 15 = .ok (.iconst 0, 1) := by decide +kernel
theorem dL_count_16 : decode cL_count 16 = .ok (.ireturn, 1) := by decide +kernel
theorem dL_countOf_0 : decode cL_countOf 0 = .ok (.aload_n 3, 1) := by decide +kernel
theorem dL_countOf_1 : decode cL_countOf 1 = .ok (.iconst 0, 1) := by decide +kernel
theorem dL_countOf_2 : decode cL_countOf 2 = .ok (.aload_n 0, 1) := by decide +kernel
theorem dL_countOf_3 : decode cL_countOf 3 = .ok (.iload_n 1, 1) := by decide +kernel
theorem dL_countOf_4 : decode cL_countOf 4 = .ok (.iload_n 2, 1) := by decide +kernel
theorem dL_countOf_5 : decode cL_countOf 5 = .ok (.invokevirtual 72, 3) := by decide +kernel
theorem dL_countOf_8 : decode cL_countOf 8 = .ok (.i2l, 1) := by decide +kernel
theorem dL_countOf_9 : decode cL_countOf 9 = .ok (.lastore, 1) := by decide +kernel
theorem dL_countOf_10 : decode cL_countOf 10 = .ok (.goto 7, 3) := by decide +kernel
theorem dL_countOf_13 : decode cL_countOf 13 = .ok (.astore 4, 2) := by decide +kernel
theorem dL_countOf_15 : decode cL_countOf 15 = .ok (.iconst 1, 1) := by decide +kernel
theorem dL_countOf_16 : decode cL_countOf 16 = .ok (.ireturn, 1) := by decide +kernel
theorem dL_countOf_17 : decode cL_countOf 17 = .ok (.iconst 0, 1) := by decide +kernel
theorem dL_countOf_18 : decode cL_countOf 18 = .ok (.ireturn, 1) := by decide +kernel
theorem dL_beside_0 : decode cL_beside 0 = .ok (.aload 5, 2) := by decide +kernel
theorem dL_beside_2 : decode cL_beside 2 = .ok (.iconst 0, 1) := by decide +kernel
theorem dL_beside_3 : decode cL_beside 3 = .ok (.aload_n 0, 1) := by decide +kernel
theorem dL_beside_4 : decode cL_beside 4 = .ok (.iload_n 1, 1) := by decide +kernel
theorem dL_beside_5 : decode cL_beside 5 = .ok (.iload_n 2, 1) := by decide +kernel
theorem dL_beside_6 : decode cL_beside 6 = .ok (.iload_n 3, 1) := by decide +kernel
theorem dL_beside_7 : decode cL_beside 7 = .ok (.iload 4, 2) := by decide +kernel
theorem dL_beside_9 : decode cL_beside 9 = .ok (.invokevirtual 75, 3) := by decide +kernel
theorem dL_beside_12 : decode cL_beside 12 = .ok (.i2l, 1) := by decide +kernel
theorem dL_beside_13 : decode cL_beside 13 = .ok (.lastore, 1) := by decide +kernel
theorem dL_beside_14 : decode cL_beside 14 = .ok (.goto 11, 3) := by decide +kernel
theorem dL_beside_17 : decode cL_beside 17 = .ok (.astore 6, 2) := by decide +kernel
theorem dL_beside_19 : decode cL_beside 19 = .ok (.iconst 1, 1) := by decide +kernel
theorem dL_beside_20 : decode cL_beside 20 = .ok (.ireturn, 1) := by decide +kernel
theorem dL_beside_21 : decode cL_beside 21 = .ok (.astore 6, 2) := by decide +kernel
theorem dL_beside_23 : decode cL_beside 23 = .ok (.iconst 2, 1) := by decide +kernel
theorem dL_beside_24 : decode cL_beside 24 = .ok (.ireturn, 1) := by decide +kernel
theorem dL_beside_25 : decode cL_beside 25 = .ok (.iconst 0, 1) := by decide +kernel
theorem dL_beside_26 : decode cL_beside 26 = .ok (.ireturn, 1) := by decide +kernel
theorem dL_wordOf_0 : decode cL_wordOf 0 = .ok (.aload 4, 2) := by decide +kernel
theorem dL_wordOf_2 : decode cL_wordOf 2 = .ok (.iconst 0, 1) := by decide +kernel
theorem dL_wordOf_3 : decode cL_wordOf 3 = .ok (.aload_n 0, 1) := by decide +kernel
theorem dL_wordOf_4 : decode cL_wordOf 4 = .ok (.iload_n 1, 1) := by decide +kernel
theorem dL_wordOf_5 : decode cL_wordOf 5 = .ok (.iload_n 2, 1) := by decide +kernel
theorem dL_wordOf_6 : decode cL_wordOf 6 = .ok (.iload_n 3, 1) := by decide +kernel
theorem dL_wordOf_7 : decode cL_wordOf 7 = .ok (.invokevirtual 78, 3) := by decide +kernel
theorem dL_wordOf_10 : decode cL_wordOf 10 = .ok (.lastore, 1) := by decide +kernel
theorem dL_wordOf_11 : decode cL_wordOf 11 = .ok (.goto 11, 3) := by decide +kernel
theorem dL_wordOf_14 : decode cL_wordOf 14 = .ok (.astore 5, 2) := by decide +kernel
theorem dL_wordOf_16 : decode cL_wordOf 16 = .ok (.iconst 1, 1) := by decide +kernel
theorem dL_wordOf_17 : decode cL_wordOf 17 = .ok (.ireturn, 1) := by decide +kernel
theorem dL_wordOf_18 : decode cL_wordOf 18 = .ok (.astore 5, 2) := by decide +kernel
theorem dL_wordOf_20 : decode cL_wordOf 20 = .ok (.iconst 2, 1) := by decide +kernel
theorem dL_wordOf_21 : decode cL_wordOf 21 = .ok (.ireturn, 1) := by decide +kernel
theorem dL_wordOf_22 : decode cL_wordOf 22 = .ok (.iconst 0, 1) := by decide +kernel
theorem dL_wordOf_23 : decode cL_wordOf 23 = .ok (.ireturn, 1) := by decide +kernel
theorem dL_meet_0 : decode cL_meet 0 = .ok (.aload 5, 2) := by decide +kernel
theorem dL_meet_2 : decode cL_meet 2 = .ok (.iconst 0, 1) := by decide +kernel
theorem dL_meet_3 : decode cL_meet 3 = .ok (.aload_n 0, 1) := by decide +kernel
theorem dL_meet_4 : decode cL_meet 4 = .ok (.iload_n 1, 1) := by decide +kernel
theorem dL_meet_5 : decode cL_meet 5 = .ok (.iload_n 2, 1) := by decide +kernel
theorem dL_meet_6 : decode cL_meet 6 = .ok (.iload_n 3, 1) := by decide +kernel
theorem dL_meet_7 : decode cL_meet 7 = .ok (.iload 4, 2) := by decide +kernel
theorem dL_meet_9 : decode cL_meet 9 = .ok (.invokevirtual 82, 3) := by decide +kernel
theorem dL_meet_12 : decode cL_meet 12 = .ok (.ifCond .eq 7, 3) := by decide +kernel
theorem dL_meet_15 : decode cL_meet 15 = .ok (.lconst 1, 1) := by decide +kernel
theorem dL_meet_16 : decode cL_meet 16 = .ok (.goto 4, 3) := by decide +kernel
theorem dL_meet_19 : decode cL_meet 19 = .ok (.lconst 0, 1) := by decide +kernel
theorem dL_meet_20 : decode cL_meet 20 = .ok (.lastore, 1) := by decide +kernel
theorem dL_meet_21 : decode cL_meet 21 = .ok (.goto 7, 3) := by decide +kernel
theorem dL_meet_24 : decode cL_meet 24 = .ok (.astore 6, 2) := by decide +kernel
theorem dL_meet_26 : decode cL_meet 26 = .ok (.iconst 1, 1) := by decide +kernel
theorem dL_meet_27 : decode cL_meet 27 = .ok (.ireturn, 1) := by decide +kernel
theorem dL_meet_28 : decode cL_meet 28 = .ok (.iconst 0, 1) := by decide +kernel
theorem dL_meet_29 : decode cL_meet 29 = .ok (.ireturn, 1) := by decide +kernel
theorem dL_compare_0 : decode cL_compare 0 = .ok (.aload_n 3, 1) := by decide +kernel
theorem dL_compare_1 : decode cL_compare 1 = .ok (.iconst 0, 1) := by decide +kernel
theorem dL_compare_2 : decode cL_compare 2 = .ok (.aload_n 0, 1) := by decide +kernel
theorem dL_compare_3 : decode cL_compare 3 = .ok (.iload_n 1, 1) := by decide +kernel
theorem dL_compare_4 : decode cL_compare 4 = .ok (.iload_n 2, 1) := by decide +kernel
theorem dL_compare_5 : decode cL_compare 5 = .ok (.invokevirtual 86, 3) := by decide +kernel
theorem dL_compare_8 : decode cL_compare 8 = .ok (.i2l, 1) := by decide +kernel
theorem dL_compare_9 : decode cL_compare 9 = .ok (.lastore, 1) := by decide +kernel
theorem dL_compare_10 : decode cL_compare 10 = .ok (.goto 7, 3) := by decide +kernel
theorem dL_compare_13 : decode cL_compare 13 = .ok (.astore 4, 2) := by decide +kernel
theorem dL_compare_15 : decode cL_compare 15 = .ok (.iconst 1, 1) := by decide +kernel
theorem dL_compare_16 : decode cL_compare 16 = .ok (.ireturn, 1) := by decide +kernel
theorem dL_compare_17 : decode cL_compare 17 = .ok (.iconst 0, 1) := by decide +kernel
theorem dL_compare_18 : decode cL_compare 18 = .ok (.ireturn, 1) := by decide +kernel
theorem dL_is_0 : decode cL_is 0 = .ok (.aload_n 3, 1) := by decide +kernel
theorem dL_is_1 : decode cL_is 1 = .ok (.iconst 0, 1) := by decide +kernel
theorem dL_is_2 : decode cL_is 2 = .ok (.aload_n 0, 1) := by decide +kernel
theorem dL_is_3 : decode cL_is 3 = .ok (.iload_n 1, 1) := by decide +kernel
theorem dL_is_4 : decode cL_is 4 = .ok (.iload_n 2, 1) := by decide +kernel
theorem dL_is_5 : decode cL_is 5 = .ok (.invokevirtual 89, 3) := by decide +kernel
theorem dL_is_8 : decode cL_is 8 = .ok (.ifCond .eq 7, 3) := by decide +kernel
theorem dL_is_11 : decode cL_is 11 = .ok (.lconst 1, 1) := by decide +kernel
theorem dL_is_12 : decode cL_is 12 = .ok (.goto 4, 3) := by decide +kernel
theorem dL_is_15 : decode cL_is 15 = .ok (.lconst 0, 1) := by decide +kernel
theorem dL_is_16 : decode cL_is 16 = .ok (.lastore, 1) := by decide +kernel
theorem dL_is_17 : decode cL_is 17 = .ok (.goto 11, 3) := by decide +kernel
theorem dL_is_20 : decode cL_is 20 = .ok (.astore 4, 2) := by decide +kernel
theorem dL_is_22 : decode cL_is 22 = .ok (.iconst 1, 1) := by decide +kernel
theorem dL_is_23 : decode cL_is 23 = .ok (.ireturn, 1) := by decide +kernel
theorem dL_is_24 : decode cL_is 24 = .ok (.astore 4, 2) := by decide +kernel
theorem dL_is_26 : decode cL_is 26 = .ok (.iconst 2, 1) := by decide +kernel
theorem dL_is_27 : decode cL_is 27 = .ok (.ireturn, 1) := by decide +kernel
theorem dL_is_28 : decode cL_is 28 = .ok (.iconst 0, 1) := by decide +kernel
theorem dL_is_29 : decode cL_is 29 = .ok (.ireturn, 1) := by decide +kernel
theorem dL_steps_0 : decode cL_steps 0 = .ok (.aload 4, 2) := by decide +kernel
theorem dL_steps_2 : decode cL_steps 2 = .ok (.iconst 0, 1) := by decide +kernel
theorem dL_steps_3 : decode cL_steps 3 = .ok (.aload_n 0, 1) := by decide +kernel
theorem dL_steps_4 : decode cL_steps 4 = .ok (.iload_n 1, 1) := by decide +kernel
theorem dL_steps_5 : decode cL_steps 5 = .ok (.iload_n 2, 1) := by decide +kernel
theorem dL_steps_6 : decode cL_steps 6 = .ok (.iload_n 3, 1) := by decide +kernel
theorem dL_steps_7 : decode cL_steps 7 = .ok (.invokevirtual 93, 3) := by decide +kernel
theorem dL_steps_10 : decode cL_steps 10 = .ok (.i2l, 1) := by decide +kernel
theorem dL_steps_11 : decode cL_steps 11 = .ok (.lastore, 1) := by decide +kernel
theorem dL_steps_12 : decode cL_steps 12 = .ok (.goto 7, 3) := by decide +kernel
theorem dL_steps_15 : decode cL_steps 15 = .ok (.astore 5, 2) := by decide +kernel
theorem dL_steps_17 : decode cL_steps 17 = .ok (.iconst 1, 1) := by decide +kernel
theorem dL_steps_18 : decode cL_steps 18 = .ok (.ireturn, 1) := by decide +kernel
theorem dL_steps_19 : decode cL_steps 19 = .ok (.iconst 0, 1) := by decide +kernel
theorem dL_steps_20 : decode cL_steps 20 = .ok (.ireturn, 1) := by decide +kernel
theorem dL_classOf_0 : decode cL_classOf 0 = .ok (.aload_n 3, 1) := by decide +kernel
theorem dL_classOf_1 : decode cL_classOf 1 = .ok (.iconst 0, 1) := by decide +kernel
theorem dL_classOf_2 : decode cL_classOf 2 = .ok (.aload_n 0, 1) := by decide +kernel
theorem dL_classOf_3 : decode cL_classOf 3 = .ok (.iload_n 1, 1) := by decide +kernel
theorem dL_classOf_4 : decode cL_classOf 4 = .ok (.iload_n 2, 1) := by decide +kernel
theorem dL_classOf_5 : decode cL_classOf 5 = .ok (.invokevirtual 96, 3) := by decide +kernel
theorem dL_classOf_8 : decode cL_classOf 8 = .ok (.i2l, 1) := by decide +kernel
theorem dL_classOf_9 : decode cL_classOf 9 = .ok (.lastore, 1) := by decide +kernel
theorem dL_classOf_10 : decode cL_classOf 10 = .ok (.goto 7, 3) := by decide +kernel
theorem dL_classOf_13 : decode cL_classOf 13 = .ok (.astore 4, 2) := by decide +kernel
theorem dL_classOf_15 : decode cL_classOf 15 = .ok (.iconst 1, 1) := by decide +kernel
theorem dL_classOf_16 : decode cL_classOf 16 = .ok (.ireturn, 1) := by decide +kernel
theorem dL_classOf_17 : decode cL_classOf 17 = .ok (.iconst 0, 1) := by decide +kernel
theorem dL_classOf_18 : decode cL_classOf 18 = .ok (.ireturn, 1) := by decide +kernel
theorem dL_classes_0 : decode cL_classes 0 = .ok (.aload_n 2, 1) := by decide +kernel
theorem dL_classes_1 : decode cL_classes 1 = .ok (.iconst 0, 1) := by decide +kernel
theorem dL_classes_2 : decode cL_classes 2 = .ok (.aload_n 0, 1) := by decide +kernel
theorem dL_classes_3 : decode cL_classes 3 = .ok (.iload_n 1, 1) := by decide +kernel
theorem dL_classes_4 : decode cL_classes 4 = .ok (.invokevirtual 99, 3) := by decide +kernel
theorem dL_classes_7 : decode cL_classes 7 = .ok (.i2l, 1) := by decide +kernel
theorem dL_classes_8 : decode cL_classes 8 = .ok (.lastore, 1) := by decide +kernel
theorem dL_classes_9 : decode cL_classes 9 = .ok (.goto 6, 3) := by decide +kernel
theorem dL_classes_12 : decode cL_classes 12 = .ok (.astore_n 3, 1) := by decide +kernel
theorem dL_classes_13 : decode cL_classes 13 = .ok (.iconst 1, 1) := by decide +kernel
theorem dL_classes_14 : decode cL_classes 14 = .ok (.ireturn, 1) := by decide +kernel
theorem dL_classes_15 : decode cL_classes 15 = .ok (.iconst 0, 1) := by decide +kernel
theorem dL_classes_16 : decode cL_classes 16 = .ok (.ireturn, 1) := by decide +kernel
theorem dL_hasRing_0 : decode cL_hasRing 0 = .ok (.aload_n 2, 1) := by decide +kernel
theorem dL_hasRing_1 : decode cL_hasRing 1 = .ok (.iconst 0, 1) := by decide +kernel
theorem dL_hasRing_2 : decode cL_hasRing 2 = .ok (.aload_n 0, 1) := by decide +kernel
theorem dL_hasRing_3 : decode cL_hasRing 3 = .ok (.iload_n 1, 1) := by decide +kernel
theorem dL_hasRing_4 : decode cL_hasRing 4 = .ok (.invokevirtual 102, 3) := by decide +kernel
theorem dL_hasRing_7 : decode cL_hasRing 7 = .ok (.ifCond .eq 7, 3) := by decide +kernel
theorem dL_hasRing_10 : decode cL_hasRing 10 = .ok (.lconst 1, 1) := by decide +kernel
theorem dL_hasRing_11 : decode cL_hasRing 11 = .ok (.goto 4, 3) := by decide +kernel
theorem dL_hasRing_14 : decode cL_hasRing 14 = .ok (.lconst 0, 1) := by decide +kernel
theorem dL_hasRing_15 : decode cL_hasRing 15 = .ok (.lastore, 1) := by decide +kernel
theorem dL_hasRing_16 : decode cL_hasRing 16 = .ok (.goto 6, 3) := by decide +kernel
theorem dL_hasRing_19 : decode cL_hasRing 19 = .ok (.astore_n 3, 1) := by decide +kernel
theorem dL_hasRing_20 : decode cL_hasRing 20 = .ok (.iconst 1, 1) := by decide +kernel
theorem dL_hasRing_21 : decode cL_hasRing 21 = .ok (.ireturn, 1) := by decide +kernel
theorem dL_hasRing_22 : decode cL_hasRing 22 = .ok (.iconst 0, 1) := by decide +kernel
theorem dL_hasRing_23 : decode cL_hasRing 23 = .ok (.ireturn, 1) := by decide +kernel
theorem dL_orderAt_0 : decode cL_orderAt 0 = .ok (.aload_n 3, 1) := by decide +kernel
theorem dL_orderAt_1 : decode cL_orderAt 1 = .ok (.iconst 0, 1) := by decide +kernel
theorem dL_orderAt_2 : decode cL_orderAt 2 = .ok (.aload_n 0, 1) := by decide +kernel
theorem dL_orderAt_3 : decode cL_orderAt 3 = .ok (.iload_n 1, 1) := by decide +kernel
theorem dL_orderAt_4 : decode cL_orderAt 4 = .ok (.iload_n 2, 1) := by decide +kernel
theorem dL_orderAt_5 : decode cL_orderAt 5 = .ok (.invokevirtual 106, 3) := by decide +kernel
theorem dL_orderAt_8 : decode cL_orderAt 8 = .ok (.i2l, 1) := by decide +kernel
theorem dL_orderAt_9 : decode cL_orderAt 9 = .ok (.lastore, 1) := by decide +kernel
theorem dL_orderAt_10 : decode cL_orderAt 10 = .ok (.goto 11, 3) := by decide +kernel
theorem dL_orderAt_13 : decode cL_orderAt 13 = .ok (.astore 4, 2) := by decide +kernel
theorem dL_orderAt_15 : decode cL_orderAt 15 = .ok (.iconst 1, 1) := by decide +kernel
theorem dL_orderAt_16 : decode cL_orderAt 16 = .ok (.ireturn, 1) := by decide +kernel
theorem dL_orderAt_17 : decode cL_orderAt 17 = .ok (.astore 4, 2) := by decide +kernel
theorem dL_orderAt_19 : decode cL_orderAt 19 = .ok (.iconst 2, 1) := by decide +kernel
theorem dL_orderAt_20 : decode cL_orderAt 20 = .ok (.ireturn, 1) := by decide +kernel
theorem dL_orderAt_21 : decode cL_orderAt 21 = .ok (.iconst 0, 1) := by decide +kernel
theorem dL_orderAt_22 : decode cL_orderAt 22 = .ok (.ireturn, 1) := by decide +kernel
theorem dL_longestWalk_0 : decode cL_longestWalk 0 = .ok (.aload_n 2, 1) := by decide +kernel
theorem dL_longestWalk_1 : decode cL_longestWalk 1 = .ok (.iconst 0, 1) := by decide +kernel
theorem dL_longestWalk_2 : decode cL_longestWalk 2 = .ok (.aload_n 0, 1) := by decide +kernel
theorem dL_longestWalk_3 : decode cL_longestWalk 3 = .ok (.iload_n 1, 1) := by decide +kernel
theorem dL_longestWalk_4 : decode cL_longestWalk 4 = .ok (.invokevirtual 109, 3) := by decide +kernel
theorem dL_longestWalk_7 : decode cL_longestWalk 7 = .ok (.i2l, 1) := by decide +kernel
theorem dL_longestWalk_8 : decode cL_longestWalk 8 = .ok (.lastore, 1) := by decide +kernel
theorem dL_longestWalk_9 : decode cL_longestWalk 9 = .ok (.goto 9, 3) := by decide +kernel
theorem dL_longestWalk_12 : decode cL_longestWalk 12 = .ok (.astore_n 3, 1) := by decide +kernel
theorem dL_longestWalk_13 : decode cL_longestWalk 13 = .ok (.iconst 1, 1) := by decide +kernel
theorem dL_longestWalk_14 : decode cL_longestWalk 14 = .ok (.ireturn, 1) := by decide +kernel
theorem dL_longestWalk_15 : decode cL_longestWalk 15 = .ok (.astore_n 3, 1) := by decide +kernel
theorem dL_longestWalk_16 : decode cL_longestWalk 16 = .ok (.iconst 2, 1) := by decide +kernel
theorem dL_longestWalk_17 : decode cL_longestWalk 17 = .ok (.ireturn, 1) := by decide +kernel
theorem dL_longestWalk_18 : decode cL_longestWalk 18 = .ok (.iconst 0, 1) := by decide +kernel
theorem dL_longestWalk_19 : decode cL_longestWalk 19 = .ok (.ireturn, 1) := by decide +kernel
theorem dL_mark_0 : decode cL_mark 0 = .ok (.aload 4, 2) := by decide +kernel
theorem dL_mark_2 : decode cL_mark 2 = .ok (.iconst 0, 1) := by decide +kernel
theorem dL_mark_3 : decode cL_mark 3 = .ok (.aload_n 0, 1) := by decide +kernel
theorem dL_mark_4 : decode cL_mark 4 = .ok (.iload_n 1, 1) := by decide +kernel
theorem dL_mark_5 : decode cL_mark 5 = .ok (.iload_n 2, 1) := by decide +kernel
theorem dL_mark_6 : decode cL_mark 6 = .ok (.iload_n 3, 1) := by decide +kernel
theorem dL_mark_7 : decode cL_mark 7 = .ok (.invokevirtual 112, 3) := by decide +kernel
theorem dL_mark_10 : decode cL_mark 10 = .ok (.i2l, 1) := by decide +kernel
theorem dL_mark_11 : decode cL_mark 11 = .ok (.lastore, 1) := by decide +kernel
theorem dL_mark_12 : decode cL_mark 12 = .ok (.goto 7, 3) := by decide +kernel
theorem dL_mark_15 : decode cL_mark 15 = .ok (.astore 5, 2) := by decide +kernel
theorem dL_mark_17 : decode cL_mark 17 = .ok (.iconst 1, 1) := by decide +kernel
theorem dL_mark_18 : decode cL_mark 18 = .ok (.ireturn, 1) := by decide +kernel
theorem dL_mark_19 : decode cL_mark 19 = .ok (.iconst 0, 1) := by decide +kernel
theorem dL_mark_20 : decode cL_mark 20 = .ok (.ireturn, 1) := by decide +kernel
theorem dL_spread_0 : decode cL_spread 0 = .ok (.aload_n 3, 1) := by decide +kernel
theorem dL_spread_1 : decode cL_spread 1 = .ok (.iconst 0, 1) := by decide +kernel
theorem dL_spread_2 : decode cL_spread 2 = .ok (.aload_n 0, 1) := by decide +kernel
theorem dL_spread_3 : decode cL_spread 3 = .ok (.iload_n 1, 1) := by decide +kernel
theorem dL_spread_4 : decode cL_spread 4 = .ok (.iload_n 2, 1) := by decide +kernel
theorem dL_spread_5 : decode cL_spread 5 = .ok (.invokevirtual 116, 3) := by decide +kernel
theorem dL_spread_8 : decode cL_spread 8 = .ok (.i2l, 1) := by decide +kernel
theorem dL_spread_9 : decode cL_spread 9 = .ok (.lastore, 1) := by decide +kernel
theorem dL_spread_10 : decode cL_spread 10 = .ok (.goto 7, 3) := by decide +kernel
theorem dL_spread_13 : decode cL_spread 13 = .ok (.astore 4, 2) := by decide +kernel
theorem dL_spread_15 : decode cL_spread 15 = .ok (.iconst 1, 1) := by decide +kernel
theorem dL_spread_16 : decode cL_spread 16 = .ok (.ireturn, 1) := by decide +kernel
theorem dL_spread_17 : decode cL_spread 17 = .ok (.iconst 0, 1) := by decide +kernel
theorem dL_spread_18 : decode cL_spread 18 = .ok (.ireturn, 1) := by decide +kernel
theorem dL_markedAt_0 : decode cL_markedAt 0 = .ok (.aload_n 2, 1) := by decide +kernel
theorem dL_markedAt_1 : decode cL_markedAt 1 = .ok (.iconst 0, 1) := by decide +kernel
theorem dL_markedAt_2 : decode cL_markedAt 2 = .ok (.aload_n 0, 1) := by decide +kernel
theorem dL_markedAt_3 : decode cL_markedAt 3 = .ok (.iload_n 1, 1) := by decide +kernel
theorem dL_markedAt_4 : decode cL_markedAt 4 = .ok (.invokevirtual 119, 3) := by decide +kernel
theorem dL_markedAt_7 : decode cL_markedAt 7 = .ok (.i2l, 1) := by decide +kernel
theorem dL_markedAt_8 : decode cL_markedAt 8 = .ok (.lastore, 1) := by decide +kernel
theorem dL_markedAt_9 : decode cL_markedAt 9 = .ok (.goto 6, 3) := by decide +kernel
theorem dL_markedAt_12 : decode cL_markedAt 12 = .ok (.astore_n 3, 1) := by decide +kernel
theorem dL_markedAt_13 : decode cL_markedAt 13 = .ok (.iconst 1, 1) := by decide +kernel
theorem dL_markedAt_14 : decode cL_markedAt 14 = .ok (.ireturn, 1) := by decide +kernel
theorem dL_markedAt_15 : decode cL_markedAt 15 = .ok (.iconst 0, 1) := by decide +kernel
theorem dL_markedAt_16 : decode cL_markedAt 16 = .ok (.ireturn, 1) := by decide +kernel
theorem dL_meanRow_0 : decode cL_meanRow 0 = .ok (.aload_n 2, 1) := by decide +kernel
theorem dL_meanRow_1 : decode cL_meanRow 1 = .ok (.iconst 0, 1) := by decide +kernel
theorem dL_meanRow_2 : decode cL_meanRow 2 = .ok (.aload_n 0, 1) := by decide +kernel
theorem dL_meanRow_3 : decode cL_meanRow 3 = .ok (.iload_n 1, 1) := by decide +kernel
theorem dL_meanRow_4 : decode cL_meanRow 4 = .ok (.invokevirtual 124, 3) := by decide +kernel
theorem dL_meanRow_7 : decode cL_meanRow 7 = .ok (.dastore, 1) := by decide +kernel
theorem dL_meanRow_8 : decode cL_meanRow 8 = .ok (.goto 6, 3) := by decide +kernel
theorem dL_meanRow_11 : decode cL_meanRow 11 = .ok (.astore_n 3, 1) := by decide +kernel
theorem dL_meanRow_12 : decode cL_meanRow 12 = .ok (.iconst 1, 1) := by decide +kernel
theorem dL_meanRow_13 : decode cL_meanRow 13 = .ok (.ireturn, 1) := by decide +kernel
theorem dL_meanRow_14 : decode cL_meanRow 14 = .ok (.iconst 0, 1) := by decide +kernel
theorem dL_meanRow_15 : decode cL_meanRow 15 = .ok (.ireturn, 1) := by decide +kernel
theorem dL_share_0 : decode cL_share 0 = .ok (.aload_n 2, 1) := by decide +kernel
theorem dL_share_1 : decode cL_share 1 = .ok (.iconst 0, 1) := by decide +kernel
theorem dL_share_2 : decode cL_share 2 = .ok (.aload_n 0, 1) := by decide +kernel
theorem dL_share_3 : decode cL_share 3 = .ok (.iload_n 1, 1) := by decide +kernel
theorem dL_share_4 : decode cL_share 4 = .ok (.invokevirtual 128, 3) := by decide +kernel
theorem dL_share_7 : decode cL_share 7 = .ok (.f2d, 1) := by decide +kernel
theorem dL_share_8 : decode cL_share 8 = .ok (.dastore, 1) := by decide +kernel
theorem dL_share_9 : decode cL_share 9 = .ok (.goto 6, 3) := by decide +kernel
theorem dL_share_12 : decode cL_share 12 = .ok (.astore_n 3, 1) := by decide +kernel
theorem dL_share_13 : decode cL_share 13 = .ok (.iconst 1, 1) := by decide +kernel
theorem dL_share_14 : decode cL_share 14 = .ok (.ireturn, 1) := by decide +kernel
theorem dL_share_15 : decode cL_share 15 = .ok (.iconst 0, 1) := by decide +kernel
theorem dL_share_16 : decode cL_share 16 = .ok (.ireturn, 1) := by decide +kernel
