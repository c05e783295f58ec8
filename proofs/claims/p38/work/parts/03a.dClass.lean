theorem dX0_init_0 : decode cX0_init 0 = .ok (.aload_n 0, 1) := by decide +kernel
theorem dX0_init_1 : decode cX0_init 1 = .ok (.invokespecial 3, 3) := by decide +kernel
theorem dX0_init_4 : decode cX0_init 4 = .ok (.return_, 1) := by decide +kernel
theorem dX0_below_0 : decode cX0_below 0 = .ok (.iload_n 0, 1) := by decide +kernel
theorem dX0_below_1 : decode cX0_below 1 = .ok (.bipush 64, 2) := by decide +kernel
theorem dX0_below_3 : decode cX0_below 3 = .ok (.if_icmp .lt 7, 3) := by decide +kernel
theorem dX0_below_6 : decode cX0_below 6 = .ok (.ldc2_w 9, 3) := by decide +kernel
theorem dX0_below_9 : decode cX0_below 9 = .ok (.lreturn, 1) := by decide +kernel
theorem dX0_below_10 : decode cX0_below 10 = .ok (.iload_n 0, 1) := by decide +kernel
theorem dX0_below_11 : decode cX0_below 11 = .ok (.ifCond .gt 7, 3) := by decide +kernel
theorem dX0_below_14 : decode cX0_below 14 = .ok (.lconst 0, 1) := by decide +kernel
theorem dX0_below_15 : decode cX0_below 15 = .ok (.goto 8, 3) := by decide +kernel
theorem dX0_below_18 : decode cX0_below 18 = .ok (.lconst 1, 1) := by decide +kernel
theorem dX0_below_19 : decode cX0_below 19 = .ok (.iload_n 0, 1) := by decide +kernel
theorem dX0_below_20 : decode cX0_below 20 = .ok (.lshl, 1) := by decide +kernel
theorem dX0_below_21 : decode cX0_below 21 = .ok (.lconst 1, 1) := by decide +kernel
theorem dX0_below_22 : decode cX0_below 22 = .ok (.lsub, 1) := by decide +kernel
theorem dX0_below_23 : decode cX0_below 23 = .ok (.lreturn, 1) := by decide +kernel
theorem dX0_lowRange_0 : decode cX0_lowRange 0 = .ok (.iload_n 1, 1) := by decide +kernel
theorem dX0_lowRange_1 : decode cX0_lowRange 1 = .ok (.invokestatic 11, 3) := by decide +kernel
theorem dX0_lowRange_4 : decode cX0_lowRange 4 = .ok (.iload_n 0, 1) := by decide +kernel
theorem dX0_lowRange_5 : decode cX0_lowRange 5 = .ok (.invokestatic 11, 3) := by decide +kernel
theorem dX0_lowRange_8 : decode cX0_lowRange 8 = .ok (.ldc2_w 9, 3) := by decide +kernel
theorem dX0_lowRange_11 : decode cX0_lowRange 11 = .ok (.lxor, 1) := by decide +kernel
theorem dX0_lowRange_12 : decode cX0_lowRange 12 = .ok (.land, 1) := by decide +kernel
theorem dX0_lowRange_13 : decode cX0_lowRange 13 = .ok (.lreturn, 1) := by decide +kernel
theorem dX0_highRange_0 : decode cX0_highRange 0 = .ok (.iload_n 1, 1) := by decide +kernel
theorem dX0_highRange_1 : decode cX0_highRange 1 = .ok (.bipush 64, 2) := by decide +kernel
theorem dX0_highRange_3 : decode cX0_highRange 3 = .ok (.isub, 1) := by decide +kernel
theorem dX0_highRange_4 : decode cX0_highRange 4 = .ok (.invokestatic 11, 3) := by decide +kernel
theorem dX0_highRange_7 : decode cX0_highRange 7 = .ok (.iload_n 0, 1) := by decide +kernel
theorem dX0_highRange_8 : decode cX0_highRange 8 = .ok (.bipush 64, 2) := by decide +kernel
theorem dX0_highRange_10 : decode cX0_highRange 10 = .ok (.isub, 1) := by decide +kernel
theorem dX0_highRange_11 : decode cX0_highRange 11 = .ok (.invokestatic 11, 3) := by decide +kernel
theorem dX0_highRange_14 : decode cX0_highRange 14 = .ok (.ldc2_w 9, 3) := by decide +kernel
theorem dX0_highRange_17 : decode cX0_highRange 17 = .ok (.lxor, 1) := by decide +kernel
theorem dX0_highRange_18 : decode cX0_highRange 18 = .ok (.land, 1) := by decide +kernel
theorem dX0_highRange_19 : decode cX0_highRange 19 = .ok (.lreturn, 1) := by decide +kernel
theorem dX0_clear_0 : decode cX0_clear 0 = .ok (.aload_n 0, 1) := by decide +kernel
theorem dX0_clear_1 : decode cX0_clear 1 = .ok (.lconst 0, 1) := by decide +kernel
theorem dX0_clear_2 : decode cX0_clear 2 = .ok (.putfield 17, 3) := by decide +kernel
theorem dX0_clear_5 : decode cX0_clear 5 = .ok (.aload_n 0, 1) := by decide +kernel
theorem dX0_clear_6 : decode cX0_clear 6 = .ok (.lconst 0, 1) := by decide +kernel
theorem dX0_clear_7 : decode cX0_clear 7 = .ok (.putfield 21, 3) := by decide +kernel
theorem dX0_clear_10 : decode cX0_clear 10 = .ok (.return_, 1) := by decide +kernel
theorem dX0_become_0 : decode cX0_become 0 = .ok (.aload_n 0, 1) := by decide +kernel
theorem dX0_become_1 : decode cX0_become 1 = .ok (.aload_n 1, 1) := by decide +kernel
theorem dX0_become_2 : decode cX0_become 2 = .ok (.getfield 17, 3) := by decide +kernel
theorem dX0_become_5 : decode cX0_become 5 = .ok (.putfield 17, 3) := by decide +kernel
theorem dX0_become_8 : decode cX0_become 8 = .ok (.aload_n 0, 1) := by decide +kernel
theorem dX0_become_9 : decode cX0_become 9 = .ok (.aload_n 1, 1) := by decide +kernel
theorem dX0_become_10 : decode cX0_become 10 = .ok (.getfield 21, 3) := by decide +kernel
theorem dX0_become_13 : decode cX0_become 13 = .ok (.putfield 21, 3) := by decide +kernel
theorem dX0_become_16 : decode cX0_become 16 = .ok (.return_, 1) := by decide +kernel
theorem dX0_unite_0 : decode cX0_unite 0 = .ok (.aload_n 0, 1) := by decide +kernel
theorem dX0_unite_1 : decode cX0_unite 1 = .ok (.dup, 1) := by decide +kernel
theorem dX0_unite_2 : decode cX0_unite 2 = .ok (.getfield 17, 3) := by decide +kernel
theorem dX0_unite_5 : decode cX0_unite 5 = .ok (.aload_n 1, 1) := by decide +kernel
theorem dX0_unite_6 : decode cX0_unite 6 = .ok (.getfield 17, 3) := by decide +kernel
theorem dX0_unite_9 : decode cX0_unite 9 = .ok (.lor, 1) := by decide +kernel
theorem dX0_unite_10 : decode cX0_unite 10 = .ok (.putfield 17, 3) := by decide +kernel
theorem dX0_unite_13 : decode cX0_unite 13 = .ok (.aload_n 0, 1) := by decide +kernel
theorem dX0_unite_14 : decode cX0_unite 14 = .ok (.dup, 1) := by decide +kernel
theorem dX0_unite_15 : decode cX0_unite 15 = .ok (.getfield 21, 3) := by decide +kernel
theorem dX0_unite_18 : decode cX0_unite 18 = .ok (.aload_n 1, 1) := by decide +kernel
theorem dX0_unite_19 : decode cX0_unite 19 = .ok (.getfield 21, 3) := by decide +kernel
theorem dX0_unite_22 : decode cX0_unite 22 = .ok (.lor, 1) := by decide +kernel
theorem dX0_unite_23 : decode cX0_unite 23 = .ok (.putfield 21, 3) := by decide +kernel
theorem dX0_unite_26 : decode cX0_unite 26 = .ok (.return_, 1) := by decide +kernel
theorem dX0_remove_0 : decode cX0_remove 0 = .ok (.aload_n 0, 1) := by decide +kernel
theorem dX0_remove_1 : decode cX0_remove 1 = .ok (.aload_n 0, 1) := by decide +kernel
theorem dX0_remove_2 : decode cX0_remove 2 = .ok (.getfield 17, 3) := by decide +kernel
theorem dX0_remove_5 : decode cX0_remove 5 = .ok (.aload_n 1, 1) := by decide +kernel
theorem dX0_remove_6 : decode cX0_remove 6 = .ok (.getfield 17, 3) := by decide +kernel
theorem dX0_remove_9 : decode cX0_remove 9 = .ok (.ldc2_w 9, 3) := by decide +kernel
theorem dX0_remove_12 : decode cX0_remove 12 = .ok (.lxor, 1) := by decide +kernel
theorem dX0_remove_13 : decode cX0_remove 13 = .ok (.land, 1) := by decide +kernel
theorem dX0_remove_14 : decode cX0_remove 14 = .ok (.putfield 17, 3) := by decide +kernel
theorem dX0_remove_17 : decode cX0_remove 17 = .ok (.aload_n 0, 1) := by decide +kernel
theorem dX0_remove_18 : decode cX0_remove 18 = .ok (.aload_n 0, 1) := by decide +kernel
theorem dX0_remove_19 : decode cX0_remove 19 = .ok (.getfield 21, 3) := by decide +kernel
theorem dX0_remove_22 : decode cX0_remove 22 = .ok (.aload_n 1, 1) := by decide +kernel
theorem dX0_remove_23 : decode cX0_remove 23 = .ok (.getfield 21, 3) := by decide +kernel
theorem dX0_remove_26 : decode cX0_remove 26 = .ok (.ldc2_w 9, 3) := by decide +kernel
theorem dX0_remove_29 : decode cX0_remove 29 = .ok (.lxor, 1) := by decide +kernel
theorem dX0_remove_30 : decode cX0_remove 30 = .ok (.land, 1) := by decide +kernel
theorem dX0_remove_31 : decode cX0_remove 31 = .ok (.putfield 21, 3) := by decide +kernel
theorem dX0_remove_34 : decode cX0_remove 34 = .ok (.return_, 1) := by decide +kernel
theorem dX0_putRange_0 : decode cX0_putRange 0 = .ok (.iload_n 1, 1) := by decide +kernel
theorem dX0_putRange_1 : decode cX0_putRange 1 = .ok (.iload_n 2, 1) := by decide +kernel
theorem dX0_putRange_2 : decode cX0_putRange 2 = .ok (.invokestatic 24, 3) := by decide +kernel
theorem dX0_putRange_5 : decode cX0_putRange 5 = .ok (.lstore 4, 2) := by decide +kernel
theorem dX0_putRange_7 : decode cX0_putRange 7 = .ok (.iload_n 1, 1) := by decide +kernel
theorem dX0_putRange_8 : decode cX0_putRange 8 = .ok (.iload_n 2, 1) := by decide +kernel
theorem dX0_putRange_9 : decode cX0_putRange 9 = .ok (.invokestatic 28, 3) := by decide +kernel
theorem dX0_putRange_12 : decode cX0_putRange 12 = .ok (.lstore 6, 2) := by decide +kernel
theorem dX0_putRange_14 : decode cX0_putRange 14 = .ok (.aload_n 0, 1) := by decide +kernel
theorem dX0_putRange_15 : decode cX0_putRange 15 = .ok (.iload_n 3, 1) := by decide +kernel
theorem dX0_putRange_16 : decode cX0_putRange 16 = .ok (.ifCond .eq 13, 3) := by decide +kernel
theorem dX0_putRange_19 : decode cX0_putRange 19 = .ok (.aload_n 0, 1) := by decide +kernel
theorem dX0_putRange_20 : decode cX0_putRange 20 = .ok (.getfield 17, 3) := by decide +kernel
theorem dX0_putRange_23 : decode cX0_putRange 23 = .ok (.lload 4, 2) := by decide +kernel
theorem dX0_putRange_25 : decode cX0_putRange 25 = .ok (.lor, 1) := by decide +kernel
theorem dX0_putRange_26 : decode cX0_putRange 26 = .ok (.goto 14, 3) := by decide +kernel
theorem dX0_putRange_29 : decode cX0_putRange 29 = .ok (.aload_n 0, 1) := by decide +kernel
theorem dX0_putRange_30 : decode cX0_putRange 30 = .ok (.getfield 17, 3) := by decide +kernel
theorem dX0_putRange_33 : decode cX0_putRange 33 = .ok (.lload 4, 2) := by decide +kernel
theorem dX0_putRange_35 : decode cX0_putRange 35 = .ok (.ldc2_w 9, 3) := by decide +kernel
theorem dX0_putRange_38 : decode cX0_putRange 38 = .ok (.lxor, 1) := by decide +kernel
theorem dX0_putRange_39 : decode cX0_putRange 39 = .ok (.land, 1) := by decide +kernel
theorem dX0_putRange_40 : decode cX0_putRange 40 = .ok (.putfield 17, 3) := by decide +kernel
theorem dX0_putRange_43 : decode cX0_putRange 43 = .ok (.aload_n 0, 1) := by decide +kernel
theorem dX0_putRange_44 : decode cX0_putRange 44 = .ok (.iload_n 3, 1) := by decide +kernel
theorem dX0_putRange_45 : decode cX0_putRange 45 = .ok (.ifCond .eq 13, 3) := by decide +kernel
theorem dX0_putRange_48 : decode cX0_putRange 48 = .ok (.aload_n 0, 1) := by decide +kernel
theorem dX0_putRange_49 : decode cX0_putRange 49 = .ok (.getfield 21, 3) := by decide +kernel
theorem dX0_putRange_52 : decode cX0_putRange 52 = .ok (.lload 6, 2) := by decide +kernel
theorem dX0_putRange_54 : decode cX0_putRange 54 = .ok (.lor, 1) := by decide +kernel
theorem dX0_putRange_55 : decode cX0_putRange 55 = .ok (.goto 14, 3) := by decide +kernel
theorem dX0_putRange_58 : decode cX0_putRange 58 = .ok (.aload_n 0, 1) := by decide +kernel
theorem dX0_putRange_59 : decode cX0_putRange 59 = .ok (.getfield 21, 3) := by decide +kernel
theorem dX0_putRange_62 : decode cX0_putRange 62 = .ok (.lload 6, 2) := by decide +kernel
theorem dX0_putRange_64 : decode cX0_putRange 64 = .ok (.ldc2_w 9, 3) := by decide +kernel
theorem dX0_putRange_67 : decode cX0_putRange 67 = .ok (.lxor, 1) := by decide +kernel
theorem dX0_putRange_68 : decode cX0_putRange 68 = .ok (.land, 1) := by decide +kernel
theorem dX0_putRange_69 : decode cX0_putRange 69 = .ok (.putfield 21, 3) := by decide +kernel
theorem dX0_putRange_72 : decode cX0_putRange 72 = .ok (.return_, 1) := by decide +kernel
theorem dX0_invert_0 : decode cX0_invert 0 = .ok (.aload_n 0, 1) := by decide +kernel
theorem dX0_invert_1 : decode cX0_invert 1 = .ok (.dup, 1) := by decide +kernel
theorem dX0_invert_2 : decode cX0_invert 2 = .ok (.getfield 17, 3) := by decide +kernel
theorem dX0_invert_5 : decode cX0_invert 5 = .ok (.iload_n 1, 1) := by decide +kernel
theorem dX0_invert_6 : decode cX0_invert 6 = .ok (.iload_n 2, 1) := by decide +kernel
theorem dX0_invert_7 : decode cX0_invert 7 = .ok (.invokestatic 24, 3) := by decide +kernel
theorem dX0_invert_10 : decode cX0_invert 10 = .ok (.lxor, 1) := by decide +kernel
theorem dX0_invert_11 : decode cX0_invert 11 = .ok (.putfield 17, 3) := by decide +kernel
theorem dX0_invert_14 : decode cX0_invert 14 = .ok (.aload_n 0, 1) := by decide +kernel
theorem dX0_invert_15 : decode cX0_invert 15 = .ok (.dup, 1) := by decide +kernel
theorem dX0_invert_16 : decode cX0_invert 16 = .ok (.getfield 21, 3) := by decide +kernel
theorem dX0_invert_19 : decode cX0_invert 19 = .ok (.iload_n 1, 1) := by decide +kernel
theorem dX0_invert_20 : decode cX0_invert 20 = .ok (.iload_n 2, 1) := by decide +kernel
theorem dX0_invert_21 : decode cX0_invert 21 = .ok (.invokestatic 28, 3) := by decide +kernel
theorem dX0_invert_24 : decode cX0_invert 24 = .ok (.lxor, 1) := by decide +kernel
theorem dX0_invert_25 : decode cX0_invert 25 = .ok (.putfield 21, 3) := by decide +kernel
theorem dX0_invert_28 : decode cX0_invert 28 = .ok (.return_, 1) := by decide +kernel
theorem dX0_holds_0 : decode cX0_holds 0 = .ok (.iload_n 1, 1) := by decide +kernel
theorem dX0_holds_1 : decode cX0_holds 1 = .ok (.bipush 64, 2) := by decide +kernel
theorem dX0_holds_3 : decode cX0_holds 3 = .ok (.if_icmp .ge 12, 3) := by decide +kernel
theorem dX0_holds_6 : decode cX0_holds 6 = .ok (.aload_n 0, 1) := by decide +kernel
theorem dX0_holds_7 : decode cX0_holds 7 = .ok (.getfield 17, 3) := by decide +kernel
theorem dX0_holds_10 : decode cX0_holds 10 = .ok (.iload_n 1, 1) := by decide +kernel
theorem dX0_holds_11 : decode cX0_holds 11 = .ok (.lushr, 1) := by decide +kernel
theorem dX0_holds_12 : decode cX0_holds 12 = .ok (.goto 12, 3) := by decide +kernel
theorem dX0_holds_15 : decode cX0_holds 15 = .ok (.aload_n 0, 1) := by decide +kernel
theorem dX0_holds_16 : decode cX0_holds 16 = .ok (.getfield 21, 3) := by decide +kernel
theorem dX0_holds_19 : decode cX0_holds 19 = .ok (.iload_n 1, 1) := by decide +kernel
theorem dX0_holds_20 : decode cX0_holds 20 = .ok (.bipush 64, 2) := by decide +kernel
theorem dX0_holds_22 : decode cX0_holds 22 = .ok (.isub, 1) := by decide +kernel
theorem dX0_holds_23 : decode cX0_holds 23 = .ok (.lushr, 1) := by decide +kernel
theorem dX0_holds_24 : decode cX0_holds 24 = .ok (.lstore_n 2, 1) := by decide +kernel
theorem dX0_holds_25 : decode cX0_holds 25 = .ok (.lload_n 2, 1) := by decide +kernel
theorem dX0_holds_26 : decode cX0_holds 26 = .ok (.lconst 1, 1) := by decide +kernel
theorem dX0_holds_27 : decode cX0_holds 27 = .ok (.land, 1) := by decide +kernel
theorem dX0_holds_28 : decode cX0_holds 28 = .ok (.lconst 0, 1) := by decide +kernel
theorem dX0_holds_29 : decode cX0_holds 29 = .ok (.lcmp, 1) := by decide +kernel
theorem dX0_holds_30 : decode cX0_holds 30 = .ok (.ifCond .eq 7, 3) := by decide +kernel
theorem dX0_holds_33 : decode cX0_holds 33 = .ok (.iconst 1, 1) := by decide +kernel
theorem dX0_holds_34 : decode cX0_holds 34 = .ok (.goto 4, 3) := by decide +kernel
theorem dX0_holds_37 : decode cX0_holds 37 = .ok (.iconst 0, 1) := by decide +kernel
theorem dX0_holds_38 : decode cX0_holds 38 = .ok (.ireturn, 1) := by decide +kernel
theorem dX0_isEmpty_0 : decode cX0_isEmpty 0 = .ok (.aload_n 0, 1) := by decide +kernel
theorem dX0_isEmpty_1 : decode cX0_isEmpty 1 = .ok (.getfield 17, 3) := by decide +kernel
theorem dX0_isEmpty_4 : decode cX0_isEmpty 4 = .ok (.lconst 0, 1) := by decide +kernel
theorem dX0_isEmpty_5 : decode cX0_isEmpty 5 = .ok (.lcmp, 1) := by decide +kernel
theorem dX0_isEmpty_6 : decode cX0_isEmpty 6 = .ok (.ifCond .ne 16, 3) := by decide +kernel
theorem dX0_isEmpty_9 : decode cX0_isEmpty 9 = .ok (.aload_n 0, 1) := by decide +kernel
theorem dX0_isEmpty_10 : decode cX0_isEmpty 10 = .ok (.getfield 21, 3) := by decide +kernel
theorem dX0_isEmpty_13 : decode cX0_isEmpty 13 = .ok (.lconst 0, 1) := by decide +kernel
theorem dX0_isEmpty_14 : decode cX0_isEmpty 14 = .ok (.lcmp, 1) := by decide +kernel
theorem dX0_isEmpty_15 : decode cX0_isEmpty 15 = .ok (.ifCond .ne 7, 3) := by decide +kernel
theorem dX0_isEmpty_18 : decode cX0_isEmpty 18 = .ok (.iconst 1, 1) := by decide +kernel
theorem dX0_isEmpty_19 : decode cX0_isEmpty 19 = .ok (.goto 4, 3) := by decide +kernel
theorem dX0_isEmpty_22 : decode cX0_isEmpty 22 = .ok (.iconst 0, 1) := by decide +kernel
theorem dX0_isEmpty_23 : decode cX0_isEmpty 23 = .ok (.ireturn, 1) := by decide +kernel
theorem dX0_meets_0 : decode cX0_meets 0 = .ok (.aload_n 0, 1) := by decide +kernel
theorem dX0_meets_1 : decode cX0_meets 1 = .ok (.getfield 17, 3) := by decide +kernel
theorem dX0_meets_4 : decode cX0_meets 4 = .ok (.aload_n 1, 1) := by decide +kernel
theorem dX0_meets_5 : decode cX0_meets 5 = .ok (.getfield 17, 3) := by decide +kernel
theorem dX0_meets_8 : decode cX0_meets 8 = .ok (.land, 1) := by decide +kernel
theorem dX0_meets_9 : decode cX0_meets 9 = .ok (.lconst 0, 1) := by decide +kernel
theorem dX0_meets_10 : decode cX0_meets 10 = .ok (.lcmp, 1) := by decide +kernel
theorem dX0_meets_11 : decode cX0_meets 11 = .ok (.ifCond .ne 17, 3) := by decide +kernel
theorem dX0_meets_14 : decode cX0_meets 14 = .ok (.aload_n 0, 1) := by decide +kernel
theorem dX0_meets_15 : decode cX0_meets 15 = .ok (.getfield 21, 3) := by decide +kernel
theorem dX0_meets_18 : decode cX0_meets 18 = .ok (.aload_n 1, 1) := by decide +kernel
theorem dX0_meets_19 : decode cX0_meets 19 = .ok (.getfield 21, 3) := by decide +kernel
theorem dX0_meets_22 : decode cX0_meets 22 = .ok (.land, 1) := by decide +kernel
theorem dX0_meets_23 : decode cX0_meets 23 = .ok (.lconst 0, 1) := by decide +kernel
theorem dX0_meets_24 : decode cX0_meets 24 = .ok (.lcmp, 1) := by decide +kernel
theorem dX0_meets_25 : decode cX0_meets 25 = .ok (.ifCond .eq 7, 3) := by decide +kernel
theorem dX0_meets_28 : decode cX0_meets 28 = .ok (.iconst 1, 1) := by decide +kernel
theorem dX0_meets_29 : decode cX0_meets 29 = .ok (.goto 4, 3) := by decide +kernel
theorem dX0_meets_32 : decode cX0_meets 32 = .ok (.iconst 0, 1) := by decide +kernel
theorem dX0_meets_33 : decode cX0_meets 33 = .ok (.ireturn, 1) := by decide +kernel
theorem dX0_isLike_0 : decode cX0_isLike 0 = .ok (.aload_n 0, 1) := by decide +kernel
theorem dX0_isLike_1 : decode cX0_isLike 1 = .ok (.getfield 17, 3) := by decide +kernel
theorem dX0_isLike_4 : decode cX0_isLike 4 = .ok (.aload_n 1, 1) := by decide +kernel
theorem dX0_isLike_5 : decode cX0_isLike 5 = .ok (.getfield 17, 3) := by decide +kernel
theorem dX0_isLike_8 : decode cX0_isLike 8 = .ok (.lcmp, 1) := by decide +kernel
theorem dX0_isLike_9 : decode cX0_isLike 9 = .ok (.ifCond .ne 19, 3) := by decide +kernel
theorem dX0_isLike_12 : decode cX0_isLike 12 = .ok (.aload_n 0, 1) := by decide +kernel
theorem dX0_isLike_13 : decode cX0_isLike 13 = .ok (.getfield 21, 3) := by decide +kernel
theorem dX0_isLike_16 : decode cX0_isLike 16 = .ok (.aload_n 1, 1) := by decide +kernel
theorem dX0_isLike_17 : decode cX0_isLike 17 = .ok (.getfield 21, 3) := by decide +kernel
theorem dX0_isLike_20 : decode cX0_isLike 20 = .ok (.lcmp, 1) := by decide +kernel
theorem dX0_isLike_21 : decode cX0_isLike 21 = .ok (.ifCond .ne 7, 3) := by decide +kernel
theorem dX0_isLike_24 : decode cX0_isLike 24 = .ok (.iconst 1, 1) := by decide +kernel
theorem dX0_isLike_25 : decode cX0_isLike 25 = .ok (.goto 4, 3) := by decide +kernel
theorem dX0_isLike_28 : decode cX0_isLike 28 = .ok (.iconst 0, 1) := by decide +kernel
theorem dX0_isLike_29 : decode cX0_isLike 29 = .ok (.ireturn, 1) := by decide +kernel
theorem dX0_size_0 : decode cX0_size 0 = .ok (.aload_n 0, 1) := by decide +kernel
theorem dX0_size_1 : decode cX0_size 1 = .ok (.getfield 17, 3) := by decide +kernel
theorem dX0_size_4 : decode cX0_size 4 = .ok (.invokestatic 31, 3) := by decide +kernel
theorem dX0_size_7 : decode cX0_size 7 = .ok (.aload_n 0, 1) := by decide +kernel
theorem dX0_size_8 : decode cX0_size 8 = .ok (.getfield 21, 3) := by decide +kernel
theorem dX0_size_11 : decode cX0_size 11 = .ok (.invokestatic 31, 3) := by decide +kernel
theorem dX0_size_14 : decode cX0_size 14 = .ok (.iadd, 1) := by decide +kernel
theorem dX0_size_15 : decode cX0_size 15 = .ok (.ireturn, 1) := by decide +kernel
theorem dX0_leastFrom_0 : decode cX0_leastFrom 0 = .ok (.aload_n 0, 1) := by decide +kernel
theorem dX0_leastFrom_1 : decode cX0_leastFrom 1 = .ok (.getfield 17, 3) := by decide +kernel
theorem dX0_leastFrom_4 : decode cX0_leastFrom 4 = .ok (.iload_n 1, 1) := by decide +kernel
theorem dX0_leastFrom_5 : decode cX0_leastFrom 5 = .ok (.invokestatic 11, 3) := by decide +kernel
theorem dX0_leastFrom_8 : decode cX0_leastFrom 8 = .ok (.ldc2_w 9, 3) := by decide +kernel
theorem dX0_leastFrom_11 : decode cX0_leastFrom 11 = .ok (.lxor, 1) := by decide +kernel
theorem dX0_leastFrom_12 : decode cX0_leastFrom 12 = .ok (.land, 1) := by decide +kernel
theorem dX0_leastFrom_13 : decode cX0_leastFrom 13 = .ok (.lstore_n 2, 1) := by decide +kernel
theorem dX0_leastFrom_14 : decode cX0_leastFrom 14 = .ok (.lload_n 2, 1) := by decide +kernel
theorem dX0_leastFrom_15 : decode cX0_leastFrom 15 = .ok (.lconst 0, 1) := by decide +kernel
theorem dX0_leastFrom_16 : decode cX0_leastFrom 16 = .ok (.lcmp, 1) := by decide +kernel
theorem dX0_leastFrom_17 : decode cX0_leastFrom 17 = .ok (.ifCond .eq 7, 3) := by decide +kernel
theorem dX0_leastFrom_20 : decode cX0_leastFrom 20 = .ok (.lload_n 2, 1) := by decide +kernel
theorem dX0_leastFrom_21 : decode cX0_leastFrom 21 = .ok (.goto 19, 3) := by decide +kernel
theorem dX0_leastFrom_24 : decode cX0_leastFrom 24 = .ok (.aload_n 0, 1) := by decide +kernel
theorem dX0_leastFrom_25 : decode cX0_leastFrom 25 = .ok (.getfield 21, 3) := by decide +kernel
theorem dX0_leastFrom_28 : decode cX0_leastFrom 28 = .ok (.iload_n 1, 1) := by decide +kernel
theorem dX0_leastFrom_29 : decode cX0_leastFrom 29 = .ok (.bipush 64, 2) := by decide +kernel
theorem dX0_leastFrom_31 : decode cX0_leastFrom 31 = .ok (.isub, 1) := by decide +kernel
theorem dX0_leastFrom_32 : decode cX0_leastFrom 32 = .ok (.invokestatic 11, 3) := by decide +kernel
theorem dX0_leastFrom_35 : decode cX0_leastFrom 35 = .ok (.ldc2_w 9, 3) := by decide +kernel
theorem dX0_leastFrom_38 : decode cX0_leastFrom 38 = .ok (.lxor, 1) := by decide +kernel
theorem dX0_leastFrom_39 : decode cX0_leastFrom 39 = .ok (.land, 1) := by decide +kernel
theorem dX0_leastFrom_40 : decode cX0_leastFrom 40 = .ok (.lstore 4, 2) := by decide +kernel
theorem dX0_leastFrom_42 : decode cX0_leastFrom 42 = .ok (.lload 4, 2) := by decide +kernel
theorem dX0_leastFrom_44 : decode cX0_leastFrom 44 = .ok (.lconst 0, 1) := by decide +kernel
theorem dX0_leastFrom_45 : decode cX0_leastFrom 45 = .ok (.lcmp, 1) := by decide +kernel
theorem dX0_leastFrom_46 : decode cX0_leastFrom 46 = .ok (.ifCond .ne 5, 3) := by decide +kernel
theorem dX0_leastFrom_49 : decode cX0_leastFrom 49 = .ok (.iconst (-1), 1) := by decide +kernel
theorem dX0_leastFrom_50 : decode cX0_leastFrom 50 = .ok (.ireturn, 1) := by decide +kernel
theorem dX0_leastFrom_51 : decode cX0_leastFrom 51 = .ok (.lload 4, 2) := by decide +kernel
theorem dX0_leastFrom_53 : decode cX0_leastFrom 53 = .ok (.lload 4, 2) := by decide +kernel
theorem dX0_leastFrom_55 : decode cX0_leastFrom 55 = .ok (.lneg, 1) := by decide +kernel
theorem dX0_leastFrom_56 : decode cX0_leastFrom 56 = .ok (.land, 1) := by decide +kernel
theorem dX0_leastFrom_57 : decode cX0_leastFrom 57 = .ok (.lconst 1, 1) := by decide +kernel
theorem dX0_leastFrom_58 : decode cX0_leastFrom 58 = .ok (.lsub, 1) := by decide +kernel
theorem dX0_leastFrom_59 : decode cX0_leastFrom 59 = .ok (.invokestatic 31, 3) := by decide +kernel
theorem dX0_leastFrom_62 : decode cX0_leastFrom 62 = .ok (.istore 6, 2) := by decide +kernel
theorem dX0_leastFrom_64 : decode cX0_leastFrom 64 = .ok (.lload_n 2, 1) := by decide +kernel
theorem dX0_leastFrom_65 : decode cX0_leastFrom 65 = .ok (.lconst 0, 1) := by decide +kernel
theorem dX0_leastFrom_66 : decode cX0_leastFrom 66 = .ok (.lcmp, 1) := by decide +kernel
theorem dX0_leastFrom_67 : decode cX0_leastFrom 67 = .ok (.ifCond .eq 8, 3) := by decide +kernel
theorem dX0_leastFrom_70 : decode cX0_leastFrom 70 = .ok (.iload 6, 2) := by decide +kernel
theorem dX0_leastFrom_72 : decode cX0_leastFrom 72 = .ok (.goto 8, 3) := by decide +kernel
theorem dX0_leastFrom_75 : decode cX0_leastFrom 75 = .ok (.bipush 64, 2) := by decide +kernel
theorem dX0_leastFrom_77 : decode cX0_leastFrom 77 = .ok (.iload 6, 2) := by decide +kernel
theorem dX0_leastFrom_79 : decode cX0_leastFrom 79 = .ok (.iadd, 1) := by decide +kernel
theorem dX0_leastFrom_80 : decode cX0_leastFrom 80 = .ok (.ireturn, 1) := by decide +kernel
theorem dX0_greatestTo_0 : decode cX0_greatestTo 0 = .ok (.iload_n 1, 1) := by decide +kernel
theorem dX0_greatestTo_1 : decode cX0_greatestTo 1 = .ok (.istore_n 2, 1) := by decide +kernel
theorem dX0_greatestTo_2 : decode cX0_greatestTo 2 = .ok (.iload_n 2, 1) := by decide +kernel
theorem dX0_greatestTo_3 : decode cX0_greatestTo 3 = .ok (.ifCond .lt 19, 3) := by decide +kernel
theorem dX0_greatestTo_6 : decode cX0_greatestTo 6 = .ok (.aload_n 0, 1) := by decide +kernel
theorem dX0_greatestTo_7 : decode cX0_greatestTo 7 = .ok (.iload_n 2, 1) := by decide +kernel
theorem dX0_greatestTo_8 : decode cX0_greatestTo 8 = .ok (.invokevirtual 37, 3) := by decide +kernel
theorem dX0_greatestTo_11 : decode cX0_greatestTo 11 = .ok (.ifCond .eq 5, 3) := by decide +kernel
theorem dX0_greatestTo_14 : decode cX0_greatestTo 14 = .ok (.iload_n 2, 1) := by decide +kernel
theorem dX0_greatestTo_15 : decode cX0_greatestTo 15 = .ok (.ireturn, 1) := by decide +kernel
theorem dX0_greatestTo_16 : decode cX0_greatestTo 16 = .ok (.iinc 2 (-1), 3) := by decide +kernel
theorem dX0_greatestTo_19 : decode cX0_greatestTo 19 = .ok (.goto (-17), 3) := by decide +kernel
theorem dX0_greatestTo_22 : decode cX0_greatestTo 22 = .ok (.iconst (-1), 1) := by decide +kernel
theorem dX0_greatestTo_23 : decode cX0_greatestTo 23 = .ok (.ireturn, 1) := by decide +kernel
theorem dX1_init_0 : decode cX1_init 0 = .ok (.aload_n 0, 1) := by decide +kernel
theorem dX1_init_1 : decode cX1_init 1 = .ok (.invokespecial 3, 3) := by decide +kernel
theorem dX1_init_4 : decode cX1_init 4 = .ok (.aload_n 0, 1) := by decide +kernel
theorem dX1_init_5 : decode cX1_init 5 = .ok (.bipush 12, 2) := by decide +kernel
theorem dX1_init_7 : decode cX1_init 7 = .ok (.putfield 9, 3) := by decide +kernel
theorem dX1_init_10 : decode cX1_init 10 = .ok (.aload_n 0, 1) := by decide +kernel
theorem dX1_init_11 : decode cX1_init 11 = .ok (.bipush 80, 2) := by decide +kernel
theorem dX1_init_13 : decode cX1_init 13 = .ok (.newarray .long, 2) := by decide +kernel
theorem dX1_init_15 : decode cX1_init 15 = .ok (.putfield 15, 3) := by decide +kernel
theorem dX1_init_18 : decode cX1_init 18 = .ok (.aload_n 0, 1) := by decide +kernel
theorem dX1_init_19 : decode cX1_init 19 = .ok (.bipush 80, 2) := by decide +kernel
theorem dX1_init_21 : decode cX1_init 21 = .ok (.newarray .long, 2) := by decide +kernel
theorem dX1_init_23 : decode cX1_init 23 = .ok (.putfield 19, 3) := by decide +kernel
theorem dX1_init_26 : decode cX1_init 26 = .ok (.aload_n 0, 1) := by decide +kernel
theorem dX1_init_27 : decode cX1_init 27 = .ok (.new 22, 3) := by decide +kernel
theorem dX1_init_30 : decode cX1_init 30 = .ok (.dup, 1) := by decide +kernel
theorem dX1_init_31 : decode cX1_init 31 = .ok (.invokespecial 24, 3) := by decide +kernel
theorem dX1_init_34 : decode cX1_init 34 = .ok (.putfield 25, 3) := by decide +kernel
theorem dX1_init_37 : decode cX1_init 37 = .ok (.return_, 1) := by decide +kernel
theorem dX1_restart_0 : decode cX1_restart 0 = .ok (.aload_n 0, 1) := by decide +kernel
theorem dX1_restart_1 : decode cX1_restart 1 = .ok (.iload_n 1, 1) := by decide +kernel
theorem dX1_restart_2 : decode cX1_restart 2 = .ok (.putfield 9, 3) := by decide +kernel
theorem dX1_restart_5 : decode cX1_restart 5 = .ok (.aload_n 0, 1) := by decide +kernel
theorem dX1_restart_6 : decode cX1_restart 6 = .ok (.getfield 25, 3) := by decide +kernel
theorem dX1_restart_9 : decode cX1_restart 9 = .ok (.invokevirtual 29, 3) := by decide +kernel
theorem dX1_restart_12 : decode cX1_restart 12 = .ok (.iconst 0, 1) := by decide +kernel
theorem dX1_restart_13 : decode cX1_restart 13 = .ok (.istore_n 2, 1) := by decide +kernel
theorem dX1_restart_14 : decode cX1_restart 14 = .ok (.iload_n 2, 1) := by decide +kernel
theorem dX1_restart_15 : decode cX1_restart 15 = .ok (.bipush 80, 2) := by decide +kernel
theorem dX1_restart_17 : decode cX1_restart 17 = .ok (.if_icmp .ge 18, 3) := by decide +kernel
theorem dX1_restart_20 : decode cX1_restart 20 = .ok (.aload_n 0, 1) := by decide +kernel
theorem dX1_restart_21 : decode cX1_restart 21 = .ok (.iload_n 2, 1) := by decide +kernel
theorem dX1_restart_22 : decode cX1_restart 22 = .ok (.aload_n 0, 1) := by decide +kernel
theorem dX1_restart_23 : decode cX1_restart 23 = .ok (.getfield 25, 3) := by decide +kernel
theorem dX1_restart_26 : decode cX1_restart 26 = .ok (.invokevirtual 32, 3) := by decide +kernel
theorem dX1_restart_29 : decode cX1_restart 29 = .ok (.iinc 2 1, 3) := by decide +kernel
theorem dX1_restart_32 : decode cX1_restart 32 = .ok (.goto (-18), 3) := by decide +kernel
theorem dX1_restart_35 : decode cX1_restart 35 = .ok (.return_, 1) := by decide +kernel
theorem dX1_elementsInside_0 : decode cX1_elementsInside 0 = .ok (.aload_n 0, 1) := by decide +kernel
theorem dX1_elementsInside_1 : decode cX1_elementsInside 1 = .ok (.getfield 9, 3) := by decide +kernel
theorem dX1_elementsInside_4 : decode cX1_elementsInside 4 = .ok (.ireturn, 1) := by decide +kernel
theorem dX1_lowAt_0 : decode cX1_lowAt 0 = .ok (.iload_n 1, 1) := by decide +kernel
theorem dX1_lowAt_1 : decode cX1_lowAt 1 = .ok (.ifCond .lt 12, 3) := by decide +kernel
theorem dX1_lowAt_4 : decode cX1_lowAt 4 = .ok (.iload_n 1, 1) := by decide +kernel
theorem dX1_lowAt_5 : decode cX1_lowAt 5 = .ok (.aload_n 0, 1) := by decide +kernel
theorem dX1_lowAt_6 : decode cX1_lowAt 6 = .ok (.getfield 15, 3) := by decide +kernel
theorem dX1_lowAt_9 : decode cX1_lowAt 9 = .ok (.arraylength, 1) := by decide +kernel
theorem dX1_lowAt_10 : decode cX1_lowAt 10 = .ok (.if_icmp .lt 7, 3) := by decide +kernel
theorem dX1_lowAt_13 : decode cX1_lowAt 13 = .ok (.lconst 0, 1) := by decide +kernel
theorem dX1_lowAt_14 : decode cX1_lowAt 14 = .ok (.goto 9, 3) := by decide +kernel
theorem dX1_lowAt_17 : decode cX1_lowAt 17 = .ok (.aload_n 0, 1) := by decide +kernel
theorem dX1_lowAt_18 : decode cX1_lowAt 18 = .ok (.getfield 15, 3) := by decide +kernel
theorem dX1_lowAt_21 : decode cX1_lowAt 21 = .ok (.iload_n 1, 1) := by decide +kernel
theorem dX1_lowAt_22 : decode cX1_lowAt 22 = .ok (.laload, 1) := by decide +kernel
theorem dX1_lowAt_23 : decode cX1_lowAt 23 = .ok (.lreturn, 1) := by decide +kernel
theorem dX1_highAt_0 : decode cX1_highAt 0 = .ok (.iload_n 1, 1) := by decide +kernel
theorem dX1_highAt_1 : decode cX1_highAt 1 = .ok (.ifCond .lt 12, 3) := by decide +kernel
theorem dX1_highAt_4 : decode cX1_highAt 4 = .ok (.iload_n 1, 1) := by decide +kernel
theorem dX1_highAt_5 : decode cX1_highAt 5 = .ok (.aload_n 0, 1) := by decide +kernel
theorem dX1_highAt_6 : decode cX1_highAt 6 = .ok (.getfield 19, 3) := by decide +kernel
theorem dX1_highAt_9 : decode cX1_highAt 9 = .ok (.arraylength, 1) := by decide +kernel
theorem dX1_highAt_10 : decode cX1_highAt 10 = .ok (.if_icmp .lt 7, 3) := by decide +kernel
theorem dX1_highAt_13 : decode cX1_highAt 13 = .ok (.lconst 0, 1) := by decide +kernel
theorem dX1_highAt_14 : decode cX1_highAt 14 = .ok (.goto 9, 3) := by decide +kernel
theorem dX1_highAt_17 : decode cX1_highAt 17 = .ok (.aload_n 0, 1) := by decide +kernel
theorem dX1_highAt_18 : decode cX1_highAt 18 = .ok (.getfield 19, 3) := by decide +kernel
theorem dX1_highAt_21 : decode cX1_highAt 21 = .ok (.iload_n 1, 1) := by decide +kernel
theorem dX1_highAt_22 : decode cX1_highAt 22 = .ok (.laload, 1) := by decide +kernel
theorem dX1_highAt_23 : decode cX1_highAt 23 = .ok (.lreturn, 1) := by decide +kernel
theorem dX1_rowInto_0 : decode cX1_rowInto 0 = .ok (.aload_n 2, 1) := by decide +kernel
theorem dX1_rowInto_1 : decode cX1_rowInto 1 = .ok (.aload_n 0, 1) := by decide +kernel
theorem dX1_rowInto_2 : decode cX1_rowInto 2 = .ok (.iload_n 1, 1) := by decide +kernel
theorem dX1_rowInto_3 : decode cX1_rowInto 3 = .ok (.invokevirtual 36, 3) := by decide +kernel
theorem dX1_rowInto_6 : decode cX1_rowInto 6 = .ok (.putfield 40, 3) := by decide +kernel
theorem dX1_rowInto_9 : decode cX1_rowInto 9 = .ok (.aload_n 2, 1) := by decide +kernel
theorem dX1_rowInto_10 : decode cX1_rowInto 10 = .ok (.aload_n 0, 1) := by decide +kernel
theorem dX1_rowInto_11 : decode cX1_rowInto 11 = .ok (.iload_n 1, 1) := by decide +kernel
theorem dX1_rowInto_12 : decode cX1_rowInto 12 = .ok (.invokevirtual 43, 3) := by decide +kernel
theorem dX1_rowInto_15 : decode cX1_rowInto 15 = .ok (.putfield 46, 3) := by decide +kernel
theorem dX1_rowInto_18 : decode cX1_rowInto 18 = .ok (.return_, 1) := by decide +kernel
theorem dX1_putRow_0 : decode cX1_putRow 0 = .ok (.aload_n 0, 1) := by decide +kernel
theorem dX1_putRow_1 : decode cX1_putRow 1 = .ok (.iload_n 1, 1) := by decide +kernel
theorem dX1_putRow_2 : decode cX1_putRow 2 = .ok (.aload_n 2, 1) := by decide +kernel
theorem dX1_putRow_3 : decode cX1_putRow 3 = .ok (.getfield 40, 3) := by decide +kernel
theorem dX1_putRow_6 : decode cX1_putRow 6 = .ok (.aload_n 2, 1) := by decide +kernel
theorem dX1_putRow_7 : decode cX1_putRow 7 = .ok (.getfield 46, 3) := by decide +kernel
theorem dX1_putRow_10 : decode cX1_putRow 10 = .ok (.invokevirtual 48, 3) := by decide +kernel
theorem dX1_putRow_13 : decode cX1_putRow 13 = .ok (.return_, 1) := by decide +kernel
theorem dX1_putWords_0 : decode cX1_putWords 0 = .ok (.iload_n 1, 1) := by decide +kernel
theorem dX1_putWords_1 : decode cX1_putWords 1 = .ok (.ifCond .lt 36, 3) := by decide +kernel
theorem dX1_putWords_4 : decode cX1_putWords 4 = .ok (.iload_n 1, 1) := by decide +kernel
theorem dX1_putWords_5 : decode cX1_putWords 5 = .ok (.aload_n 0, 1) := by decide +kernel
theorem dX1_putWords_6 : decode cX1_putWords 6 = .ok (.getfield 15, 3) := by decide +kernel
theorem dX1_putWords_9 : decode cX1_putWords 9 = .ok (.arraylength, 1) := by decide +kernel
theorem dX1_putWords_10 : decode cX1_putWords 10 = .ok (.if_icmp .ge 27, 3) := by decide +kernel
theorem dX1_putWords_13 : decode cX1_putWords 13 = .ok (.iload_n 1, 1) := by decide +kernel
theorem dX1_putWords_14 : decode cX1_putWords 14 = .ok (.aload_n 0, 1) := by decide +kernel
theorem dX1_putWords_15 : decode cX1_putWords 15 = .ok (.getfield 19, 3) := by decide +kernel
theorem dX1_putWords_18 : decode cX1_putWords 18 = .ok (.arraylength, 1) := by decide +kernel
theorem dX1_putWords_19 : decode cX1_putWords 19 = .ok (.if_icmp .ge 18, 3) := by decide +kernel
theorem dX1_putWords_22 : decode cX1_putWords 22 = .ok (.aload_n 0, 1) := by decide +kernel
theorem dX1_putWords_23 : decode cX1_putWords 23 = .ok (.getfield 15, 3) := by decide +kernel
theorem dX1_putWords_26 : decode cX1_putWords 26 = .ok (.iload_n 1, 1) := by decide +kernel
theorem dX1_putWords_27 : decode cX1_putWords 27 = .ok (.lload_n 2, 1) := by decide +kernel
theorem dX1_putWords_28 : decode cX1_putWords 28 = .ok (.lastore, 1) := by decide +kernel
theorem dX1_putWords_29 : decode cX1_putWords 29 = .ok (.aload_n 0, 1) := by decide +kernel
theorem dX1_putWords_30 : decode cX1_putWords 30 = .ok (.getfield 19, 3) := by decide +kernel
theorem dX1_putWords_33 : decode cX1_putWords 33 = .ok (.iload_n 1, 1) := by decide +kernel
theorem dX1_putWords_34 : decode cX1_putWords 34 = .ok (.lload 4, 2) := by decide +kernel
theorem dX1_putWords_36 : decode cX1_putWords 36 = .ok (.lastore, 1) := by decide +kernel
theorem dX1_putWords_37 : decode cX1_putWords 37 = .ok (.return_, 1) := by decide +kernel
theorem dX1_holds_0 : decode cX1_holds 0 = .ok (.iload_n 2, 1) := by decide +kernel
theorem dX1_holds_1 : decode cX1_holds 1 = .ok (.bipush 64, 2) := by decide +kernel
theorem dX1_holds_3 : decode cX1_holds 3 = .ok (.if_icmp .ge 13, 3) := by decide +kernel
theorem dX1_holds_6 : decode cX1_holds 6 = .ok (.aload_n 0, 1) := by decide +kernel
theorem dX1_holds_7 : decode cX1_holds 7 = .ok (.iload_n 1, 1) := by decide +kernel
theorem dX1_holds_8 : decode cX1_holds 8 = .ok (.invokevirtual 36, 3) := by decide +kernel
theorem dX1_holds_11 : decode cX1_holds 11 = .ok (.iload_n 2, 1) := by decide +kernel
theorem dX1_holds_12 : decode cX1_holds 12 = .ok (.lushr, 1) := by decide +kernel
theorem dX1_holds_13 : decode cX1_holds 13 = .ok (.goto 13, 3) := by decide +kernel
theorem dX1_holds_16 : decode cX1_holds 16 = .ok (.aload_n 0, 1) := by decide +kernel
theorem dX1_holds_17 : decode cX1_holds 17 = .ok (.iload_n 1, 1) := by decide +kernel
theorem dX1_holds_18 : decode cX1_holds 18 = .ok (.invokevirtual 43, 3) := by decide +kernel
theorem dX1_holds_21 : decode cX1_holds 21 = .ok (.iload_n 2, 1) := by decide +kernel
theorem dX1_holds_22 : decode cX1_holds 22 = .ok (.bipush 64, 2) := by decide +kernel
theorem dX1_holds_24 : decode cX1_holds 24 = .ok (.isub, 1) := by decide +kernel
theorem dX1_holds_25 : decode cX1_holds 25 = .ok (.lushr, 1) := by decide +kernel
theorem dX1_holds_26 : decode cX1_holds 26 = .ok (.lstore_n 3, 1) := by decide +kernel
theorem dX1_holds_27 : decode cX1_holds 27 = .ok (.lload_n 3, 1) := by decide +kernel
theorem dX1_holds_28 : decode cX1_holds 28 = .ok (.lconst 1, 1) := by decide +kernel
theorem dX1_holds_29 : decode cX1_holds 29 = .ok (.land, 1) := by decide +kernel
theorem dX1_holds_30 : decode cX1_holds 30 = .ok (.lconst 0, 1) := by decide +kernel
theorem dX1_holds_31 : decode cX1_holds 31 = .ok (.lcmp, 1) := by decide +kernel
theorem dX1_holds_32 : decode cX1_holds 32 = .ok (.ifCond .eq 7, 3) := by decide +kernel
theorem dX1_holds_35 : decode cX1_holds 35 = .ok (.iconst 1, 1) := by decide +kernel
theorem dX1_holds_36 : decode cX1_holds 36 = .ok (.goto 4, 3) := by decide +kernel
theorem dX1_holds_39 : decode cX1_holds 39 = .ok (.iconst 0, 1) := by decide +kernel
theorem dX1_holds_40 : decode cX1_holds 40 = .ok (.ireturn, 1) := by decide +kernel
theorem dX1_join_0 : decode cX1_join 0 = .ok (.aload_n 0, 1) := by decide +kernel
theorem dX1_join_1 : decode cX1_join 1 = .ok (.iload_n 1, 1) := by decide +kernel
theorem dX1_join_2 : decode cX1_join 2 = .ok (.aload_n 0, 1) := by decide +kernel
theorem dX1_join_3 : decode cX1_join 3 = .ok (.iload_n 1, 1) := by decide +kernel
theorem dX1_join_4 : decode cX1_join 4 = .ok (.invokevirtual 36, 3) := by decide +kernel
theorem dX1_join_7 : decode cX1_join 7 = .ok (.iload_n 2, 1) := by decide +kernel
theorem dX1_join_8 : decode cX1_join 8 = .ok (.iload_n 2, 1) := by decide +kernel
theorem dX1_join_9 : decode cX1_join 9 = .ok (.iconst 1, 1) := by decide +kernel
theorem dX1_join_10 : decode cX1_join 10 = .ok (.iadd, 1) := by decide +kernel
theorem dX1_join_11 : decode cX1_join 11 = .ok (.invokestatic 52, 3) := by decide +kernel
theorem dX1_join_14 : decode cX1_join 14 = .ok (.lor, 1) := by decide +kernel
theorem dX1_join_15 : decode cX1_join 15 = .ok (.aload_n 0, 1) := by decide +kernel
theorem dX1_join_16 : decode cX1_join 16 = .ok (.iload_n 1, 1) := by decide +kernel
theorem dX1_join_17 : decode cX1_join 17 = .ok (.invokevirtual 43, 3) := by decide +kernel
theorem dX1_join_20 : decode cX1_join 20 = .ok (.iload_n 2, 1) := by decide +kernel
theorem dX1_join_21 : decode cX1_join 21 = .ok (.iload_n 2, 1) := by decide +kernel
theorem dX1_join_22 : decode cX1_join 22 = .ok (.iconst 1, 1) := by decide +kernel
theorem dX1_join_23 : decode cX1_join 23 = .ok (.iadd, 1) := by decide +kernel
theorem dX1_join_24 : decode cX1_join 24 = .ok (.invokestatic 56, 3) := by decide +kernel
theorem dX1_join_27 : decode cX1_join 27 = .ok (.lor, 1) := by decide +kernel
theorem dX1_join_28 : decode cX1_join 28 = .ok (.invokevirtual 48, 3) := by decide +kernel
theorem dX1_join_31 : decode cX1_join 31 = .ok (.return_, 1) := by decide +kernel
theorem dX1_joinOwn_0 : decode cX1_joinOwn 0 = .ok (.iconst 0, 1) := by decide +kernel
theorem dX1_joinOwn_1 : decode cX1_joinOwn 1 = .ok (.istore_n 1, 1) := by decide +kernel
theorem dX1_joinOwn_2 : decode cX1_joinOwn 2 = .ok (.iload_n 1, 1) := by decide +kernel
theorem dX1_joinOwn_3 : decode cX1_joinOwn 3 = .ok (.aload_n 0, 1) := by decide +kernel
theorem dX1_joinOwn_4 : decode cX1_joinOwn 4 = .ok (.getfield 9, 3) := by decide +kernel
theorem dX1_joinOwn_7 : decode cX1_joinOwn 7 = .ok (.if_icmp .ge 15, 3) := by decide +kernel
theorem dX1_joinOwn_10 : decode cX1_joinOwn 10 = .ok (.aload_n 0, 1) := by decide +kernel
theorem dX1_joinOwn_11 : decode cX1_joinOwn 11 = .ok (.iload_n 1, 1) := by decide +kernel
theorem dX1_joinOwn_12 : decode cX1_joinOwn 12 = .ok (.iload_n 1, 1) := by decide +kernel
theorem dX1_joinOwn_13 : decode cX1_joinOwn 13 = .ok (.invokevirtual 59, 3) := by decide +kernel
theorem dX1_joinOwn_16 : decode cX1_joinOwn 16 = .ok (.iinc 1 1, 3) := by decide +kernel
theorem dX1_joinOwn_19 : decode cX1_joinOwn 19 = .ok (.goto (-17), 3) := by decide +kernel
theorem dX1_joinOwn_22 : decode cX1_joinOwn 22 = .ok (.return_, 1) := by decide +kernel
theorem dX1_sizeOf_0 : decode cX1_sizeOf 0 = .ok (.aload_n 0, 1) := by decide +kernel
theorem dX1_sizeOf_1 : decode cX1_sizeOf 1 = .ok (.iload_n 1, 1) := by decide +kernel
theorem dX1_sizeOf_2 : decode cX1_sizeOf 2 = .ok (.invokevirtual 36, 3) := by decide +kernel
theorem dX1_sizeOf_5 : decode cX1_sizeOf 5 = .ok (.invokestatic 63, 3) := by decide +kernel
theorem dX1_sizeOf_8 : decode cX1_sizeOf 8 = .ok (.aload_n 0, 1) := by decide +kernel
theorem dX1_sizeOf_9 : decode cX1_sizeOf 9 = .ok (.iload_n 1, 1) := by decide +kernel
theorem dX1_sizeOf_10 : decode cX1_sizeOf 10 = .ok (.invokevirtual 43, 3) := by decide +kernel
theorem dX1_sizeOf_13 : decode cX1_sizeOf 13 = .ok (.invokestatic 63, 3) := by decide +kernel
theorem dX1_sizeOf_16 : decode cX1_sizeOf 16 = .ok (.iadd, 1) := by decide +kernel
theorem dX1_sizeOf_17 : decode cX1_sizeOf 17 = .ok (.ireturn, 1) := by decide +kernel
theorem dX1_pairs_0 : decode cX1_pairs 0 = .ok (.iconst 0, 1) := by decide +kernel
theorem dX1_pairs_1 : decode cX1_pairs 1 = .ok (.istore_n 1, 1) := by decide +kernel
theorem dX1_pairs_2 : decode cX1_pairs 2 = .ok (.iconst 0, 1) := by decide +kernel
theorem dX1_pairs_3 : decode cX1_pairs 3 = .ok (.istore_n 2, 1) := by decide +kernel
theorem dX1_pairs_4 : decode cX1_pairs 4 = .ok (.iload_n 2, 1) := by decide +kernel
theorem dX1_pairs_5 : decode cX1_pairs 5 = .ok (.aload_n 0, 1) := by decide +kernel
theorem dX1_pairs_6 : decode cX1_pairs 6 = .ok (.getfield 9, 3) := by decide +kernel
theorem dX1_pairs_9 : decode cX1_pairs 9 = .ok (.if_icmp .ge 17, 3) := by decide +kernel
theorem dX1_pairs_12 : decode cX1_pairs 12 = .ok (.iload_n 1, 1) := by decide +kernel
theorem dX1_pairs_13 : decode cX1_pairs 13 = .ok (.aload_n 0, 1) := by decide +kernel
theorem dX1_pairs_14 : decode cX1_pairs 14 = .ok (.iload_n 2, 1) := by decide +kernel
theorem dX1_pairs_15 : decode cX1_pairs 15 = .ok (.invokevirtual 69, 3) := by decide +kernel
theorem dX1_pairs_18 : decode cX1_pairs 18 = .ok (.iadd, 1) := by decide +kernel
theorem dX1_pairs_19 : decode cX1_pairs 19 = .ok (.istore_n 1, 1) := by decide +kernel
theorem dX1_pairs_20 : decode cX1_pairs 20 = .ok (.iinc 2 1, 3) := by decide +kernel
theorem dX1_pairs_23 : decode cX1_pairs 23 = .ok (.goto (-19), 3) := by decide +kernel
theorem dX1_pairs_26 : decode cX1_pairs 26 = .ok (.iload_n 1, 1) := by decide +kernel
theorem dX1_pairs_27 : decode cX1_pairs 27 = .ok (.ireturn, 1) := by decide +kernel
theorem dX1_ownPairs_0 : decode cX1_ownPairs 0 = .ok (.iconst 0, 1) := by decide +kernel
theorem dX1_ownPairs_1 : decode cX1_ownPairs 1 = .ok (.istore_n 1, 1) := by decide +kernel
theorem dX1_ownPairs_2 : decode cX1_ownPairs 2 = .ok (.iconst 0, 1) := by decide +kernel
theorem dX1_ownPairs_3 : decode cX1_ownPairs 3 = .ok (.istore_n 2, 1) := by decide +kernel
theorem dX1_ownPairs_4 : decode cX1_ownPairs 4 = .ok (.iload_n 2, 1) := by decide +kernel
theorem dX1_ownPairs_5 : decode cX1_ownPairs 5 = .ok (.aload_n 0, 1) := by decide +kernel
theorem dX1_ownPairs_6 : decode cX1_ownPairs 6 = .ok (.getfield 9, 3) := by decide +kernel
theorem dX1_ownPairs_9 : decode cX1_ownPairs 9 = .ok (.if_icmp .ge 21, 3) := by decide +kernel
theorem dX1_ownPairs_12 : decode cX1_ownPairs 12 = .ok (.aload_n 0, 1) := by decide +kernel
theorem dX1_ownPairs_13 : decode cX1_ownPairs 13 = .ok (.iload_n 2, 1) := by decide +kernel
theorem dX1_ownPairs_14 : decode cX1_ownPairs 14 = .ok (.iload_n 2, 1) := by decide +kernel
theorem dX1_ownPairs_15 : decode cX1_ownPairs 15 = .ok (.invokevirtual 73, 3) := by decide +kernel
theorem dX1_ownPairs_18 : decode cX1_ownPairs 18 = .ok (.ifCond .eq 6, 3) := by decide +kernel
theorem dX1_ownPairs_21 : decode cX1_ownPairs 21 = .ok (.iinc 1 1, 3) := by decide +kernel
theorem dX1_ownPairs_24 : decode cX1_ownPairs 24 = .ok (.iinc 2 1, 3) := by decide +kernel
theorem dX1_ownPairs_27 : decode cX1_ownPairs 27 = .ok (.goto (-23), 3) := by decide +kernel
theorem dX1_ownPairs_30 : decode cX1_ownPairs 30 = .ok (.iload_n 1, 1) := by decide +kernel
theorem dX1_ownPairs_31 : decode cX1_ownPairs 31 = .ok (.ireturn, 1) := by decide +kernel
theorem dX1_take_0 : decode cX1_take 0 = .ok (.aload_n 0, 1) := by decide +kernel
theorem dX1_take_1 : decode cX1_take 1 = .ok (.aload_n 1, 1) := by decide +kernel
theorem dX1_take_2 : decode cX1_take 2 = .ok (.getfield 9, 3) := by decide +kernel
theorem dX1_take_5 : decode cX1_take 5 = .ok (.putfield 9, 3) := by decide +kernel
theorem dX1_take_8 : decode cX1_take 8 = .ok (.iconst 0, 1) := by decide +kernel
theorem dX1_take_9 : decode cX1_take 9 = .ok (.istore_n 2, 1) := by decide +kernel
theorem dX1_take_10 : decode cX1_take 10 = .ok (.iload_n 2, 1) := by decide +kernel
theorem dX1_take_11 : decode cX1_take 11 = .ok (.aload_n 0, 1) := by decide +kernel
theorem dX1_take_12 : decode cX1_take 12 = .ok (.getfield 9, 3) := by decide +kernel
theorem dX1_take_15 : decode cX1_take 15 = .ok (.if_icmp .ge 24, 3) := by decide +kernel
theorem dX1_take_18 : decode cX1_take 18 = .ok (.aload_n 0, 1) := by decide +kernel
theorem dX1_take_19 : decode cX1_take 19 = .ok (.iload_n 2, 1) := by decide +kernel
theorem dX1_take_20 : decode cX1_take 20 = .ok (.aload_n 1, 1) := by decide +kernel
theorem dX1_take_21 : decode cX1_take 21 = .ok (.iload_n 2, 1) := by decide +kernel
theorem dX1_take_22 : decode cX1_take 22 = .ok (.invokevirtual 36, 3) := by decide +kernel
theorem dX1_take_25 : decode cX1_take 25 = .ok (.aload_n 1, 1) := by decide +kernel
theorem dX1_take_26 : decode cX1_take 26 = .ok (.iload_n 2, 1) := by decide +kernel
theorem dX1_take_27 : decode cX1_take 27 = .ok (.invokevirtual 43, 3) := by decide +kernel
theorem dX1_take_30 : decode cX1_take 30 = .ok (.invokevirtual 48, 3) := by decide +kernel
theorem dX1_take_33 : decode cX1_take 33 = .ok (.iinc 2 1, 3) := by decide +kernel
theorem dX1_take_36 : decode cX1_take 36 = .ok (.goto (-26), 3) := by decide +kernel
theorem dX1_take_39 : decode cX1_take 39 = .ok (.return_, 1) := by decide +kernel
theorem dX1_mix_0 : decode cX1_mix 0 = .ok (.iconst 0, 1) := by decide +kernel
theorem dX1_mix_1 : decode cX1_mix 1 = .ok (.istore_n 3, 1) := by decide +kernel
theorem dX1_mix_2 : decode cX1_mix 2 = .ok (.iload_n 3, 1) := by decide +kernel
theorem dX1_mix_3 : decode cX1_mix 3 = .ok (.aload_n 0, 1) := by decide +kernel
theorem dX1_mix_4 : decode cX1_mix 4 = .ok (.getfield 9, 3) := by decide +kernel
theorem dX1_mix_7 : decode cX1_mix 7 = .ok (.if_icmp .ge 42, 3) := by decide +kernel
theorem dX1_mix_10 : decode cX1_mix 10 = .ok (.aload_n 0, 1) := by decide +kernel
theorem dX1_mix_11 : decode cX1_mix 11 = .ok (.iload_n 3, 1) := by decide +kernel
theorem dX1_mix_12 : decode cX1_mix 12 = .ok (.aload_n 0, 1) := by decide +kernel
theorem dX1_mix_13 : decode cX1_mix 13 = .ok (.iload_n 3, 1) := by decide +kernel
theorem dX1_mix_14 : decode cX1_mix 14 = .ok (.invokevirtual 36, 3) := by decide +kernel
theorem dX1_mix_17 : decode cX1_mix 17 = .ok (.aload_n 1, 1) := by decide +kernel
theorem dX1_mix_18 : decode cX1_mix 18 = .ok (.iload_n 3, 1) := by decide +kernel
theorem dX1_mix_19 : decode cX1_mix 19 = .ok (.invokevirtual 36, 3) := by decide +kernel
theorem dX1_mix_22 : decode cX1_mix 22 = .ok (.iload_n 2, 1) := by decide +kernel
theorem dX1_mix_23 : decode cX1_mix 23 = .ok (.invokestatic 77, 3) := by decide +kernel
theorem dX1_mix_26 : decode cX1_mix 26 = .ok (.aload_n 0, 1) := by decide +kernel
theorem dX1_mix_27 : decode cX1_mix 27 = .ok (.iload_n 3, 1) := by decide +kernel
theorem dX1_mix_28 : decode cX1_mix 28 = .ok (.invokevirtual 43, 3) := by decide +kernel
theorem dX1_mix_31 : decode cX1_mix 31 = .ok (.aload_n 1, 1) := by decide +kernel
theorem dX1_mix_32 : decode cX1_mix 32 = .ok (.iload_n 3, 1) := by decide +kernel
theorem dX1_mix_33 : decode cX1_mix 33 = .ok (.invokevirtual 43, 3) := by decide +kernel
theorem dX1_mix_36 : decode cX1_mix 36 = .ok (.iload_n 2, 1) := by decide +kernel
theorem dX1_mix_37 : decode cX1_mix 37 = .ok (.invokestatic 77, 3) := by decide +kernel
theorem dX1_mix_40 : decode cX1_mix 40 = .ok (.invokevirtual 48, 3) := by decide +kernel
theorem dX1_mix_43 : decode cX1_mix 43 = .ok (.iinc 3 1, 3) := by decide +kernel
theorem dX1_mix_46 : decode cX1_mix 46 = .ok (.goto (-44), 3) := by decide +kernel
theorem dX1_mix_49 : decode cX1_mix 49 = .ok (.return_, 1) := by decide +kernel
theorem dX1_mixed_0 : decode cX1_mixed 0 = .ok (.iload 4, 2) := by decide +kernel
theorem dX1_mixed_2 : decode cX1_mixed 2 = .ok (.tableswitch 42 0 2 #[26, 30, 34], 26) := by decide +kernel
theorem dX1_mixed_28 : decode cX1_mixed 28 = .ok (.lload_n 0, 1) := by decide +kernel
theorem dX1_mixed_29 : decode cX1_mixed 29 = .ok (.lload_n 2, 1) := by decide +kernel
theorem dX1_mixed_30 : decode cX1_mixed 30 = .ok (.lor, 1) := by decide +kernel
theorem dX1_mixed_31 : decode cX1_mixed 31 = .ok (.lreturn, 1) := by decide +kernel
theorem dX1_mixed_32 : decode cX1_mixed 32 = .ok (.lload_n 0, 1) := by decide +kernel
theorem dX1_mixed_33 : decode cX1_mixed 33 = .ok (.lload_n 2, 1) := by decide +kernel
theorem dX1_mixed_34 : decode cX1_mixed 34 = .ok (.land, 1) := by decide +kernel
theorem dX1_mixed_35 : decode cX1_mixed 35 = .ok (.lreturn, 1) := by decide +kernel
theorem dX1_mixed_36 : decode cX1_mixed 36 = .ok (.lload_n 0, 1) := by decide +kernel
theorem dX1_mixed_37 : decode cX1_mixed 37 = .ok (.lload_n 2, 1) := by decide +kernel
theorem dX1_mixed_38 : decode cX1_mixed 38 = .ok (.ldc2_w 81, 3) := by decide +kernel
theorem dX1_mixed_41 : decode cX1_mixed 41 = .ok (.lxor, 1) := by decide +kernel
theorem dX1_mixed_42 : decode cX1_mixed 42 = .ok (.land, 1) := by decide +kernel
theorem dX1_mixed_43 : decode cX1_mixed 43 = .ok (.lreturn, 1) := by decide +kernel
theorem dX1_mixed_44 : decode cX1_mixed 44 = .ok (.lload_n 0, 1) := by decide +kernel
theorem dX1_mixed_45 : decode cX1_mixed 45 = .ok (.lload_n 2, 1) := by decide +kernel
theorem dX1_mixed_46 : decode cX1_mixed 46 = .ok (.lxor, 1) := by decide +kernel
theorem dX1_mixed_47 : decode cX1_mixed 47 = .ok (.lreturn, 1) := by decide +kernel
theorem dX1_product_0 : decode cX1_product 0 = .ok (.aload_n 0, 1) := by decide +kernel
theorem dX1_product_1 : decode cX1_product 1 = .ok (.aload_n 1, 1) := by decide +kernel
theorem dX1_product_2 : decode cX1_product 2 = .ok (.getfield 9, 3) := by decide +kernel
theorem dX1_product_5 : decode cX1_product 5 = .ok (.putfield 9, 3) := by decide +kernel
theorem dX1_product_8 : decode cX1_product 8 = .ok (.iconst 0, 1) := by decide +kernel
theorem dX1_product_9 : decode cX1_product 9 = .ok (.istore_n 3, 1) := by decide +kernel
theorem dX1_product_10 : decode cX1_product 10 = .ok (.iload_n 3, 1) := by decide +kernel
theorem dX1_product_11 : decode cX1_product 11 = .ok (.aload_n 0, 1) := by decide +kernel
theorem dX1_product_12 : decode cX1_product 12 = .ok (.getfield 9, 3) := by decide +kernel
theorem dX1_product_15 : decode cX1_product 15 = .ok (.if_icmp .ge 39, 3) := by decide +kernel
theorem dX1_product_18 : decode cX1_product 18 = .ok (.aload_n 1, 1) := by decide +kernel
theorem dX1_product_19 : decode cX1_product 19 = .ok (.iload_n 3, 1) := by decide +kernel
theorem dX1_product_20 : decode cX1_product 20 = .ok (.aload_n 0, 1) := by decide +kernel
theorem dX1_product_21 : decode cX1_product 21 = .ok (.getfield 25, 3) := by decide +kernel
theorem dX1_product_24 : decode cX1_product 24 = .ok (.invokevirtual 83, 3) := by decide +kernel
theorem dX1_product_27 : decode cX1_product 27 = .ok (.aload_n 2, 1) := by decide +kernel
theorem dX1_product_28 : decode cX1_product 28 = .ok (.aload_n 0, 1) := by decide +kernel
theorem dX1_product_29 : decode cX1_product 29 = .ok (.getfield 25, 3) := by decide +kernel
theorem dX1_product_32 : decode cX1_product 32 = .ok (.aload_n 0, 1) := by decide +kernel
theorem dX1_product_33 : decode cX1_product 33 = .ok (.getfield 25, 3) := by decide +kernel
theorem dX1_product_36 : decode cX1_product 36 = .ok (.invokevirtual 86, 3) := by decide +kernel
theorem dX1_product_39 : decode cX1_product 39 = .ok (.aload_n 0, 1) := by decide +kernel
theorem dX1_product_40 : decode cX1_product 40 = .ok (.iload_n 3, 1) := by decide +kernel
theorem dX1_product_41 : decode cX1_product 41 = .ok (.aload_n 0, 1) := by decide +kernel
theorem dX1_product_42 : decode cX1_product 42 = .ok (.getfield 25, 3) := by decide +kernel
theorem dX1_product_45 : decode cX1_product 45 = .ok (.invokevirtual 32, 3) := by decide +kernel
theorem dX1_product_48 : decode cX1_product 48 = .ok (.iinc 3 1, 3) := by decide +kernel
theorem dX1_product_51 : decode cX1_product 51 = .ok (.goto (-41), 3) := by decide +kernel
theorem dX1_product_54 : decode cX1_product 54 = .ok (.return_, 1) := by decide +kernel
theorem dX1_takeCovers_0 : decode cX1_takeCovers 0 = .ok (.aload_n 0, 1) := by decide +kernel
theorem dX1_takeCovers_1 : decode cX1_takeCovers 1 = .ok (.aload_n 1, 1) := by decide +kernel
theorem dX1_takeCovers_2 : decode cX1_takeCovers 2 = .ok (.getfield 9, 3) := by decide +kernel
theorem dX1_takeCovers_5 : decode cX1_takeCovers 5 = .ok (.putfield 9, 3) := by decide +kernel
theorem dX1_takeCovers_8 : decode cX1_takeCovers 8 = .ok (.iconst 0, 1) := by decide +kernel
theorem dX1_takeCovers_9 : decode cX1_takeCovers 9 = .ok (.istore_n 2, 1) := by decide +kernel
theorem dX1_takeCovers_10 : decode cX1_takeCovers 10 = .ok (.iload_n 2, 1) := by decide +kernel
theorem dX1_takeCovers_11 : decode cX1_takeCovers 11 = .ok (.aload_n 0, 1) := by decide +kernel
theorem dX1_takeCovers_12 : decode cX1_takeCovers 12 = .ok (.getfield 9, 3) := by decide +kernel
theorem dX1_takeCovers_15 : decode cX1_takeCovers 15 = .ok (.if_icmp .ge 69, 3) := by decide +kernel
theorem dX1_takeCovers_18 : decode cX1_takeCovers 18 = .ok (.aload_n 1, 1) := by decide +kernel
theorem dX1_takeCovers_19 : decode cX1_takeCovers 19 = .ok (.iload_n 2, 1) := by decide +kernel
theorem dX1_takeCovers_20 : decode cX1_takeCovers 20 = .ok (.aload_n 0, 1) := by decide +kernel
theorem dX1_takeCovers_21 : decode cX1_takeCovers 21 = .ok (.getfield 25, 3) := by decide +kernel
theorem dX1_takeCovers_24 : decode cX1_takeCovers 24 = .ok (.invokevirtual 83, 3) := by decide +kernel
theorem dX1_takeCovers_27 : decode cX1_takeCovers 27 = .ok (.aload_n 1, 1) := by decide +kernel
theorem dX1_takeCovers_28 : decode cX1_takeCovers 28 = .ok (.aload_n 0, 1) := by decide +kernel
theorem dX1_takeCovers_29 : decode cX1_takeCovers 29 = .ok (.getfield 25, 3) := by decide +kernel
theorem dX1_takeCovers_32 : decode cX1_takeCovers 32 = .ok (.aload_n 0, 1) := by decide +kernel
theorem dX1_takeCovers_33 : decode cX1_takeCovers 33 = .ok (.getfield 25, 3) := by decide +kernel
theorem dX1_takeCovers_36 : decode cX1_takeCovers 36 = .ok (.invokevirtual 86, 3) := by decide +kernel
theorem dX1_takeCovers_39 : decode cX1_takeCovers 39 = .ok (.aload_n 0, 1) := by decide +kernel
theorem dX1_takeCovers_40 : decode cX1_takeCovers 40 = .ok (.iload_n 2, 1) := by decide +kernel
theorem dX1_takeCovers_41 : decode cX1_takeCovers 41 = .ok (.aload_n 1, 1) := by decide +kernel
theorem dX1_takeCovers_42 : decode cX1_takeCovers 42 = .ok (.iload_n 2, 1) := by decide +kernel
theorem dX1_takeCovers_43 : decode cX1_takeCovers 43 = .ok (.invokevirtual 36, 3) := by decide +kernel
theorem dX1_takeCovers_46 : decode cX1_takeCovers 46 = .ok (.aload_n 0, 1) := by decide +kernel
theorem dX1_takeCovers_47 : decode cX1_takeCovers 47 = .ok (.getfield 25, 3) := by decide +kernel
theorem dX1_takeCovers_50 : decode cX1_takeCovers 50 = .ok (.getfield 40, 3) := by decide +kernel
theorem dX1_takeCovers_53 : decode cX1_takeCovers 53 = .ok (.ldc2_w 81, 3) := by decide +kernel
theorem dX1_takeCovers_56 : decode cX1_takeCovers 56 = .ok (.lxor, 1) := by decide +kernel
theorem dX1_takeCovers_57 : decode cX1_takeCovers 57 = .ok (.land, 1) := by decide +kernel
theorem dX1_takeCovers_58 : decode cX1_takeCovers 58 = .ok (.aload_n 1, 1) := by decide +kernel
theorem dX1_takeCovers_59 : decode cX1_takeCovers 59 = .ok (.iload_n 2, 1) := by decide +kernel
theorem dX1_takeCovers_60 : decode cX1_takeCovers 60 = .ok (.invokevirtual 43, 3) := by decide +kernel
theorem dX1_takeCovers_63 : decode cX1_takeCovers 63 = .ok (.aload_n 0, 1) := by decide +kernel
theorem dX1_takeCovers_64 : decode cX1_takeCovers 64 = .ok (.getfield 25, 3) := by decide +kernel
theorem dX1_takeCovers_67 : decode cX1_takeCovers 67 = .ok (.getfield 46, 3) := by decide +kernel
theorem dX1_takeCovers_70 : decode cX1_takeCovers 70 = .ok (.ldc2_w 81, 3) := by decide +kernel
theorem dX1_takeCovers_73 : decode cX1_takeCovers 73 = .ok (.lxor, 1) := by decide +kernel
theorem dX1_takeCovers_74 : decode cX1_takeCovers 74 = .ok (.land, 1) := by decide +kernel
theorem dX1_takeCovers_75 : decode cX1_takeCovers 75 = .ok (.invokevirtual 48, 3) := by decide +kernel
theorem dX1_takeCovers_78 : decode cX1_takeCovers 78 = .ok (.iinc 2 1, 3) := by decide +kernel
theorem dX1_takeCovers_81 : decode cX1_takeCovers 81 = .ok (.goto (-71), 3) := by decide +kernel
theorem dX1_takeCovers_84 : decode cX1_takeCovers 84 = .ok (.return_, 1) := by decide +kernel
theorem dX1_reverse_0 : decode cX1_reverse 0 = .ok (.iconst 1, 1) := by decide +kernel
theorem dX1_reverse_1 : decode cX1_reverse 1 = .ok (.istore_n 1, 1) := by decide +kernel
theorem dX1_reverse_2 : decode cX1_reverse 2 = .ok (.iload_n 1, 1) := by decide +kernel
theorem dX1_reverse_3 : decode cX1_reverse 3 = .ok (.aload_n 0, 1) := by decide +kernel
theorem dX1_reverse_4 : decode cX1_reverse 4 = .ok (.getfield 9, 3) := by decide +kernel
theorem dX1_reverse_7 : decode cX1_reverse 7 = .ok (.if_icmp .ge 49, 3) := by decide +kernel
theorem dX1_reverse_10 : decode cX1_reverse 10 = .ok (.iconst 0, 1) := by decide +kernel
theorem dX1_reverse_11 : decode cX1_reverse 11 = .ok (.istore_n 2, 1) := by decide +kernel
theorem dX1_reverse_12 : decode cX1_reverse 12 = .ok (.iload_n 2, 1) := by decide +kernel
theorem dX1_reverse_13 : decode cX1_reverse 13 = .ok (.iload_n 1, 1) := by decide +kernel
theorem dX1_reverse_14 : decode cX1_reverse 14 = .ok (.if_icmp .ge 36, 3) := by decide +kernel
theorem dX1_reverse_17 : decode cX1_reverse 17 = .ok (.aload_n 0, 1) := by decide +kernel
theorem dX1_reverse_18 : decode cX1_reverse 18 = .ok (.iload_n 1, 1) := by decide +kernel
theorem dX1_reverse_19 : decode cX1_reverse 19 = .ok (.iload_n 2, 1) := by decide +kernel
theorem dX1_reverse_20 : decode cX1_reverse 20 = .ok (.invokevirtual 73, 3) := by decide +kernel
theorem dX1_reverse_23 : decode cX1_reverse 23 = .ok (.aload_n 0, 1) := by decide +kernel
theorem dX1_reverse_24 : decode cX1_reverse 24 = .ok (.iload_n 2, 1) := by decide +kernel
theorem dX1_reverse_25 : decode cX1_reverse 25 = .ok (.iload_n 1, 1) := by decide +kernel
theorem dX1_reverse_26 : decode cX1_reverse 26 = .ok (.invokevirtual 73, 3) := by decide +kernel
theorem dX1_reverse_29 : decode cX1_reverse 29 = .ok (.if_icmp .eq 15, 3) := by decide +kernel
theorem dX1_reverse_32 : decode cX1_reverse 32 = .ok (.aload_n 0, 1) := by decide +kernel
theorem dX1_reverse_33 : decode cX1_reverse 33 = .ok (.iload_n 1, 1) := by decide +kernel
theorem dX1_reverse_34 : decode cX1_reverse 34 = .ok (.iload_n 2, 1) := by decide +kernel
theorem dX1_reverse_35 : decode cX1_reverse 35 = .ok (.invokevirtual 90, 3) := by decide +kernel
theorem dX1_reverse_38 : decode cX1_reverse 38 = .ok (.aload_n 0, 1) := by decide +kernel
theorem dX1_reverse_39 : decode cX1_reverse 39 = .ok (.iload_n 2, 1) := by decide +kernel
theorem dX1_reverse_40 : decode cX1_reverse 40 = .ok (.iload_n 1, 1) := by decide +kernel
theorem dX1_reverse_41 : decode cX1_reverse 41 = .ok (.invokevirtual 90, 3) := by decide +kernel
theorem dX1_reverse_44 : decode cX1_reverse 44 = .ok (.iinc 2 1, 3) := by decide +kernel
theorem dX1_reverse_47 : decode cX1_reverse 47 = .ok (.goto (-35), 3) := by decide +kernel
theorem dX1_reverse_50 : decode cX1_reverse 50 = .ok (.iinc 1 1, 3) := by decide +kernel
theorem dX1_reverse_53 : decode cX1_reverse 53 = .ok (.goto (-51), 3) := by decide +kernel
theorem dX1_reverse_56 : decode cX1_reverse 56 = .ok (.return_, 1) := by decide +kernel
theorem dX1_swapPair_0 : decode cX1_swapPair 0 = .ok (.aload_n 0, 1) := by decide +kernel
theorem dX1_swapPair_1 : decode cX1_swapPair 1 = .ok (.iload_n 1, 1) := by decide +kernel
theorem dX1_swapPair_2 : decode cX1_swapPair 2 = .ok (.aload_n 0, 1) := by decide +kernel
theorem dX1_swapPair_3 : decode cX1_swapPair 3 = .ok (.iload_n 1, 1) := by decide +kernel
theorem dX1_swapPair_4 : decode cX1_swapPair 4 = .ok (.invokevirtual 36, 3) := by decide +kernel
theorem dX1_swapPair_7 : decode cX1_swapPair 7 = .ok (.iload_n 2, 1) := by decide +kernel
theorem dX1_swapPair_8 : decode cX1_swapPair 8 = .ok (.iload_n 2, 1) := by decide +kernel
theorem dX1_swapPair_9 : decode cX1_swapPair 9 = .ok (.iconst 1, 1) := by decide +kernel
theorem dX1_swapPair_10 : decode cX1_swapPair 10 = .ok (.iadd, 1) := by decide +kernel
theorem dX1_swapPair_11 : decode cX1_swapPair 11 = .ok (.invokestatic 52, 3) := by decide +kernel
theorem dX1_swapPair_14 : decode cX1_swapPair 14 = .ok (.lxor, 1) := by decide +kernel
theorem dX1_swapPair_15 : decode cX1_swapPair 15 = .ok (.aload_n 0, 1) := by decide +kernel
theorem dX1_swapPair_16 : decode cX1_swapPair 16 = .ok (.iload_n 1, 1) := by decide +kernel
theorem dX1_swapPair_17 : decode cX1_swapPair 17 = .ok (.invokevirtual 43, 3) := by decide +kernel
theorem dX1_swapPair_20 : decode cX1_swapPair 20 = .ok (.iload_n 2, 1) := by decide +kernel
theorem dX1_swapPair_21 : decode cX1_swapPair 21 = .ok (.iload_n 2, 1) := by decide +kernel
theorem dX1_swapPair_22 : decode cX1_swapPair 22 = .ok (.iconst 1, 1) := by decide +kernel
theorem dX1_swapPair_23 : decode cX1_swapPair 23 = .ok (.iadd, 1) := by decide +kernel
theorem dX1_swapPair_24 : decode cX1_swapPair 24 = .ok (.invokestatic 56, 3) := by decide +kernel
theorem dX1_swapPair_27 : decode cX1_swapPair 27 = .ok (.lxor, 1) := by decide +kernel
theorem dX1_swapPair_28 : decode cX1_swapPair 28 = .ok (.invokevirtual 48, 3) := by decide +kernel
theorem dX1_swapPair_31 : decode cX1_swapPair 31 = .ok (.return_, 1) := by decide +kernel
theorem dX1_invert_0 : decode cX1_invert 0 = .ok (.iconst 0, 1) := by decide +kernel
theorem dX1_invert_1 : decode cX1_invert 1 = .ok (.istore_n 1, 1) := by decide +kernel
theorem dX1_invert_2 : decode cX1_invert 2 = .ok (.iload_n 1, 1) := by decide +kernel
theorem dX1_invert_3 : decode cX1_invert 3 = .ok (.aload_n 0, 1) := by decide +kernel
theorem dX1_invert_4 : decode cX1_invert 4 = .ok (.getfield 9, 3) := by decide +kernel
theorem dX1_invert_7 : decode cX1_invert 7 = .ok (.if_icmp .ge 39, 3) := by decide +kernel
theorem dX1_invert_10 : decode cX1_invert 10 = .ok (.aload_n 0, 1) := by decide +kernel
theorem dX1_invert_11 : decode cX1_invert 11 = .ok (.iload_n 1, 1) := by decide +kernel
theorem dX1_invert_12 : decode cX1_invert 12 = .ok (.aload_n 0, 1) := by decide +kernel
theorem dX1_invert_13 : decode cX1_invert 13 = .ok (.getfield 25, 3) := by decide +kernel
theorem dX1_invert_16 : decode cX1_invert 16 = .ok (.invokevirtual 83, 3) := by decide +kernel
theorem dX1_invert_19 : decode cX1_invert 19 = .ok (.aload_n 0, 1) := by decide +kernel
theorem dX1_invert_20 : decode cX1_invert 20 = .ok (.getfield 25, 3) := by decide +kernel
theorem dX1_invert_23 : decode cX1_invert 23 = .ok (.iconst 0, 1) := by decide +kernel
theorem dX1_invert_24 : decode cX1_invert 24 = .ok (.aload_n 0, 1) := by decide +kernel
theorem dX1_invert_25 : decode cX1_invert 25 = .ok (.getfield 9, 3) := by decide +kernel
theorem dX1_invert_28 : decode cX1_invert 28 = .ok (.invokevirtual 93, 3) := by decide +kernel
theorem dX1_invert_31 : decode cX1_invert 31 = .ok (.aload_n 0, 1) := by decide +kernel
theorem dX1_invert_32 : decode cX1_invert 32 = .ok (.iload_n 1, 1) := by decide +kernel
theorem dX1_invert_33 : decode cX1_invert 33 = .ok (.aload_n 0, 1) := by decide +kernel
theorem dX1_invert_34 : decode cX1_invert 34 = .ok (.getfield 25, 3) := by decide +kernel
theorem dX1_invert_37 : decode cX1_invert 37 = .ok (.invokevirtual 32, 3) := by decide +kernel
theorem dX1_invert_40 : decode cX1_invert 40 = .ok (.iinc 1 1, 3) := by decide +kernel
theorem dX1_invert_43 : decode cX1_invert 43 = .ok (.goto (-41), 3) := by decide +kernel
theorem dX1_invert_46 : decode cX1_invert 46 = .ok (.return_, 1) := by decide +kernel
theorem dX1_closeUp_0 : decode cX1_closeUp 0 = .ok (.iconst 0, 1) := by decide +kernel
theorem dX1_closeUp_1 : decode cX1_closeUp 1 = .ok (.istore_n 1, 1) := by decide +kernel
theorem dX1_closeUp_2 : decode cX1_closeUp 2 = .ok (.iload_n 1, 1) := by decide +kernel
theorem dX1_closeUp_3 : decode cX1_closeUp 3 = .ok (.aload_n 0, 1) := by decide +kernel
theorem dX1_closeUp_4 : decode cX1_closeUp 4 = .ok (.getfield 9, 3) := by decide +kernel
theorem dX1_closeUp_7 : decode cX1_closeUp 7 = .ok (.if_icmp .ge 73, 3) := by decide +kernel
theorem dX1_closeUp_10 : decode cX1_closeUp 10 = .ok (.aload_n 0, 1) := by decide +kernel
theorem dX1_closeUp_11 : decode cX1_closeUp 11 = .ok (.iload_n 1, 1) := by decide +kernel
theorem dX1_closeUp_12 : decode cX1_closeUp 12 = .ok (.invokevirtual 36, 3) := by decide +kernel
theorem dX1_closeUp_15 : decode cX1_closeUp 15 = .ok (.lstore_n 2, 1) := by decide +kernel
theorem dX1_closeUp_16 : decode cX1_closeUp 16 = .ok (.aload_n 0, 1) := by decide +kernel
theorem dX1_closeUp_17 : decode cX1_closeUp 17 = .ok (.iload_n 1, 1) := by decide +kernel
theorem dX1_closeUp_18 : decode cX1_closeUp 18 = .ok (.invokevirtual 43, 3) := by decide +kernel
theorem dX1_closeUp_21 : decode cX1_closeUp 21 = .ok (.lstore 4, 2) := by decide +kernel
theorem dX1_closeUp_23 : decode cX1_closeUp 23 = .ok (.iconst 0, 1) := by decide +kernel
theorem dX1_closeUp_24 : decode cX1_closeUp 24 = .ok (.istore 6, 2) := by decide +kernel
theorem dX1_closeUp_26 : decode cX1_closeUp 26 = .ok (.iload 6, 2) := by decide +kernel
theorem dX1_closeUp_28 : decode cX1_closeUp 28 = .ok (.aload_n 0, 1) := by decide +kernel
theorem dX1_closeUp_29 : decode cX1_closeUp 29 = .ok (.getfield 9, 3) := by decide +kernel
theorem dX1_closeUp_32 : decode cX1_closeUp 32 = .ok (.if_icmp .ge 42, 3) := by decide +kernel
theorem dX1_closeUp_35 : decode cX1_closeUp 35 = .ok (.aload_n 0, 1) := by decide +kernel
theorem dX1_closeUp_36 : decode cX1_closeUp 36 = .ok (.iload 6, 2) := by decide +kernel
theorem dX1_closeUp_38 : decode cX1_closeUp 38 = .ok (.iload_n 1, 1) := by decide +kernel
theorem dX1_closeUp_39 : decode cX1_closeUp 39 = .ok (.invokevirtual 73, 3) := by decide +kernel
theorem dX1_closeUp_42 : decode cX1_closeUp 42 = .ok (.ifCond .eq 26, 3) := by decide +kernel
theorem dX1_closeUp_45 : decode cX1_closeUp 45 = .ok (.aload_n 0, 1) := by decide +kernel
theorem dX1_closeUp_46 : decode cX1_closeUp 46 = .ok (.iload 6, 2) := by decide +kernel
theorem dX1_closeUp_48 : decode cX1_closeUp 48 = .ok (.aload_n 0, 1) := by decide +kernel
theorem dX1_closeUp_49 : decode cX1_closeUp 49 = .ok (.iload 6, 2) := by decide +kernel
theorem dX1_closeUp_51 : decode cX1_closeUp 51 = .ok (.invokevirtual 36, 3) := by decide +kernel
theorem dX1_closeUp_54 : decode cX1_closeUp 54 = .ok (.lload_n 2, 1) := by decide +kernel
theorem dX1_closeUp_55 : decode cX1_closeUp 55 = .ok (.lor, 1) := by decide +kernel
theorem dX1_closeUp_56 : decode cX1_closeUp 56 = .ok (.aload_n 0, 1) := by decide +kernel
theorem dX1_closeUp_57 : decode cX1_closeUp 57 = .ok (.iload 6, 2) := by decide +kernel
theorem dX1_closeUp_59 : decode cX1_closeUp 59 = .ok (.invokevirtual 43, 3) := by decide +kernel
theorem dX1_closeUp_62 : decode cX1_closeUp 62 = .ok (.lload 4, 2) := by decide +kernel
theorem dX1_closeUp_64 : decode cX1_closeUp 64 = .ok (.lor, 1) := by decide +kernel
theorem dX1_closeUp_65 : decode cX1_closeUp 65 = .ok (.invokevirtual 48, 3) := by decide +kernel
theorem dX1_closeUp_68 : decode cX1_closeUp 68 = .ok (.iinc 6 1, 3) := by decide +kernel
theorem dX1_closeUp_71 : decode cX1_closeUp 71 = .ok (.goto (-45), 3) := by decide +kernel
theorem dX1_closeUp_74 : decode cX1_closeUp 74 = .ok (.iinc 1 1, 3) := by decide +kernel
theorem dX1_closeUp_77 : decode cX1_closeUp 77 = .ok (.goto (-75), 3) := by decide +kernel
theorem dX1_closeUp_80 : decode cX1_closeUp 80 = .ok (.return_, 1) := by decide +kernel
theorem dX1_imageOf_0 : decode cX1_imageOf 0 = .ok (.lconst 0, 1) := by decide +kernel
theorem dX1_imageOf_1 : decode cX1_imageOf 1 = .ok (.lstore_n 3, 1) := by decide +kernel
theorem dX1_imageOf_2 : decode cX1_imageOf 2 = .ok (.lconst 0, 1) := by decide +kernel
theorem dX1_imageOf_3 : decode cX1_imageOf 3 = .ok (.lstore 5, 2) := by decide +kernel
theorem dX1_imageOf_5 : decode cX1_imageOf 5 = .ok (.aload_n 1, 1) := by decide +kernel
theorem dX1_imageOf_6 : decode cX1_imageOf 6 = .ok (.iconst 0, 1) := by decide +kernel
theorem dX1_imageOf_7 : decode cX1_imageOf 7 = .ok (.invokevirtual 96, 3) := by decide +kernel
theorem dX1_imageOf_10 : decode cX1_imageOf 10 = .ok (.istore 7, 2) := by decide +kernel
theorem dX1_imageOf_12 : decode cX1_imageOf 12 = .ok (.iconst 0, 1) := by decide +kernel
theorem dX1_imageOf_13 : decode cX1_imageOf 13 = .ok (.istore 8, 2) := by decide +kernel
theorem dX1_imageOf_15 : decode cX1_imageOf 15 = .ok (.iload 8, 2) := by decide +kernel
theorem dX1_imageOf_17 : decode cX1_imageOf 17 = .ok (.aload_n 0, 1) := by decide +kernel
theorem dX1_imageOf_18 : decode cX1_imageOf 18 = .ok (.getfield 9, 3) := by decide +kernel
theorem dX1_imageOf_21 : decode cX1_imageOf 21 = .ok (.if_icmp .ge 45, 3) := by decide +kernel
theorem dX1_imageOf_24 : decode cX1_imageOf 24 = .ok (.iload 7, 2) := by decide +kernel
theorem dX1_imageOf_26 : decode cX1_imageOf 26 = .ok (.iconst (-1), 1) := by decide +kernel
theorem dX1_imageOf_27 : decode cX1_imageOf 27 = .ok (.if_icmp .eq 39, 3) := by decide +kernel
theorem dX1_imageOf_30 : decode cX1_imageOf 30 = .ok (.lload_n 3, 1) := by decide +kernel
theorem dX1_imageOf_31 : decode cX1_imageOf 31 = .ok (.aload_n 0, 1) := by decide +kernel
theorem dX1_imageOf_32 : decode cX1_imageOf 32 = .ok (.iload 7, 2) := by decide +kernel
theorem dX1_imageOf_34 : decode cX1_imageOf 34 = .ok (.invokevirtual 36, 3) := by decide +kernel
theorem dX1_imageOf_37 : decode cX1_imageOf 37 = .ok (.lor, 1) := by decide +kernel
theorem dX1_imageOf_38 : decode cX1_imageOf 38 = .ok (.lstore_n 3, 1) := by decide +kernel
theorem dX1_imageOf_39 : decode cX1_imageOf 39 = .ok (.lload 5, 2) := by decide +kernel
theorem dX1_imageOf_41 : decode cX1_imageOf 41 = .ok (.aload_n 0, 1) := by decide +kernel
theorem dX1_imageOf_42 : decode cX1_imageOf 42 = .ok (.iload 7, 2) := by decide +kernel
theorem dX1_imageOf_44 : decode cX1_imageOf 44 = .ok (.invokevirtual 43, 3) := by decide +kernel
theorem dX1_imageOf_47 : decode cX1_imageOf 47 = .ok (.lor, 1) := by decide +kernel
theorem dX1_imageOf_48 : decode cX1_imageOf 48 = .ok (.lstore 5, 2) := by decide +kernel
theorem dX1_imageOf_50 : decode cX1_imageOf 50 = .ok (.aload_n 1, 1) := by decide +kernel
theorem dX1_imageOf_51 : decode cX1_imageOf 51 = .ok (.iload 7, 2) := by decide +kernel
theorem dX1_imageOf_53 : decode cX1_imageOf 53 = .ok (.iconst 1, 1) := by decide +kernel
theorem dX1_imageOf_54 : decode cX1_imageOf 54 = .ok (.iadd, 1) := by decide +kernel
theorem dX1_imageOf_55 : decode cX1_imageOf 55 = .ok (.invokevirtual 96, 3) := by decide +kernel
theorem dX1_imageOf_58 : decode cX1_imageOf 58 = .ok (.istore 7, 2) := by decide +kernel
theorem dX1_imageOf_60 : decode cX1_imageOf 60 = .ok (.iinc 8 1, 3) := by decide +kernel
theorem dX1_imageOf_63 : decode cX1_imageOf 63 = .ok (.goto (-48), 3) := by decide +kernel
theorem dX1_imageOf_66 : decode cX1_imageOf 66 = .ok (.aload_n 2, 1) := by decide +kernel
theorem dX1_imageOf_67 : decode cX1_imageOf 67 = .ok (.lload_n 3, 1) := by decide +kernel
theorem dX1_imageOf_68 : decode cX1_imageOf 68 = .ok (.putfield 40, 3) := by decide +kernel
theorem dX1_imageOf_71 : decode cX1_imageOf 71 = .ok (.aload_n 2, 1) := by decide +kernel
theorem dX1_imageOf_72 : decode cX1_imageOf 72 = .ok (.lload 5, 2) := by decide +kernel
theorem dX1_imageOf_74 : decode cX1_imageOf 74 = .ok (.putfield 46, 3) := by decide +kernel
theorem dX1_imageOf_77 : decode cX1_imageOf 77 = .ok (.return_, 1) := by decide +kernel
theorem dX1_hasAllOf_0 : decode cX1_hasAllOf 0 = .ok (.iconst 0, 1) := by decide +kernel
theorem dX1_hasAllOf_1 : decode cX1_hasAllOf 1 = .ok (.istore_n 2, 1) := by decide +kernel
theorem dX1_hasAllOf_2 : decode cX1_hasAllOf 2 = .ok (.iload_n 2, 1) := by decide +kernel
theorem dX1_hasAllOf_3 : decode cX1_hasAllOf 3 = .ok (.aload_n 0, 1) := by decide +kernel
theorem dX1_hasAllOf_4 : decode cX1_hasAllOf 4 = .ok (.getfield 9, 3) := by decide +kernel
theorem dX1_hasAllOf_7 : decode cX1_hasAllOf 7 = .ok (.if_icmp .ge 51, 3) := by decide +kernel
theorem dX1_hasAllOf_10 : decode cX1_hasAllOf 10 = .ok (.aload_n 1, 1) := by decide +kernel
theorem dX1_hasAllOf_11 : decode cX1_hasAllOf 11 = .ok (.iload_n 2, 1) := by decide +kernel
theorem dX1_hasAllOf_12 : decode cX1_hasAllOf 12 = .ok (.invokevirtual 36, 3) := by decide +kernel
theorem dX1_hasAllOf_15 : decode cX1_hasAllOf 15 = .ok (.aload_n 0, 1) := by decide +kernel
theorem dX1_hasAllOf_16 : decode cX1_hasAllOf 16 = .ok (.iload_n 2, 1) := by decide +kernel
theorem dX1_hasAllOf_17 : decode cX1_hasAllOf 17 = .ok (.invokevirtual 36, 3) := by decide +kernel
theorem dX1_hasAllOf_20 : decode cX1_hasAllOf 20 = .ok (.ldc2_w 81, 3) := by decide +kernel
theorem dX1_hasAllOf_23 : decode cX1_hasAllOf 23 = .ok (.lxor, 1) := by decide +kernel
theorem dX1_hasAllOf_24 : decode cX1_hasAllOf 24 = .ok (.land, 1) := by decide +kernel
theorem dX1_hasAllOf_25 : decode cX1_hasAllOf 25 = .ok (.lconst 0, 1) := by decide +kernel
theorem dX1_hasAllOf_26 : decode cX1_hasAllOf 26 = .ok (.lcmp, 1) := by decide +kernel
theorem dX1_hasAllOf_27 : decode cX1_hasAllOf 27 = .ok (.ifCond .ne 23, 3) := by decide +kernel
theorem dX1_hasAllOf_30 : decode cX1_hasAllOf 30 = .ok (.aload_n 1, 1) := by decide +kernel
theorem dX1_hasAllOf_31 : decode cX1_hasAllOf 31 = .ok (.iload_n 2, 1) := by decide +kernel
theorem dX1_hasAllOf_32 : decode cX1_hasAllOf 32 = .ok (.invokevirtual 43, 3) := by decide +kernel
theorem dX1_hasAllOf_35 : decode cX1_hasAllOf 35 = .ok (.aload_n 0, 1) := by decide +kernel
theorem dX1_hasAllOf_36 : decode cX1_hasAllOf 36 = .ok (.iload_n 2, 1) := by decide +kernel
theorem dX1_hasAllOf_37 : decode cX1_hasAllOf 37 = .ok (.invokevirtual 43, 3) := by decide +kernel
theorem dX1_hasAllOf_40 : decode cX1_hasAllOf 40 = .ok (.ldc2_w 81, 3) := by decide +kernel
theorem dX1_hasAllOf_43 : decode cX1_hasAllOf 43 = .ok (.lxor, 1) := by decide +kernel
theorem dX1_hasAllOf_44 : decode cX1_hasAllOf 44 = .ok (.land, 1) := by decide +kernel
theorem dX1_hasAllOf_45 : decode cX1_hasAllOf 45 = .ok (.lconst 0, 1) := by decide +kernel
theorem dX1_hasAllOf_46 : decode cX1_hasAllOf 46 = .ok (.lcmp, 1) := by decide +kernel
theorem dX1_hasAllOf_47 : decode cX1_hasAllOf 47 = .ok (.ifCond .eq 5, 3) := by decide +kernel
theorem dX1_hasAllOf_50 : decode cX1_hasAllOf 50 = .ok (.iconst 0, 1) := by decide +kernel
theorem dX1_hasAllOf_51 : decode cX1_hasAllOf 51 = .ok (.ireturn, 1) := by decide +kernel
theorem dX1_hasAllOf_52 : decode cX1_hasAllOf 52 = .ok (.iinc 2 1, 3) := by decide +kernel
theorem dX1_hasAllOf_55 : decode cX1_hasAllOf 55 = .ok (.goto (-53), 3) := by decide +kernel
theorem dX1_hasAllOf_58 : decode cX1_hasAllOf 58 = .ok (.iconst 1, 1) := by decide +kernel
theorem dX1_hasAllOf_59 : decode cX1_hasAllOf 59 = .ok (.ireturn, 1) := by decide +kernel
theorem dX1_isLike_0 : decode cX1_isLike 0 = .ok (.aload_n 0, 1) := by decide +kernel
theorem dX1_isLike_1 : decode cX1_isLike 1 = .ok (.aload_n 1, 1) := by decide +kernel
theorem dX1_isLike_2 : decode cX1_isLike 2 = .ok (.invokevirtual 99, 3) := by decide +kernel
theorem dX1_isLike_5 : decode cX1_isLike 5 = .ok (.ifCond .eq 15, 3) := by decide +kernel
theorem dX1_isLike_8 : decode cX1_isLike 8 = .ok (.aload_n 1, 1) := by decide +kernel
theorem dX1_isLike_9 : decode cX1_isLike 9 = .ok (.aload_n 0, 1) := by decide +kernel
theorem dX1_isLike_10 : decode cX1_isLike 10 = .ok (.invokevirtual 99, 3) := by decide +kernel
theorem dX1_isLike_13 : decode cX1_isLike 13 = .ok (.ifCond .eq 7, 3) := by decide +kernel
theorem dX1_isLike_16 : decode cX1_isLike 16 = .ok (.iconst 1, 1) := by decide +kernel
theorem dX1_isLike_17 : decode cX1_isLike 17 = .ok (.goto 4, 3) := by decide +kernel
theorem dX1_isLike_20 : decode cX1_isLike 20 = .ok (.iconst 0, 1) := by decide +kernel
theorem dX1_isLike_21 : decode cX1_isLike 21 = .ok (.ireturn, 1) := by decide +kernel
theorem dX1_isTransitive_0 : decode cX1_isTransitive 0 = .ok (.iconst 0, 1) := by decide +kernel
theorem dX1_isTransitive_1 : decode cX1_isTransitive 1 = .ok (.istore_n 1, 1) := by decide +kernel
theorem dX1_isTransitive_2 : decode cX1_isTransitive 2 = .ok (.iload_n 1, 1) := by decide +kernel
theorem dX1_isTransitive_3 : decode cX1_isTransitive 3 = .ok (.aload_n 0, 1) := by decide +kernel
theorem dX1_isTransitive_4 : decode cX1_isTransitive 4 = .ok (.getfield 9, 3) := by decide +kernel
theorem dX1_isTransitive_7 : decode cX1_isTransitive 7 = .ok (.if_icmp .ge 76, 3) := by decide +kernel
theorem dX1_isTransitive_10 : decode cX1_isTransitive 10 = .ok (.aload_n 0, 1) := by decide +kernel
theorem dX1_isTransitive_11 : decode cX1_isTransitive 11 = .ok (.iload_n 1, 1) := by decide +kernel
theorem dX1_isTransitive_12 : decode cX1_isTransitive 12 = .ok (.aload_n 0, 1) := by decide +kernel
theorem dX1_isTransitive_13 : decode cX1_isTransitive 13 = .ok (.getfield 25, 3) := by decide +kernel
theorem dX1_isTransitive_16 : decode cX1_isTransitive 16 = .ok (.invokevirtual 83, 3) := by decide +kernel
theorem dX1_isTransitive_19 : decode cX1_isTransitive 19 = .ok (.aload_n 0, 1) := by decide +kernel
theorem dX1_isTransitive_20 : decode cX1_isTransitive 20 = .ok (.aload_n 0, 1) := by decide +kernel
theorem dX1_isTransitive_21 : decode cX1_isTransitive 21 = .ok (.getfield 25, 3) := by decide +kernel
theorem dX1_isTransitive_24 : decode cX1_isTransitive 24 = .ok (.aload_n 0, 1) := by decide +kernel
theorem dX1_isTransitive_25 : decode cX1_isTransitive 25 = .ok (.getfield 25, 3) := by decide +kernel
theorem dX1_isTransitive_28 : decode cX1_isTransitive 28 = .ok (.invokevirtual 86, 3) := by decide +kernel
theorem dX1_isTransitive_31 : decode cX1_isTransitive 31 = .ok (.aload_n 0, 1) := by decide +kernel
theorem dX1_isTransitive_32 : decode cX1_isTransitive 32 = .ok (.getfield 25, 3) := by decide +kernel
theorem dX1_isTransitive_35 : decode cX1_isTransitive 35 = .ok (.getfield 40, 3) := by decide +kernel
theorem dX1_isTransitive_38 : decode cX1_isTransitive 38 = .ok (.aload_n 0, 1) := by decide +kernel
theorem dX1_isTransitive_39 : decode cX1_isTransitive 39 = .ok (.iload_n 1, 1) := by decide +kernel
theorem dX1_isTransitive_40 : decode cX1_isTransitive 40 = .ok (.invokevirtual 36, 3) := by decide +kernel
theorem dX1_isTransitive_43 : decode cX1_isTransitive 43 = .ok (.ldc2_w 81, 3) := by decide +kernel
theorem dX1_isTransitive_46 : decode cX1_isTransitive 46 = .ok (.lxor, 1) := by decide +kernel
theorem dX1_isTransitive_47 : decode cX1_isTransitive 47 = .ok (.land, 1) := by decide +kernel
theorem dX1_isTransitive_48 : decode cX1_isTransitive 48 = .ok (.lconst 0, 1) := by decide +kernel
theorem dX1_isTransitive_49 : decode cX1_isTransitive 49 = .ok (.lcmp, 1) := by decide +kernel
theorem dX1_isTransitive_50 : decode cX1_isTransitive 50 = .ok (.ifCond .ne 25, 3) := by decide +kernel
theorem dX1_isTransitive_53 : decode cX1_isTransitive 53 = .ok (.aload_n 0, 1) := by decide +kernel
theorem dX1_isTransitive_54 : decode cX1_isTransitive 54 = .ok (.getfield 25, 3) := by decide +kernel
theorem dX1_isTransitive_57 : decode cX1_isTransitive 57 = .ok (.getfield 46, 3) := by decide +kernel
theorem dX1_isTransitive_60 : decode cX1_isTransitive 60 = .ok (.aload_n 0, 1) := by decide +kernel
theorem dX1_isTransitive_61 : decode cX1_isTransitive 61 = .ok (.iload_n 1, 1) := by decide +kernel
theorem dX1_isTransitive_62 : decode cX1_isTransitive 62 = .ok (.invokevirtual 43, 3) := by decide +kernel
theorem dX1_isTransitive_65 : decode cX1_isTransitive 65 = .ok (.ldc2_w 81, 3) := by decide +kernel
theorem dX1_isTransitive_68 : decode cX1_isTransitive 68 = .ok (.lxor, 1) := by decide +kernel
theorem dX1_isTransitive_69 : decode cX1_isTransitive 69 = .ok (.land, 1) := by decide +kernel
theorem dX1_isTransitive_70 : decode cX1_isTransitive 70 = .ok (.lconst 0, 1) := by decide +kernel
theorem dX1_isTransitive_71 : decode cX1_isTransitive 71 = .ok (.lcmp, 1) := by decide +kernel
theorem dX1_isTransitive_72 : decode cX1_isTransitive 72 = .ok (.ifCond .eq 5, 3) := by decide +kernel
theorem dX1_isTransitive_75 : decode cX1_isTransitive 75 = .ok (.iconst 0, 1) := by decide +kernel
theorem dX1_isTransitive_76 : decode cX1_isTransitive 76 = .ok (.ireturn, 1) := by decide +kernel
theorem dX1_isTransitive_77 : decode cX1_isTransitive 77 = .ok (.iinc 1 1, 3) := by decide +kernel
theorem dX1_isTransitive_80 : decode cX1_isTransitive 80 = .ok (.goto (-78), 3) := by decide +kernel
theorem dX1_isTransitive_83 : decode cX1_isTransitive 83 = .ok (.iconst 1, 1) := by decide +kernel
theorem dX1_isTransitive_84 : decode cX1_isTransitive 84 = .ok (.ireturn, 1) := by decide +kernel
theorem dX1_everyTwoAre_0 : decode cX1_everyTwoAre 0 = .ok (.iconst 1, 1) := by decide +kernel
theorem dX1_everyTwoAre_1 : decode cX1_everyTwoAre 1 = .ok (.istore_n 2, 1) := by decide +kernel
theorem dX1_everyTwoAre_2 : decode cX1_everyTwoAre 2 = .ok (.iload_n 2, 1) := by decide +kernel
theorem dX1_everyTwoAre_3 : decode cX1_everyTwoAre 3 = .ok (.aload_n 0, 1) := by decide +kernel
theorem dX1_everyTwoAre_4 : decode cX1_everyTwoAre 4 = .ok (.getfield 9, 3) := by decide +kernel
theorem dX1_everyTwoAre_7 : decode cX1_everyTwoAre 7 = .ok (.if_icmp .ge 43, 3) := by decide +kernel
theorem dX1_everyTwoAre_10 : decode cX1_everyTwoAre 10 = .ok (.iconst 0, 1) := by decide +kernel
theorem dX1_everyTwoAre_11 : decode cX1_everyTwoAre 11 = .ok (.istore_n 3, 1) := by decide +kernel
theorem dX1_everyTwoAre_12 : decode cX1_everyTwoAre 12 = .ok (.iload_n 3, 1) := by decide +kernel
theorem dX1_everyTwoAre_13 : decode cX1_everyTwoAre 13 = .ok (.iload_n 2, 1) := by decide +kernel
theorem dX1_everyTwoAre_14 : decode cX1_everyTwoAre 14 = .ok (.if_icmp .ge 30, 3) := by decide +kernel
theorem dX1_everyTwoAre_17 : decode cX1_everyTwoAre 17 = .ok (.iload_n 1, 1) := by decide +kernel
theorem dX1_everyTwoAre_18 : decode cX1_everyTwoAre 18 = .ok (.aload_n 0, 1) := by decide +kernel
theorem dX1_everyTwoAre_19 : decode cX1_everyTwoAre 19 = .ok (.iload_n 2, 1) := by decide +kernel
theorem dX1_everyTwoAre_20 : decode cX1_everyTwoAre 20 = .ok (.iload_n 3, 1) := by decide +kernel
theorem dX1_everyTwoAre_21 : decode cX1_everyTwoAre 21 = .ok (.invokevirtual 73, 3) := by decide +kernel
theorem dX1_everyTwoAre_24 : decode cX1_everyTwoAre 24 = .ok (.aload_n 0, 1) := by decide +kernel
theorem dX1_everyTwoAre_25 : decode cX1_everyTwoAre 25 = .ok (.iload_n 3, 1) := by decide +kernel
theorem dX1_everyTwoAre_26 : decode cX1_everyTwoAre 26 = .ok (.iload_n 2, 1) := by decide +kernel
theorem dX1_everyTwoAre_27 : decode cX1_everyTwoAre 27 = .ok (.invokevirtual 73, 3) := by decide +kernel
theorem dX1_everyTwoAre_30 : decode cX1_everyTwoAre 30 = .ok (.invokestatic 103, 3) := by decide +kernel
theorem dX1_everyTwoAre_33 : decode cX1_everyTwoAre 33 = .ok (.ifCond .ne 5, 3) := by decide +kernel
theorem dX1_everyTwoAre_36 : decode cX1_everyTwoAre 36 = .ok (.iconst 0, 1) := by decide +kernel
theorem dX1_everyTwoAre_37 : decode cX1_everyTwoAre 37 = .ok (.ireturn, 1) := by decide +kernel
theorem dX1_everyTwoAre_38 : decode cX1_everyTwoAre 38 = .ok (.iinc 3 1, 3) := by decide +kernel
theorem dX1_everyTwoAre_41 : decode cX1_everyTwoAre 41 = .ok (.goto (-29), 3) := by decide +kernel
theorem dX1_everyTwoAre_44 : decode cX1_everyTwoAre 44 = .ok (.iinc 2 1, 3) := by decide +kernel
theorem dX1_everyTwoAre_47 : decode cX1_everyTwoAre 47 = .ok (.goto (-45), 3) := by decide +kernel
theorem dX1_everyTwoAre_50 : decode cX1_everyTwoAre 50 = .ok (.iconst 1, 1) := by decide +kernel
theorem dX1_everyTwoAre_51 : decode cX1_everyTwoAre 51 = .ok (.ireturn, 1) := by decide +kernel
theorem dX1_fits_0 : decode cX1_fits 0 = .ok (.iload_n 0, 1) := by decide +kernel
theorem dX1_fits_1 : decode cX1_fits 1 = .ok (.lookupswitch 52 #[(2, 27), (3, 38)], 27) := by decide +kernel
theorem dX1_fits_28 : decode cX1_fits 28 = .ok (.iload_n 1, 1) := by decide +kernel
theorem dX1_fits_29 : decode cX1_fits 29 = .ok (.iload_n 2, 1) := by decide +kernel
theorem dX1_fits_30 : decode cX1_fits 30 = .ok (.if_icmp .ne 7, 3) := by decide +kernel
theorem dX1_fits_33 : decode cX1_fits 33 = .ok (.iconst 1, 1) := by decide +kernel
theorem dX1_fits_34 : decode cX1_fits 34 = .ok (.goto 4, 3) := by decide +kernel
theorem dX1_fits_37 : decode cX1_fits 37 = .ok (.iconst 0, 1) := by decide +kernel
theorem dX1_fits_38 : decode cX1_fits 38 = .ok (.ireturn, 1) := by decide +kernel
theorem dX1_fits_39 : decode cX1_fits 39 = .ok (.iload_n 1, 1) := by decide +kernel
theorem dX1_fits_40 : decode cX1_fits 40 = .ok (.ifCond .eq 7, 3) := by decide +kernel
theorem dX1_fits_43 : decode cX1_fits 43 = .ok (.iload_n 2, 1) := by decide +kernel
theorem dX1_fits_44 : decode cX1_fits 44 = .ok (.ifCond .ne 7, 3) := by decide +kernel
theorem dX1_fits_47 : decode cX1_fits 47 = .ok (.iconst 1, 1) := by decide +kernel
theorem dX1_fits_48 : decode cX1_fits 48 = .ok (.goto 4, 3) := by decide +kernel
theorem dX1_fits_51 : decode cX1_fits 51 = .ok (.iconst 0, 1) := by decide +kernel
theorem dX1_fits_52 : decode cX1_fits 52 = .ok (.ireturn, 1) := by decide +kernel
theorem dX1_fits_53 : decode cX1_fits 53 = .ok (.iload_n 1, 1) := by decide +kernel
theorem dX1_fits_54 : decode cX1_fits 54 = .ok (.ifCond .ne 7, 3) := by decide +kernel
theorem dX1_fits_57 : decode cX1_fits 57 = .ok (.iload_n 2, 1) := by decide +kernel
theorem dX1_fits_58 : decode cX1_fits 58 = .ok (.ifCond .eq 7, 3) := by decide +kernel
theorem dX1_fits_61 : decode cX1_fits 61 = .ok (.iconst 1, 1) := by decide +kernel
theorem dX1_fits_62 : decode cX1_fits 62 = .ok (.goto 4, 3) := by decide +kernel
theorem dX1_fits_65 : decode cX1_fits 65 = .ok (.iconst 0, 1) := by decide +kernel
theorem dX1_fits_66 : decode cX1_fits 66 = .ok (.ireturn, 1) := by decide +kernel
theorem dX1_inOneClass_0 : decode cX1_inOneClass 0 = .ok (.iload_n 1, 1) := by decide +kernel
theorem dX1_inOneClass_1 : decode cX1_inOneClass 1 = .ok (.iload_n 2, 1) := by decide +kernel
theorem dX1_inOneClass_2 : decode cX1_inOneClass 2 = .ok (.if_icmp .eq 21, 3) := by decide +kernel
theorem dX1_inOneClass_5 : decode cX1_inOneClass 5 = .ok (.aload_n 0, 1) := by decide +kernel
theorem dX1_inOneClass_6 : decode cX1_inOneClass 6 = .ok (.iload_n 1, 1) := by decide +kernel
theorem dX1_inOneClass_7 : decode cX1_inOneClass 7 = .ok (.iload_n 2, 1) := by decide +kernel
theorem dX1_inOneClass_8 : decode cX1_inOneClass 8 = .ok (.invokevirtual 73, 3) := by decide +kernel
theorem dX1_inOneClass_11 : decode cX1_inOneClass 11 = .ok (.ifCond .eq 16, 3) := by decide +kernel
theorem dX1_inOneClass_14 : decode cX1_inOneClass 14 = .ok (.aload_n 0, 1) := by decide +kernel
theorem dX1_inOneClass_15 : decode cX1_inOneClass 15 = .ok (.iload_n 2, 1) := by decide +kernel
theorem dX1_inOneClass_16 : decode cX1_inOneClass 16 = .ok (.iload_n 1, 1) := by decide +kernel
theorem dX1_inOneClass_17 : decode cX1_inOneClass 17 = .ok (.invokevirtual 73, 3) := by decide +kernel
theorem dX1_inOneClass_20 : decode cX1_inOneClass 20 = .ok (.ifCond .eq 7, 3) := by decide +kernel
theorem dX1_inOneClass_23 : decode cX1_inOneClass 23 = .ok (.iconst 1, 1) := by decide +kernel
theorem dX1_inOneClass_24 : decode cX1_inOneClass 24 = .ok (.goto 4, 3) := by decide +kernel
theorem dX1_inOneClass_27 : decode cX1_inOneClass 27 = .ok (.iconst 0, 1) := by decide +kernel
theorem dX1_inOneClass_28 : decode cX1_inOneClass 28 = .ok (.ireturn, 1) := by decide +kernel
theorem dX1_leastOfClass_0 : decode cX1_leastOfClass 0 = .ok (.iconst 0, 1) := by decide +kernel
theorem dX1_leastOfClass_1 : decode cX1_leastOfClass 1 = .ok (.istore_n 2, 1) := by decide +kernel
theorem dX1_leastOfClass_2 : decode cX1_leastOfClass 2 = .ok (.iload_n 2, 1) := by decide +kernel
theorem dX1_leastOfClass_3 : decode cX1_leastOfClass 3 = .ok (.iload_n 1, 1) := by decide +kernel
theorem dX1_leastOfClass_4 : decode cX1_leastOfClass 4 = .ok (.if_icmp .ge 20, 3) := by decide +kernel
theorem dX1_leastOfClass_7 : decode cX1_leastOfClass 7 = .ok (.aload_n 0, 1) := by decide +kernel
theorem dX1_leastOfClass_8 : decode cX1_leastOfClass 8 = .ok (.iload_n 2, 1) := by decide +kernel
theorem dX1_leastOfClass_9 : decode cX1_leastOfClass 9 = .ok (.iload_n 1, 1) := by decide +kernel
theorem dX1_leastOfClass_10 : decode cX1_leastOfClass 10 = .ok (.invokevirtual 107, 3) := by decide +kernel
theorem dX1_leastOfClass_13 : decode cX1_leastOfClass 13 = .ok (.ifCond .eq 5, 3) := by decide +kernel
theorem dX1_leastOfClass_16 : decode cX1_leastOfClass 16 = .ok (.iload_n 2, 1) := by decide +kernel
theorem dX1_leastOfClass_17 : decode cX1_leastOfClass 17 = .ok (.ireturn, 1) := by decide +kernel
theorem dX1_leastOfClass_18 : decode cX1_leastOfClass 18 = .ok (.iinc 2 1, 3) := by decide +kernel
theorem dX1_leastOfClass_21 : decode cX1_leastOfClass 21 = .ok (.goto (-19), 3) := by decide +kernel
theorem dX1_leastOfClass_24 : decode cX1_leastOfClass 24 = .ok (.iload_n 1, 1) := by decide +kernel
theorem dX1_leastOfClass_25 : decode cX1_leastOfClass 25 = .ok (.ireturn, 1) := by decide +kernel
theorem dX1_classesInside_0 : decode cX1_classesInside 0 = .ok (.iconst 0, 1) := by decide +kernel
theorem dX1_classesInside_1 : decode cX1_classesInside 1 = .ok (.istore_n 1, 1) := by decide +kernel
theorem dX1_classesInside_2 : decode cX1_classesInside 2 = .ok (.iconst 0, 1) := by decide +kernel
theorem dX1_classesInside_3 : decode cX1_classesInside 3 = .ok (.istore_n 2, 1) := by decide +kernel
theorem dX1_classesInside_4 : decode cX1_classesInside 4 = .ok (.iload_n 2, 1) := by decide +kernel
theorem dX1_classesInside_5 : decode cX1_classesInside 5 = .ok (.aload_n 0, 1) := by decide +kernel
theorem dX1_classesInside_6 : decode cX1_classesInside 6 = .ok (.getfield 9, 3) := by decide +kernel
theorem dX1_classesInside_9 : decode cX1_classesInside 9 = .ok (.if_icmp .ge 21, 3) := by decide +kernel
theorem dX1_classesInside_12 : decode cX1_classesInside 12 = .ok (.aload_n 0, 1) := by decide +kernel
theorem dX1_classesInside_13 : decode cX1_classesInside 13 = .ok (.iload_n 2, 1) := by decide +kernel
theorem dX1_classesInside_14 : decode cX1_classesInside 14 = .ok (.invokevirtual 110, 3) := by decide +kernel
theorem dX1_classesInside_17 : decode cX1_classesInside 17 = .ok (.iload_n 2, 1) := by decide +kernel
theorem dX1_classesInside_18 : decode cX1_classesInside 18 = .ok (.if_icmp .ne 6, 3) := by decide +kernel
theorem dX1_classesInside_21 : decode cX1_classesInside 21 = .ok (.iinc 1 1, 3) := by decide +kernel
theorem dX1_classesInside_24 : decode cX1_classesInside 24 = .ok (.iinc 2 1, 3) := by decide +kernel
theorem dX1_classesInside_27 : decode cX1_classesInside 27 = .ok (.goto (-23), 3) := by decide +kernel
theorem dX1_classesInside_30 : decode cX1_classesInside 30 = .ok (.iload_n 1, 1) := by decide +kernel
theorem dX1_classesInside_31 : decode cX1_classesInside 31 = .ok (.ireturn, 1) := by decide +kernel
theorem dX2_init_0 : decode cX2_init 0 = .ok (.aload_n 0, 1) := by decide +kernel
theorem dX2_init_1 : decode cX2_init 1 = .ok (.invokespecial 3, 3) := by decide +kernel
theorem dX2_init_4 : decode cX2_init 4 = .ok (.aload_n 0, 1) := by decide +kernel
theorem dX2_init_5 : decode cX2_init 5 = .ok (.new 9, 3) := by decide +kernel
theorem dX2_init_8 : decode cX2_init 8 = .ok (.dup, 1) := by decide +kernel
theorem dX2_init_9 : decode cX2_init 9 = .ok (.invokespecial 11, 3) := by decide +kernel
theorem dX2_init_12 : decode cX2_init 12 = .ok (.putfield 12, 3) := by decide +kernel
theorem dX2_init_15 : decode cX2_init 15 = .ok (.aload_n 0, 1) := by decide +kernel
theorem dX2_init_16 : decode cX2_init 16 = .ok (.new 18, 3) := by decide +kernel
theorem dX2_init_19 : decode cX2_init 19 = .ok (.dup, 1) := by decide +kernel
theorem dX2_init_20 : decode cX2_init 20 = .ok (.invokespecial 20, 3) := by decide +kernel
theorem dX2_init_23 : decode cX2_init 23 = .ok (.putfield 21, 3) := by decide +kernel
theorem dX2_init_26 : decode cX2_init 26 = .ok (.aload_n 0, 1) := by decide +kernel
theorem dX2_init_27 : decode cX2_init 27 = .ok (.new 18, 3) := by decide +kernel
theorem dX2_init_30 : decode cX2_init 30 = .ok (.dup, 1) := by decide +kernel
theorem dX2_init_31 : decode cX2_init 31 = .ok (.invokespecial 20, 3) := by decide +kernel
theorem dX2_init_34 : decode cX2_init 34 = .ok (.putfield 25, 3) := by decide +kernel
theorem dX2_init_37 : decode cX2_init 37 = .ok (.aload_n 0, 1) := by decide +kernel
theorem dX2_init_38 : decode cX2_init 38 = .ok (.new 18, 3) := by decide +kernel
theorem dX2_init_41 : decode cX2_init 41 = .ok (.dup, 1) := by decide +kernel
theorem dX2_init_42 : decode cX2_init 42 = .ok (.invokespecial 20, 3) := by decide +kernel
theorem dX2_init_45 : decode cX2_init 45 = .ok (.putfield 28, 3) := by decide +kernel
theorem dX2_init_48 : decode cX2_init 48 = .ok (.aload_n 0, 1) := by decide +kernel
theorem dX2_init_49 : decode cX2_init 49 = .ok (.new 31, 3) := by decide +kernel
theorem dX2_init_52 : decode cX2_init 52 = .ok (.dup, 1) := by decide +kernel
theorem dX2_init_53 : decode cX2_init 53 = .ok (.invokespecial 33, 3) := by decide +kernel
theorem dX2_init_56 : decode cX2_init 56 = .ok (.putfield 34, 3) := by decide +kernel
theorem dX2_init_59 : decode cX2_init 59 = .ok (.aload_n 0, 1) := by decide +kernel
theorem dX2_init_60 : decode cX2_init 60 = .ok (.new 31, 3) := by decide +kernel
theorem dX2_init_63 : decode cX2_init 63 = .ok (.dup, 1) := by decide +kernel
theorem dX2_init_64 : decode cX2_init 64 = .ok (.invokespecial 33, 3) := by decide +kernel
theorem dX2_init_67 : decode cX2_init 67 = .ok (.putfield 38, 3) := by decide +kernel
theorem dX2_init_70 : decode cX2_init 70 = .ok (.aload_n 0, 1) := by decide +kernel
theorem dX2_init_71 : decode cX2_init 71 = .ok (.bipush 80, 2) := by decide +kernel
theorem dX2_init_73 : decode cX2_init 73 = .ok (.newarray .int, 2) := by decide +kernel
theorem dX2_init_75 : decode cX2_init 75 = .ok (.putfield 41, 3) := by decide +kernel
theorem dX2_init_78 : decode cX2_init 78 = .ok (.return_, 1) := by decide +kernel
theorem dX2_wrongOfOne_0 : decode cX2_wrongOfOne 0 = .ok (.aload_n 0, 1) := by decide +kernel
theorem dX2_wrongOfOne_1 : decode cX2_wrongOfOne 1 = .ok (.getfield 21, 3) := by decide +kernel
theorem dX2_wrongOfOne_4 : decode cX2_wrongOfOne 4 = .ok (.aload_n 1, 1) := by decide +kernel
theorem dX2_wrongOfOne_5 : decode cX2_wrongOfOne 5 = .ok (.invokevirtual 45, 3) := by decide +kernel
theorem dX2_wrongOfOne_8 : decode cX2_wrongOfOne 8 = .ok (.aload_n 0, 1) := by decide +kernel
theorem dX2_wrongOfOne_9 : decode cX2_wrongOfOne 9 = .ok (.getfield 21, 3) := by decide +kernel
theorem dX2_wrongOfOne_12 : decode cX2_wrongOfOne 12 = .ok (.invokevirtual 49, 3) := by decide +kernel
theorem dX2_wrongOfOne_15 : decode cX2_wrongOfOne 15 = .ok (.aload_n 0, 1) := by decide +kernel
theorem dX2_wrongOfOne_16 : decode cX2_wrongOfOne 16 = .ok (.aload_n 1, 1) := by decide +kernel
theorem dX2_wrongOfOne_17 : decode cX2_wrongOfOne 17 = .ok (.invokevirtual 52, 3) := by decide +kernel
theorem dX2_wrongOfOne_20 : decode cX2_wrongOfOne 20 = .ok (.invokestatic 56, 3) := by decide +kernel
theorem dX2_wrongOfOne_23 : decode cX2_wrongOfOne 23 = .ok (.aload_n 0, 1) := by decide +kernel
theorem dX2_wrongOfOne_24 : decode cX2_wrongOfOne 24 = .ok (.invokevirtual 60, 3) := by decide +kernel
theorem dX2_wrongOfOne_27 : decode cX2_wrongOfOne 27 = .ok (.invokestatic 56, 3) := by decide +kernel
theorem dX2_wrongOfOne_30 : decode cX2_wrongOfOne 30 = .ok (.iadd, 1) := by decide +kernel
theorem dX2_wrongOfOne_31 : decode cX2_wrongOfOne 31 = .ok (.aload_n 0, 1) := by decide +kernel
theorem dX2_wrongOfOne_32 : decode cX2_wrongOfOne 32 = .ok (.aload_n 1, 1) := by decide +kernel
theorem dX2_wrongOfOne_33 : decode cX2_wrongOfOne 33 = .ok (.invokevirtual 64, 3) := by decide +kernel
theorem dX2_wrongOfOne_36 : decode cX2_wrongOfOne 36 = .ok (.invokestatic 56, 3) := by decide +kernel
theorem dX2_wrongOfOne_39 : decode cX2_wrongOfOne 39 = .ok (.iadd, 1) := by decide +kernel
theorem dX2_wrongOfOne_40 : decode cX2_wrongOfOne 40 = .ok (.aload_n 0, 1) := by decide +kernel
theorem dX2_wrongOfOne_41 : decode cX2_wrongOfOne 41 = .ok (.invokevirtual 67, 3) := by decide +kernel
theorem dX2_wrongOfOne_44 : decode cX2_wrongOfOne 44 = .ok (.invokestatic 56, 3) := by decide +kernel
theorem dX2_wrongOfOne_47 : decode cX2_wrongOfOne 47 = .ok (.iadd, 1) := by decide +kernel
theorem dX2_wrongOfOne_48 : decode cX2_wrongOfOne 48 = .ok (.ireturn, 1) := by decide +kernel
theorem dX2_wrongOfThree_0 : decode cX2_wrongOfThree 0 = .ok (.aload_n 0, 1) := by decide +kernel
theorem dX2_wrongOfThree_1 : decode cX2_wrongOfThree 1 = .ok (.aload_n 1, 1) := by decide +kernel
theorem dX2_wrongOfThree_2 : decode cX2_wrongOfThree 2 = .ok (.aload_n 2, 1) := by decide +kernel
theorem dX2_wrongOfThree_3 : decode cX2_wrongOfThree 3 = .ok (.aload_n 3, 1) := by decide +kernel
theorem dX2_wrongOfThree_4 : decode cX2_wrongOfThree 4 = .ok (.invokevirtual 70, 3) := by decide +kernel
theorem dX2_wrongOfThree_7 : decode cX2_wrongOfThree 7 = .ok (.invokestatic 56, 3) := by decide +kernel
theorem dX2_wrongOfThree_10 : decode cX2_wrongOfThree 10 = .ok (.aload_n 0, 1) := by decide +kernel
theorem dX2_wrongOfThree_11 : decode cX2_wrongOfThree 11 = .ok (.aload_n 1, 1) := by decide +kernel
theorem dX2_wrongOfThree_12 : decode cX2_wrongOfThree 12 = .ok (.aload_n 2, 1) := by decide +kernel
theorem dX2_wrongOfThree_13 : decode cX2_wrongOfThree 13 = .ok (.aload_n 3, 1) := by decide +kernel
theorem dX2_wrongOfThree_14 : decode cX2_wrongOfThree 14 = .ok (.invokevirtual 74, 3) := by decide +kernel
theorem dX2_wrongOfThree_17 : decode cX2_wrongOfThree 17 = .ok (.invokestatic 56, 3) := by decide +kernel
theorem dX2_wrongOfThree_20 : decode cX2_wrongOfThree 20 = .ok (.iadd, 1) := by decide +kernel
theorem dX2_wrongOfThree_21 : decode cX2_wrongOfThree 21 = .ok (.aload_n 0, 1) := by decide +kernel
theorem dX2_wrongOfThree_22 : decode cX2_wrongOfThree 22 = .ok (.aload_n 1, 1) := by decide +kernel
theorem dX2_wrongOfThree_23 : decode cX2_wrongOfThree 23 = .ok (.aload_n 2, 1) := by decide +kernel
theorem dX2_wrongOfThree_24 : decode cX2_wrongOfThree 24 = .ok (.aload_n 3, 1) := by decide +kernel
theorem dX2_wrongOfThree_25 : decode cX2_wrongOfThree 25 = .ok (.invokevirtual 77, 3) := by decide +kernel
theorem dX2_wrongOfThree_28 : decode cX2_wrongOfThree 28 = .ok (.invokestatic 56, 3) := by decide +kernel
theorem dX2_wrongOfThree_31 : decode cX2_wrongOfThree 31 = .ok (.iadd, 1) := by decide +kernel
theorem dX2_wrongOfThree_32 : decode cX2_wrongOfThree 32 = .ok (.ireturn, 1) := by decide +kernel
theorem dX2_wrongUnless_0 : decode cX2_wrongUnless 0 = .ok (.iload_n 0, 1) := by decide +kernel
theorem dX2_wrongUnless_1 : decode cX2_wrongUnless 1 = .ok (.ifCond .eq 7, 3) := by decide +kernel
theorem dX2_wrongUnless_4 : decode cX2_wrongUnless 4 = .ok (.iconst 0, 1) := by decide +kernel
theorem dX2_wrongUnless_5 : decode cX2_wrongUnless 5 = .ok (.goto 4, 3) := by decide +kernel
theorem dX2_wrongUnless_8 : decode cX2_wrongUnless 8 = .ok (.iconst 1, 1) := by decide +kernel
theorem dX2_wrongUnless_9 : decode cX2_wrongUnless 9 = .ok (.ireturn, 1) := by decide +kernel
theorem dX2_closureTellsWalks_0 : decode cX2_closureTellsWalks 0 = .ok (.aload_n 1, 1) := by decide +kernel
theorem dX2_closureTellsWalks_1 : decode cX2_closureTellsWalks 1 = .ok (.invokevirtual 80, 3) := by decide +kernel
theorem dX2_closureTellsWalks_4 : decode cX2_closureTellsWalks 4 = .ok (.istore_n 2, 1) := by decide +kernel
theorem dX2_closureTellsWalks_5 : decode cX2_closureTellsWalks 5 = .ok (.iconst 0, 1) := by decide +kernel
theorem dX2_closureTellsWalks_6 : decode cX2_closureTellsWalks 6 = .ok (.istore_n 3, 1) := by decide +kernel
theorem dX2_closureTellsWalks_7 : decode cX2_closureTellsWalks 7 = .ok (.iload_n 3, 1) := by decide +kernel
theorem dX2_closureTellsWalks_8 : decode cX2_closureTellsWalks 8 = .ok (.iload_n 2, 1) := by decide +kernel
theorem dX2_closureTellsWalks_9 : decode cX2_closureTellsWalks 9 = .ok (.if_icmp .ge 50, 3) := by decide +kernel
theorem dX2_closureTellsWalks_12 : decode cX2_closureTellsWalks 12 = .ok (.aload_n 0, 1) := by decide +kernel
theorem dX2_closureTellsWalks_13 : decode cX2_closureTellsWalks 13 = .ok (.getfield 21, 3) := by decide +kernel
theorem dX2_closureTellsWalks_16 : decode cX2_closureTellsWalks 16 = .ok (.iload_n 3, 1) := by decide +kernel
theorem dX2_closureTellsWalks_17 : decode cX2_closureTellsWalks 17 = .ok (.aload_n 0, 1) := by decide +kernel
theorem dX2_closureTellsWalks_18 : decode cX2_closureTellsWalks 18 = .ok (.getfield 34, 3) := by decide +kernel
theorem dX2_closureTellsWalks_21 : decode cX2_closureTellsWalks 21 = .ok (.invokevirtual 84, 3) := by decide +kernel
theorem dX2_closureTellsWalks_24 : decode cX2_closureTellsWalks 24 = .ok (.aload_n 0, 1) := by decide +kernel
theorem dX2_closureTellsWalks_25 : decode cX2_closureTellsWalks 25 = .ok (.getfield 12, 3) := by decide +kernel
theorem dX2_closureTellsWalks_28 : decode cX2_closureTellsWalks 28 = .ok (.aload_n 1, 1) := by decide +kernel
theorem dX2_closureTellsWalks_29 : decode cX2_closureTellsWalks 29 = .ok (.iload_n 3, 1) := by decide +kernel
theorem dX2_closureTellsWalks_30 : decode cX2_closureTellsWalks 30 = .ok (.aload_n 0, 1) := by decide +kernel
theorem dX2_closureTellsWalks_31 : decode cX2_closureTellsWalks 31 = .ok (.getfield 38, 3) := by decide +kernel
theorem dX2_closureTellsWalks_34 : decode cX2_closureTellsWalks 34 = .ok (.invokevirtual 88, 3) := by decide +kernel
theorem dX2_closureTellsWalks_37 : decode cX2_closureTellsWalks 37 = .ok (.aload_n 0, 1) := by decide +kernel
theorem dX2_closureTellsWalks_38 : decode cX2_closureTellsWalks 38 = .ok (.getfield 34, 3) := by decide +kernel
theorem dX2_closureTellsWalks_41 : decode cX2_closureTellsWalks 41 = .ok (.aload_n 0, 1) := by decide +kernel
theorem dX2_closureTellsWalks_42 : decode cX2_closureTellsWalks 42 = .ok (.getfield 38, 3) := by decide +kernel
theorem dX2_closureTellsWalks_45 : decode cX2_closureTellsWalks 45 = .ok (.invokevirtual 92, 3) := by decide +kernel
theorem dX2_closureTellsWalks_48 : decode cX2_closureTellsWalks 48 = .ok (.ifCond .ne 5, 3) := by decide +kernel
theorem dX2_closureTellsWalks_51 : decode cX2_closureTellsWalks 51 = .ok (.iconst 0, 1) := by decide +kernel
theorem dX2_closureTellsWalks_52 : decode cX2_closureTellsWalks 52 = .ok (.ireturn, 1) := by decide +kernel
theorem dX2_closureTellsWalks_53 : decode cX2_closureTellsWalks 53 = .ok (.iinc 3 1, 3) := by decide +kernel
theorem dX2_closureTellsWalks_56 : decode cX2_closureTellsWalks 56 = .ok (.goto (-49), 3) := by decide +kernel
theorem dX2_closureTellsWalks_59 : decode cX2_closureTellsWalks 59 = .ok (.iconst 1, 1) := by decide +kernel
theorem dX2_closureTellsWalks_60 : decode cX2_closureTellsWalks 60 = .ok (.ireturn, 1) := by decide +kernel
theorem dX2_classesPartElements_0 : decode cX2_classesPartElements 0 = .ok (.aload_n 0, 1) := by decide +kernel
theorem dX2_classesPartElements_1 : decode cX2_classesPartElements 1 = .ok (.getfield 21, 3) := by decide +kernel
theorem dX2_classesPartElements_4 : decode cX2_classesPartElements 4 = .ok (.invokevirtual 80, 3) := by decide +kernel
theorem dX2_classesPartElements_7 : decode cX2_classesPartElements 7 = .ok (.aload_n 0, 1) := by decide +kernel
theorem dX2_classesPartElements_8 : decode cX2_classesPartElements 8 = .ok (.getfield 41, 3) := by decide +kernel
theorem dX2_classesPartElements_11 : decode cX2_classesPartElements 11 = .ok (.arraylength, 1) := by decide +kernel
theorem dX2_classesPartElements_12 : decode cX2_classesPartElements 12 = .ok (.invokestatic 96, 3) := by decide +kernel
theorem dX2_classesPartElements_15 : decode cX2_classesPartElements 15 = .ok (.istore_n 1, 1) := by decide +kernel
theorem dX2_classesPartElements_16 : decode cX2_classesPartElements 16 = .ok (.iconst 0, 1) := by decide +kernel
theorem dX2_classesPartElements_17 : decode cX2_classesPartElements 17 = .ok (.istore_n 2, 1) := by decide +kernel
theorem dX2_classesPartElements_18 : decode cX2_classesPartElements 18 = .ok (.iconst 0, 1) := by decide +kernel
theorem dX2_classesPartElements_19 : decode cX2_classesPartElements 19 = .ok (.istore_n 3, 1) := by decide +kernel
theorem dX2_classesPartElements_20 : decode cX2_classesPartElements 20 = .ok (.iload_n 3, 1) := by decide +kernel
theorem dX2_classesPartElements_21 : decode cX2_classesPartElements 21 = .ok (.iload_n 1, 1) := by decide +kernel
theorem dX2_classesPartElements_22 : decode cX2_classesPartElements 22 = .ok (.if_icmp .ge 96, 3) := by decide +kernel
theorem dX2_classesPartElements_25 : decode cX2_classesPartElements 25 = .ok (.aload_n 0, 1) := by decide +kernel
theorem dX2_classesPartElements_26 : decode cX2_classesPartElements 26 = .ok (.getfield 41, 3) := by decide +kernel
theorem dX2_classesPartElements_29 : decode cX2_classesPartElements 29 = .ok (.iload_n 3, 1) := by decide +kernel
theorem dX2_classesPartElements_30 : decode cX2_classesPartElements 30 = .ok (.aload_n 0, 1) := by decide +kernel
theorem dX2_classesPartElements_31 : decode cX2_classesPartElements 31 = .ok (.getfield 21, 3) := by decide +kernel
theorem dX2_classesPartElements_34 : decode cX2_classesPartElements 34 = .ok (.iload_n 3, 1) := by decide +kernel
theorem dX2_classesPartElements_35 : decode cX2_classesPartElements 35 = .ok (.invokevirtual 102, 3) := by decide +kernel
theorem dX2_classesPartElements_38 : decode cX2_classesPartElements 38 = .ok (.iastore, 1) := by decide +kernel
theorem dX2_classesPartElements_39 : decode cX2_classesPartElements 39 = .ok (.iload_n 2, 1) := by decide +kernel
theorem dX2_classesPartElements_40 : decode cX2_classesPartElements 40 = .ok (.aload_n 0, 1) := by decide +kernel
theorem dX2_classesPartElements_41 : decode cX2_classesPartElements 41 = .ok (.getfield 41, 3) := by decide +kernel
theorem dX2_classesPartElements_44 : decode cX2_classesPartElements 44 = .ok (.iload_n 3, 1) := by decide +kernel
theorem dX2_classesPartElements_45 : decode cX2_classesPartElements 45 = .ok (.iaload, 1) := by decide +kernel
theorem dX2_classesPartElements_46 : decode cX2_classesPartElements 46 = .ok (.iload_n 3, 1) := by decide +kernel
theorem dX2_classesPartElements_47 : decode cX2_classesPartElements 47 = .ok (.if_icmp .ne 7, 3) := by decide +kernel
theorem dX2_classesPartElements_50 : decode cX2_classesPartElements 50 = .ok (.iconst 1, 1) := by decide +kernel
theorem dX2_classesPartElements_51 : decode cX2_classesPartElements 51 = .ok (.goto 4, 3) := by decide +kernel
theorem dX2_classesPartElements_54 : decode cX2_classesPartElements 54 = .ok (.iconst 0, 1) := by decide +kernel
theorem dX2_classesPartElements_55 : decode cX2_classesPartElements 55 = .ok (.iadd, 1) := by decide +kernel
theorem dX2_classesPartElements_56 : decode cX2_classesPartElements 56 = .ok (.istore_n 2, 1) := by decide +kernel
theorem dX2_classesPartElements_57 : decode cX2_classesPartElements 57 = .ok (.iconst 0, 1) := by decide +kernel
theorem dX2_classesPartElements_58 : decode cX2_classesPartElements 58 = .ok (.istore 4, 2) := by decide +kernel
theorem dX2_classesPartElements_60 : decode cX2_classesPartElements 60 = .ok (.iload 4, 2) := by decide +kernel
theorem dX2_classesPartElements_62 : decode cX2_classesPartElements 62 = .ok (.iload_n 3, 1) := by decide +kernel
theorem dX2_classesPartElements_63 : decode cX2_classesPartElements 63 = .ok (.if_icmp .ge 49, 3) := by decide +kernel
theorem dX2_classesPartElements_66 : decode cX2_classesPartElements 66 = .ok (.aload_n 0, 1) := by decide +kernel
theorem dX2_classesPartElements_67 : decode cX2_classesPartElements 67 = .ok (.getfield 41, 3) := by decide +kernel
theorem dX2_classesPartElements_70 : decode cX2_classesPartElements 70 = .ok (.iload 4, 2) := by decide +kernel
theorem dX2_classesPartElements_72 : decode cX2_classesPartElements 72 = .ok (.iaload, 1) := by decide +kernel
theorem dX2_classesPartElements_73 : decode cX2_classesPartElements 73 = .ok (.aload_n 0, 1) := by decide +kernel
theorem dX2_classesPartElements_74 : decode cX2_classesPartElements 74 = .ok (.getfield 41, 3) := by decide +kernel
theorem dX2_classesPartElements_77 : decode cX2_classesPartElements 77 = .ok (.iload_n 3, 1) := by decide +kernel
theorem dX2_classesPartElements_78 : decode cX2_classesPartElements 78 = .ok (.iaload, 1) := by decide +kernel
theorem dX2_classesPartElements_79 : decode cX2_classesPartElements 79 = .ok (.if_icmp .ne 7, 3) := by decide +kernel
theorem dX2_classesPartElements_82 : decode cX2_classesPartElements 82 = .ok (.iconst 1, 1) := by decide +kernel
theorem dX2_classesPartElements_83 : decode cX2_classesPartElements 83 = .ok (.goto 4, 3) := by decide +kernel
theorem dX2_classesPartElements_86 : decode cX2_classesPartElements 86 = .ok (.iconst 0, 1) := by decide +kernel
theorem dX2_classesPartElements_87 : decode cX2_classesPartElements 87 = .ok (.istore 5, 2) := by decide +kernel
theorem dX2_classesPartElements_89 : decode cX2_classesPartElements 89 = .ok (.iload 5, 2) := by decide +kernel
theorem dX2_classesPartElements_91 : decode cX2_classesPartElements 91 = .ok (.aload_n 0, 1) := by decide +kernel
theorem dX2_classesPartElements_92 : decode cX2_classesPartElements 92 = .ok (.getfield 21, 3) := by decide +kernel
theorem dX2_classesPartElements_95 : decode cX2_classesPartElements 95 = .ok (.iload 4, 2) := by decide +kernel
theorem dX2_classesPartElements_97 : decode cX2_classesPartElements 97 = .ok (.iload_n 3, 1) := by decide +kernel
theorem dX2_classesPartElements_98 : decode cX2_classesPartElements 98 = .ok (.invokevirtual 106, 3) := by decide +kernel
theorem dX2_classesPartElements_101 : decode cX2_classesPartElements 101 = .ok (.if_icmp .eq 5, 3) := by decide +kernel
theorem dX2_classesPartElements_104 : decode cX2_classesPartElements 104 = .ok (.iconst 0, 1) := by decide +kernel
theorem dX2_classesPartElements_105 : decode cX2_classesPartElements 105 = .ok (.ireturn, 1) := by decide +kernel
theorem dX2_classesPartElements_106 : decode cX2_classesPartElements 106 = .ok (.iinc 4 1, 3) := by decide +kernel
theorem dX2_classesPartElements_109 : decode cX2_classesPartElements 109 = .ok (.goto (-49), 3) := by decide +kernel
theorem dX2_classesPartElements_112 : decode cX2_classesPartElements 112 = .ok (.iinc 3 1, 3) := by decide +kernel
theorem dX2_classesPartElements_115 : decode cX2_classesPartElements 115 = .ok (.goto (-95), 3) := by decide +kernel
theorem dX2_classesPartElements_118 : decode cX2_classesPartElements 118 = .ok (.iload_n 2, 1) := by decide +kernel
theorem dX2_classesPartElements_119 : decode cX2_classesPartElements 119 = .ok (.aload_n 0, 1) := by decide +kernel
theorem dX2_classesPartElements_120 : decode cX2_classesPartElements 120 = .ok (.getfield 21, 3) := by decide +kernel
theorem dX2_classesPartElements_123 : decode cX2_classesPartElements 123 = .ok (.invokevirtual 110, 3) := by decide +kernel
theorem dX2_classesPartElements_126 : decode cX2_classesPartElements 126 = .ok (.if_icmp .ne 7, 3) := by decide +kernel
theorem dX2_classesPartElements_129 : decode cX2_classesPartElements 129 = .ok (.iconst 1, 1) := by decide +kernel
theorem dX2_classesPartElements_130 : decode cX2_classesPartElements 130 = .ok (.goto 4, 3) := by decide +kernel
theorem dX2_classesPartElements_133 : decode cX2_classesPartElements 133 = .ok (.iconst 0, 1) := by decide +kernel
theorem dX2_classesPartElements_134 : decode cX2_classesPartElements 134 = .ok (.ireturn, 1) := by decide +kernel
theorem dX2_orderKeeps_0 : decode cX2_orderKeeps 0 = .ok (.aload_n 0, 1) := by decide +kernel
theorem dX2_orderKeeps_1 : decode cX2_orderKeeps 1 = .ok (.getfield 21, 3) := by decide +kernel
theorem dX2_orderKeeps_4 : decode cX2_orderKeeps 4 = .ok (.invokevirtual 113, 3) := by decide +kernel
theorem dX2_orderKeeps_7 : decode cX2_orderKeeps 7 = .ok (.ifCond .ne 7, 3) := by decide +kernel
theorem dX2_orderKeeps_10 : decode cX2_orderKeeps 10 = .ok (.iconst 1, 1) := by decide +kernel
theorem dX2_orderKeeps_11 : decode cX2_orderKeeps 11 = .ok (.goto 4, 3) := by decide +kernel
theorem dX2_orderKeeps_14 : decode cX2_orderKeeps 14 = .ok (.iconst 0, 1) := by decide +kernel
theorem dX2_orderKeeps_15 : decode cX2_orderKeeps 15 = .ok (.istore_n 2, 1) := by decide +kernel
theorem dX2_orderKeeps_16 : decode cX2_orderKeeps 16 = .ok (.aload_n 0, 1) := by decide +kernel
theorem dX2_orderKeeps_17 : decode cX2_orderKeeps 17 = .ok (.getfield 12, 3) := by decide +kernel
theorem dX2_orderKeeps_20 : decode cX2_orderKeeps 20 = .ok (.aload_n 1, 1) := by decide +kernel
theorem dX2_orderKeeps_21 : decode cX2_orderKeeps 21 = .ok (.invokevirtual 116, 3) := by decide +kernel
theorem dX2_orderKeeps_24 : decode cX2_orderKeeps 24 = .ok (.ifCond .ne 13, 3) := by decide +kernel
theorem dX2_orderKeeps_27 : decode cX2_orderKeeps 27 = .ok (.iload_n 2, 1) := by decide +kernel
theorem dX2_orderKeeps_28 : decode cX2_orderKeeps 28 = .ok (.ifCond .ne 7, 3) := by decide +kernel
theorem dX2_orderKeeps_31 : decode cX2_orderKeeps 31 = .ok (.iconst 1, 1) := by decide +kernel
theorem dX2_orderKeeps_32 : decode cX2_orderKeeps 32 = .ok (.goto 4, 3) := by decide +kernel
theorem dX2_orderKeeps_35 : decode cX2_orderKeeps 35 = .ok (.iconst 0, 1) := by decide +kernel
theorem dX2_orderKeeps_36 : decode cX2_orderKeeps 36 = .ok (.ireturn, 1) := by decide +kernel
theorem dX2_orderKeeps_37 : decode cX2_orderKeeps 37 = .ok (.aload_n 0, 1) := by decide +kernel
theorem dX2_orderKeeps_38 : decode cX2_orderKeeps 38 = .ok (.getfield 38, 3) := by decide +kernel
theorem dX2_orderKeeps_41 : decode cX2_orderKeeps 41 = .ok (.astore_n 3, 1) := by decide +kernel
theorem dX2_orderKeeps_42 : decode cX2_orderKeeps 42 = .ok (.aload_n 3, 1) := by decide +kernel
theorem dX2_orderKeeps_43 : decode cX2_orderKeeps 43 = .ok (.invokevirtual 119, 3) := by decide +kernel
theorem dX2_orderKeeps_46 : decode cX2_orderKeeps 46 = .ok (.aload_n 1, 1) := by decide +kernel
theorem dX2_orderKeeps_47 : decode cX2_orderKeeps 47 = .ok (.invokevirtual 80, 3) := by decide +kernel
theorem dX2_orderKeeps_50 : decode cX2_orderKeeps 50 = .ok (.istore 4, 2) := by decide +kernel
theorem dX2_orderKeeps_52 : decode cX2_orderKeeps 52 = .ok (.iconst 0, 1) := by decide +kernel
theorem dX2_orderKeeps_53 : decode cX2_orderKeeps 53 = .ok (.istore 5, 2) := by decide +kernel
theorem dX2_orderKeeps_55 : decode cX2_orderKeeps 55 = .ok (.iload 5, 2) := by decide +kernel
theorem dX2_orderKeeps_57 : decode cX2_orderKeeps 57 = .ok (.iload 4, 2) := by decide +kernel
theorem dX2_orderKeeps_59 : decode cX2_orderKeeps 59 = .ok (.if_icmp .ge 54, 3) := by decide +kernel
theorem dX2_orderKeeps_62 : decode cX2_orderKeeps 62 = .ok (.aload_n 0, 1) := by decide +kernel
theorem dX2_orderKeeps_63 : decode cX2_orderKeeps 63 = .ok (.getfield 12, 3) := by decide +kernel
theorem dX2_orderKeeps_66 : decode cX2_orderKeeps 66 = .ok (.iload 5, 2) := by decide +kernel
theorem dX2_orderKeeps_68 : decode cX2_orderKeeps 68 = .ok (.invokevirtual 122, 3) := by decide +kernel
theorem dX2_orderKeeps_71 : decode cX2_orderKeeps 71 = .ok (.istore 6, 2) := by decide +kernel
theorem dX2_orderKeeps_73 : decode cX2_orderKeeps 73 = .ok (.aload_n 3, 1) := by decide +kernel
theorem dX2_orderKeeps_74 : decode cX2_orderKeeps 74 = .ok (.iload 6, 2) := by decide +kernel
theorem dX2_orderKeeps_76 : decode cX2_orderKeeps 76 = .ok (.iload 6, 2) := by decide +kernel
theorem dX2_orderKeeps_78 : decode cX2_orderKeeps 78 = .ok (.iconst 1, 1) := by decide +kernel
theorem dX2_orderKeeps_79 : decode cX2_orderKeeps 79 = .ok (.iadd, 1) := by decide +kernel
theorem dX2_orderKeeps_80 : decode cX2_orderKeeps 80 = .ok (.iconst 1, 1) := by decide +kernel
theorem dX2_orderKeeps_81 : decode cX2_orderKeeps 81 = .ok (.invokevirtual 125, 3) := by decide +kernel
theorem dX2_orderKeeps_84 : decode cX2_orderKeeps 84 = .ok (.aload_n 1, 1) := by decide +kernel
theorem dX2_orderKeeps_85 : decode cX2_orderKeeps 85 = .ok (.iload 6, 2) := by decide +kernel
theorem dX2_orderKeeps_87 : decode cX2_orderKeeps 87 = .ok (.aload_n 0, 1) := by decide +kernel
theorem dX2_orderKeeps_88 : decode cX2_orderKeeps 88 = .ok (.getfield 34, 3) := by decide +kernel
theorem dX2_orderKeeps_91 : decode cX2_orderKeeps 91 = .ok (.invokevirtual 84, 3) := by decide +kernel
theorem dX2_orderKeeps_94 : decode cX2_orderKeeps 94 = .ok (.aload_n 0, 1) := by decide +kernel
theorem dX2_orderKeeps_95 : decode cX2_orderKeeps 95 = .ok (.getfield 34, 3) := by decide +kernel
theorem dX2_orderKeeps_98 : decode cX2_orderKeeps 98 = .ok (.aload_n 3, 1) := by decide +kernel
theorem dX2_orderKeeps_99 : decode cX2_orderKeeps 99 = .ok (.invokevirtual 129, 3) := by decide +kernel
theorem dX2_orderKeeps_102 : decode cX2_orderKeeps 102 = .ok (.ifCond .eq 5, 3) := by decide +kernel
theorem dX2_orderKeeps_105 : decode cX2_orderKeeps 105 = .ok (.iconst 0, 1) := by decide +kernel
theorem dX2_orderKeeps_106 : decode cX2_orderKeeps 106 = .ok (.ireturn, 1) := by decide +kernel
theorem dX2_orderKeeps_107 : decode cX2_orderKeeps 107 = .ok (.iinc 5 1, 3) := by decide +kernel
theorem dX2_orderKeeps_110 : decode cX2_orderKeeps 110 = .ok (.goto (-55), 3) := by decide +kernel
theorem dX2_orderKeeps_113 : decode cX2_orderKeeps 113 = .ok (.iload_n 2, 1) := by decide +kernel
theorem dX2_orderKeeps_114 : decode cX2_orderKeeps 114 = .ok (.ifCond .eq 16, 3) := by decide +kernel
theorem dX2_orderKeeps_117 : decode cX2_orderKeeps 117 = .ok (.aload_n 3, 1) := by decide +kernel
theorem dX2_orderKeeps_118 : decode cX2_orderKeeps 118 = .ok (.invokevirtual 132, 3) := by decide +kernel
theorem dX2_orderKeeps_121 : decode cX2_orderKeeps 121 = .ok (.iload 4, 2) := by decide +kernel
theorem dX2_orderKeeps_123 : decode cX2_orderKeeps 123 = .ok (.if_icmp .ne 7, 3) := by decide +kernel
theorem dX2_orderKeeps_126 : decode cX2_orderKeeps 126 = .ok (.iconst 1, 1) := by decide +kernel
theorem dX2_orderKeeps_127 : decode cX2_orderKeeps 127 = .ok (.goto 4, 3) := by decide +kernel
theorem dX2_orderKeeps_130 : decode cX2_orderKeeps 130 = .ok (.iconst 0, 1) := by decide +kernel
theorem dX2_orderKeeps_131 : decode cX2_orderKeeps 131 = .ok (.ireturn, 1) := by decide +kernel
theorem dX2_coversGiveClosure_0 : decode cX2_coversGiveClosure 0 = .ok (.aload_n 0, 1) := by decide +kernel
theorem dX2_coversGiveClosure_1 : decode cX2_coversGiveClosure 1 = .ok (.getfield 21, 3) := by decide +kernel
theorem dX2_coversGiveClosure_4 : decode cX2_coversGiveClosure 4 = .ok (.invokevirtual 113, 3) := by decide +kernel
theorem dX2_coversGiveClosure_7 : decode cX2_coversGiveClosure 7 = .ok (.ifCond .eq 5, 3) := by decide +kernel
theorem dX2_coversGiveClosure_10 : decode cX2_coversGiveClosure 10 = .ok (.iconst 1, 1) := by decide +kernel
theorem dX2_coversGiveClosure_11 : decode cX2_coversGiveClosure 11 = .ok (.ireturn, 1) := by decide +kernel
theorem dX2_coversGiveClosure_12 : decode cX2_coversGiveClosure 12 = .ok (.aload_n 0, 1) := by decide +kernel
theorem dX2_coversGiveClosure_13 : decode cX2_coversGiveClosure 13 = .ok (.getfield 25, 3) := by decide +kernel
theorem dX2_coversGiveClosure_16 : decode cX2_coversGiveClosure 16 = .ok (.aload_n 0, 1) := by decide +kernel
theorem dX2_coversGiveClosure_17 : decode cX2_coversGiveClosure 17 = .ok (.getfield 21, 3) := by decide +kernel
theorem dX2_coversGiveClosure_20 : decode cX2_coversGiveClosure 20 = .ok (.invokevirtual 135, 3) := by decide +kernel
theorem dX2_coversGiveClosure_23 : decode cX2_coversGiveClosure 23 = .ok (.aload_n 0, 1) := by decide +kernel
theorem dX2_coversGiveClosure_24 : decode cX2_coversGiveClosure 24 = .ok (.getfield 25, 3) := by decide +kernel
theorem dX2_coversGiveClosure_27 : decode cX2_coversGiveClosure 27 = .ok (.invokevirtual 49, 3) := by decide +kernel
theorem dX2_coversGiveClosure_30 : decode cX2_coversGiveClosure 30 = .ok (.aload_n 0, 1) := by decide +kernel
theorem dX2_coversGiveClosure_31 : decode cX2_coversGiveClosure 31 = .ok (.getfield 25, 3) := by decide +kernel
theorem dX2_coversGiveClosure_34 : decode cX2_coversGiveClosure 34 = .ok (.aload_n 0, 1) := by decide +kernel
theorem dX2_coversGiveClosure_35 : decode cX2_coversGiveClosure 35 = .ok (.getfield 21, 3) := by decide +kernel
theorem dX2_coversGiveClosure_38 : decode cX2_coversGiveClosure 38 = .ok (.invokevirtual 138, 3) := by decide +kernel
theorem dX2_coversGiveClosure_41 : decode cX2_coversGiveClosure 41 = .ok (.ireturn, 1) := by decide +kernel
theorem dX2_isAssociative_0 : decode cX2_isAssociative 0 = .ok (.aload_n 0, 1) := by decide +kernel
theorem dX2_isAssociative_1 : decode cX2_isAssociative 1 = .ok (.getfield 28, 3) := by decide +kernel
theorem dX2_isAssociative_4 : decode cX2_isAssociative 4 = .ok (.aload_n 1, 1) := by decide +kernel
theorem dX2_isAssociative_5 : decode cX2_isAssociative 5 = .ok (.aload_n 2, 1) := by decide +kernel
theorem dX2_isAssociative_6 : decode cX2_isAssociative 6 = .ok (.invokevirtual 140, 3) := by decide +kernel
theorem dX2_isAssociative_9 : decode cX2_isAssociative 9 = .ok (.aload_n 0, 1) := by decide +kernel
theorem dX2_isAssociative_10 : decode cX2_isAssociative 10 = .ok (.getfield 21, 3) := by decide +kernel
theorem dX2_isAssociative_13 : decode cX2_isAssociative 13 = .ok (.aload_n 0, 1) := by decide +kernel
theorem dX2_isAssociative_14 : decode cX2_isAssociative 14 = .ok (.getfield 28, 3) := by decide +kernel
theorem dX2_isAssociative_17 : decode cX2_isAssociative 17 = .ok (.aload_n 3, 1) := by decide +kernel
theorem dX2_isAssociative_18 : decode cX2_isAssociative 18 = .ok (.invokevirtual 140, 3) := by decide +kernel
theorem dX2_isAssociative_21 : decode cX2_isAssociative 21 = .ok (.aload_n 0, 1) := by decide +kernel
theorem dX2_isAssociative_22 : decode cX2_isAssociative 22 = .ok (.getfield 28, 3) := by decide +kernel
theorem dX2_isAssociative_25 : decode cX2_isAssociative 25 = .ok (.aload_n 2, 1) := by decide +kernel
theorem dX2_isAssociative_26 : decode cX2_isAssociative 26 = .ok (.aload_n 3, 1) := by decide +kernel
theorem dX2_isAssociative_27 : decode cX2_isAssociative 27 = .ok (.invokevirtual 140, 3) := by decide +kernel
theorem dX2_isAssociative_30 : decode cX2_isAssociative 30 = .ok (.aload_n 0, 1) := by decide +kernel
theorem dX2_isAssociative_31 : decode cX2_isAssociative 31 = .ok (.getfield 25, 3) := by decide +kernel
theorem dX2_isAssociative_34 : decode cX2_isAssociative 34 = .ok (.aload_n 1, 1) := by decide +kernel
theorem dX2_isAssociative_35 : decode cX2_isAssociative 35 = .ok (.aload_n 0, 1) := by decide +kernel
theorem dX2_isAssociative_36 : decode cX2_isAssociative 36 = .ok (.getfield 28, 3) := by decide +kernel
theorem dX2_isAssociative_39 : decode cX2_isAssociative 39 = .ok (.invokevirtual 140, 3) := by decide +kernel
theorem dX2_isAssociative_42 : decode cX2_isAssociative 42 = .ok (.aload_n 0, 1) := by decide +kernel
theorem dX2_isAssociative_43 : decode cX2_isAssociative 43 = .ok (.getfield 21, 3) := by decide +kernel
theorem dX2_isAssociative_46 : decode cX2_isAssociative 46 = .ok (.aload_n 0, 1) := by decide +kernel
theorem dX2_isAssociative_47 : decode cX2_isAssociative 47 = .ok (.getfield 25, 3) := by decide +kernel
theorem dX2_isAssociative_50 : decode cX2_isAssociative 50 = .ok (.invokevirtual 138, 3) := by decide +kernel
theorem dX2_isAssociative_53 : decode cX2_isAssociative 53 = .ok (.ireturn, 1) := by decide +kernel
theorem dX2_distributesBefore_0 : decode cX2_distributesBefore 0 = .ok (.aload_n 0, 1) := by decide +kernel
theorem dX2_distributesBefore_1 : decode cX2_distributesBefore 1 = .ok (.getfield 28, 3) := by decide +kernel
theorem dX2_distributesBefore_4 : decode cX2_distributesBefore 4 = .ok (.aload_n 2, 1) := by decide +kernel
theorem dX2_distributesBefore_5 : decode cX2_distributesBefore 5 = .ok (.invokevirtual 45, 3) := by decide +kernel
theorem dX2_distributesBefore_8 : decode cX2_distributesBefore 8 = .ok (.aload_n 0, 1) := by decide +kernel
theorem dX2_distributesBefore_9 : decode cX2_distributesBefore 9 = .ok (.getfield 28, 3) := by decide +kernel
theorem dX2_distributesBefore_12 : decode cX2_distributesBefore 12 = .ok (.aload_n 3, 1) := by decide +kernel
theorem dX2_distributesBefore_13 : decode cX2_distributesBefore 13 = .ok (.iconst 0, 1) := by decide +kernel
theorem dX2_distributesBefore_14 : decode cX2_distributesBefore 14 = .ok (.invokevirtual 144, 3) := by decide +kernel
theorem dX2_distributesBefore_17 : decode cX2_distributesBefore 17 = .ok (.aload_n 0, 1) := by decide +kernel
theorem dX2_distributesBefore_18 : decode cX2_distributesBefore 18 = .ok (.getfield 21, 3) := by decide +kernel
theorem dX2_distributesBefore_21 : decode cX2_distributesBefore 21 = .ok (.aload_n 1, 1) := by decide +kernel
theorem dX2_distributesBefore_22 : decode cX2_distributesBefore 22 = .ok (.aload_n 0, 1) := by decide +kernel
theorem dX2_distributesBefore_23 : decode cX2_distributesBefore 23 = .ok (.getfield 28, 3) := by decide +kernel
theorem dX2_distributesBefore_26 : decode cX2_distributesBefore 26 = .ok (.invokevirtual 140, 3) := by decide +kernel
theorem dX2_distributesBefore_29 : decode cX2_distributesBefore 29 = .ok (.aload_n 0, 1) := by decide +kernel
theorem dX2_distributesBefore_30 : decode cX2_distributesBefore 30 = .ok (.getfield 28, 3) := by decide +kernel
theorem dX2_distributesBefore_33 : decode cX2_distributesBefore 33 = .ok (.aload_n 1, 1) := by decide +kernel
theorem dX2_distributesBefore_34 : decode cX2_distributesBefore 34 = .ok (.aload_n 2, 1) := by decide +kernel
theorem dX2_distributesBefore_35 : decode cX2_distributesBefore 35 = .ok (.invokevirtual 140, 3) := by decide +kernel
theorem dX2_distributesBefore_38 : decode cX2_distributesBefore 38 = .ok (.aload_n 0, 1) := by decide +kernel
theorem dX2_distributesBefore_39 : decode cX2_distributesBefore 39 = .ok (.getfield 25, 3) := by decide +kernel
theorem dX2_distributesBefore_42 : decode cX2_distributesBefore 42 = .ok (.aload_n 1, 1) := by decide +kernel
theorem dX2_distributesBefore_43 : decode cX2_distributesBefore 43 = .ok (.aload_n 3, 1) := by decide +kernel
theorem dX2_distributesBefore_44 : decode cX2_distributesBefore 44 = .ok (.invokevirtual 140, 3) := by decide +kernel
theorem dX2_distributesBefore_47 : decode cX2_distributesBefore 47 = .ok (.aload_n 0, 1) := by decide +kernel
theorem dX2_distributesBefore_48 : decode cX2_distributesBefore 48 = .ok (.getfield 25, 3) := by decide +kernel
theorem dX2_distributesBefore_51 : decode cX2_distributesBefore 51 = .ok (.aload_n 0, 1) := by decide +kernel
theorem dX2_distributesBefore_52 : decode cX2_distributesBefore 52 = .ok (.getfield 28, 3) := by decide +kernel
theorem dX2_distributesBefore_55 : decode cX2_distributesBefore 55 = .ok (.iconst 0, 1) := by decide +kernel
theorem dX2_distributesBefore_56 : decode cX2_distributesBefore 56 = .ok (.invokevirtual 144, 3) := by decide +kernel
theorem dX2_distributesBefore_59 : decode cX2_distributesBefore 59 = .ok (.aload_n 0, 1) := by decide +kernel
theorem dX2_distributesBefore_60 : decode cX2_distributesBefore 60 = .ok (.getfield 21, 3) := by decide +kernel
theorem dX2_distributesBefore_63 : decode cX2_distributesBefore 63 = .ok (.aload_n 0, 1) := by decide +kernel
theorem dX2_distributesBefore_64 : decode cX2_distributesBefore 64 = .ok (.getfield 25, 3) := by decide +kernel
theorem dX2_distributesBefore_67 : decode cX2_distributesBefore 67 = .ok (.invokevirtual 138, 3) := by decide +kernel
theorem dX2_distributesBefore_70 : decode cX2_distributesBefore 70 = .ok (.ireturn, 1) := by decide +kernel
theorem dX2_distributesBehind_0 : decode cX2_distributesBehind 0 = .ok (.aload_n 0, 1) := by decide +kernel
theorem dX2_distributesBehind_1 : decode cX2_distributesBehind 1 = .ok (.getfield 28, 3) := by decide +kernel
theorem dX2_distributesBehind_4 : decode cX2_distributesBehind 4 = .ok (.aload_n 1, 1) := by decide +kernel
theorem dX2_distributesBehind_5 : decode cX2_distributesBehind 5 = .ok (.invokevirtual 45, 3) := by decide +kernel
theorem dX2_distributesBehind_8 : decode cX2_distributesBehind 8 = .ok (.aload_n 0, 1) := by decide +kernel
theorem dX2_distributesBehind_9 : decode cX2_distributesBehind 9 = .ok (.getfield 28, 3) := by decide +kernel
theorem dX2_distributesBehind_12 : decode cX2_distributesBehind 12 = .ok (.aload_n 2, 1) := by decide +kernel
theorem dX2_distributesBehind_13 : decode cX2_distributesBehind 13 = .ok (.iconst 0, 1) := by decide +kernel
theorem dX2_distributesBehind_14 : decode cX2_distributesBehind 14 = .ok (.invokevirtual 144, 3) := by decide +kernel
theorem dX2_distributesBehind_17 : decode cX2_distributesBehind 17 = .ok (.aload_n 0, 1) := by decide +kernel
theorem dX2_distributesBehind_18 : decode cX2_distributesBehind 18 = .ok (.getfield 21, 3) := by decide +kernel
theorem dX2_distributesBehind_21 : decode cX2_distributesBehind 21 = .ok (.aload_n 0, 1) := by decide +kernel
theorem dX2_distributesBehind_22 : decode cX2_distributesBehind 22 = .ok (.getfield 28, 3) := by decide +kernel
theorem dX2_distributesBehind_25 : decode cX2_distributesBehind 25 = .ok (.aload_n 3, 1) := by decide +kernel
theorem dX2_distributesBehind_26 : decode cX2_distributesBehind 26 = .ok (.invokevirtual 140, 3) := by decide +kernel
theorem dX2_distributesBehind_29 : decode cX2_distributesBehind 29 = .ok (.aload_n 0, 1) := by decide +kernel
theorem dX2_distributesBehind_30 : decode cX2_distributesBehind 30 = .ok (.getfield 28, 3) := by decide +kernel
theorem dX2_distributesBehind_33 : decode cX2_distributesBehind 33 = .ok (.aload_n 1, 1) := by decide +kernel
theorem dX2_distributesBehind_34 : decode cX2_distributesBehind 34 = .ok (.aload_n 3, 1) := by decide +kernel
theorem dX2_distributesBehind_35 : decode cX2_distributesBehind 35 = .ok (.invokevirtual 140, 3) := by decide +kernel
theorem dX2_distributesBehind_38 : decode cX2_distributesBehind 38 = .ok (.aload_n 0, 1) := by decide +kernel
theorem dX2_distributesBehind_39 : decode cX2_distributesBehind 39 = .ok (.getfield 25, 3) := by decide +kernel
theorem dX2_distributesBehind_42 : decode cX2_distributesBehind 42 = .ok (.aload_n 2, 1) := by decide +kernel
theorem dX2_distributesBehind_43 : decode cX2_distributesBehind 43 = .ok (.aload_n 3, 1) := by decide +kernel
theorem dX2_distributesBehind_44 : decode cX2_distributesBehind 44 = .ok (.invokevirtual 140, 3) := by decide +kernel
theorem dX2_distributesBehind_47 : decode cX2_distributesBehind 47 = .ok (.aload_n 0, 1) := by decide +kernel
theorem dX2_distributesBehind_48 : decode cX2_distributesBehind 48 = .ok (.getfield 25, 3) := by decide +kernel
theorem dX2_distributesBehind_51 : decode cX2_distributesBehind 51 = .ok (.aload_n 0, 1) := by decide +kernel
theorem dX2_distributesBehind_52 : decode cX2_distributesBehind 52 = .ok (.getfield 28, 3) := by decide +kernel
theorem dX2_distributesBehind_55 : decode cX2_distributesBehind 55 = .ok (.iconst 0, 1) := by decide +kernel
theorem dX2_distributesBehind_56 : decode cX2_distributesBehind 56 = .ok (.invokevirtual 144, 3) := by decide +kernel
theorem dX2_distributesBehind_59 : decode cX2_distributesBehind 59 = .ok (.aload_n 0, 1) := by decide +kernel
theorem dX2_distributesBehind_60 : decode cX2_distributesBehind 60 = .ok (.getfield 21, 3) := by decide +kernel
theorem dX2_distributesBehind_63 : decode cX2_distributesBehind 63 = .ok (.aload_n 0, 1) := by decide +kernel
theorem dX2_distributesBehind_64 : decode cX2_distributesBehind 64 = .ok (.getfield 25, 3) := by decide +kernel
theorem dX2_distributesBehind_67 : decode cX2_distributesBehind 67 = .ok (.invokevirtual 138, 3) := by decide +kernel
theorem dX2_distributesBehind_70 : decode cX2_distributesBehind 70 = .ok (.ireturn, 1) := by decide +kernel
theorem dX3_init_0 : decode cX3_init 0 = .ok (.aload_n 0, 1) := by decide +kernel
theorem dX3_init_1 : decode cX3_init 1 = .ok (.invokespecial 3, 3) := by decide +kernel
theorem dX3_init_4 : decode cX3_init 4 = .ok (.aload_n 0, 1) := by decide +kernel
theorem dX3_init_5 : decode cX3_init 5 = .ok (.new 9, 3) := by decide +kernel
theorem dX3_init_8 : decode cX3_init 8 = .ok (.dup, 1) := by decide +kernel
theorem dX3_init_9 : decode cX3_init 9 = .ok (.invokespecial 11, 3) := by decide +kernel
theorem dX3_init_12 : decode cX3_init 12 = .ok (.putfield 12, 3) := by decide +kernel
theorem dX3_init_15 : decode cX3_init 15 = .ok (.aload_n 0, 1) := by decide +kernel
theorem dX3_init_16 : decode cX3_init 16 = .ok (.new 9, 3) := by decide +kernel
theorem dX3_init_19 : decode cX3_init 19 = .ok (.dup, 1) := by decide +kernel
theorem dX3_init_20 : decode cX3_init 20 = .ok (.invokespecial 11, 3) := by decide +kernel
theorem dX3_init_23 : decode cX3_init 23 = .ok (.putfield 18, 3) := by decide +kernel
theorem dX3_init_26 : decode cX3_init 26 = .ok (.aload_n 0, 1) := by decide +kernel
theorem dX3_init_27 : decode cX3_init 27 = .ok (.new 9, 3) := by decide +kernel
theorem dX3_init_30 : decode cX3_init 30 = .ok (.dup, 1) := by decide +kernel
theorem dX3_init_31 : decode cX3_init 31 = .ok (.invokespecial 11, 3) := by decide +kernel
theorem dX3_init_34 : decode cX3_init 34 = .ok (.putfield 21, 3) := by decide +kernel
theorem dX3_init_37 : decode cX3_init 37 = .ok (.aload_n 0, 1) := by decide +kernel
theorem dX3_init_38 : decode cX3_init 38 = .ok (.new 9, 3) := by decide +kernel
theorem dX3_init_41 : decode cX3_init 41 = .ok (.dup, 1) := by decide +kernel
theorem dX3_init_42 : decode cX3_init 42 = .ok (.invokespecial 11, 3) := by decide +kernel
theorem dX3_init_45 : decode cX3_init 45 = .ok (.putfield 24, 3) := by decide +kernel
theorem dX3_init_48 : decode cX3_init 48 = .ok (.aload_n 0, 1) := by decide +kernel
theorem dX3_init_49 : decode cX3_init 49 = .ok (.new 9, 3) := by decide +kernel
theorem dX3_init_52 : decode cX3_init 52 = .ok (.dup, 1) := by decide +kernel
theorem dX3_init_53 : decode cX3_init 53 = .ok (.invokespecial 11, 3) := by decide +kernel
theorem dX3_init_56 : decode cX3_init 56 = .ok (.putfield 27, 3) := by decide +kernel
theorem dX3_init_59 : decode cX3_init 59 = .ok (.aload_n 0, 1) := by decide +kernel
theorem dX3_init_60 : decode cX3_init 60 = .ok (.bipush 80, 2) := by decide +kernel
theorem dX3_init_62 : decode cX3_init 62 = .ok (.newarray .int, 2) := by decide +kernel
theorem dX3_init_64 : decode cX3_init 64 = .ok (.putfield 30, 3) := by decide +kernel
theorem dX3_init_67 : decode cX3_init 67 = .ok (.return_, 1) := by decide +kernel
theorem dX3_stepsBetween_0 : decode cX3_stepsBetween 0 = .ok (.aload_n 1, 1) := by decide +kernel
theorem dX3_stepsBetween_1 : decode cX3_stepsBetween 1 = .ok (.invokevirtual 34, 3) := by decide +kernel
theorem dX3_stepsBetween_4 : decode cX3_stepsBetween 4 = .ok (.istore 4, 2) := by decide +kernel
theorem dX3_stepsBetween_6 : decode cX3_stepsBetween 6 = .ok (.aload_n 0, 1) := by decide +kernel
theorem dX3_stepsBetween_7 : decode cX3_stepsBetween 7 = .ok (.aload_n 1, 1) := by decide +kernel
theorem dX3_stepsBetween_8 : decode cX3_stepsBetween 8 = .ok (.iload_n 2, 1) := by decide +kernel
theorem dX3_stepsBetween_9 : decode cX3_stepsBetween 9 = .ok (.invokevirtual 40, 3) := by decide +kernel
theorem dX3_stepsBetween_12 : decode cX3_stepsBetween 12 = .ok (.iconst 1, 1) := by decide +kernel
theorem dX3_stepsBetween_13 : decode cX3_stepsBetween 13 = .ok (.istore 5, 2) := by decide +kernel
theorem dX3_stepsBetween_15 : decode cX3_stepsBetween 15 = .ok (.iload 5, 2) := by decide +kernel
theorem dX3_stepsBetween_17 : decode cX3_stepsBetween 17 = .ok (.iload 4, 2) := by decide +kernel
theorem dX3_stepsBetween_19 : decode cX3_stepsBetween 19 = .ok (.if_icmp .gt 28, 3) := by decide +kernel
theorem dX3_stepsBetween_22 : decode cX3_stepsBetween 22 = .ok (.aload_n 0, 1) := by decide +kernel
theorem dX3_stepsBetween_23 : decode cX3_stepsBetween 23 = .ok (.getfield 18, 3) := by decide +kernel
theorem dX3_stepsBetween_26 : decode cX3_stepsBetween 26 = .ok (.iload_n 3, 1) := by decide +kernel
theorem dX3_stepsBetween_27 : decode cX3_stepsBetween 27 = .ok (.invokevirtual 44, 3) := by decide +kernel
theorem dX3_stepsBetween_30 : decode cX3_stepsBetween 30 = .ok (.ifCond .eq 6, 3) := by decide +kernel
theorem dX3_stepsBetween_33 : decode cX3_stepsBetween 33 = .ok (.iload 5, 2) := by decide +kernel
theorem dX3_stepsBetween_35 : decode cX3_stepsBetween 35 = .ok (.ireturn, 1) := by decide +kernel
theorem dX3_stepsBetween_36 : decode cX3_stepsBetween 36 = .ok (.aload_n 0, 1) := by decide +kernel
theorem dX3_stepsBetween_37 : decode cX3_stepsBetween 37 = .ok (.aload_n 1, 1) := by decide +kernel
theorem dX3_stepsBetween_38 : decode cX3_stepsBetween 38 = .ok (.invokevirtual 48, 3) := by decide +kernel
theorem dX3_stepsBetween_41 : decode cX3_stepsBetween 41 = .ok (.iinc 5 1, 3) := by decide +kernel
theorem dX3_stepsBetween_44 : decode cX3_stepsBetween 44 = .ok (.goto (-29), 3) := by decide +kernel
theorem dX3_stepsBetween_47 : decode cX3_stepsBetween 47 = .ok (.iconst (-1), 1) := by decide +kernel
theorem dX3_stepsBetween_48 : decode cX3_stepsBetween 48 = .ok (.ireturn, 1) := by decide +kernel
theorem dX3_reachFrom_0 : decode cX3_reachFrom 0 = .ok (.aload_n 1, 1) := by decide +kernel
theorem dX3_reachFrom_1 : decode cX3_reachFrom 1 = .ok (.invokevirtual 34, 3) := by decide +kernel
theorem dX3_reachFrom_4 : decode cX3_reachFrom 4 = .ok (.istore 4, 2) := by decide +kernel
theorem dX3_reachFrom_6 : decode cX3_reachFrom 6 = .ok (.aload_n 0, 1) := by decide +kernel
theorem dX3_reachFrom_7 : decode cX3_reachFrom 7 = .ok (.aload_n 1, 1) := by decide +kernel
theorem dX3_reachFrom_8 : decode cX3_reachFrom 8 = .ok (.iload_n 2, 1) := by decide +kernel
theorem dX3_reachFrom_9 : decode cX3_reachFrom 9 = .ok (.invokevirtual 40, 3) := by decide +kernel
theorem dX3_reachFrom_12 : decode cX3_reachFrom 12 = .ok (.iconst 1, 1) := by decide +kernel
theorem dX3_reachFrom_13 : decode cX3_reachFrom 13 = .ok (.istore 5, 2) := by decide +kernel
theorem dX3_reachFrom_15 : decode cX3_reachFrom 15 = .ok (.iload 5, 2) := by decide +kernel
theorem dX3_reachFrom_17 : decode cX3_reachFrom 17 = .ok (.iload 4, 2) := by decide +kernel
theorem dX3_reachFrom_19 : decode cX3_reachFrom 19 = .ok (.if_icmp .gt 24, 3) := by decide +kernel
theorem dX3_reachFrom_22 : decode cX3_reachFrom 22 = .ok (.aload_n 0, 1) := by decide +kernel
theorem dX3_reachFrom_23 : decode cX3_reachFrom 23 = .ok (.getfield 18, 3) := by decide +kernel
theorem dX3_reachFrom_26 : decode cX3_reachFrom 26 = .ok (.invokevirtual 52, 3) := by decide +kernel
theorem dX3_reachFrom_29 : decode cX3_reachFrom 29 = .ok (.ifCond .ne 14, 3) := by decide +kernel
theorem dX3_reachFrom_32 : decode cX3_reachFrom 32 = .ok (.aload_n 0, 1) := by decide +kernel
theorem dX3_reachFrom_33 : decode cX3_reachFrom 33 = .ok (.aload_n 1, 1) := by decide +kernel
theorem dX3_reachFrom_34 : decode cX3_reachFrom 34 = .ok (.invokevirtual 48, 3) := by decide +kernel
theorem dX3_reachFrom_37 : decode cX3_reachFrom 37 = .ok (.iinc 5 1, 3) := by decide +kernel
theorem dX3_reachFrom_40 : decode cX3_reachFrom 40 = .ok (.goto (-25), 3) := by decide +kernel
theorem dX3_reachFrom_43 : decode cX3_reachFrom 43 = .ok (.aload_n 3, 1) := by decide +kernel
theorem dX3_reachFrom_44 : decode cX3_reachFrom 44 = .ok (.aload_n 0, 1) := by decide +kernel
theorem dX3_reachFrom_45 : decode cX3_reachFrom 45 = .ok (.getfield 12, 3) := by decide +kernel
theorem dX3_reachFrom_48 : decode cX3_reachFrom 48 = .ok (.invokevirtual 56, 3) := by decide +kernel
theorem dX3_reachFrom_51 : decode cX3_reachFrom 51 = .ok (.return_, 1) := by decide +kernel
theorem dX3_leave_0 : decode cX3_leave 0 = .ok (.aload_n 1, 1) := by decide +kernel
theorem dX3_leave_1 : decode cX3_leave 1 = .ok (.iload_n 2, 1) := by decide +kernel
theorem dX3_leave_2 : decode cX3_leave 2 = .ok (.aload_n 0, 1) := by decide +kernel
theorem dX3_leave_3 : decode cX3_leave 3 = .ok (.getfield 18, 3) := by decide +kernel
theorem dX3_leave_6 : decode cX3_leave 6 = .ok (.invokevirtual 60, 3) := by decide +kernel
theorem dX3_leave_9 : decode cX3_leave 9 = .ok (.aload_n 0, 1) := by decide +kernel
theorem dX3_leave_10 : decode cX3_leave 10 = .ok (.getfield 12, 3) := by decide +kernel
theorem dX3_leave_13 : decode cX3_leave 13 = .ok (.aload_n 0, 1) := by decide +kernel
theorem dX3_leave_14 : decode cX3_leave 14 = .ok (.getfield 18, 3) := by decide +kernel
theorem dX3_leave_17 : decode cX3_leave 17 = .ok (.invokevirtual 56, 3) := by decide +kernel
theorem dX3_leave_20 : decode cX3_leave 20 = .ok (.return_, 1) := by decide +kernel
theorem dX3_goOn_0 : decode cX3_goOn 0 = .ok (.aload_n 1, 1) := by decide +kernel
theorem dX3_goOn_1 : decode cX3_goOn 1 = .ok (.aload_n 0, 1) := by decide +kernel
theorem dX3_goOn_2 : decode cX3_goOn 2 = .ok (.getfield 18, 3) := by decide +kernel
theorem dX3_goOn_5 : decode cX3_goOn 5 = .ok (.aload_n 0, 1) := by decide +kernel
theorem dX3_goOn_6 : decode cX3_goOn 6 = .ok (.getfield 18, 3) := by decide +kernel
theorem dX3_goOn_9 : decode cX3_goOn 9 = .ok (.invokevirtual 64, 3) := by decide +kernel
theorem dX3_goOn_12 : decode cX3_goOn 12 = .ok (.aload_n 0, 1) := by decide +kernel
theorem dX3_goOn_13 : decode cX3_goOn 13 = .ok (.getfield 18, 3) := by decide +kernel
theorem dX3_goOn_16 : decode cX3_goOn 16 = .ok (.aload_n 0, 1) := by decide +kernel
theorem dX3_goOn_17 : decode cX3_goOn 17 = .ok (.getfield 12, 3) := by decide +kernel
theorem dX3_goOn_20 : decode cX3_goOn 20 = .ok (.invokevirtual 68, 3) := by decide +kernel
theorem dX3_goOn_23 : decode cX3_goOn 23 = .ok (.aload_n 0, 1) := by decide +kernel
theorem dX3_goOn_24 : decode cX3_goOn 24 = .ok (.getfield 12, 3) := by decide +kernel
theorem dX3_goOn_27 : decode cX3_goOn 27 = .ok (.aload_n 0, 1) := by decide +kernel
theorem dX3_goOn_28 : decode cX3_goOn 28 = .ok (.getfield 18, 3) := by decide +kernel
theorem dX3_goOn_31 : decode cX3_goOn 31 = .ok (.invokevirtual 71, 3) := by decide +kernel
theorem dX3_goOn_34 : decode cX3_goOn 34 = .ok (.return_, 1) := by decide +kernel
theorem dX3_longest_0 : decode cX3_longest 0 = .ok (.aload_n 1, 1) := by decide +kernel
theorem dX3_longest_1 : decode cX3_longest 1 = .ok (.invokevirtual 34, 3) := by decide +kernel
theorem dX3_longest_4 : decode cX3_longest 4 = .ok (.istore_n 2, 1) := by decide +kernel
theorem dX3_longest_5 : decode cX3_longest 5 = .ok (.aload_n 0, 1) := by decide +kernel
theorem dX3_longest_6 : decode cX3_longest 6 = .ok (.getfield 18, 3) := by decide +kernel
theorem dX3_longest_9 : decode cX3_longest 9 = .ok (.invokevirtual 74, 3) := by decide +kernel
theorem dX3_longest_12 : decode cX3_longest 12 = .ok (.aload_n 0, 1) := by decide +kernel
theorem dX3_longest_13 : decode cX3_longest 13 = .ok (.getfield 18, 3) := by decide +kernel
theorem dX3_longest_16 : decode cX3_longest 16 = .ok (.iconst 0, 1) := by decide +kernel
theorem dX3_longest_17 : decode cX3_longest 17 = .ok (.iload_n 2, 1) := by decide +kernel
theorem dX3_longest_18 : decode cX3_longest 18 = .ok (.iconst 1, 1) := by decide +kernel
theorem dX3_longest_19 : decode cX3_longest 19 = .ok (.invokevirtual 77, 3) := by decide +kernel
theorem dX3_longest_22 : decode cX3_longest 22 = .ok (.iconst 0, 1) := by decide +kernel
theorem dX3_longest_23 : decode cX3_longest 23 = .ok (.istore_n 3, 1) := by decide +kernel
theorem dX3_longest_24 : decode cX3_longest 24 = .ok (.iload_n 3, 1) := by decide +kernel
theorem dX3_longest_25 : decode cX3_longest 25 = .ok (.iload_n 2, 1) := by decide +kernel
theorem dX3_longest_26 : decode cX3_longest 26 = .ok (.if_icmp .ge 33, 3) := by decide +kernel
theorem dX3_longest_29 : decode cX3_longest 29 = .ok (.aload_n 1, 1) := by decide +kernel
theorem dX3_longest_30 : decode cX3_longest 30 = .ok (.aload_n 0, 1) := by decide +kernel
theorem dX3_longest_31 : decode cX3_longest 31 = .ok (.getfield 18, 3) := by decide +kernel
theorem dX3_longest_34 : decode cX3_longest 34 = .ok (.aload_n 0, 1) := by decide +kernel
theorem dX3_longest_35 : decode cX3_longest 35 = .ok (.getfield 18, 3) := by decide +kernel
theorem dX3_longest_38 : decode cX3_longest 38 = .ok (.invokevirtual 64, 3) := by decide +kernel
theorem dX3_longest_41 : decode cX3_longest 41 = .ok (.aload_n 0, 1) := by decide +kernel
theorem dX3_longest_42 : decode cX3_longest 42 = .ok (.getfield 18, 3) := by decide +kernel
theorem dX3_longest_45 : decode cX3_longest 45 = .ok (.invokevirtual 52, 3) := by decide +kernel
theorem dX3_longest_48 : decode cX3_longest 48 = .ok (.ifCond .eq 5, 3) := by decide +kernel
theorem dX3_longest_51 : decode cX3_longest 51 = .ok (.iload_n 3, 1) := by decide +kernel
theorem dX3_longest_52 : decode cX3_longest 52 = .ok (.ireturn, 1) := by decide +kernel
theorem dX3_longest_53 : decode cX3_longest 53 = .ok (.iinc 3 1, 3) := by decide +kernel
theorem dX3_longest_56 : decode cX3_longest 56 = .ok (.goto (-32), 3) := by decide +kernel
theorem dX3_longest_59 : decode cX3_longest 59 = .ok (.iconst (-1), 1) := by decide +kernel
theorem dX3_longest_60 : decode cX3_longest 60 = .ok (.ireturn, 1) := by decide +kernel
theorem dX3_findOrder_0 : decode cX3_findOrder 0 = .ok (.aload_n 1, 1) := by decide +kernel
theorem dX3_findOrder_1 : decode cX3_findOrder 1 = .ok (.invokevirtual 34, 3) := by decide +kernel
theorem dX3_findOrder_4 : decode cX3_findOrder 4 = .ok (.istore_n 2, 1) := by decide +kernel
theorem dX3_findOrder_5 : decode cX3_findOrder 5 = .ok (.aload_n 0, 1) := by decide +kernel
theorem dX3_findOrder_6 : decode cX3_findOrder 6 = .ok (.getfield 21, 3) := by decide +kernel
theorem dX3_findOrder_9 : decode cX3_findOrder 9 = .ok (.invokevirtual 74, 3) := by decide +kernel
theorem dX3_findOrder_12 : decode cX3_findOrder 12 = .ok (.aload_n 0, 1) := by decide +kernel
theorem dX3_findOrder_13 : decode cX3_findOrder 13 = .ok (.getfield 21, 3) := by decide +kernel
theorem dX3_findOrder_16 : decode cX3_findOrder 16 = .ok (.iconst 0, 1) := by decide +kernel
theorem dX3_findOrder_17 : decode cX3_findOrder 17 = .ok (.iload_n 2, 1) := by decide +kernel
theorem dX3_findOrder_18 : decode cX3_findOrder 18 = .ok (.iconst 1, 1) := by decide +kernel
theorem dX3_findOrder_19 : decode cX3_findOrder 19 = .ok (.invokevirtual 77, 3) := by decide +kernel
theorem dX3_findOrder_22 : decode cX3_findOrder 22 = .ok (.iconst 0, 1) := by decide +kernel
theorem dX3_findOrder_23 : decode cX3_findOrder 23 = .ok (.istore_n 3, 1) := by decide +kernel
theorem dX3_findOrder_24 : decode cX3_findOrder 24 = .ok (.iload_n 3, 1) := by decide +kernel
theorem dX3_findOrder_25 : decode cX3_findOrder 25 = .ok (.iload_n 2, 1) := by decide +kernel
theorem dX3_findOrder_26 : decode cX3_findOrder 26 = .ok (.if_icmp .ge 92, 3) := by decide +kernel
theorem dX3_findOrder_29 : decode cX3_findOrder 29 = .ok (.iload_n 3, 1) := by decide +kernel
theorem dX3_findOrder_30 : decode cX3_findOrder 30 = .ok (.aload_n 0, 1) := by decide +kernel
theorem dX3_findOrder_31 : decode cX3_findOrder 31 = .ok (.getfield 30, 3) := by decide +kernel
theorem dX3_findOrder_34 : decode cX3_findOrder 34 = .ok (.arraylength, 1) := by decide +kernel
theorem dX3_findOrder_35 : decode cX3_findOrder 35 = .ok (.if_icmp .ge 83, 3) := by decide +kernel
theorem dX3_findOrder_38 : decode cX3_findOrder 38 = .ok (.aload_n 1, 1) := by decide +kernel
theorem dX3_findOrder_39 : decode cX3_findOrder 39 = .ok (.aload_n 0, 1) := by decide +kernel
theorem dX3_findOrder_40 : decode cX3_findOrder 40 = .ok (.getfield 21, 3) := by decide +kernel
theorem dX3_findOrder_43 : decode cX3_findOrder 43 = .ok (.aload_n 0, 1) := by decide +kernel
theorem dX3_findOrder_44 : decode cX3_findOrder 44 = .ok (.getfield 24, 3) := by decide +kernel
theorem dX3_findOrder_47 : decode cX3_findOrder 47 = .ok (.invokevirtual 64, 3) := by decide +kernel
theorem dX3_findOrder_50 : decode cX3_findOrder 50 = .ok (.aload_n 0, 1) := by decide +kernel
theorem dX3_findOrder_51 : decode cX3_findOrder 51 = .ok (.getfield 27, 3) := by decide +kernel
theorem dX3_findOrder_54 : decode cX3_findOrder 54 = .ok (.aload_n 0, 1) := by decide +kernel
theorem dX3_findOrder_55 : decode cX3_findOrder 55 = .ok (.getfield 21, 3) := by decide +kernel
theorem dX3_findOrder_58 : decode cX3_findOrder 58 = .ok (.invokevirtual 56, 3) := by decide +kernel
theorem dX3_findOrder_61 : decode cX3_findOrder 61 = .ok (.aload_n 0, 1) := by decide +kernel
theorem dX3_findOrder_62 : decode cX3_findOrder 62 = .ok (.getfield 27, 3) := by decide +kernel
theorem dX3_findOrder_65 : decode cX3_findOrder 65 = .ok (.aload_n 0, 1) := by decide +kernel
theorem dX3_findOrder_66 : decode cX3_findOrder 66 = .ok (.getfield 24, 3) := by decide +kernel
theorem dX3_findOrder_69 : decode cX3_findOrder 69 = .ok (.invokevirtual 68, 3) := by decide +kernel
theorem dX3_findOrder_72 : decode cX3_findOrder 72 = .ok (.aload_n 0, 1) := by decide +kernel
theorem dX3_findOrder_73 : decode cX3_findOrder 73 = .ok (.getfield 27, 3) := by decide +kernel
theorem dX3_findOrder_76 : decode cX3_findOrder 76 = .ok (.iconst 0, 1) := by decide +kernel
theorem dX3_findOrder_77 : decode cX3_findOrder 77 = .ok (.invokevirtual 81, 3) := by decide +kernel
theorem dX3_findOrder_80 : decode cX3_findOrder 80 = .ok (.istore 4, 2) := by decide +kernel
theorem dX3_findOrder_82 : decode cX3_findOrder 82 = .ok (.iload 4, 2) := by decide +kernel
theorem dX3_findOrder_84 : decode cX3_findOrder 84 = .ok (.iconst (-1), 1) := by decide +kernel
theorem dX3_findOrder_85 : decode cX3_findOrder 85 = .ok (.if_icmp .ne 5, 3) := by decide +kernel
theorem dX3_findOrder_88 : decode cX3_findOrder 88 = .ok (.iconst 0, 1) := by decide +kernel
theorem dX3_findOrder_89 : decode cX3_findOrder 89 = .ok (.ireturn, 1) := by decide +kernel
theorem dX3_findOrder_90 : decode cX3_findOrder 90 = .ok (.aload_n 0, 1) := by decide +kernel
theorem dX3_findOrder_91 : decode cX3_findOrder 91 = .ok (.getfield 30, 3) := by decide +kernel
theorem dX3_findOrder_94 : decode cX3_findOrder 94 = .ok (.iload_n 3, 1) := by decide +kernel
theorem dX3_findOrder_95 : decode cX3_findOrder 95 = .ok (.iload 4, 2) := by decide +kernel
theorem dX3_findOrder_97 : decode cX3_findOrder 97 = .ok (.iastore, 1) := by decide +kernel
theorem dX3_findOrder_98 : decode cX3_findOrder 98 = .ok (.aload_n 0, 1) := by decide +kernel
theorem dX3_findOrder_99 : decode cX3_findOrder 99 = .ok (.getfield 21, 3) := by decide +kernel
theorem dX3_findOrder_102 : decode cX3_findOrder 102 = .ok (.iload 4, 2) := by decide +kernel
theorem dX3_findOrder_104 : decode cX3_findOrder 104 = .ok (.iload 4, 2) := by decide +kernel
theorem dX3_findOrder_106 : decode cX3_findOrder 106 = .ok (.iconst 1, 1) := by decide +kernel
theorem dX3_findOrder_107 : decode cX3_findOrder 107 = .ok (.iadd, 1) := by decide +kernel
theorem dX3_findOrder_108 : decode cX3_findOrder 108 = .ok (.iconst 0, 1) := by decide +kernel
theorem dX3_findOrder_109 : decode cX3_findOrder 109 = .ok (.invokevirtual 77, 3) := by decide +kernel
theorem dX3_findOrder_112 : decode cX3_findOrder 112 = .ok (.iinc 3 1, 3) := by decide +kernel
theorem dX3_findOrder_115 : decode cX3_findOrder 115 = .ok (.goto (-91), 3) := by decide +kernel
theorem dX3_findOrder_118 : decode cX3_findOrder 118 = .ok (.iconst 1, 1) := by decide +kernel
theorem dX3_findOrder_119 : decode cX3_findOrder 119 = .ok (.ireturn, 1) := by decide +kernel
theorem dX3_orderedAt_0 : decode cX3_orderedAt 0 = .ok (.iload_n 1, 1) := by decide +kernel
theorem dX3_orderedAt_1 : decode cX3_orderedAt 1 = .ok (.ifCond .lt 12, 3) := by decide +kernel
theorem dX3_orderedAt_4 : decode cX3_orderedAt 4 = .ok (.iload_n 1, 1) := by decide +kernel
theorem dX3_orderedAt_5 : decode cX3_orderedAt 5 = .ok (.aload_n 0, 1) := by decide +kernel
theorem dX3_orderedAt_6 : decode cX3_orderedAt 6 = .ok (.getfield 30, 3) := by decide +kernel
theorem dX3_orderedAt_9 : decode cX3_orderedAt 9 = .ok (.arraylength, 1) := by decide +kernel
theorem dX3_orderedAt_10 : decode cX3_orderedAt 10 = .ok (.if_icmp .lt 7, 3) := by decide +kernel
theorem dX3_orderedAt_13 : decode cX3_orderedAt 13 = .ok (.iconst (-1), 1) := by decide +kernel
theorem dX3_orderedAt_14 : decode cX3_orderedAt 14 = .ok (.goto 9, 3) := by decide +kernel
theorem dX3_orderedAt_17 : decode cX3_orderedAt 17 = .ok (.aload_n 0, 1) := by decide +kernel
theorem dX3_orderedAt_18 : decode cX3_orderedAt 18 = .ok (.getfield 30, 3) := by decide +kernel
theorem dX3_orderedAt_21 : decode cX3_orderedAt 21 = .ok (.iload_n 1, 1) := by decide +kernel
theorem dX3_orderedAt_22 : decode cX3_orderedAt 22 = .ok (.iaload, 1) := by decide +kernel
theorem dX3_orderedAt_23 : decode cX3_orderedAt 23 = .ok (.ireturn, 1) := by decide +kernel
theorem dX4_init_0 : decode cX4_init 0 = .ok (.aload_n 0, 1) := by decide +kernel
theorem dX4_init_1 : decode cX4_init 1 = .ok (.invokespecial 1, 3) := by decide +kernel
theorem dX4_init_4 : decode cX4_init 4 = .ok (.aload_n 0, 1) := by decide +kernel
theorem dX4_init_5 : decode cX4_init 5 = .ok (.bipush 12, 2) := by decide +kernel
theorem dX4_init_7 : decode cX4_init 7 = .ok (.putfield 9, 3) := by decide +kernel
theorem dX4_init_10 : decode cX4_init 10 = .ok (.aload_n 0, 1) := by decide +kernel
theorem dX4_init_11 : decode cX4_init 11 = .ok (.iconst 4, 1) := by decide +kernel
theorem dX4_init_12 : decode cX4_init 12 = .ok (.anewarray 13, 3) := by decide +kernel
theorem dX4_init_15 : decode cX4_init 15 = .ok (.putfield 15, 3) := by decide +kernel
theorem dX4_init_18 : decode cX4_init 18 = .ok (.iconst 0, 1) := by decide +kernel
theorem dX4_init_19 : decode cX4_init 19 = .ok (.istore_n 1, 1) := by decide +kernel
theorem dX4_init_20 : decode cX4_init 20 = .ok (.iload_n 1, 1) := by decide +kernel
theorem dX4_init_21 : decode cX4_init 21 = .ok (.aload_n 0, 1) := by decide +kernel
theorem dX4_init_22 : decode cX4_init 22 = .ok (.getfield 15, 3) := by decide +kernel
theorem dX4_init_25 : decode cX4_init 25 = .ok (.arraylength, 1) := by decide +kernel
theorem dX4_init_26 : decode cX4_init 26 = .ok (.if_icmp .ge 22, 3) := by decide +kernel
theorem dX4_init_29 : decode cX4_init 29 = .ok (.aload_n 0, 1) := by decide +kernel
theorem dX4_init_30 : decode cX4_init 30 = .ok (.getfield 15, 3) := by decide +kernel
theorem dX4_init_33 : decode cX4_init 33 = .ok (.iload_n 1, 1) := by decide +kernel
theorem dX4_init_34 : decode cX4_init 34 = .ok (.new 13, 3) := by decide +kernel
theorem dX4_init_37 : decode cX4_init 37 = .ok (.dup, 1) := by decide +kernel
theorem dX4_init_38 : decode cX4_init 38 = .ok (.invokespecial 19, 3) := by decide +kernel
theorem dX4_init_41 : decode cX4_init 41 = .ok (.aastore, 1) := by decide +kernel
theorem dX4_init_42 : decode cX4_init 42 = .ok (.iinc 1 1, 3) := by decide +kernel
theorem dX4_init_45 : decode cX4_init 45 = .ok (.goto (-25), 3) := by decide +kernel
theorem dX4_init_48 : decode cX4_init 48 = .ok (.aload_n 0, 1) := by decide +kernel
theorem dX4_init_49 : decode cX4_init 49 = .ok (.new 20, 3) := by decide +kernel
theorem dX4_init_52 : decode cX4_init 52 = .ok (.dup, 1) := by decide +kernel
theorem dX4_init_53 : decode cX4_init 53 = .ok (.invokespecial 22, 3) := by decide +kernel
theorem dX4_init_56 : decode cX4_init 56 = .ok (.putfield 23, 3) := by decide +kernel
theorem dX4_init_59 : decode cX4_init 59 = .ok (.aload_n 0, 1) := by decide +kernel
theorem dX4_init_60 : decode cX4_init 60 = .ok (.new 20, 3) := by decide +kernel
theorem dX4_init_63 : decode cX4_init 63 = .ok (.dup, 1) := by decide +kernel
theorem dX4_init_64 : decode cX4_init 64 = .ok (.invokespecial 22, 3) := by decide +kernel
theorem dX4_init_67 : decode cX4_init 67 = .ok (.putfield 27, 3) := by decide +kernel
theorem dX4_init_70 : decode cX4_init 70 = .ok (.aload_n 0, 1) := by decide +kernel
theorem dX4_init_71 : decode cX4_init 71 = .ok (.new 13, 3) := by decide +kernel
theorem dX4_init_74 : decode cX4_init 74 = .ok (.dup, 1) := by decide +kernel
theorem dX4_init_75 : decode cX4_init 75 = .ok (.invokespecial 19, 3) := by decide +kernel
theorem dX4_init_78 : decode cX4_init 78 = .ok (.putfield 30, 3) := by decide +kernel
theorem dX4_init_81 : decode cX4_init 81 = .ok (.aload_n 0, 1) := by decide +kernel
theorem dX4_init_82 : decode cX4_init 82 = .ok (.new 34, 3) := by decide +kernel
theorem dX4_init_85 : decode cX4_init 85 = .ok (.dup, 1) := by decide +kernel
theorem dX4_init_86 : decode cX4_init 86 = .ok (.invokespecial 36, 3) := by decide +kernel
theorem dX4_init_89 : decode cX4_init 89 = .ok (.putfield 37, 3) := by decide +kernel
theorem dX4_init_92 : decode cX4_init 92 = .ok (.aload_n 0, 1) := by decide +kernel
theorem dX4_init_93 : decode cX4_init 93 = .ok (.new 41, 3) := by decide +kernel
theorem dX4_init_96 : decode cX4_init 96 = .ok (.dup, 1) := by decide +kernel
theorem dX4_init_97 : decode cX4_init 97 = .ok (.invokespecial 43, 3) := by decide +kernel
theorem dX4_init_100 : decode cX4_init 100 = .ok (.putfield 44, 3) := by decide +kernel
theorem dX4_init_103 : decode cX4_init 103 = .ok (.return_, 1) := by decide +kernel
theorem dX4_begin_0 : decode cX4_begin 0 = .ok (.iload_n 1, 1) := by decide +kernel
theorem dX4_begin_1 : decode cX4_begin 1 = .ok (.iconst 1, 1) := by decide +kernel
theorem dX4_begin_2 : decode cX4_begin 2 = .ok (.if_icmp .lt 9, 3) := by decide +kernel
theorem dX4_begin_5 : decode cX4_begin 5 = .ok (.iload_n 1, 1) := by decide +kernel
theorem dX4_begin_6 : decode cX4_begin 6 = .ok (.bipush 80, 2) := by decide +kernel
theorem dX4_begin_8 : decode cX4_begin 8 = .ok (.if_icmp .le 13, 3) := by decide +kernel
theorem dX4_begin_11 : decode cX4_begin 11 = .ok (.new 48, 3) := by decide +kernel
theorem dX4_begin_14 : decode cX4_begin 14 = .ok (.dup, 1) := by decide +kernel
theorem dX4_begin_15 : decode cX4_begin 15 = .ok (.ldc 50, 2) := by decide +kernel
theorem dX4_begin_17 : decode cX4_begin 17 = .ok (.invokespecial 52, 3) := by decide +kernel
theorem dX4_begin_20 : decode cX4_begin 20 = .ok (.athrow, 1) := by decide +kernel
theorem dX4_begin_21 : decode cX4_begin 21 = .ok (.aload_n 0, 1) := by decide +kernel
theorem dX4_begin_22 : decode cX4_begin 22 = .ok (.getfield 9, 3) := by decide +kernel
theorem dX4_begin_25 : decode cX4_begin 25 = .ok (.istore_n 2, 1) := by decide +kernel
theorem dX4_begin_26 : decode cX4_begin 26 = .ok (.aload_n 0, 1) := by decide +kernel
theorem dX4_begin_27 : decode cX4_begin 27 = .ok (.iload_n 1, 1) := by decide +kernel
theorem dX4_begin_28 : decode cX4_begin 28 = .ok (.putfield 9, 3) := by decide +kernel
theorem dX4_begin_31 : decode cX4_begin 31 = .ok (.iconst 0, 1) := by decide +kernel
theorem dX4_begin_32 : decode cX4_begin 32 = .ok (.istore_n 3, 1) := by decide +kernel
theorem dX4_begin_33 : decode cX4_begin 33 = .ok (.iload_n 3, 1) := by decide +kernel
theorem dX4_begin_34 : decode cX4_begin 34 = .ok (.iconst 4, 1) := by decide +kernel
theorem dX4_begin_35 : decode cX4_begin 35 = .ok (.if_icmp .ge 18, 3) := by decide +kernel
theorem dX4_begin_38 : decode cX4_begin 38 = .ok (.aload_n 0, 1) := by decide +kernel
theorem dX4_begin_39 : decode cX4_begin 39 = .ok (.iload_n 3, 1) := by decide +kernel
theorem dX4_begin_40 : decode cX4_begin 40 = .ok (.invokevirtual 55, 3) := by decide +kernel
theorem dX4_begin_43 : decode cX4_begin 43 = .ok (.iload_n 1, 1) := by decide +kernel
theorem dX4_begin_44 : decode cX4_begin 44 = .ok (.invokevirtual 59, 3) := by decide +kernel
theorem dX4_begin_47 : decode cX4_begin 47 = .ok (.iinc 3 1, 3) := by decide +kernel
theorem dX4_begin_50 : decode cX4_begin 50 = .ok (.goto (-17), 3) := by decide +kernel
theorem dX4_begin_53 : decode cX4_begin 53 = .ok (.aload_n 0, 1) := by decide +kernel
theorem dX4_begin_54 : decode cX4_begin 54 = .ok (.getfield 23, 3) := by decide +kernel
theorem dX4_begin_57 : decode cX4_begin 57 = .ok (.invokevirtual 63, 3) := by decide +kernel
theorem dX4_begin_60 : decode cX4_begin 60 = .ok (.iload_n 2, 1) := by decide +kernel
theorem dX4_begin_61 : decode cX4_begin 61 = .ok (.ireturn, 1) := by decide +kernel
theorem dX4_set_0 : decode cX4_set 0 = .ok (.aload_n 0, 1) := by decide +kernel
theorem dX4_set_1 : decode cX4_set 1 = .ok (.iload_n 1, 1) := by decide +kernel
theorem dX4_set_2 : decode cX4_set 2 = .ok (.invokevirtual 55, 3) := by decide +kernel
theorem dX4_set_5 : decode cX4_set 5 = .ok (.astore 5, 2) := by decide +kernel
theorem dX4_set_7 : decode cX4_set 7 = .ok (.aload_n 0, 1) := by decide +kernel
theorem dX4_set_8 : decode cX4_set 8 = .ok (.iload_n 2, 1) := by decide +kernel
theorem dX4_set_9 : decode cX4_set 9 = .ok (.invokevirtual 66, 3) := by decide +kernel
theorem dX4_set_12 : decode cX4_set 12 = .ok (.aload_n 0, 1) := by decide +kernel
theorem dX4_set_13 : decode cX4_set 13 = .ok (.iload_n 3, 1) := by decide +kernel
theorem dX4_set_14 : decode cX4_set 14 = .ok (.invokevirtual 66, 3) := by decide +kernel
theorem dX4_set_17 : decode cX4_set 17 = .ok (.aload 5, 2) := by decide +kernel
theorem dX4_set_19 : decode cX4_set 19 = .ok (.iload_n 2, 1) := by decide +kernel
theorem dX4_set_20 : decode cX4_set 20 = .ok (.iload_n 3, 1) := by decide +kernel
theorem dX4_set_21 : decode cX4_set 21 = .ok (.invokevirtual 69, 3) := by decide +kernel
theorem dX4_set_24 : decode cX4_set 24 = .ok (.istore 6, 2) := by decide +kernel
theorem dX4_set_26 : decode cX4_set 26 = .ok (.aload 5, 2) := by decide +kernel
theorem dX4_set_28 : decode cX4_set 28 = .ok (.iload_n 2, 1) := by decide +kernel
theorem dX4_set_29 : decode cX4_set 29 = .ok (.aload_n 0, 1) := by decide +kernel
theorem dX4_set_30 : decode cX4_set 30 = .ok (.getfield 27, 3) := by decide +kernel
theorem dX4_set_33 : decode cX4_set 33 = .ok (.invokevirtual 73, 3) := by decide +kernel
theorem dX4_set_36 : decode cX4_set 36 = .ok (.aload_n 0, 1) := by decide +kernel
theorem dX4_set_37 : decode cX4_set 37 = .ok (.getfield 27, 3) := by decide +kernel
theorem dX4_set_40 : decode cX4_set 40 = .ok (.iload_n 3, 1) := by decide +kernel
theorem dX4_set_41 : decode cX4_set 41 = .ok (.iload_n 3, 1) := by decide +kernel
theorem dX4_set_42 : decode cX4_set 42 = .ok (.iconst 1, 1) := by decide +kernel
theorem dX4_set_43 : decode cX4_set 43 = .ok (.iadd, 1) := by decide +kernel
theorem dX4_set_44 : decode cX4_set 44 = .ok (.iload 4, 2) := by decide +kernel
theorem dX4_set_46 : decode cX4_set 46 = .ok (.invokevirtual 77, 3) := by decide +kernel
theorem dX4_set_49 : decode cX4_set 49 = .ok (.aload 5, 2) := by decide +kernel
theorem dX4_set_51 : decode cX4_set 51 = .ok (.iload_n 2, 1) := by decide +kernel
theorem dX4_set_52 : decode cX4_set 52 = .ok (.aload_n 0, 1) := by decide +kernel
theorem dX4_set_53 : decode cX4_set 53 = .ok (.getfield 27, 3) := by decide +kernel
theorem dX4_set_56 : decode cX4_set 56 = .ok (.invokevirtual 81, 3) := by decide +kernel
theorem dX4_set_59 : decode cX4_set 59 = .ok (.iload 6, 2) := by decide +kernel
theorem dX4_set_61 : decode cX4_set 61 = .ok (.ireturn, 1) := by decide +kernel
theorem dX4_setRange_0 : decode cX4_setRange 0 = .ok (.aload_n 0, 1) := by decide +kernel
theorem dX4_setRange_1 : decode cX4_setRange 1 = .ok (.iload_n 1, 1) := by decide +kernel
theorem dX4_setRange_2 : decode cX4_setRange 2 = .ok (.invokevirtual 55, 3) := by decide +kernel
theorem dX4_setRange_5 : decode cX4_setRange 5 = .ok (.astore 6, 2) := by decide +kernel
theorem dX4_setRange_7 : decode cX4_setRange 7 = .ok (.aload_n 0, 1) := by decide +kernel
theorem dX4_setRange_8 : decode cX4_setRange 8 = .ok (.iload_n 2, 1) := by decide +kernel
theorem dX4_setRange_9 : decode cX4_setRange 9 = .ok (.invokevirtual 66, 3) := by decide +kernel
theorem dX4_setRange_12 : decode cX4_setRange 12 = .ok (.aload_n 0, 1) := by decide +kernel
theorem dX4_setRange_13 : decode cX4_setRange 13 = .ok (.iload_n 3, 1) := by decide +kernel
theorem dX4_setRange_14 : decode cX4_setRange 14 = .ok (.iload 4, 2) := by decide +kernel
theorem dX4_setRange_16 : decode cX4_setRange 16 = .ok (.invokevirtual 84, 3) := by decide +kernel
theorem dX4_setRange_19 : decode cX4_setRange 19 = .ok (.aload 6, 2) := by decide +kernel
theorem dX4_setRange_21 : decode cX4_setRange 21 = .ok (.iload_n 2, 1) := by decide +kernel
theorem dX4_setRange_22 : decode cX4_setRange 22 = .ok (.aload_n 0, 1) := by decide +kernel
theorem dX4_setRange_23 : decode cX4_setRange 23 = .ok (.getfield 27, 3) := by decide +kernel
theorem dX4_setRange_26 : decode cX4_setRange 26 = .ok (.invokevirtual 73, 3) := by decide +kernel
theorem dX4_setRange_29 : decode cX4_setRange 29 = .ok (.aload_n 0, 1) := by decide +kernel
theorem dX4_setRange_30 : decode cX4_setRange 30 = .ok (.getfield 27, 3) := by decide +kernel
theorem dX4_setRange_33 : decode cX4_setRange 33 = .ok (.iload_n 3, 1) := by decide +kernel
theorem dX4_setRange_34 : decode cX4_setRange 34 = .ok (.iload 4, 2) := by decide +kernel
theorem dX4_setRange_36 : decode cX4_setRange 36 = .ok (.iload 5, 2) := by decide +kernel
theorem dX4_setRange_38 : decode cX4_setRange 38 = .ok (.invokevirtual 77, 3) := by decide +kernel
theorem dX4_setRange_41 : decode cX4_setRange 41 = .ok (.aload 6, 2) := by decide +kernel
theorem dX4_setRange_43 : decode cX4_setRange 43 = .ok (.iload_n 2, 1) := by decide +kernel
theorem dX4_setRange_44 : decode cX4_setRange 44 = .ok (.aload_n 0, 1) := by decide +kernel
theorem dX4_setRange_45 : decode cX4_setRange 45 = .ok (.getfield 27, 3) := by decide +kernel
theorem dX4_setRange_48 : decode cX4_setRange 48 = .ok (.invokevirtual 81, 3) := by decide +kernel
theorem dX4_setRange_51 : decode cX4_setRange 51 = .ok (.aload 6, 2) := by decide +kernel
theorem dX4_setRange_53 : decode cX4_setRange 53 = .ok (.iload_n 2, 1) := by decide +kernel
theorem dX4_setRange_54 : decode cX4_setRange 54 = .ok (.invokevirtual 88, 3) := by decide +kernel
theorem dX4_setRange_57 : decode cX4_setRange 57 = .ok (.ireturn, 1) := by decide +kernel
theorem dX4_flipRange_0 : decode cX4_flipRange 0 = .ok (.aload_n 0, 1) := by decide +kernel
theorem dX4_flipRange_1 : decode cX4_flipRange 1 = .ok (.iload_n 1, 1) := by decide +kernel
theorem dX4_flipRange_2 : decode cX4_flipRange 2 = .ok (.invokevirtual 55, 3) := by decide +kernel
theorem dX4_flipRange_5 : decode cX4_flipRange 5 = .ok (.astore 5, 2) := by decide +kernel
theorem dX4_flipRange_7 : decode cX4_flipRange 7 = .ok (.aload_n 0, 1) := by decide +kernel
theorem dX4_flipRange_8 : decode cX4_flipRange 8 = .ok (.iload_n 2, 1) := by decide +kernel
theorem dX4_flipRange_9 : decode cX4_flipRange 9 = .ok (.invokevirtual 66, 3) := by decide +kernel
theorem dX4_flipRange_12 : decode cX4_flipRange 12 = .ok (.aload_n 0, 1) := by decide +kernel
theorem dX4_flipRange_13 : decode cX4_flipRange 13 = .ok (.iload_n 3, 1) := by decide +kernel
theorem dX4_flipRange_14 : decode cX4_flipRange 14 = .ok (.iload 4, 2) := by decide +kernel
theorem dX4_flipRange_16 : decode cX4_flipRange 16 = .ok (.invokevirtual 84, 3) := by decide +kernel
theorem dX4_flipRange_19 : decode cX4_flipRange 19 = .ok (.aload 5, 2) := by decide +kernel
theorem dX4_flipRange_21 : decode cX4_flipRange 21 = .ok (.iload_n 2, 1) := by decide +kernel
theorem dX4_flipRange_22 : decode cX4_flipRange 22 = .ok (.aload_n 0, 1) := by decide +kernel
theorem dX4_flipRange_23 : decode cX4_flipRange 23 = .ok (.getfield 27, 3) := by decide +kernel
theorem dX4_flipRange_26 : decode cX4_flipRange 26 = .ok (.invokevirtual 73, 3) := by decide +kernel
theorem dX4_flipRange_29 : decode cX4_flipRange 29 = .ok (.aload_n 0, 1) := by decide +kernel
theorem dX4_flipRange_30 : decode cX4_flipRange 30 = .ok (.getfield 27, 3) := by decide +kernel
theorem dX4_flipRange_33 : decode cX4_flipRange 33 = .ok (.iload_n 3, 1) := by decide +kernel
theorem dX4_flipRange_34 : decode cX4_flipRange 34 = .ok (.iload 4, 2) := by decide +kernel
theorem dX4_flipRange_36 : decode cX4_flipRange 36 = .ok (.invokevirtual 92, 3) := by decide +kernel
theorem dX4_flipRange_39 : decode cX4_flipRange 39 = .ok (.aload 5, 2) := by decide +kernel
theorem dX4_flipRange_41 : decode cX4_flipRange 41 = .ok (.iload_n 2, 1) := by decide +kernel
theorem dX4_flipRange_42 : decode cX4_flipRange 42 = .ok (.aload_n 0, 1) := by decide +kernel
theorem dX4_flipRange_43 : decode cX4_flipRange 43 = .ok (.getfield 27, 3) := by decide +kernel
theorem dX4_flipRange_46 : decode cX4_flipRange 46 = .ok (.invokevirtual 81, 3) := by decide +kernel
theorem dX4_flipRange_49 : decode cX4_flipRange 49 = .ok (.aload 5, 2) := by decide +kernel
theorem dX4_flipRange_51 : decode cX4_flipRange 51 = .ok (.iload_n 2, 1) := by decide +kernel
theorem dX4_flipRange_52 : decode cX4_flipRange 52 = .ok (.invokevirtual 88, 3) := by decide +kernel
theorem dX4_flipRange_55 : decode cX4_flipRange 55 = .ok (.ireturn, 1) := by decide +kernel
theorem dX4_setRow_0 : decode cX4_setRow 0 = .ok (.aload_n 0, 1) := by decide +kernel
theorem dX4_setRow_1 : decode cX4_setRow 1 = .ok (.iload_n 1, 1) := by decide +kernel
theorem dX4_setRow_2 : decode cX4_setRow 2 = .ok (.invokevirtual 55, 3) := by decide +kernel
theorem dX4_setRow_5 : decode cX4_setRow 5 = .ok (.astore 5, 2) := by decide +kernel
theorem dX4_setRow_7 : decode cX4_setRow 7 = .ok (.aload_n 0, 1) := by decide +kernel
theorem dX4_setRow_8 : decode cX4_setRow 8 = .ok (.iload_n 2, 1) := by decide +kernel
theorem dX4_setRow_9 : decode cX4_setRow 9 = .ok (.invokevirtual 66, 3) := by decide +kernel
theorem dX4_setRow_12 : decode cX4_setRow 12 = .ok (.aload_n 0, 1) := by decide +kernel
theorem dX4_setRow_13 : decode cX4_setRow 13 = .ok (.getfield 27, 3) := by decide +kernel
theorem dX4_setRow_16 : decode cX4_setRow 16 = .ok (.invokevirtual 63, 3) := by decide +kernel
theorem dX4_setRow_19 : decode cX4_setRow 19 = .ok (.aload_n 0, 1) := by decide +kernel
theorem dX4_setRow_20 : decode cX4_setRow 20 = .ok (.getfield 27, 3) := by decide +kernel
theorem dX4_setRow_23 : decode cX4_setRow 23 = .ok (.lload_n 3, 1) := by decide +kernel
theorem dX4_setRow_24 : decode cX4_setRow 24 = .ok (.iconst 0, 1) := by decide +kernel
theorem dX4_setRow_25 : decode cX4_setRow 25 = .ok (.aload_n 0, 1) := by decide +kernel
theorem dX4_setRow_26 : decode cX4_setRow 26 = .ok (.getfield 9, 3) := by decide +kernel
theorem dX4_setRow_29 : decode cX4_setRow 29 = .ok (.invokestatic 95, 3) := by decide +kernel
theorem dX4_setRow_32 : decode cX4_setRow 32 = .ok (.land, 1) := by decide +kernel
theorem dX4_setRow_33 : decode cX4_setRow 33 = .ok (.putfield 99, 3) := by decide +kernel
theorem dX4_setRow_36 : decode cX4_setRow 36 = .ok (.aload 5, 2) := by decide +kernel
theorem dX4_setRow_38 : decode cX4_setRow 38 = .ok (.iload_n 2, 1) := by decide +kernel
theorem dX4_setRow_39 : decode cX4_setRow 39 = .ok (.aload_n 0, 1) := by decide +kernel
theorem dX4_setRow_40 : decode cX4_setRow 40 = .ok (.getfield 27, 3) := by decide +kernel
theorem dX4_setRow_43 : decode cX4_setRow 43 = .ok (.invokevirtual 81, 3) := by decide +kernel
theorem dX4_setRow_46 : decode cX4_setRow 46 = .ok (.aload 5, 2) := by decide +kernel
theorem dX4_setRow_48 : decode cX4_setRow 48 = .ok (.iload_n 2, 1) := by decide +kernel
theorem dX4_setRow_49 : decode cX4_setRow 49 = .ok (.invokevirtual 88, 3) := by decide +kernel
theorem dX4_setRow_52 : decode cX4_setRow 52 = .ok (.ireturn, 1) := by decide +kernel
theorem dX4_chain_0 : decode cX4_chain 0 = .ok (.aload_n 0, 1) := by decide +kernel
theorem dX4_chain_1 : decode cX4_chain 1 = .ok (.iload_n 1, 1) := by decide +kernel
theorem dX4_chain_2 : decode cX4_chain 2 = .ok (.invokevirtual 55, 3) := by decide +kernel
theorem dX4_chain_5 : decode cX4_chain 5 = .ok (.astore_n 2, 1) := by decide +kernel
theorem dX4_chain_6 : decode cX4_chain 6 = .ok (.iconst 0, 1) := by decide +kernel
theorem dX4_chain_7 : decode cX4_chain 7 = .ok (.istore_n 3, 1) := by decide +kernel
theorem dX4_chain_8 : decode cX4_chain 8 = .ok (.iload_n 3, 1) := by decide +kernel
theorem dX4_chain_9 : decode cX4_chain 9 = .ok (.iconst 1, 1) := by decide +kernel
theorem dX4_chain_10 : decode cX4_chain 10 = .ok (.iadd, 1) := by decide +kernel
theorem dX4_chain_11 : decode cX4_chain 11 = .ok (.aload_n 0, 1) := by decide +kernel
theorem dX4_chain_12 : decode cX4_chain 12 = .ok (.getfield 9, 3) := by decide +kernel
theorem dX4_chain_15 : decode cX4_chain 15 = .ok (.if_icmp .ge 17, 3) := by decide +kernel
theorem dX4_chain_18 : decode cX4_chain 18 = .ok (.aload_n 2, 1) := by decide +kernel
theorem dX4_chain_19 : decode cX4_chain 19 = .ok (.iload_n 3, 1) := by decide +kernel
theorem dX4_chain_20 : decode cX4_chain 20 = .ok (.iload_n 3, 1) := by decide +kernel
theorem dX4_chain_21 : decode cX4_chain 21 = .ok (.iconst 1, 1) := by decide +kernel
theorem dX4_chain_22 : decode cX4_chain 22 = .ok (.iadd, 1) := by decide +kernel
theorem dX4_chain_23 : decode cX4_chain 23 = .ok (.invokevirtual 103, 3) := by decide +kernel
theorem dX4_chain_26 : decode cX4_chain 26 = .ok (.iinc 3 1, 3) := by decide +kernel
theorem dX4_chain_29 : decode cX4_chain 29 = .ok (.goto (-21), 3) := by decide +kernel
theorem dX4_chain_32 : decode cX4_chain 32 = .ok (.aload_n 2, 1) := by decide +kernel
theorem dX4_chain_33 : decode cX4_chain 33 = .ok (.invokevirtual 106, 3) := by decide +kernel
theorem dX4_chain_36 : decode cX4_chain 36 = .ok (.ireturn, 1) := by decide +kernel
theorem dX4_draw_0 : decode cX4_draw 0 = .ok (.aload_n 0, 1) := by decide +kernel
theorem dX4_draw_1 : decode cX4_draw 1 = .ok (.iload_n 1, 1) := by decide +kernel
theorem dX4_draw_2 : decode cX4_draw 2 = .ok (.invokevirtual 55, 3) := by decide +kernel
theorem dX4_draw_5 : decode cX4_draw 5 = .ok (.astore 4, 2) := by decide +kernel
theorem dX4_draw_7 : decode cX4_draw 7 = .ok (.iload_n 3, 1) := by decide +kernel
theorem dX4_draw_8 : decode cX4_draw 8 = .ok (.ifCond .lt 10, 3) := by decide +kernel
theorem dX4_draw_11 : decode cX4_draw 11 = .ok (.iload_n 3, 1) := by decide +kernel
theorem dX4_draw_12 : decode cX4_draw 12 = .ok (.sipush 200, 3) := by decide +kernel
theorem dX4_draw_15 : decode cX4_draw 15 = .ok (.if_icmp .le 13, 3) := by decide +kernel
theorem dX4_draw_18 : decode cX4_draw 18 = .ok (.new 48, 3) := by decide +kernel
theorem dX4_draw_21 : decode cX4_draw 21 = .ok (.dup, 1) := by decide +kernel
theorem dX4_draw_22 : decode cX4_draw 22 = .ok (.ldc 110, 2) := by decide +kernel
theorem dX4_draw_24 : decode cX4_draw 24 = .ok (.invokespecial 52, 3) := by decide +kernel
theorem dX4_draw_27 : decode cX4_draw 27 = .ok (.athrow, 1) := by decide +kernel
theorem dX4_draw_28 : decode cX4_draw 28 = .ok (.iload_n 2, 1) := by decide +kernel
theorem dX4_draw_29 : decode cX4_draw 29 = .ok (.istore 5, 2) := by decide +kernel
theorem dX4_draw_31 : decode cX4_draw 31 = .ok (.iconst 0, 1) := by decide +kernel
theorem dX4_draw_32 : decode cX4_draw 32 = .ok (.istore 6, 2) := by decide +kernel
theorem dX4_draw_34 : decode cX4_draw 34 = .ok (.iload 6, 2) := by decide +kernel
theorem dX4_draw_36 : decode cX4_draw 36 = .ok (.iload_n 3, 1) := by decide +kernel
theorem dX4_draw_37 : decode cX4_draw 37 = .ok (.if_icmp .ge 44, 3) := by decide +kernel
theorem dX4_draw_40 : decode cX4_draw 40 = .ok (.iload 5, 2) := by decide +kernel
theorem dX4_draw_42 : decode cX4_draw 42 = .ok (.invokestatic 112, 3) := by decide +kernel
theorem dX4_draw_45 : decode cX4_draw 45 = .ok (.istore 5, 2) := by decide +kernel
theorem dX4_draw_47 : decode cX4_draw 47 = .ok (.aload_n 0, 1) := by decide +kernel
theorem dX4_draw_48 : decode cX4_draw 48 = .ok (.iload 5, 2) := by decide +kernel
theorem dX4_draw_50 : decode cX4_draw 50 = .ok (.invokevirtual 115, 3) := by decide +kernel
theorem dX4_draw_53 : decode cX4_draw 53 = .ok (.istore 7, 2) := by decide +kernel
theorem dX4_draw_55 : decode cX4_draw 55 = .ok (.iload 5, 2) := by decide +kernel
theorem dX4_draw_57 : decode cX4_draw 57 = .ok (.invokestatic 112, 3) := by decide +kernel
theorem dX4_draw_60 : decode cX4_draw 60 = .ok (.istore 5, 2) := by decide +kernel
theorem dX4_draw_62 : decode cX4_draw 62 = .ok (.aload 4, 2) := by decide +kernel
theorem dX4_draw_64 : decode cX4_draw 64 = .ok (.iload 7, 2) := by decide +kernel
theorem dX4_draw_66 : decode cX4_draw 66 = .ok (.aload_n 0, 1) := by decide +kernel
theorem dX4_draw_67 : decode cX4_draw 67 = .ok (.iload 5, 2) := by decide +kernel
theorem dX4_draw_69 : decode cX4_draw 69 = .ok (.invokevirtual 115, 3) := by decide +kernel
theorem dX4_draw_72 : decode cX4_draw 72 = .ok (.invokevirtual 103, 3) := by decide +kernel
theorem dX4_draw_75 : decode cX4_draw 75 = .ok (.iinc 6 1, 3) := by decide +kernel
theorem dX4_draw_78 : decode cX4_draw 78 = .ok (.goto (-44), 3) := by decide +kernel
theorem dX4_draw_81 : decode cX4_draw 81 = .ok (.aload 4, 2) := by decide +kernel
theorem dX4_draw_83 : decode cX4_draw 83 = .ok (.invokevirtual 106, 3) := by decide +kernel
theorem dX4_draw_86 : decode cX4_draw 86 = .ok (.ireturn, 1) := by decide +kernel
theorem dX4_copy_0 : decode cX4_copy 0 = .ok (.aload_n 0, 1) := by decide +kernel
theorem dX4_copy_1 : decode cX4_copy 1 = .ok (.iload_n 1, 1) := by decide +kernel
theorem dX4_copy_2 : decode cX4_copy 2 = .ok (.invokevirtual 55, 3) := by decide +kernel
theorem dX4_copy_5 : decode cX4_copy 5 = .ok (.astore_n 3, 1) := by decide +kernel
theorem dX4_copy_6 : decode cX4_copy 6 = .ok (.aload_n 0, 1) := by decide +kernel
theorem dX4_copy_7 : decode cX4_copy 7 = .ok (.iload_n 2, 1) := by decide +kernel
theorem dX4_copy_8 : decode cX4_copy 8 = .ok (.invokevirtual 55, 3) := by decide +kernel
theorem dX4_copy_11 : decode cX4_copy 11 = .ok (.astore 4, 2) := by decide +kernel
theorem dX4_copy_13 : decode cX4_copy 13 = .ok (.aload 4, 2) := by decide +kernel
theorem dX4_copy_15 : decode cX4_copy 15 = .ok (.aload_n 3, 1) := by decide +kernel
theorem dX4_copy_16 : decode cX4_copy 16 = .ok (.invokevirtual 118, 3) := by decide +kernel
theorem dX4_copy_19 : decode cX4_copy 19 = .ok (.aload 4, 2) := by decide +kernel
theorem dX4_copy_21 : decode cX4_copy 21 = .ok (.invokevirtual 106, 3) := by decide +kernel
theorem dX4_copy_24 : decode cX4_copy 24 = .ok (.ireturn, 1) := by decide +kernel
theorem dX4_combine_0 : decode cX4_combine 0 = .ok (.aload_n 0, 1) := by decide +kernel
theorem dX4_combine_1 : decode cX4_combine 1 = .ok (.iload_n 1, 1) := by decide +kernel
theorem dX4_combine_2 : decode cX4_combine 2 = .ok (.invokevirtual 55, 3) := by decide +kernel
theorem dX4_combine_5 : decode cX4_combine 5 = .ok (.astore 4, 2) := by decide +kernel
theorem dX4_combine_7 : decode cX4_combine 7 = .ok (.aload_n 0, 1) := by decide +kernel
theorem dX4_combine_8 : decode cX4_combine 8 = .ok (.iload_n 2, 1) := by decide +kernel
theorem dX4_combine_9 : decode cX4_combine 9 = .ok (.invokevirtual 55, 3) := by decide +kernel
theorem dX4_combine_12 : decode cX4_combine 12 = .ok (.astore 5, 2) := by decide +kernel
theorem dX4_combine_14 : decode cX4_combine 14 = .ok (.iload_n 3, 1) := by decide +kernel
theorem dX4_combine_15 : decode cX4_combine 15 = .ok (.ifCond .lt 8, 3) := by decide +kernel
theorem dX4_combine_18 : decode cX4_combine 18 = .ok (.iload_n 3, 1) := by decide +kernel
theorem dX4_combine_19 : decode cX4_combine 19 = .ok (.iconst 3, 1) := by decide +kernel
theorem dX4_combine_20 : decode cX4_combine 20 = .ok (.if_icmp .le 13, 3) := by decide +kernel
theorem dX4_combine_23 : decode cX4_combine 23 = .ok (.new 48, 3) := by decide +kernel
theorem dX4_combine_26 : decode cX4_combine 26 = .ok (.dup, 1) := by decide +kernel
theorem dX4_combine_27 : decode cX4_combine 27 = .ok (.ldc 122, 2) := by decide +kernel
theorem dX4_combine_29 : decode cX4_combine 29 = .ok (.invokespecial 52, 3) := by decide +kernel
theorem dX4_combine_32 : decode cX4_combine 32 = .ok (.athrow, 1) := by decide +kernel
theorem dX4_combine_33 : decode cX4_combine 33 = .ok (.aload 4, 2) := by decide +kernel
theorem dX4_combine_35 : decode cX4_combine 35 = .ok (.aload 5, 2) := by decide +kernel
theorem dX4_combine_37 : decode cX4_combine 37 = .ok (.iload_n 3, 1) := by decide +kernel
theorem dX4_combine_38 : decode cX4_combine 38 = .ok (.invokevirtual 124, 3) := by decide +kernel
theorem dX4_combine_41 : decode cX4_combine 41 = .ok (.aload 4, 2) := by decide +kernel
theorem dX4_combine_43 : decode cX4_combine 43 = .ok (.invokevirtual 106, 3) := by decide +kernel
theorem dX4_combine_46 : decode cX4_combine 46 = .ok (.ireturn, 1) := by decide +kernel
theorem dX4_compose_0 : decode cX4_compose 0 = .ok (.aload_n 0, 1) := by decide +kernel
theorem dX4_compose_1 : decode cX4_compose 1 = .ok (.iload_n 1, 1) := by decide +kernel
theorem dX4_compose_2 : decode cX4_compose 2 = .ok (.invokevirtual 55, 3) := by decide +kernel
theorem dX4_compose_5 : decode cX4_compose 5 = .ok (.astore 4, 2) := by decide +kernel
theorem dX4_compose_7 : decode cX4_compose 7 = .ok (.aload_n 0, 1) := by decide +kernel
theorem dX4_compose_8 : decode cX4_compose 8 = .ok (.iload_n 2, 1) := by decide +kernel
theorem dX4_compose_9 : decode cX4_compose 9 = .ok (.invokevirtual 55, 3) := by decide +kernel
theorem dX4_compose_12 : decode cX4_compose 12 = .ok (.astore 5, 2) := by decide +kernel
theorem dX4_compose_14 : decode cX4_compose 14 = .ok (.aload_n 0, 1) := by decide +kernel
theorem dX4_compose_15 : decode cX4_compose 15 = .ok (.iload_n 3, 1) := by decide +kernel
theorem dX4_compose_16 : decode cX4_compose 16 = .ok (.invokevirtual 55, 3) := by decide +kernel
theorem dX4_compose_19 : decode cX4_compose 19 = .ok (.astore 6, 2) := by decide +kernel
theorem dX4_compose_21 : decode cX4_compose 21 = .ok (.aload_n 0, 1) := by decide +kernel
theorem dX4_compose_22 : decode cX4_compose 22 = .ok (.getfield 30, 3) := by decide +kernel
theorem dX4_compose_25 : decode cX4_compose 25 = .ok (.aload 4, 2) := by decide +kernel
theorem dX4_compose_27 : decode cX4_compose 27 = .ok (.aload 5, 2) := by decide +kernel
theorem dX4_compose_29 : decode cX4_compose 29 = .ok (.invokevirtual 128, 3) := by decide +kernel
theorem dX4_compose_32 : decode cX4_compose 32 = .ok (.aload 6, 2) := by decide +kernel
theorem dX4_compose_34 : decode cX4_compose 34 = .ok (.aload_n 0, 1) := by decide +kernel
theorem dX4_compose_35 : decode cX4_compose 35 = .ok (.getfield 30, 3) := by decide +kernel
theorem dX4_compose_38 : decode cX4_compose 38 = .ok (.invokevirtual 118, 3) := by decide +kernel
theorem dX4_compose_41 : decode cX4_compose 41 = .ok (.aload 6, 2) := by decide +kernel
theorem dX4_compose_43 : decode cX4_compose 43 = .ok (.invokevirtual 106, 3) := by decide +kernel
theorem dX4_compose_46 : decode cX4_compose 46 = .ok (.ireturn, 1) := by decide +kernel
theorem dX4_turn_0 : decode cX4_turn 0 = .ok (.aload_n 0, 1) := by decide +kernel
theorem dX4_turn_1 : decode cX4_turn 1 = .ok (.iload_n 1, 1) := by decide +kernel
theorem dX4_turn_2 : decode cX4_turn 2 = .ok (.invokevirtual 55, 3) := by decide +kernel
theorem dX4_turn_5 : decode cX4_turn 5 = .ok (.astore_n 2, 1) := by decide +kernel
theorem dX4_turn_6 : decode cX4_turn 6 = .ok (.aload_n 2, 1) := by decide +kernel
theorem dX4_turn_7 : decode cX4_turn 7 = .ok (.invokevirtual 132, 3) := by decide +kernel
theorem dX4_turn_10 : decode cX4_turn 10 = .ok (.aload_n 2, 1) := by decide +kernel
theorem dX4_turn_11 : decode cX4_turn 11 = .ok (.invokevirtual 106, 3) := by decide +kernel
theorem dX4_turn_14 : decode cX4_turn 14 = .ok (.ireturn, 1) := by decide +kernel
theorem dX4_oppose_0 : decode cX4_oppose 0 = .ok (.aload_n 0, 1) := by decide +kernel
theorem dX4_oppose_1 : decode cX4_oppose 1 = .ok (.iload_n 1, 1) := by decide +kernel
theorem dX4_oppose_2 : decode cX4_oppose 2 = .ok (.invokevirtual 55, 3) := by decide +kernel
theorem dX4_oppose_5 : decode cX4_oppose 5 = .ok (.astore_n 2, 1) := by decide +kernel
theorem dX4_oppose_6 : decode cX4_oppose 6 = .ok (.aload_n 2, 1) := by decide +kernel
theorem dX4_oppose_7 : decode cX4_oppose 7 = .ok (.invokevirtual 135, 3) := by decide +kernel
theorem dX4_oppose_10 : decode cX4_oppose 10 = .ok (.aload_n 2, 1) := by decide +kernel
theorem dX4_oppose_11 : decode cX4_oppose 11 = .ok (.invokevirtual 106, 3) := by decide +kernel
theorem dX4_oppose_14 : decode cX4_oppose 14 = .ok (.ireturn, 1) := by decide +kernel
theorem dX4_close_0 : decode cX4_close 0 = .ok (.aload_n 0, 1) := by decide +kernel
theorem dX4_close_1 : decode cX4_close 1 = .ok (.iload_n 1, 1) := by decide +kernel
theorem dX4_close_2 : decode cX4_close 2 = .ok (.invokevirtual 55, 3) := by decide +kernel
theorem dX4_close_5 : decode cX4_close 5 = .ok (.astore_n 3, 1) := by decide +kernel
theorem dX4_close_6 : decode cX4_close 6 = .ok (.aload_n 3, 1) := by decide +kernel
theorem dX4_close_7 : decode cX4_close 7 = .ok (.invokevirtual 137, 3) := by decide +kernel
theorem dX4_close_10 : decode cX4_close 10 = .ok (.iload_n 2, 1) := by decide +kernel
theorem dX4_close_11 : decode cX4_close 11 = .ok (.ifCond .eq 7, 3) := by decide +kernel
theorem dX4_close_14 : decode cX4_close 14 = .ok (.aload_n 3, 1) := by decide +kernel
theorem dX4_close_15 : decode cX4_close 15 = .ok (.invokevirtual 140, 3) := by decide +kernel
theorem dX4_close_18 : decode cX4_close 18 = .ok (.aload_n 3, 1) := by decide +kernel
theorem dX4_close_19 : decode cX4_close 19 = .ok (.invokevirtual 106, 3) := by decide +kernel
theorem dX4_close_22 : decode cX4_close 22 = .ok (.ireturn, 1) := by decide +kernel
theorem dX4_cover_0 : decode cX4_cover 0 = .ok (.aload_n 0, 1) := by decide +kernel
theorem dX4_cover_1 : decode cX4_cover 1 = .ok (.iload_n 1, 1) := by decide +kernel
theorem dX4_cover_2 : decode cX4_cover 2 = .ok (.invokevirtual 55, 3) := by decide +kernel
theorem dX4_cover_5 : decode cX4_cover 5 = .ok (.astore_n 3, 1) := by decide +kernel
theorem dX4_cover_6 : decode cX4_cover 6 = .ok (.aload_n 0, 1) := by decide +kernel
theorem dX4_cover_7 : decode cX4_cover 7 = .ok (.iload_n 2, 1) := by decide +kernel
theorem dX4_cover_8 : decode cX4_cover 8 = .ok (.invokevirtual 55, 3) := by decide +kernel
theorem dX4_cover_11 : decode cX4_cover 11 = .ok (.astore 4, 2) := by decide +kernel
theorem dX4_cover_13 : decode cX4_cover 13 = .ok (.aload_n 0, 1) := by decide +kernel
theorem dX4_cover_14 : decode cX4_cover 14 = .ok (.getfield 37, 3) := by decide +kernel
theorem dX4_cover_17 : decode cX4_cover 17 = .ok (.aload_n 3, 1) := by decide +kernel
theorem dX4_cover_18 : decode cX4_cover 18 = .ok (.invokevirtual 143, 3) := by decide +kernel
theorem dX4_cover_21 : decode cX4_cover 21 = .ok (.iconst (-1), 1) := by decide +kernel
theorem dX4_cover_22 : decode cX4_cover 22 = .ok (.if_icmp .ne 13, 3) := by decide +kernel
theorem dX4_cover_25 : decode cX4_cover 25 = .ok (.new 147, 3) := by decide +kernel
theorem dX4_cover_28 : decode cX4_cover 28 = .ok (.dup, 1) := by decide +kernel
theorem dX4_cover_29 : decode cX4_cover 29 = .ok (.ldc 149, 2) := by decide +kernel
theorem dX4_cover_31 : decode cX4_cover 31 = .ok (.invokespecial 151, 3) := by decide +kernel
theorem dX4_cover_34 : decode cX4_cover 34 = .ok (.athrow, 1) := by decide +kernel
theorem dX4_cover_35 : decode cX4_cover 35 = .ok (.aload_n 0, 1) := by decide +kernel
theorem dX4_cover_36 : decode cX4_cover 36 = .ok (.aload_n 3, 1) := by decide +kernel
theorem dX4_cover_37 : decode cX4_cover 37 = .ok (.invokevirtual 152, 3) := by decide +kernel
theorem dX4_cover_40 : decode cX4_cover 40 = .ok (.aload 4, 2) := by decide +kernel
theorem dX4_cover_42 : decode cX4_cover 42 = .ok (.aload_n 0, 1) := by decide +kernel
theorem dX4_cover_43 : decode cX4_cover 43 = .ok (.getfield 30, 3) := by decide +kernel
theorem dX4_cover_46 : decode cX4_cover 46 = .ok (.invokevirtual 155, 3) := by decide +kernel
theorem dX4_cover_49 : decode cX4_cover 49 = .ok (.aload 4, 2) := by decide +kernel
theorem dX4_cover_51 : decode cX4_cover 51 = .ok (.invokevirtual 106, 3) := by decide +kernel
theorem dX4_cover_54 : decode cX4_cover 54 = .ok (.ireturn, 1) := by decide +kernel
theorem dX4_has_0 : decode cX4_has 0 = .ok (.aload_n 0, 1) := by decide +kernel
theorem dX4_has_1 : decode cX4_has 1 = .ok (.iload_n 1, 1) := by decide +kernel
theorem dX4_has_2 : decode cX4_has 2 = .ok (.invokevirtual 55, 3) := by decide +kernel
theorem dX4_has_5 : decode cX4_has 5 = .ok (.astore 4, 2) := by decide +kernel
theorem dX4_has_7 : decode cX4_has 7 = .ok (.aload_n 0, 1) := by decide +kernel
theorem dX4_has_8 : decode cX4_has 8 = .ok (.iload_n 2, 1) := by decide +kernel
theorem dX4_has_9 : decode cX4_has 9 = .ok (.invokevirtual 66, 3) := by decide +kernel
theorem dX4_has_12 : decode cX4_has 12 = .ok (.aload_n 0, 1) := by decide +kernel
theorem dX4_has_13 : decode cX4_has 13 = .ok (.iload_n 3, 1) := by decide +kernel
theorem dX4_has_14 : decode cX4_has 14 = .ok (.invokevirtual 66, 3) := by decide +kernel
theorem dX4_has_17 : decode cX4_has 17 = .ok (.aload 4, 2) := by decide +kernel
theorem dX4_has_19 : decode cX4_has 19 = .ok (.iload_n 2, 1) := by decide +kernel
theorem dX4_has_20 : decode cX4_has 20 = .ok (.iload_n 3, 1) := by decide +kernel
theorem dX4_has_21 : decode cX4_has 21 = .ok (.invokevirtual 69, 3) := by decide +kernel
theorem dX4_has_24 : decode cX4_has 24 = .ok (.ireturn, 1) := by decide +kernel
theorem dX4_count_0 : decode cX4_count 0 = .ok (.aload_n 0, 1) := by decide +kernel
theorem dX4_count_1 : decode cX4_count 1 = .ok (.iload_n 1, 1) := by decide +kernel
theorem dX4_count_2 : decode cX4_count 2 = .ok (.invokevirtual 55, 3) := by decide +kernel
theorem dX4_count_5 : decode cX4_count 5 = .ok (.invokevirtual 106, 3) := by decide +kernel
theorem dX4_count_8 : decode cX4_count 8 = .ok (.ireturn, 1) := by decide +kernel
theorem dX4_countOf_0 : decode cX4_countOf 0 = .ok (.aload_n 0, 1) := by decide +kernel
theorem dX4_countOf_1 : decode cX4_countOf 1 = .ok (.iload_n 1, 1) := by decide +kernel
theorem dX4_countOf_2 : decode cX4_countOf 2 = .ok (.invokevirtual 55, 3) := by decide +kernel
theorem dX4_countOf_5 : decode cX4_countOf 5 = .ok (.astore_n 3, 1) := by decide +kernel
theorem dX4_countOf_6 : decode cX4_countOf 6 = .ok (.aload_n 0, 1) := by decide +kernel
theorem dX4_countOf_7 : decode cX4_countOf 7 = .ok (.iload_n 2, 1) := by decide +kernel
theorem dX4_countOf_8 : decode cX4_countOf 8 = .ok (.invokevirtual 66, 3) := by decide +kernel
theorem dX4_countOf_11 : decode cX4_countOf 11 = .ok (.aload_n 3, 1) := by decide +kernel
theorem dX4_countOf_12 : decode cX4_countOf 12 = .ok (.iload_n 2, 1) := by decide +kernel
theorem dX4_countOf_13 : decode cX4_countOf 13 = .ok (.invokevirtual 88, 3) := by decide +kernel
theorem dX4_countOf_16 : decode cX4_countOf 16 = .ok (.ireturn, 1) := by decide +kernel
theorem dX4_beside_0 : decode cX4_beside 0 = .ok (.aload_n 0, 1) := by decide +kernel
theorem dX4_beside_1 : decode cX4_beside 1 = .ok (.iload_n 1, 1) := by decide +kernel
theorem dX4_beside_2 : decode cX4_beside 2 = .ok (.invokevirtual 55, 3) := by decide +kernel
theorem dX4_beside_5 : decode cX4_beside 5 = .ok (.astore 5, 2) := by decide +kernel
theorem dX4_beside_7 : decode cX4_beside 7 = .ok (.aload_n 0, 1) := by decide +kernel
theorem dX4_beside_8 : decode cX4_beside 8 = .ok (.iload_n 2, 1) := by decide +kernel
theorem dX4_beside_9 : decode cX4_beside 9 = .ok (.invokevirtual 66, 3) := by decide +kernel
theorem dX4_beside_12 : decode cX4_beside 12 = .ok (.aload_n 0, 1) := by decide +kernel
theorem dX4_beside_13 : decode cX4_beside 13 = .ok (.iload_n 3, 1) := by decide +kernel
theorem dX4_beside_14 : decode cX4_beside 14 = .ok (.invokevirtual 66, 3) := by decide +kernel
theorem dX4_beside_17 : decode cX4_beside 17 = .ok (.iload 4, 2) := by decide +kernel
theorem dX4_beside_19 : decode cX4_beside 19 = .ok (.ifCond .lt 9, 3) := by decide +kernel
theorem dX4_beside_22 : decode cX4_beside 22 = .ok (.iload 4, 2) := by decide +kernel
theorem dX4_beside_24 : decode cX4_beside 24 = .ok (.iconst 3, 1) := by decide +kernel
theorem dX4_beside_25 : decode cX4_beside 25 = .ok (.if_icmp .le 13, 3) := by decide +kernel
theorem dX4_beside_28 : decode cX4_beside 28 = .ok (.new 48, 3) := by decide +kernel
theorem dX4_beside_31 : decode cX4_beside 31 = .ok (.dup, 1) := by decide +kernel
theorem dX4_beside_32 : decode cX4_beside 32 = .ok (.ldc 122, 2) := by decide +kernel
theorem dX4_beside_34 : decode cX4_beside 34 = .ok (.invokespecial 52, 3) := by decide +kernel
theorem dX4_beside_37 : decode cX4_beside 37 = .ok (.athrow, 1) := by decide +kernel
theorem dX4_beside_38 : decode cX4_beside 38 = .ok (.aload 5, 2) := by decide +kernel
theorem dX4_beside_40 : decode cX4_beside 40 = .ok (.iload_n 2, 1) := by decide +kernel
theorem dX4_beside_41 : decode cX4_beside 41 = .ok (.aload_n 0, 1) := by decide +kernel
theorem dX4_beside_42 : decode cX4_beside 42 = .ok (.getfield 27, 3) := by decide +kernel
theorem dX4_beside_45 : decode cX4_beside 45 = .ok (.invokevirtual 73, 3) := by decide +kernel
theorem dX4_beside_48 : decode cX4_beside 48 = .ok (.iload 4, 2) := by decide +kernel
theorem dX4_beside_50 : decode cX4_beside 50 = .ok (.iconst 1, 1) := by decide +kernel
theorem dX4_beside_51 : decode cX4_beside 51 = .ok (.if_icmp .eq 9, 3) := by decide +kernel
theorem dX4_beside_54 : decode cX4_beside 54 = .ok (.iload 4, 2) := by decide +kernel
theorem dX4_beside_56 : decode cX4_beside 56 = .ok (.iconst 3, 1) := by decide +kernel
theorem dX4_beside_57 : decode cX4_beside 57 = .ok (.if_icmp .ne 15, 3) := by decide +kernel
theorem dX4_beside_60 : decode cX4_beside 60 = .ok (.aload_n 0, 1) := by decide +kernel
theorem dX4_beside_61 : decode cX4_beside 61 = .ok (.getfield 27, 3) := by decide +kernel
theorem dX4_beside_64 : decode cX4_beside 64 = .ok (.iconst 0, 1) := by decide +kernel
theorem dX4_beside_65 : decode cX4_beside 65 = .ok (.aload_n 0, 1) := by decide +kernel
theorem dX4_beside_66 : decode cX4_beside 66 = .ok (.getfield 9, 3) := by decide +kernel
theorem dX4_beside_69 : decode cX4_beside 69 = .ok (.invokevirtual 92, 3) := by decide +kernel
theorem dX4_beside_72 : decode cX4_beside 72 = .ok (.iload 4, 2) := by decide +kernel
theorem dX4_beside_74 : decode cX4_beside 74 = .ok (.ifCond .eq 9, 3) := by decide +kernel
theorem dX4_beside_77 : decode cX4_beside 77 = .ok (.iload 4, 2) := by decide +kernel
theorem dX4_beside_79 : decode cX4_beside 79 = .ok (.iconst 1, 1) := by decide +kernel
theorem dX4_beside_80 : decode cX4_beside 80 = .ok (.if_icmp .ne 7, 3) := by decide +kernel
theorem dX4_beside_83 : decode cX4_beside 83 = .ok (.iconst 1, 1) := by decide +kernel
theorem dX4_beside_84 : decode cX4_beside 84 = .ok (.goto 4, 3) := by decide +kernel
theorem dX4_beside_87 : decode cX4_beside 87 = .ok (.iconst 0, 1) := by decide +kernel
theorem dX4_beside_88 : decode cX4_beside 88 = .ok (.istore 6, 2) := by decide +kernel
theorem dX4_beside_90 : decode cX4_beside 90 = .ok (.iload 6, 2) := by decide +kernel
theorem dX4_beside_92 : decode cX4_beside 92 = .ok (.ifCond .eq 14, 3) := by decide +kernel
theorem dX4_beside_95 : decode cX4_beside 95 = .ok (.aload_n 0, 1) := by decide +kernel
theorem dX4_beside_96 : decode cX4_beside 96 = .ok (.getfield 27, 3) := by decide +kernel
theorem dX4_beside_99 : decode cX4_beside 99 = .ok (.iload_n 3, 1) := by decide +kernel
theorem dX4_beside_100 : decode cX4_beside 100 = .ok (.invokevirtual 158, 3) := by decide +kernel
theorem dX4_beside_103 : decode cX4_beside 103 = .ok (.goto 11, 3) := by decide +kernel
theorem dX4_beside_106 : decode cX4_beside 106 = .ok (.aload_n 0, 1) := by decide +kernel
theorem dX4_beside_107 : decode cX4_beside 107 = .ok (.getfield 27, 3) := by decide +kernel
theorem dX4_beside_110 : decode cX4_beside 110 = .ok (.iload_n 3, 1) := by decide +kernel
theorem dX4_beside_111 : decode cX4_beside 111 = .ok (.invokevirtual 161, 3) := by decide +kernel
theorem dX4_beside_114 : decode cX4_beside 114 = .ok (.ireturn, 1) := by decide +kernel
theorem dX4_wordOf_0 : decode cX4_wordOf 0 = .ok (.aload_n 0, 1) := by decide +kernel
theorem dX4_wordOf_1 : decode cX4_wordOf 1 = .ok (.iload_n 1, 1) := by decide +kernel
theorem dX4_wordOf_2 : decode cX4_wordOf 2 = .ok (.invokevirtual 55, 3) := by decide +kernel
theorem dX4_wordOf_5 : decode cX4_wordOf 5 = .ok (.astore 4, 2) := by decide +kernel
theorem dX4_wordOf_7 : decode cX4_wordOf 7 = .ok (.aload_n 0, 1) := by decide +kernel
theorem dX4_wordOf_8 : decode cX4_wordOf 8 = .ok (.iload_n 2, 1) := by decide +kernel
theorem dX4_wordOf_9 : decode cX4_wordOf 9 = .ok (.invokevirtual 66, 3) := by decide +kernel
theorem dX4_wordOf_12 : decode cX4_wordOf 12 = .ok (.iload_n 3, 1) := by decide +kernel
theorem dX4_wordOf_13 : decode cX4_wordOf 13 = .ok (.ifCond .lt 8, 3) := by decide +kernel
theorem dX4_wordOf_16 : decode cX4_wordOf 16 = .ok (.iload_n 3, 1) := by decide +kernel
theorem dX4_wordOf_17 : decode cX4_wordOf 17 = .ok (.iconst 1, 1) := by decide +kernel
theorem dX4_wordOf_18 : decode cX4_wordOf 18 = .ok (.if_icmp .le 13, 3) := by decide +kernel
theorem dX4_wordOf_21 : decode cX4_wordOf 21 = .ok (.new 48, 3) := by decide +kernel
theorem dX4_wordOf_24 : decode cX4_wordOf 24 = .ok (.dup, 1) := by decide +kernel
theorem dX4_wordOf_25 : decode cX4_wordOf 25 = .ok (.ldc 164, 2) := by decide +kernel
theorem dX4_wordOf_27 : decode cX4_wordOf 27 = .ok (.invokespecial 52, 3) := by decide +kernel
theorem dX4_wordOf_30 : decode cX4_wordOf 30 = .ok (.athrow, 1) := by decide +kernel
theorem dX4_wordOf_31 : decode cX4_wordOf 31 = .ok (.iload_n 3, 1) := by decide +kernel
theorem dX4_wordOf_32 : decode cX4_wordOf 32 = .ok (.ifCond .ne 12, 3) := by decide +kernel
theorem dX4_wordOf_35 : decode cX4_wordOf 35 = .ok (.aload 4, 2) := by decide +kernel
theorem dX4_wordOf_37 : decode cX4_wordOf 37 = .ok (.iload_n 2, 1) := by decide +kernel
theorem dX4_wordOf_38 : decode cX4_wordOf 38 = .ok (.invokevirtual 166, 3) := by decide +kernel
theorem dX4_wordOf_41 : decode cX4_wordOf 41 = .ok (.goto 9, 3) := by decide +kernel
theorem dX4_wordOf_44 : decode cX4_wordOf 44 = .ok (.aload 4, 2) := by decide +kernel
theorem dX4_wordOf_46 : decode cX4_wordOf 46 = .ok (.iload_n 2, 1) := by decide +kernel
theorem dX4_wordOf_47 : decode cX4_wordOf 47 = .ok (.invokevirtual 170, 3) := by decide +kernel
theorem dX4_wordOf_50 : decode cX4_wordOf 50 = .ok (.lreturn, 1) := by decide +kernel
theorem dX4_meet_0 : decode cX4_meet 0 = .ok (.aload_n 0, 1) := by decide +kernel
theorem dX4_meet_1 : decode cX4_meet 1 = .ok (.iload_n 1, 1) := by decide +kernel
theorem dX4_meet_2 : decode cX4_meet 2 = .ok (.invokevirtual 55, 3) := by decide +kernel
theorem dX4_meet_5 : decode cX4_meet 5 = .ok (.astore 5, 2) := by decide +kernel
theorem dX4_meet_7 : decode cX4_meet 7 = .ok (.aload_n 0, 1) := by decide +kernel
theorem dX4_meet_8 : decode cX4_meet 8 = .ok (.iload_n 2, 1) := by decide +kernel
theorem dX4_meet_9 : decode cX4_meet 9 = .ok (.invokevirtual 66, 3) := by decide +kernel
theorem dX4_meet_12 : decode cX4_meet 12 = .ok (.aload_n 0, 1) := by decide +kernel
theorem dX4_meet_13 : decode cX4_meet 13 = .ok (.iload_n 3, 1) := by decide +kernel
theorem dX4_meet_14 : decode cX4_meet 14 = .ok (.invokevirtual 55, 3) := by decide +kernel
theorem dX4_meet_17 : decode cX4_meet 17 = .ok (.astore 6, 2) := by decide +kernel
theorem dX4_meet_19 : decode cX4_meet 19 = .ok (.aload_n 0, 1) := by decide +kernel
theorem dX4_meet_20 : decode cX4_meet 20 = .ok (.iload 4, 2) := by decide +kernel
theorem dX4_meet_22 : decode cX4_meet 22 = .ok (.invokevirtual 66, 3) := by decide +kernel
theorem dX4_meet_25 : decode cX4_meet 25 = .ok (.aload 5, 2) := by decide +kernel
theorem dX4_meet_27 : decode cX4_meet 27 = .ok (.iload_n 2, 1) := by decide +kernel
theorem dX4_meet_28 : decode cX4_meet 28 = .ok (.aload_n 0, 1) := by decide +kernel
theorem dX4_meet_29 : decode cX4_meet 29 = .ok (.getfield 27, 3) := by decide +kernel
theorem dX4_meet_32 : decode cX4_meet 32 = .ok (.invokevirtual 73, 3) := by decide +kernel
theorem dX4_meet_35 : decode cX4_meet 35 = .ok (.aload_n 0, 1) := by decide +kernel
theorem dX4_meet_36 : decode cX4_meet 36 = .ok (.getfield 27, 3) := by decide +kernel
theorem dX4_meet_39 : decode cX4_meet 39 = .ok (.getfield 99, 3) := by decide +kernel
theorem dX4_meet_42 : decode cX4_meet 42 = .ok (.aload 6, 2) := by decide +kernel
theorem dX4_meet_44 : decode cX4_meet 44 = .ok (.iload 4, 2) := by decide +kernel
theorem dX4_meet_46 : decode cX4_meet 46 = .ok (.invokevirtual 166, 3) := by decide +kernel
theorem dX4_meet_49 : decode cX4_meet 49 = .ok (.land, 1) := by decide +kernel
theorem dX4_meet_50 : decode cX4_meet 50 = .ok (.lconst 0, 1) := by decide +kernel
theorem dX4_meet_51 : decode cX4_meet 51 = .ok (.lcmp, 1) := by decide +kernel
theorem dX4_meet_52 : decode cX4_meet 52 = .ok (.ifCond .ne 23, 3) := by decide +kernel
theorem dX4_meet_55 : decode cX4_meet 55 = .ok (.aload_n 0, 1) := by decide +kernel
theorem dX4_meet_56 : decode cX4_meet 56 = .ok (.getfield 27, 3) := by decide +kernel
theorem dX4_meet_59 : decode cX4_meet 59 = .ok (.getfield 173, 3) := by decide +kernel
theorem dX4_meet_62 : decode cX4_meet 62 = .ok (.aload 6, 2) := by decide +kernel
theorem dX4_meet_64 : decode cX4_meet 64 = .ok (.iload 4, 2) := by decide +kernel
theorem dX4_meet_66 : decode cX4_meet 66 = .ok (.invokevirtual 170, 3) := by decide +kernel
theorem dX4_meet_69 : decode cX4_meet 69 = .ok (.land, 1) := by decide +kernel
theorem dX4_meet_70 : decode cX4_meet 70 = .ok (.lconst 0, 1) := by decide +kernel
theorem dX4_meet_71 : decode cX4_meet 71 = .ok (.lcmp, 1) := by decide +kernel
theorem dX4_meet_72 : decode cX4_meet 72 = .ok (.ifCond .eq 7, 3) := by decide +kernel
theorem dX4_meet_75 : decode cX4_meet 75 = .ok (.iconst 1, 1) := by decide +kernel
theorem dX4_meet_76 : decode cX4_meet 76 = .ok (.goto 4, 3) := by decide +kernel
theorem dX4_meet_79 : decode cX4_meet 79 = .ok (.iconst 0, 1) := by decide +kernel
theorem dX4_meet_80 : decode cX4_meet 80 = .ok (.ireturn, 1) := by decide +kernel
theorem dX4_compare_0 : decode cX4_compare 0 = .ok (.aload_n 0, 1) := by decide +kernel
theorem dX4_compare_1 : decode cX4_compare 1 = .ok (.iload_n 1, 1) := by decide +kernel
theorem dX4_compare_2 : decode cX4_compare 2 = .ok (.invokevirtual 55, 3) := by decide +kernel
theorem dX4_compare_5 : decode cX4_compare 5 = .ok (.astore_n 3, 1) := by decide +kernel
theorem dX4_compare_6 : decode cX4_compare 6 = .ok (.aload_n 0, 1) := by decide +kernel
theorem dX4_compare_7 : decode cX4_compare 7 = .ok (.iload_n 2, 1) := by decide +kernel
theorem dX4_compare_8 : decode cX4_compare 8 = .ok (.invokevirtual 55, 3) := by decide +kernel
theorem dX4_compare_11 : decode cX4_compare 11 = .ok (.astore 4, 2) := by decide +kernel
theorem dX4_compare_13 : decode cX4_compare 13 = .ok (.aload_n 3, 1) := by decide +kernel
theorem dX4_compare_14 : decode cX4_compare 14 = .ok (.aload 4, 2) := by decide +kernel
theorem dX4_compare_16 : decode cX4_compare 16 = .ok (.invokevirtual 176, 3) := by decide +kernel
theorem dX4_compare_19 : decode cX4_compare 19 = .ok (.istore 5, 2) := by decide +kernel
theorem dX4_compare_21 : decode cX4_compare 21 = .ok (.aload 4, 2) := by decide +kernel
theorem dX4_compare_23 : decode cX4_compare 23 = .ok (.aload_n 3, 1) := by decide +kernel
theorem dX4_compare_24 : decode cX4_compare 24 = .ok (.invokevirtual 176, 3) := by decide +kernel
theorem dX4_compare_27 : decode cX4_compare 27 = .ok (.istore 6, 2) := by decide +kernel
theorem dX4_compare_29 : decode cX4_compare 29 = .ok (.iload 5, 2) := by decide +kernel
theorem dX4_compare_31 : decode cX4_compare 31 = .ok (.ifCond .eq 14, 3) := by decide +kernel
theorem dX4_compare_34 : decode cX4_compare 34 = .ok (.iload 6, 2) := by decide +kernel
theorem dX4_compare_36 : decode cX4_compare 36 = .ok (.ifCond .eq 7, 3) := by decide +kernel
theorem dX4_compare_39 : decode cX4_compare 39 = .ok (.iconst 0, 1) := by decide +kernel
theorem dX4_compare_40 : decode cX4_compare 40 = .ok (.goto 4, 3) := by decide +kernel
theorem dX4_compare_43 : decode cX4_compare 43 = .ok (.iconst 1, 1) := by decide +kernel
theorem dX4_compare_44 : decode cX4_compare 44 = .ok (.ireturn, 1) := by decide +kernel
theorem dX4_compare_45 : decode cX4_compare 45 = .ok (.iload 6, 2) := by decide +kernel
theorem dX4_compare_47 : decode cX4_compare 47 = .ok (.ifCond .eq 7, 3) := by decide +kernel
theorem dX4_compare_50 : decode cX4_compare 50 = .ok (.iconst 2, 1) := by decide +kernel
theorem dX4_compare_51 : decode cX4_compare 51 = .ok (.goto 4, 3) := by decide +kernel
theorem dX4_compare_54 : decode cX4_compare 54 = .ok (.iconst 3, 1) := by decide +kernel
theorem dX4_compare_55 : decode cX4_compare 55 = .ok (.ireturn, 1) := by decide +kernel
theorem dX4_is_0 : decode cX4_is 0 = .ok (.aload_n 0, 1) := by decide +kernel
theorem dX4_is_1 : decode cX4_is 1 = .ok (.iload_n 1, 1) := by decide +kernel
theorem dX4_is_2 : decode cX4_is 2 = .ok (.invokevirtual 55, 3) := by decide +kernel
theorem dX4_is_5 : decode cX4_is 5 = .ok (.astore_n 3, 1) := by decide +kernel
theorem dX4_is_6 : decode cX4_is 6 = .ok (.iload_n 2, 1) := by decide +kernel
theorem dX4_is_7 : decode cX4_is 7 = .ok (.ifCond .lt 8, 3) := by decide +kernel
theorem dX4_is_10 : decode cX4_is 10 = .ok (.iload_n 2, 1) := by decide +kernel
theorem dX4_is_11 : decode cX4_is 11 = .ok (.iconst 5, 1) := by decide +kernel
theorem dX4_is_12 : decode cX4_is 12 = .ok (.if_icmp .le 13, 3) := by decide +kernel
theorem dX4_is_15 : decode cX4_is 15 = .ok (.new 48, 3) := by decide +kernel
theorem dX4_is_18 : decode cX4_is 18 = .ok (.dup, 1) := by decide +kernel
theorem dX4_is_19 : decode cX4_is 19 = .ok (.ldc 180, 2) := by decide +kernel
theorem dX4_is_21 : decode cX4_is 21 = .ok (.invokespecial 52, 3) := by decide +kernel
theorem dX4_is_24 : decode cX4_is 24 = .ok (.athrow, 1) := by decide +kernel
theorem dX4_is_25 : decode cX4_is 25 = .ok (.iload_n 2, 1) := by decide +kernel
theorem dX4_is_26 : decode cX4_is 26 = .ok (.tableswitch 69 0 4 #[34, 51, 69, 69, 64], 34) := by decide +kernel
theorem dX4_is_60 : decode cX4_is 60 = .ok (.aload_n 3, 1) := by decide +kernel
theorem dX4_is_61 : decode cX4_is 61 = .ok (.invokevirtual 182, 3) := by decide +kernel
theorem dX4_is_64 : decode cX4_is 64 = .ok (.aload_n 0, 1) := by decide +kernel
theorem dX4_is_65 : decode cX4_is 65 = .ok (.getfield 9, 3) := by decide +kernel
theorem dX4_is_68 : decode cX4_is 68 = .ok (.if_icmp .ne 7, 3) := by decide +kernel
theorem dX4_is_71 : decode cX4_is 71 = .ok (.iconst 1, 1) := by decide +kernel
theorem dX4_is_72 : decode cX4_is 72 = .ok (.goto 4, 3) := by decide +kernel
theorem dX4_is_75 : decode cX4_is 75 = .ok (.iconst 0, 1) := by decide +kernel
theorem dX4_is_76 : decode cX4_is 76 = .ok (.ireturn, 1) := by decide +kernel
theorem dX4_is_77 : decode cX4_is 77 = .ok (.aload_n 3, 1) := by decide +kernel
theorem dX4_is_78 : decode cX4_is 78 = .ok (.invokevirtual 182, 3) := by decide +kernel
theorem dX4_is_81 : decode cX4_is 81 = .ok (.ifCond .ne 7, 3) := by decide +kernel
theorem dX4_is_84 : decode cX4_is 84 = .ok (.iconst 1, 1) := by decide +kernel
theorem dX4_is_85 : decode cX4_is 85 = .ok (.goto 4, 3) := by decide +kernel
theorem dX4_is_88 : decode cX4_is 88 = .ok (.iconst 0, 1) := by decide +kernel
theorem dX4_is_89 : decode cX4_is 89 = .ok (.ireturn, 1) := by decide +kernel
theorem dX4_is_90 : decode cX4_is 90 = .ok (.aload_n 3, 1) := by decide +kernel
theorem dX4_is_91 : decode cX4_is 91 = .ok (.invokevirtual 185, 3) := by decide +kernel
theorem dX4_is_94 : decode cX4_is 94 = .ok (.ireturn, 1) := by decide +kernel
theorem dX4_is_95 : decode cX4_is 95 = .ok (.aload_n 3, 1) := by decide +kernel
theorem dX4_is_96 : decode cX4_is 96 = .ok (.iload_n 2, 1) := by decide +kernel
theorem dX4_is_97 : decode cX4_is 97 = .ok (.invokevirtual 189, 3) := by decide +kernel
theorem dX4_is_100 : decode cX4_is 100 = .ok (.ireturn, 1) := by decide +kernel
theorem dX4_steps_0 : decode cX4_steps 0 = .ok (.aload_n 0, 1) := by decide +kernel
theorem dX4_steps_1 : decode cX4_steps 1 = .ok (.iload_n 1, 1) := by decide +kernel
theorem dX4_steps_2 : decode cX4_steps 2 = .ok (.invokevirtual 55, 3) := by decide +kernel
theorem dX4_steps_5 : decode cX4_steps 5 = .ok (.astore 4, 2) := by decide +kernel
theorem dX4_steps_7 : decode cX4_steps 7 = .ok (.aload_n 0, 1) := by decide +kernel
theorem dX4_steps_8 : decode cX4_steps 8 = .ok (.iload_n 2, 1) := by decide +kernel
theorem dX4_steps_9 : decode cX4_steps 9 = .ok (.invokevirtual 66, 3) := by decide +kernel
theorem dX4_steps_12 : decode cX4_steps 12 = .ok (.aload_n 0, 1) := by decide +kernel
theorem dX4_steps_13 : decode cX4_steps 13 = .ok (.iload_n 3, 1) := by decide +kernel
theorem dX4_steps_14 : decode cX4_steps 14 = .ok (.invokevirtual 66, 3) := by decide +kernel
theorem dX4_steps_17 : decode cX4_steps 17 = .ok (.aload_n 0, 1) := by decide +kernel
theorem dX4_steps_18 : decode cX4_steps 18 = .ok (.getfield 37, 3) := by decide +kernel
theorem dX4_steps_21 : decode cX4_steps 21 = .ok (.aload 4, 2) := by decide +kernel
theorem dX4_steps_23 : decode cX4_steps 23 = .ok (.iload_n 2, 1) := by decide +kernel
theorem dX4_steps_24 : decode cX4_steps 24 = .ok (.iload_n 3, 1) := by decide +kernel
theorem dX4_steps_25 : decode cX4_steps 25 = .ok (.invokevirtual 193, 3) := by decide +kernel
theorem dX4_steps_28 : decode cX4_steps 28 = .ok (.ireturn, 1) := by decide +kernel
theorem dX4_classOf_0 : decode cX4_classOf 0 = .ok (.aload_n 0, 1) := by decide +kernel
theorem dX4_classOf_1 : decode cX4_classOf 1 = .ok (.iload_n 1, 1) := by decide +kernel
theorem dX4_classOf_2 : decode cX4_classOf 2 = .ok (.invokevirtual 55, 3) := by decide +kernel
theorem dX4_classOf_5 : decode cX4_classOf 5 = .ok (.astore_n 3, 1) := by decide +kernel
theorem dX4_classOf_6 : decode cX4_classOf 6 = .ok (.aload_n 0, 1) := by decide +kernel
theorem dX4_classOf_7 : decode cX4_classOf 7 = .ok (.iload_n 2, 1) := by decide +kernel
theorem dX4_classOf_8 : decode cX4_classOf 8 = .ok (.invokevirtual 66, 3) := by decide +kernel
theorem dX4_classOf_11 : decode cX4_classOf 11 = .ok (.aload_n 0, 1) := by decide +kernel
theorem dX4_classOf_12 : decode cX4_classOf 12 = .ok (.aload_n 3, 1) := by decide +kernel
theorem dX4_classOf_13 : decode cX4_classOf 13 = .ok (.invokevirtual 152, 3) := by decide +kernel
theorem dX4_classOf_16 : decode cX4_classOf 16 = .ok (.aload_n 0, 1) := by decide +kernel
theorem dX4_classOf_17 : decode cX4_classOf 17 = .ok (.getfield 30, 3) := by decide +kernel
theorem dX4_classOf_20 : decode cX4_classOf 20 = .ok (.iload_n 2, 1) := by decide +kernel
theorem dX4_classOf_21 : decode cX4_classOf 21 = .ok (.invokevirtual 197, 3) := by decide +kernel
theorem dX4_classOf_24 : decode cX4_classOf 24 = .ok (.ireturn, 1) := by decide +kernel
theorem dX4_classes_0 : decode cX4_classes 0 = .ok (.aload_n 0, 1) := by decide +kernel
theorem dX4_classes_1 : decode cX4_classes 1 = .ok (.iload_n 1, 1) := by decide +kernel
theorem dX4_classes_2 : decode cX4_classes 2 = .ok (.invokevirtual 55, 3) := by decide +kernel
theorem dX4_classes_5 : decode cX4_classes 5 = .ok (.astore_n 2, 1) := by decide +kernel
theorem dX4_classes_6 : decode cX4_classes 6 = .ok (.aload_n 0, 1) := by decide +kernel
theorem dX4_classes_7 : decode cX4_classes 7 = .ok (.aload_n 2, 1) := by decide +kernel
theorem dX4_classes_8 : decode cX4_classes 8 = .ok (.invokevirtual 152, 3) := by decide +kernel
theorem dX4_classes_11 : decode cX4_classes 11 = .ok (.aload_n 0, 1) := by decide +kernel
theorem dX4_classes_12 : decode cX4_classes 12 = .ok (.getfield 30, 3) := by decide +kernel
theorem dX4_classes_15 : decode cX4_classes 15 = .ok (.invokevirtual 200, 3) := by decide +kernel
theorem dX4_classes_18 : decode cX4_classes 18 = .ok (.ireturn, 1) := by decide +kernel
theorem dX4_hasRing_0 : decode cX4_hasRing 0 = .ok (.aload_n 0, 1) := by decide +kernel
theorem dX4_hasRing_1 : decode cX4_hasRing 1 = .ok (.getfield 37, 3) := by decide +kernel
theorem dX4_hasRing_4 : decode cX4_hasRing 4 = .ok (.aload_n 0, 1) := by decide +kernel
theorem dX4_hasRing_5 : decode cX4_hasRing 5 = .ok (.iload_n 1, 1) := by decide +kernel
theorem dX4_hasRing_6 : decode cX4_hasRing 6 = .ok (.invokevirtual 55, 3) := by decide +kernel
theorem dX4_hasRing_9 : decode cX4_hasRing 9 = .ok (.invokevirtual 143, 3) := by decide +kernel
theorem dX4_hasRing_12 : decode cX4_hasRing 12 = .ok (.iconst (-1), 1) := by decide +kernel
theorem dX4_hasRing_13 : decode cX4_hasRing 13 = .ok (.if_icmp .ne 7, 3) := by decide +kernel
theorem dX4_hasRing_16 : decode cX4_hasRing 16 = .ok (.iconst 1, 1) := by decide +kernel
theorem dX4_hasRing_17 : decode cX4_hasRing 17 = .ok (.goto 4, 3) := by decide +kernel
theorem dX4_hasRing_20 : decode cX4_hasRing 20 = .ok (.iconst 0, 1) := by decide +kernel
theorem dX4_hasRing_21 : decode cX4_hasRing 21 = .ok (.ireturn, 1) := by decide +kernel
theorem dX4_orderAt_0 : decode cX4_orderAt 0 = .ok (.aload_n 0, 1) := by decide +kernel
theorem dX4_orderAt_1 : decode cX4_orderAt 1 = .ok (.iload_n 1, 1) := by decide +kernel
theorem dX4_orderAt_2 : decode cX4_orderAt 2 = .ok (.invokevirtual 55, 3) := by decide +kernel
theorem dX4_orderAt_5 : decode cX4_orderAt 5 = .ok (.astore_n 3, 1) := by decide +kernel
theorem dX4_orderAt_6 : decode cX4_orderAt 6 = .ok (.aload_n 0, 1) := by decide +kernel
theorem dX4_orderAt_7 : decode cX4_orderAt 7 = .ok (.iload_n 2, 1) := by decide +kernel
theorem dX4_orderAt_8 : decode cX4_orderAt 8 = .ok (.invokevirtual 66, 3) := by decide +kernel
theorem dX4_orderAt_11 : decode cX4_orderAt 11 = .ok (.aload_n 0, 1) := by decide +kernel
theorem dX4_orderAt_12 : decode cX4_orderAt 12 = .ok (.getfield 37, 3) := by decide +kernel
theorem dX4_orderAt_15 : decode cX4_orderAt 15 = .ok (.aload_n 3, 1) := by decide +kernel
theorem dX4_orderAt_16 : decode cX4_orderAt 16 = .ok (.invokevirtual 203, 3) := by decide +kernel
theorem dX4_orderAt_19 : decode cX4_orderAt 19 = .ok (.ifCond .ne 13, 3) := by decide +kernel
theorem dX4_orderAt_22 : decode cX4_orderAt 22 = .ok (.new 147, 3) := by decide +kernel
theorem dX4_orderAt_25 : decode cX4_orderAt 25 = .ok (.dup, 1) := by decide +kernel
theorem dX4_orderAt_26 : decode cX4_orderAt 26 = .ok (.ldc 206, 2) := by decide +kernel
theorem dX4_orderAt_28 : decode cX4_orderAt 28 = .ok (.invokespecial 151, 3) := by decide +kernel
theorem dX4_orderAt_31 : decode cX4_orderAt 31 = .ok (.athrow, 1) := by decide +kernel
theorem dX4_orderAt_32 : decode cX4_orderAt 32 = .ok (.aload_n 0, 1) := by decide +kernel
theorem dX4_orderAt_33 : decode cX4_orderAt 33 = .ok (.getfield 37, 3) := by decide +kernel
theorem dX4_orderAt_36 : decode cX4_orderAt 36 = .ok (.iload_n 2, 1) := by decide +kernel
theorem dX4_orderAt_37 : decode cX4_orderAt 37 = .ok (.invokevirtual 208, 3) := by decide +kernel
theorem dX4_orderAt_40 : decode cX4_orderAt 40 = .ok (.ireturn, 1) := by decide +kernel
theorem dX4_longestWalk_0 : decode cX4_longestWalk 0 = .ok (.aload_n 0, 1) := by decide +kernel
theorem dX4_longestWalk_1 : decode cX4_longestWalk 1 = .ok (.getfield 37, 3) := by decide +kernel
theorem dX4_longestWalk_4 : decode cX4_longestWalk 4 = .ok (.aload_n 0, 1) := by decide +kernel
theorem dX4_longestWalk_5 : decode cX4_longestWalk 5 = .ok (.iload_n 1, 1) := by decide +kernel
theorem dX4_longestWalk_6 : decode cX4_longestWalk 6 = .ok (.invokevirtual 55, 3) := by decide +kernel
theorem dX4_longestWalk_9 : decode cX4_longestWalk 9 = .ok (.invokevirtual 143, 3) := by decide +kernel
theorem dX4_longestWalk_12 : decode cX4_longestWalk 12 = .ok (.istore_n 2, 1) := by decide +kernel
theorem dX4_longestWalk_13 : decode cX4_longestWalk 13 = .ok (.iload_n 2, 1) := by decide +kernel
theorem dX4_longestWalk_14 : decode cX4_longestWalk 14 = .ok (.iconst (-1), 1) := by decide +kernel
theorem dX4_longestWalk_15 : decode cX4_longestWalk 15 = .ok (.if_icmp .ne 13, 3) := by decide +kernel
theorem dX4_longestWalk_18 : decode cX4_longestWalk 18 = .ok (.new 147, 3) := by decide +kernel
theorem dX4_longestWalk_21 : decode cX4_longestWalk 21 = .ok (.dup, 1) := by decide +kernel
theorem dX4_longestWalk_22 : decode cX4_longestWalk 22 = .ok (.ldc 149, 2) := by decide +kernel
theorem dX4_longestWalk_24 : decode cX4_longestWalk 24 = .ok (.invokespecial 151, 3) := by decide +kernel
theorem dX4_longestWalk_27 : decode cX4_longestWalk 27 = .ok (.athrow, 1) := by decide +kernel
theorem dX4_longestWalk_28 : decode cX4_longestWalk 28 = .ok (.iload_n 2, 1) := by decide +kernel
theorem dX4_longestWalk_29 : decode cX4_longestWalk 29 = .ok (.ireturn, 1) := by decide +kernel
theorem dX4_mark_0 : decode cX4_mark 0 = .ok (.aload_n 0, 1) := by decide +kernel
theorem dX4_mark_1 : decode cX4_mark 1 = .ok (.iload_n 1, 1) := by decide +kernel
theorem dX4_mark_2 : decode cX4_mark 2 = .ok (.iload_n 2, 1) := by decide +kernel
theorem dX4_mark_3 : decode cX4_mark 3 = .ok (.invokevirtual 84, 3) := by decide +kernel
theorem dX4_mark_6 : decode cX4_mark 6 = .ok (.aload_n 0, 1) := by decide +kernel
theorem dX4_mark_7 : decode cX4_mark 7 = .ok (.getfield 23, 3) := by decide +kernel
theorem dX4_mark_10 : decode cX4_mark 10 = .ok (.iload_n 1, 1) := by decide +kernel
theorem dX4_mark_11 : decode cX4_mark 11 = .ok (.iload_n 2, 1) := by decide +kernel
theorem dX4_mark_12 : decode cX4_mark 12 = .ok (.iload_n 3, 1) := by decide +kernel
theorem dX4_mark_13 : decode cX4_mark 13 = .ok (.invokevirtual 77, 3) := by decide +kernel
theorem dX4_mark_16 : decode cX4_mark 16 = .ok (.aload_n 0, 1) := by decide +kernel
theorem dX4_mark_17 : decode cX4_mark 17 = .ok (.getfield 23, 3) := by decide +kernel
theorem dX4_mark_20 : decode cX4_mark 20 = .ok (.invokevirtual 211, 3) := by decide +kernel
theorem dX4_mark_23 : decode cX4_mark 23 = .ok (.ireturn, 1) := by decide +kernel
theorem dX4_spread_0 : decode cX4_spread 0 = .ok (.aload_n 0, 1) := by decide +kernel
theorem dX4_spread_1 : decode cX4_spread 1 = .ok (.iload_n 1, 1) := by decide +kernel
theorem dX4_spread_2 : decode cX4_spread 2 = .ok (.invokevirtual 55, 3) := by decide +kernel
theorem dX4_spread_5 : decode cX4_spread 5 = .ok (.astore_n 3, 1) := by decide +kernel
theorem dX4_spread_6 : decode cX4_spread 6 = .ok (.aload_n 0, 1) := by decide +kernel
theorem dX4_spread_7 : decode cX4_spread 7 = .ok (.getfield 27, 3) := by decide +kernel
theorem dX4_spread_10 : decode cX4_spread 10 = .ok (.aload_n 0, 1) := by decide +kernel
theorem dX4_spread_11 : decode cX4_spread 11 = .ok (.getfield 23, 3) := by decide +kernel
theorem dX4_spread_14 : decode cX4_spread 14 = .ok (.invokevirtual 214, 3) := by decide +kernel
theorem dX4_spread_17 : decode cX4_spread 17 = .ok (.aload_n 3, 1) := by decide +kernel
theorem dX4_spread_18 : decode cX4_spread 18 = .ok (.aload_n 0, 1) := by decide +kernel
theorem dX4_spread_19 : decode cX4_spread 19 = .ok (.getfield 27, 3) := by decide +kernel
theorem dX4_spread_22 : decode cX4_spread 22 = .ok (.aload_n 0, 1) := by decide +kernel
theorem dX4_spread_23 : decode cX4_spread 23 = .ok (.getfield 23, 3) := by decide +kernel
theorem dX4_spread_26 : decode cX4_spread 26 = .ok (.invokevirtual 218, 3) := by decide +kernel
theorem dX4_spread_29 : decode cX4_spread 29 = .ok (.iload_n 2, 1) := by decide +kernel
theorem dX4_spread_30 : decode cX4_spread 30 = .ok (.ifCond .eq 14, 3) := by decide +kernel
theorem dX4_spread_33 : decode cX4_spread 33 = .ok (.aload_n 0, 1) := by decide +kernel
theorem dX4_spread_34 : decode cX4_spread 34 = .ok (.getfield 23, 3) := by decide +kernel
theorem dX4_spread_37 : decode cX4_spread 37 = .ok (.aload_n 0, 1) := by decide +kernel
theorem dX4_spread_38 : decode cX4_spread 38 = .ok (.getfield 27, 3) := by decide +kernel
theorem dX4_spread_41 : decode cX4_spread 41 = .ok (.invokevirtual 222, 3) := by decide +kernel
theorem dX4_spread_44 : decode cX4_spread 44 = .ok (.aload_n 0, 1) := by decide +kernel
theorem dX4_spread_45 : decode cX4_spread 45 = .ok (.getfield 23, 3) := by decide +kernel
theorem dX4_spread_48 : decode cX4_spread 48 = .ok (.invokevirtual 211, 3) := by decide +kernel
theorem dX4_spread_51 : decode cX4_spread 51 = .ok (.ireturn, 1) := by decide +kernel
theorem dX4_markedAt_0 : decode cX4_markedAt 0 = .ok (.iconst 0, 1) := by decide +kernel
theorem dX4_markedAt_1 : decode cX4_markedAt 1 = .ok (.istore_n 2, 1) := by decide +kernel
theorem dX4_markedAt_2 : decode cX4_markedAt 2 = .ok (.iconst 0, 1) := by decide +kernel
theorem dX4_markedAt_3 : decode cX4_markedAt 3 = .ok (.istore_n 3, 1) := by decide +kernel
theorem dX4_markedAt_4 : decode cX4_markedAt 4 = .ok (.iload_n 3, 1) := by decide +kernel
theorem dX4_markedAt_5 : decode cX4_markedAt 5 = .ok (.aload_n 0, 1) := by decide +kernel
theorem dX4_markedAt_6 : decode cX4_markedAt 6 = .ok (.getfield 9, 3) := by decide +kernel
theorem dX4_markedAt_9 : decode cX4_markedAt 9 = .ok (.if_icmp .ge 30, 3) := by decide +kernel
theorem dX4_markedAt_12 : decode cX4_markedAt 12 = .ok (.aload_n 0, 1) := by decide +kernel
theorem dX4_markedAt_13 : decode cX4_markedAt 13 = .ok (.getfield 23, 3) := by decide +kernel
theorem dX4_markedAt_16 : decode cX4_markedAt 16 = .ok (.iload_n 3, 1) := by decide +kernel
theorem dX4_markedAt_17 : decode cX4_markedAt 17 = .ok (.invokevirtual 225, 3) := by decide +kernel
theorem dX4_markedAt_20 : decode cX4_markedAt 20 = .ok (.ifCond .eq 13, 3) := by decide +kernel
theorem dX4_markedAt_23 : decode cX4_markedAt 23 = .ok (.iload_n 2, 1) := by decide +kernel
theorem dX4_markedAt_24 : decode cX4_markedAt 24 = .ok (.iload_n 1, 1) := by decide +kernel
theorem dX4_markedAt_25 : decode cX4_markedAt 25 = .ok (.if_icmp .ne 5, 3) := by decide +kernel
theorem dX4_markedAt_28 : decode cX4_markedAt 28 = .ok (.iload_n 3, 1) := by decide +kernel
theorem dX4_markedAt_29 : decode cX4_markedAt 29 = .ok (.ireturn, 1) := by decide +kernel
theorem dX4_markedAt_30 : decode cX4_markedAt 30 = .ok (.iinc 2 1, 3) := by decide +kernel
theorem dX4_markedAt_33 : decode cX4_markedAt 33 = .ok (.iinc 3 1, 3) := by decide +kernel
theorem dX4_markedAt_36 : decode cX4_markedAt 36 = .ok (.goto (-32), 3) := by decide +kernel
theorem dX4_markedAt_39 : decode cX4_markedAt 39 = .ok (.new 227, 3) := by decide +kernel
theorem dX4_markedAt_42 : decode cX4_markedAt 42 = .ok (.dup, 1) := by decide +kernel
theorem dX4_markedAt_43 : decode cX4_markedAt 43 = .ok (.ldc 229, 2) := by decide +kernel
theorem dX4_markedAt_45 : decode cX4_markedAt 45 = .ok (.invokespecial 231, 3) := by decide +kernel
theorem dX4_markedAt_48 : decode cX4_markedAt 48 = .ok (.athrow, 1) := by decide +kernel
theorem dX4_endOfMarks_0 : decode cX4_endOfMarks 0 = .ok (.aload_n 0, 1) := by decide +kernel
theorem dX4_endOfMarks_1 : decode cX4_endOfMarks 1 = .ok (.getfield 23, 3) := by decide +kernel
theorem dX4_endOfMarks_4 : decode cX4_endOfMarks 4 = .ok (.bipush 79, 2) := by decide +kernel
theorem dX4_endOfMarks_6 : decode cX4_endOfMarks 6 = .ok (.invokevirtual 161, 3) := by decide +kernel
theorem dX4_endOfMarks_9 : decode cX4_endOfMarks 9 = .ok (.iconst 1, 1) := by decide +kernel
theorem dX4_endOfMarks_10 : decode cX4_endOfMarks 10 = .ok (.iadd, 1) := by decide +kernel
theorem dX4_endOfMarks_11 : decode cX4_endOfMarks 11 = .ok (.ireturn, 1) := by decide +kernel
theorem dX4_meanRow_0 : decode cX4_meanRow 0 = .ok (.aload_n 0, 1) := by decide +kernel
theorem dX4_meanRow_1 : decode cX4_meanRow 1 = .ok (.iload_n 1, 1) := by decide +kernel
theorem dX4_meanRow_2 : decode cX4_meanRow 2 = .ok (.invokevirtual 55, 3) := by decide +kernel
theorem dX4_meanRow_5 : decode cX4_meanRow 5 = .ok (.invokevirtual 106, 3) := by decide +kernel
theorem dX4_meanRow_8 : decode cX4_meanRow 8 = .ok (.i2d, 1) := by decide +kernel
theorem dX4_meanRow_9 : decode cX4_meanRow 9 = .ok (.dstore_n 2, 1) := by decide +kernel
theorem dX4_meanRow_10 : decode cX4_meanRow 10 = .ok (.aload_n 0, 1) := by decide +kernel
theorem dX4_meanRow_11 : decode cX4_meanRow 11 = .ok (.getfield 9, 3) := by decide +kernel
theorem dX4_meanRow_14 : decode cX4_meanRow 14 = .ok (.iconst 1, 1) := by decide +kernel
theorem dX4_meanRow_15 : decode cX4_meanRow 15 = .ok (.if_icmp .ge 7, 3) := by decide +kernel
theorem dX4_meanRow_18 : decode cX4_meanRow 18 = .ok (.dconst 0, 1) := by decide +kernel
theorem dX4_meanRow_19 : decode cX4_meanRow 19 = .ok (.goto 10, 3) := by decide +kernel
theorem dX4_meanRow_22 : decode cX4_meanRow 22 = .ok (.dload_n 2, 1) := by decide +kernel
theorem dX4_meanRow_23 : decode cX4_meanRow 23 = .ok (.aload_n 0, 1) := by decide +kernel
theorem dX4_meanRow_24 : decode cX4_meanRow 24 = .ok (.getfield 9, 3) := by decide +kernel
theorem dX4_meanRow_27 : decode cX4_meanRow 27 = .ok (.i2d, 1) := by decide +kernel
theorem dX4_meanRow_28 : decode cX4_meanRow 28 = .ok (.ddiv, 1) := by decide +kernel
theorem dX4_meanRow_29 : decode cX4_meanRow 29 = .ok (.dreturn, 1) := by decide +kernel
theorem dX4_errors_0 : decode cX4_errors 0 = .ok (.iconst 0, 1) := by decide +kernel
theorem dX4_errors_1 : decode cX4_errors 1 = .ok (.istore_n 1, 1) := by decide +kernel
theorem dX4_errors_2 : decode cX4_errors 2 = .ok (.iconst 0, 1) := by decide +kernel
theorem dX4_errors_3 : decode cX4_errors 3 = .ok (.istore_n 2, 1) := by decide +kernel
theorem dX4_errors_4 : decode cX4_errors 4 = .ok (.iload_n 2, 1) := by decide +kernel
theorem dX4_errors_5 : decode cX4_errors 5 = .ok (.iconst 3, 1) := by decide +kernel
theorem dX4_errors_6 : decode cX4_errors 6 = .ok (.if_icmp .ge 24, 3) := by decide +kernel
theorem dX4_errors_9 : decode cX4_errors 9 = .ok (.iload_n 1, 1) := by decide +kernel
theorem dX4_errors_10 : decode cX4_errors 10 = .ok (.aload_n 0, 1) := by decide +kernel
theorem dX4_errors_11 : decode cX4_errors 11 = .ok (.getfield 44, 3) := by decide +kernel
theorem dX4_errors_14 : decode cX4_errors 14 = .ok (.aload_n 0, 1) := by decide +kernel
theorem dX4_errors_15 : decode cX4_errors 15 = .ok (.iload_n 2, 1) := by decide +kernel
theorem dX4_errors_16 : decode cX4_errors 16 = .ok (.invokevirtual 55, 3) := by decide +kernel
theorem dX4_errors_19 : decode cX4_errors 19 = .ok (.invokevirtual 232, 3) := by decide +kernel
theorem dX4_errors_22 : decode cX4_errors 22 = .ok (.iadd, 1) := by decide +kernel
theorem dX4_errors_23 : decode cX4_errors 23 = .ok (.istore_n 1, 1) := by decide +kernel
theorem dX4_errors_24 : decode cX4_errors 24 = .ok (.iinc 2 1, 3) := by decide +kernel
theorem dX4_errors_27 : decode cX4_errors 27 = .ok (.goto (-23), 3) := by decide +kernel
theorem dX4_errors_30 : decode cX4_errors 30 = .ok (.iload_n 1, 1) := by decide +kernel
theorem dX4_errors_31 : decode cX4_errors 31 = .ok (.aload_n 0, 1) := by decide +kernel
theorem dX4_errors_32 : decode cX4_errors 32 = .ok (.getfield 44, 3) := by decide +kernel
theorem dX4_errors_35 : decode cX4_errors 35 = .ok (.aload_n 0, 1) := by decide +kernel
theorem dX4_errors_36 : decode cX4_errors 36 = .ok (.iconst 0, 1) := by decide +kernel
theorem dX4_errors_37 : decode cX4_errors 37 = .ok (.invokevirtual 55, 3) := by decide +kernel
theorem dX4_errors_40 : decode cX4_errors 40 = .ok (.aload_n 0, 1) := by decide +kernel
theorem dX4_errors_41 : decode cX4_errors 41 = .ok (.iconst 1, 1) := by decide +kernel
theorem dX4_errors_42 : decode cX4_errors 42 = .ok (.invokevirtual 55, 3) := by decide +kernel
theorem dX4_errors_45 : decode cX4_errors 45 = .ok (.aload_n 0, 1) := by decide +kernel
theorem dX4_errors_46 : decode cX4_errors 46 = .ok (.iconst 2, 1) := by decide +kernel
theorem dX4_errors_47 : decode cX4_errors 47 = .ok (.invokevirtual 55, 3) := by decide +kernel
theorem dX4_errors_50 : decode cX4_errors 50 = .ok (.invokevirtual 235, 3) := by decide +kernel
theorem dX4_errors_53 : decode cX4_errors 53 = .ok (.iadd, 1) := by decide +kernel
theorem dX4_errors_54 : decode cX4_errors 54 = .ok (.ireturn, 1) := by decide +kernel
theorem dX4_relationAt_0 : decode cX4_relationAt 0 = .ok (.iload_n 1, 1) := by decide +kernel
theorem dX4_relationAt_1 : decode cX4_relationAt 1 = .ok (.ifCond .lt 21, 3) := by decide +kernel
theorem dX4_relationAt_4 : decode cX4_relationAt 4 = .ok (.iload_n 1, 1) := by decide +kernel
theorem dX4_relationAt_5 : decode cX4_relationAt 5 = .ok (.aload_n 0, 1) := by decide +kernel
theorem dX4_relationAt_6 : decode cX4_relationAt 6 = .ok (.getfield 15, 3) := by decide +kernel
theorem dX4_relationAt_9 : decode cX4_relationAt 9 = .ok (.arraylength, 1) := by decide +kernel
theorem dX4_relationAt_10 : decode cX4_relationAt 10 = .ok (.if_icmp .ge 12, 3) := by decide +kernel
theorem dX4_relationAt_13 : decode cX4_relationAt 13 = .ok (.aload_n 0, 1) := by decide +kernel
theorem dX4_relationAt_14 : decode cX4_relationAt 14 = .ok (.getfield 15, 3) := by decide +kernel
theorem dX4_relationAt_17 : decode cX4_relationAt 17 = .ok (.iload_n 1, 1) := by decide +kernel
theorem dX4_relationAt_18 : decode cX4_relationAt 18 = .ok (.aaload, 1) := by decide +kernel
theorem dX4_relationAt_19 : decode cX4_relationAt 19 = .ok (.ifnonnull 13, 3) := by decide +kernel
theorem dX4_relationAt_22 : decode cX4_relationAt 22 = .ok (.new 239, 3) := by decide +kernel
theorem dX4_relationAt_25 : decode cX4_relationAt 25 = .ok (.dup, 1) := by decide +kernel
theorem dX4_relationAt_26 : decode cX4_relationAt 26 = .ok (.ldc 241, 2) := by decide +kernel
theorem dX4_relationAt_28 : decode cX4_relationAt 28 = .ok (.invokespecial 243, 3) := by decide +kernel
theorem dX4_relationAt_31 : decode cX4_relationAt 31 = .ok (.athrow, 1) := by decide +kernel
theorem dX4_relationAt_32 : decode cX4_relationAt 32 = .ok (.aload_n 0, 1) := by decide +kernel
theorem dX4_relationAt_33 : decode cX4_relationAt 33 = .ok (.getfield 15, 3) := by decide +kernel
theorem dX4_relationAt_36 : decode cX4_relationAt 36 = .ok (.iload_n 1, 1) := by decide +kernel
theorem dX4_relationAt_37 : decode cX4_relationAt 37 = .ok (.aaload, 1) := by decide +kernel
theorem dX4_relationAt_38 : decode cX4_relationAt 38 = .ok (.areturn, 1) := by decide +kernel
theorem dX4_checkElement_0 : decode cX4_checkElement 0 = .ok (.iload_n 1, 1) := by decide +kernel
theorem dX4_checkElement_1 : decode cX4_checkElement 1 = .ok (.ifCond .lt 11, 3) := by decide +kernel
theorem dX4_checkElement_4 : decode cX4_checkElement 4 = .ok (.iload_n 1, 1) := by decide +kernel
theorem dX4_checkElement_5 : decode cX4_checkElement 5 = .ok (.aload_n 0, 1) := by decide +kernel
theorem dX4_checkElement_6 : decode cX4_checkElement 6 = .ok (.getfield 9, 3) := by decide +kernel
theorem dX4_checkElement_9 : decode cX4_checkElement 9 = .ok (.if_icmp .lt 13, 3) := by decide +kernel
theorem dX4_checkElement_12 : decode cX4_checkElement 12 = .ok (.new 239, 3) := by decide +kernel
theorem dX4_checkElement_15 : decode cX4_checkElement 15 = .ok (.dup, 1) := by decide +kernel
theorem dX4_checkElement_16 : decode cX4_checkElement 16 = .ok (.ldc 244, 2) := by decide +kernel
theorem dX4_checkElement_18 : decode cX4_checkElement 18 = .ok (.invokespecial 243, 3) := by decide +kernel
theorem dX4_checkElement_21 : decode cX4_checkElement 21 = .ok (.athrow, 1) := by decide +kernel
theorem dX4_checkElement_22 : decode cX4_checkElement 22 = .ok (.return_, 1) := by decide +kernel
theorem dX4_checkRange_0 : decode cX4_checkRange 0 = .ok (.iload_n 1, 1) := by decide +kernel
theorem dX4_checkRange_1 : decode cX4_checkRange 1 = .ok (.ifCond .lt 16, 3) := by decide +kernel
theorem dX4_checkRange_4 : decode cX4_checkRange 4 = .ok (.iload_n 2, 1) := by decide +kernel
theorem dX4_checkRange_5 : decode cX4_checkRange 5 = .ok (.aload_n 0, 1) := by decide +kernel
theorem dX4_checkRange_6 : decode cX4_checkRange 6 = .ok (.getfield 9, 3) := by decide +kernel
theorem dX4_checkRange_9 : decode cX4_checkRange 9 = .ok (.if_icmp .gt 8, 3) := by decide +kernel
theorem dX4_checkRange_12 : decode cX4_checkRange 12 = .ok (.iload_n 1, 1) := by decide +kernel
theorem dX4_checkRange_13 : decode cX4_checkRange 13 = .ok (.iload_n 2, 1) := by decide +kernel
theorem dX4_checkRange_14 : decode cX4_checkRange 14 = .ok (.if_icmp .le 13, 3) := by decide +kernel
theorem dX4_checkRange_17 : decode cX4_checkRange 17 = .ok (.new 239, 3) := by decide +kernel
theorem dX4_checkRange_20 : decode cX4_checkRange 20 = .ok (.dup, 1) := by decide +kernel
theorem dX4_checkRange_21 : decode cX4_checkRange 21 = .ok (.ldc 246, 2) := by decide +kernel
theorem dX4_checkRange_23 : decode cX4_checkRange 23 = .ok (.invokespecial 243, 3) := by decide +kernel
theorem dX4_checkRange_26 : decode cX4_checkRange 26 = .ok (.athrow, 1) := by decide +kernel
theorem dX4_checkRange_27 : decode cX4_checkRange 27 = .ok (.return_, 1) := by decide +kernel
theorem dX4_seedAfter_0 : decode cX4_seedAfter 0 = .ok (.iload_n 0, 1) := by decide +kernel
theorem dX4_seedAfter_1 : decode cX4_seedAfter 1 = .ok (.ldc 248, 2) := by decide +kernel
theorem dX4_seedAfter_3 : decode cX4_seedAfter 3 = .ok (.imul, 1) := by decide +kernel
theorem dX4_seedAfter_4 : decode cX4_seedAfter 4 = .ok (.sipush 12345, 3) := by decide +kernel
theorem dX4_seedAfter_7 : decode cX4_seedAfter 7 = .ok (.iadd, 1) := by decide +kernel
theorem dX4_seedAfter_8 : decode cX4_seedAfter 8 = .ok (.ireturn, 1) := by decide +kernel
theorem dX4_elementOf_0 : decode cX4_elementOf 0 = .ok (.aload_n 0, 1) := by decide +kernel
theorem dX4_elementOf_1 : decode cX4_elementOf 1 = .ok (.getfield 9, 3) := by decide +kernel
theorem dX4_elementOf_4 : decode cX4_elementOf 4 = .ok (.iconst 1, 1) := by decide +kernel
theorem dX4_elementOf_5 : decode cX4_elementOf 5 = .ok (.if_icmp .ge 7, 3) := by decide +kernel
theorem dX4_elementOf_8 : decode cX4_elementOf 8 = .ok (.iconst 0, 1) := by decide +kernel
theorem dX4_elementOf_9 : decode cX4_elementOf 9 = .ok (.goto 12, 3) := by decide +kernel
theorem dX4_elementOf_12 : decode cX4_elementOf 12 = .ok (.iload_n 1, 1) := by decide +kernel
theorem dX4_elementOf_13 : decode cX4_elementOf 13 = .ok (.bipush 16, 2) := by decide +kernel
theorem dX4_elementOf_15 : decode cX4_elementOf 15 = .ok (.iushr, 1) := by decide +kernel
theorem dX4_elementOf_16 : decode cX4_elementOf 16 = .ok (.aload_n 0, 1) := by decide +kernel
theorem dX4_elementOf_17 : decode cX4_elementOf 17 = .ok (.getfield 9, 3) := by decide +kernel
theorem dX4_elementOf_20 : decode cX4_elementOf 20 = .ok (.irem, 1) := by decide +kernel
theorem dX4_elementOf_21 : decode cX4_elementOf 21 = .ok (.ireturn, 1) := by decide +kernel
theorem dX4_closeAside_0 : decode cX4_closeAside 0 = .ok (.aload_n 0, 1) := by decide +kernel
theorem dX4_closeAside_1 : decode cX4_closeAside 1 = .ok (.getfield 30, 3) := by decide +kernel
theorem dX4_closeAside_4 : decode cX4_closeAside 4 = .ok (.aload_n 1, 1) := by decide +kernel
theorem dX4_closeAside_5 : decode cX4_closeAside 5 = .ok (.invokevirtual 118, 3) := by decide +kernel
theorem dX4_closeAside_8 : decode cX4_closeAside 8 = .ok (.aload_n 0, 1) := by decide +kernel
theorem dX4_closeAside_9 : decode cX4_closeAside 9 = .ok (.getfield 30, 3) := by decide +kernel
theorem dX4_closeAside_12 : decode cX4_closeAside 12 = .ok (.invokevirtual 137, 3) := by decide +kernel
theorem dX4_closeAside_15 : decode cX4_closeAside 15 = .ok (.return_, 1) := by decide +kernel
theorem dJ13_bitCount_95d88_0 : decode cJ13_bitCount_95d88 0 = .ok (.lload_n 0, 1) := by decide +kernel
theorem dJ13_bitCount_95d88_1 : decode cJ13_bitCount_95d88 1 = .ok (.lload_n 0, 1) := by decide +kernel
theorem dJ13_bitCount_95d88_2 : decode cJ13_bitCount_95d88 2 = .ok (.iconst 1, 1) := by decide +kernel
theorem dJ13_bitCount_95d88_3 : decode cJ13_bitCount_95d88 3 = .ok (.lushr, 1) := by decide +kernel
theorem dJ13_bitCount_95d88_4 : decode cJ13_bitCount_95d88 4 = .ok (.ldc2_w 314, 3) := by decide +kernel
theorem dJ13_bitCount_95d88_7 : decode cJ13_bitCount_95d88 7 = .ok (.land, 1) := by decide +kernel
theorem dJ13_bitCount_95d88_8 : decode cJ13_bitCount_95d88 8 = .ok (.lsub, 1) := by decide +kernel
theorem dJ13_bitCount_95d88_9 : decode cJ13_bitCount_95d88 9 = .ok (.lstore_n 0, 1) := by decide +kernel
theorem dJ13_bitCount_95d88_10 : decode cJ13_bitCount_95d88 10 = .ok (.lload_n 0, 1) := by decide +kernel
theorem dJ13_bitCount_95d88_11 : decode cJ13_bitCount_95d88 11 = .ok (.ldc2_w 316, 3) := by decide +kernel
theorem dJ13_bitCount_95d88_14 : decode cJ13_bitCount_95d88 14 = .ok (.land, 1) := by decide +kernel
theorem dJ13_bitCount_95d88_15 : decode cJ13_bitCount_95d88 15 = .ok (.lload_n 0, 1) := by decide +kernel
theorem dJ13_bitCount_95d88_16 : decode cJ13_bitCount_95d88 16 = .ok (.iconst 2, 1) := by decide +kernel
theorem dJ13_bitCount_95d88_17 : decode cJ13_bitCount_95d88 17 = .ok (.lushr, 1) := by decide +kernel
theorem dJ13_bitCount_95d88_18 : decode cJ13_bitCount_95d88 18 = .ok (.ldc2_w 316, 3) := by decide +kernel
theorem dJ13_bitCount_95d88_21 : decode cJ13_bitCount_95d88 21 = .ok (.land, 1) := by decide +kernel
theorem dJ13_bitCount_95d88_22 : decode cJ13_bitCount_95d88 22 = .ok (.ladd, 1) := by decide +kernel
theorem dJ13_bitCount_95d88_23 : decode cJ13_bitCount_95d88 23 = .ok (.lstore_n 0, 1) := by decide +kernel
theorem dJ13_bitCount_95d88_24 : decode cJ13_bitCount_95d88 24 = .ok (.lload_n 0, 1) := by decide +kernel
theorem dJ13_bitCount_95d88_25 : decode cJ13_bitCount_95d88 25 = .ok (.lload_n 0, 1) := by decide +kernel
theorem dJ13_bitCount_95d88_26 : decode cJ13_bitCount_95d88 26 = .ok (.iconst 4, 1) := by decide +kernel
theorem dJ13_bitCount_95d88_27 : decode cJ13_bitCount_95d88 27 = .ok (.lushr, 1) := by decide +kernel
theorem dJ13_bitCount_95d88_28 : decode cJ13_bitCount_95d88 28 = .ok (.ladd, 1) := by decide +kernel
theorem dJ13_bitCount_95d88_29 : decode cJ13_bitCount_95d88 29 = .ok (.ldc2_w 318, 3) := by decide +kernel
theorem dJ13_bitCount_95d88_32 : decode cJ13_bitCount_95d88 32 = .ok (.land, 1) := by decide +kernel
theorem dJ13_bitCount_95d88_33 : decode cJ13_bitCount_95d88 33 = .ok (.lstore_n 0, 1) := by decide +kernel
theorem dJ13_bitCount_95d88_34 : decode cJ13_bitCount_95d88 34 = .ok (.lload_n 0, 1) := by decide +kernel
theorem dJ13_bitCount_95d88_35 : decode cJ13_bitCount_95d88 35 = .ok (.lload_n 0, 1) := by decide +kernel
theorem dJ13_bitCount_95d88_36 : decode cJ13_bitCount_95d88 36 = .ok (.bipush 8, 2) := by decide +kernel
theorem dJ13_bitCount_95d88_38 : decode cJ13_bitCount_95d88 38 = .ok (.lushr, 1) := by decide +kernel
theorem dJ13_bitCount_95d88_39 : decode cJ13_bitCount_95d88 39 = .ok (.ladd, 1) := by decide +kernel
theorem dJ13_bitCount_95d88_40 : decode cJ13_bitCount_95d88 40 = .ok (.lstore_n 0, 1) := by decide +kernel
theorem dJ13_bitCount_95d88_41 : decode cJ13_bitCount_95d88 41 = .ok (.lload_n 0, 1) := by decide +kernel
theorem dJ13_bitCount_95d88_42 : decode cJ13_bitCount_95d88 42 = .ok (.lload_n 0, 1) := by decide +kernel
theorem dJ13_bitCount_95d88_43 : decode cJ13_bitCount_95d88 43 = .ok (.bipush 16, 2) := by decide +kernel
theorem dJ13_bitCount_95d88_45 : decode cJ13_bitCount_95d88 45 = .ok (.lushr, 1) := by decide +kernel
theorem dJ13_bitCount_95d88_46 : decode cJ13_bitCount_95d88 46 = .ok (.ladd, 1) := by decide +kernel
theorem dJ13_bitCount_95d88_47 : decode cJ13_bitCount_95d88 47 = .ok (.lstore_n 0, 1) := by decide +kernel
theorem dJ13_bitCount_95d88_48 : decode cJ13_bitCount_95d88 48 = .ok (.lload_n 0, 1) := by decide +kernel
theorem dJ13_bitCount_95d88_49 : decode cJ13_bitCount_95d88 49 = .ok (.lload_n 0, 1) := by decide +kernel
theorem dJ13_bitCount_95d88_50 : decode cJ13_bitCount_95d88 50 = .ok (.bipush 32, 2) := by decide +kernel
theorem dJ13_bitCount_95d88_52 : decode cJ13_bitCount_95d88 52 = .ok (.lushr, 1) := by decide +kernel
theorem dJ13_bitCount_95d88_53 : decode cJ13_bitCount_95d88 53 = .ok (.ladd, 1) := by decide +kernel
theorem dJ13_bitCount_95d88_54 : decode cJ13_bitCount_95d88 54 = .ok (.lstore_n 0, 1) := by decide +kernel
theorem dJ13_bitCount_95d88_55 : decode cJ13_bitCount_95d88 55 = .ok (.lload_n 0, 1) := by decide +kernel
theorem dJ13_bitCount_95d88_56 : decode cJ13_bitCount_95d88 56 = .ok (.l2i, 1) := by decide +kernel
theorem dJ13_bitCount_95d88_57 : decode cJ13_bitCount_95d88 57 = .ok (.bipush 127, 2) := by decide +kernel
theorem dJ13_bitCount_95d88_59 : decode cJ13_bitCount_95d88 59 = .ok (.iand, 1) := by decide +kernel
theorem dJ13_bitCount_95d88_60 : decode cJ13_bitCount_95d88 60 = .ok (.ireturn, 1) := by decide +kernel
theorem dJ9_max_7cf53_0 : decode cJ9_max_7cf53 0 = .ok (.iload_n 0, 1) := by decide +kernel
theorem dJ9_max_7cf53_1 : decode cJ9_max_7cf53 1 = .ok (.iload_n 1, 1) := by decide +kernel
theorem dJ9_max_7cf53_2 : decode cJ9_max_7cf53 2 = .ok (.if_icmp .lt 7, 3) := by decide +kernel
theorem dJ9_max_7cf53_5 : decode cJ9_max_7cf53 5 = .ok (.iload_n 0, 1) := by decide +kernel
theorem dJ9_max_7cf53_6 : decode cJ9_max_7cf53 6 = .ok (.goto 4, 3) := by decide +kernel
theorem dJ9_max_7cf53_9 : decode cJ9_max_7cf53 9 = .ok (.iload_n 1, 1) := by decide +kernel
theorem dJ9_max_7cf53_10 : decode cJ9_max_7cf53 10 = .ok (.ireturn, 1) := by decide +kernel
theorem dJ9_min_7cf53_0 : decode cJ9_min_7cf53 0 = .ok (.iload_n 0, 1) := by decide +kernel
theorem dJ9_min_7cf53_1 : decode cJ9_min_7cf53 1 = .ok (.iload_n 1, 1) := by decide +kernel
theorem dJ9_min_7cf53_2 : decode cJ9_min_7cf53 2 = .ok (.if_icmp .gt 7, 3) := by decide +kernel
theorem dJ9_min_7cf53_5 : decode cJ9_min_7cf53 5 = .ok (.iload_n 0, 1) := by decide +kernel
theorem dJ9_min_7cf53_6 : decode cJ9_min_7cf53 6 = .ok (.goto 4, 3) := by decide +kernel
theorem dJ9_min_7cf53_9 : decode cJ9_min_7cf53 9 = .ok (.iload_n 1, 1) := by decide +kernel
theorem dJ9_min_7cf53_10 : decode cJ9_min_7cf53 10 = .ok (.ireturn, 1) := by decide +kernel
