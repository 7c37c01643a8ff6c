theorem dX8_minutes_43 : decode cX8_minutes 43 = .ok (.istore_n 2, 1) := by decide +kernel
theorem dX8_minutes_44 : decode cX8_minutes 44 = .ok (.iload_n 2, 1) := by decide +kernel
theorem dX8_minutes_45 : decode cX8_minutes 45 = .ok (.iload_n 1, 1) := by decide +kernel
theorem dX8_minutes_46 : decode cX8_minutes 46 = .ok (.if_icmp .ge 18, 3) := by decide +kernel
theorem dX8_minutes_49 : decode cX8_minutes 49 = .ok (.aload_n 0, 1) := by decide +kernel
theorem dX8_minutes_50 : decode cX8_minutes 50 = .ok (.invokevirtual 183, 3) := by decide +kernel
theorem dX8_minutes_53 : decode cX8_minutes 53 = .ok (.aload_n 0, 1) := by decide +kernel
theorem dX8_minutes_54 : decode cX8_minutes 54 = .ok (.iconst 0, 1) := by decide +kernel
theorem dX8_minutes_55 : decode cX8_minutes 55 = .ok (.invokevirtual 186, 3) := by decide +kernel
theorem dX8_minutes_58 : decode cX8_minutes 58 = .ok (.iinc 2 1, 3) := by decide +kernel
theorem dX8_minutes_61 : decode cX8_minutes 61 = .ok (.goto (-17), 3) := by decide +kernel
theorem dX8_minutes_64 : decode cX8_minutes 64 = .ok (.aload_n 0, 1) := by decide +kernel
theorem dX8_minutes_65 : decode cX8_minutes 65 = .ok (.getfield 7, 3) := by decide +kernel
theorem dX8_minutes_68 : decode cX8_minutes 68 = .ok (.iconst 1, 1) := by decide +kernel
theorem dX8_minutes_69 : decode cX8_minutes 69 = .ok (.iaload, 1) := by decide +kernel
theorem dX8_minutes_70 : decode cX8_minutes 70 = .ok (.ireturn, 1) := by decide +kernel
theorem dX8_turn_0 : decode cX8_turn 0 = .ok (.aload_n 0, 1) := by decide +kernel
theorem dX8_turn_1 : decode cX8_turn 1 = .ok (.invokevirtual 177, 3) := by decide +kernel
theorem dX8_turn_4 : decode cX8_turn 4 = .ok (.ifCond .eq 6, 3) := by decide +kernel
theorem dX8_turn_7 : decode cX8_turn 7 = .ok (.ldc 180, 2) := by decide +kernel
theorem dX8_turn_9 : decode cX8_turn 9 = .ok (.ireturn, 1) := by decide +kernel
theorem dX8_turn_10 : decode cX8_turn 10 = .ok (.iload_n 1, 1) := by decide +kernel
theorem dX8_turn_11 : decode cX8_turn 11 = .ok (.i2l, 1) := by decide +kernel
theorem dX8_turn_12 : decode cX8_turn 12 = .ok (.ldc2_w 190, 3) := by decide +kernel
theorem dX8_turn_15 : decode cX8_turn 15 = .ok (.ldc2_w 192, 3) := by decide +kernel
theorem dX8_turn_18 : decode cX8_turn 18 = .ok (.invokestatic 37, 3) := by decide +kernel
theorem dX8_turn_21 : decode cX8_turn 21 = .ok (.ifCond .ne 6, 3) := by decide +kernel
theorem dX8_turn_24 : decode cX8_turn 24 = .ok (.ldc 52, 2) := by decide +kernel
theorem dX8_turn_26 : decode cX8_turn 26 = .ok (.ireturn, 1) := by decide +kernel
theorem dX8_turn_27 : decode cX8_turn 27 = .ok (.aload_n 0, 1) := by decide +kernel
theorem dX8_turn_28 : decode cX8_turn 28 = .ok (.invokevirtual 183, 3) := by decide +kernel
theorem dX8_turn_31 : decode cX8_turn 31 = .ok (.aload_n 0, 1) := by decide +kernel
theorem dX8_turn_32 : decode cX8_turn 32 = .ok (.iconst 0, 1) := by decide +kernel
theorem dX8_turn_33 : decode cX8_turn 33 = .ok (.iload_n 1, 1) := by decide +kernel
theorem dX8_turn_34 : decode cX8_turn 34 = .ok (.invokevirtual 152, 3) := by decide +kernel
theorem dX8_turn_37 : decode cX8_turn 37 = .ok (.aload_n 0, 1) := by decide +kernel
theorem dX8_turn_38 : decode cX8_turn 38 = .ok (.getfield 7, 3) := by decide +kernel
theorem dX8_turn_41 : decode cX8_turn 41 = .ok (.iconst 1, 1) := by decide +kernel
theorem dX8_turn_42 : decode cX8_turn 42 = .ok (.iaload, 1) := by decide +kernel
theorem dX8_turn_43 : decode cX8_turn 43 = .ok (.ireturn, 1) := by decide +kernel
theorem dX8_fill_0 : decode cX8_fill 0 = .ok (.aload_n 0, 1) := by decide +kernel
theorem dX8_fill_1 : decode cX8_fill 1 = .ok (.iload_n 1, 1) := by decide +kernel
theorem dX8_fill_2 : decode cX8_fill 2 = .ok (.invokevirtual 194, 3) := by decide +kernel
theorem dX8_fill_5 : decode cX8_fill 5 = .ok (.ifCond .eq 15, 3) := by decide +kernel
theorem dX8_fill_8 : decode cX8_fill 8 = .ok (.iload_n 2, 1) := by decide +kernel
theorem dX8_fill_9 : decode cX8_fill 9 = .ok (.i2l, 1) := by decide +kernel
theorem dX8_fill_10 : decode cX8_fill 10 = .ok (.lconst 1, 1) := by decide +kernel
theorem dX8_fill_11 : decode cX8_fill 11 = .ok (.ldc2_w 197, 3) := by decide +kernel
theorem dX8_fill_14 : decode cX8_fill 14 = .ok (.invokestatic 37, 3) := by decide +kernel
theorem dX8_fill_17 : decode cX8_fill 17 = .ok (.ifCond .ne 6, 3) := by decide +kernel
theorem dX8_fill_20 : decode cX8_fill 20 = .ok (.ldc 52, 2) := by decide +kernel
theorem dX8_fill_22 : decode cX8_fill 22 = .ok (.ireturn, 1) := by decide +kernel
theorem dX8_fill_23 : decode cX8_fill 23 = .ok (.aload_n 0, 1) := by decide +kernel
theorem dX8_fill_24 : decode cX8_fill 24 = .ok (.getfield 7, 3) := by decide +kernel
theorem dX8_fill_27 : decode cX8_fill 27 = .ok (.bipush 27, 2) := by decide +kernel
theorem dX8_fill_29 : decode cX8_fill 29 = .ok (.iload_n 1, 1) := by decide +kernel
theorem dX8_fill_30 : decode cX8_fill 30 = .ok (.iadd, 1) := by decide +kernel
theorem dX8_fill_31 : decode cX8_fill 31 = .ok (.iaload, 1) := by decide +kernel
theorem dX8_fill_32 : decode cX8_fill 32 = .ok (.iload_n 2, 1) := by decide +kernel
theorem dX8_fill_33 : decode cX8_fill 33 = .ok (.iadd, 1) := by decide +kernel
theorem dX8_fill_34 : decode cX8_fill 34 = .ok (.bipush 99, 2) := by decide +kernel
theorem dX8_fill_36 : decode cX8_fill 36 = .ok (.if_icmp .le 6, 3) := by decide +kernel
theorem dX8_fill_39 : decode cX8_fill 39 = .ok (.ldc 69, 2) := by decide +kernel
theorem dX8_fill_41 : decode cX8_fill 41 = .ok (.ireturn, 1) := by decide +kernel
theorem dX8_fill_42 : decode cX8_fill 42 = .ok (.aload_n 0, 1) := by decide +kernel
theorem dX8_fill_43 : decode cX8_fill 43 = .ok (.invokevirtual 183, 3) := by decide +kernel
theorem dX8_fill_46 : decode cX8_fill 46 = .ok (.aload_n 0, 1) := by decide +kernel
theorem dX8_fill_47 : decode cX8_fill 47 = .ok (.getfield 7, 3) := by decide +kernel
theorem dX8_fill_50 : decode cX8_fill 50 = .ok (.bipush 27, 2) := by decide +kernel
theorem dX8_fill_52 : decode cX8_fill 52 = .ok (.iload_n 1, 1) := by decide +kernel
theorem dX8_fill_53 : decode cX8_fill 53 = .ok (.iadd, 1) := by decide +kernel
theorem dX8_fill_54 : decode cX8_fill 54 = .ok (.dup2, 1) := by decide +kernel
theorem dX8_fill_55 : decode cX8_fill 55 = .ok (.iaload, 1) := by decide +kernel
theorem dX8_fill_56 : decode cX8_fill 56 = .ok (.iload_n 2, 1) := by decide +kernel
theorem dX8_fill_57 : decode cX8_fill 57 = .ok (.iadd, 1) := by decide +kernel
theorem dX8_fill_58 : decode cX8_fill 58 = .ok (.iastore, 1) := by decide +kernel
theorem dX8_fill_59 : decode cX8_fill 59 = .ok (.aload_n 0, 1) := by decide +kernel
theorem dX8_fill_60 : decode cX8_fill 60 = .ok (.getfield 7, 3) := by decide +kernel
theorem dX8_fill_63 : decode cX8_fill 63 = .ok (.bipush 27, 2) := by decide +kernel
theorem dX8_fill_65 : decode cX8_fill 65 = .ok (.iload_n 1, 1) := by decide +kernel
theorem dX8_fill_66 : decode cX8_fill 66 = .ok (.iadd, 1) := by decide +kernel
theorem dX8_fill_67 : decode cX8_fill 67 = .ok (.iaload, 1) := by decide +kernel
theorem dX8_fill_68 : decode cX8_fill 68 = .ok (.ireturn, 1) := by decide +kernel
theorem dX8_swaps_0 : decode cX8_swaps 0 = .ok (.aload_n 0, 1) := by decide +kernel
theorem dX8_swaps_1 : decode cX8_swaps 1 = .ok (.invokevirtual 183, 3) := by decide +kernel
theorem dX8_swaps_4 : decode cX8_swaps 4 = .ok (.aload_n 0, 1) := by decide +kernel
theorem dX8_swaps_5 : decode cX8_swaps 5 = .ok (.getfield 7, 3) := by decide +kernel
theorem dX8_swaps_8 : decode cX8_swaps 8 = .ok (.iload_n 1, 1) := by decide +kernel
theorem dX8_swaps_9 : decode cX8_swaps 9 = .ok (.iload_n 2, 1) := by decide +kernel
theorem dX8_swaps_10 : decode cX8_swaps 10 = .ok (.iadd, 1) := by decide +kernel
theorem dX8_swaps_11 : decode cX8_swaps 11 = .ok (.iaload, 1) := by decide +kernel
theorem dX8_swaps_12 : decode cX8_swaps 12 = .ok (.istore 4, 2) := by decide +kernel
theorem dX8_swaps_14 : decode cX8_swaps 14 = .ok (.aload_n 0, 1) := by decide +kernel
theorem dX8_swaps_15 : decode cX8_swaps 15 = .ok (.getfield 7, 3) := by decide +kernel
theorem dX8_swaps_18 : decode cX8_swaps 18 = .ok (.iload_n 1, 1) := by decide +kernel
theorem dX8_swaps_19 : decode cX8_swaps 19 = .ok (.iload_n 2, 1) := by decide +kernel
theorem dX8_swaps_20 : decode cX8_swaps 20 = .ok (.iadd, 1) := by decide +kernel
theorem dX8_swaps_21 : decode cX8_swaps 21 = .ok (.aload_n 0, 1) := by decide +kernel
theorem dX8_swaps_22 : decode cX8_swaps 22 = .ok (.getfield 7, 3) := by decide +kernel
theorem dX8_swaps_25 : decode cX8_swaps 25 = .ok (.iload_n 1, 1) := by decide +kernel
theorem dX8_swaps_26 : decode cX8_swaps 26 = .ok (.iload_n 3, 1) := by decide +kernel
theorem dX8_swaps_27 : decode cX8_swaps 27 = .ok (.iadd, 1) := by decide +kernel
theorem dX8_swaps_28 : decode cX8_swaps 28 = .ok (.iaload, 1) := by decide +kernel
theorem dX8_swaps_29 : decode cX8_swaps 29 = .ok (.iastore, 1) := by decide +kernel
theorem dX8_swaps_30 : decode cX8_swaps 30 = .ok (.aload_n 0, 1) := by decide +kernel
theorem dX8_swaps_31 : decode cX8_swaps 31 = .ok (.getfield 7, 3) := by decide +kernel
theorem dX8_swaps_34 : decode cX8_swaps 34 = .ok (.iload_n 1, 1) := by decide +kernel
theorem dX8_swaps_35 : decode cX8_swaps 35 = .ok (.iload_n 3, 1) := by decide +kernel
theorem dX8_swaps_36 : decode cX8_swaps 36 = .ok (.iadd, 1) := by decide +kernel
theorem dX8_swaps_37 : decode cX8_swaps 37 = .ok (.iload 4, 2) := by decide +kernel
theorem dX8_swaps_39 : decode cX8_swaps 39 = .ok (.iastore, 1) := by decide +kernel
theorem dX8_swaps_40 : decode cX8_swaps 40 = .ok (.aload_n 0, 1) := by decide +kernel
theorem dX8_swaps_41 : decode cX8_swaps 41 = .ok (.getfield 7, 3) := by decide +kernel
theorem dX8_swaps_44 : decode cX8_swaps 44 = .ok (.iload_n 1, 1) := by decide +kernel
theorem dX8_swaps_45 : decode cX8_swaps 45 = .ok (.iload_n 2, 1) := by decide +kernel
theorem dX8_swaps_46 : decode cX8_swaps 46 = .ok (.iadd, 1) := by decide +kernel
theorem dX8_swaps_47 : decode cX8_swaps 47 = .ok (.iaload, 1) := by decide +kernel
theorem dX8_swaps_48 : decode cX8_swaps 48 = .ok (.ireturn, 1) := by decide +kernel
theorem dX8_change_0 : decode cX8_change 0 = .ok (.aload_n 0, 1) := by decide +kernel
theorem dX8_change_1 : decode cX8_change 1 = .ok (.iload_n 1, 1) := by decide +kernel
theorem dX8_change_2 : decode cX8_change 2 = .ok (.invokevirtual 194, 3) := by decide +kernel
theorem dX8_change_5 : decode cX8_change 5 = .ok (.ifCond .eq 27, 3) := by decide +kernel
theorem dX8_change_8 : decode cX8_change 8 = .ok (.aload_n 0, 1) := by decide +kernel
theorem dX8_change_9 : decode cX8_change 9 = .ok (.iload_n 2, 1) := by decide +kernel
theorem dX8_change_10 : decode cX8_change 10 = .ok (.invokevirtual 194, 3) := by decide +kernel
theorem dX8_change_13 : decode cX8_change 13 = .ok (.ifCond .eq 19, 3) := by decide +kernel
theorem dX8_change_16 : decode cX8_change 16 = .ok (.iload_n 1, 1) := by decide +kernel
theorem dX8_change_17 : decode cX8_change 17 = .ok (.iload_n 2, 1) := by decide +kernel
theorem dX8_change_18 : decode cX8_change 18 = .ok (.if_icmp .eq 14, 3) := by decide +kernel
theorem dX8_change_21 : decode cX8_change 21 = .ok (.aload_n 0, 1) := by decide +kernel
theorem dX8_change_22 : decode cX8_change 22 = .ok (.bipush 21, 2) := by decide +kernel
theorem dX8_change_24 : decode cX8_change 24 = .ok (.iload_n 1, 1) := by decide +kernel
theorem dX8_change_25 : decode cX8_change 25 = .ok (.iload_n 2, 1) := by decide +kernel
theorem dX8_change_26 : decode cX8_change 26 = .ok (.invokevirtual 199, 3) := by decide +kernel
theorem dX8_change_29 : decode cX8_change 29 = .ok (.goto 5, 3) := by decide +kernel
theorem dX8_change_32 : decode cX8_change 32 = .ok (.ldc 52, 2) := by decide +kernel
theorem dX8_change_34 : decode cX8_change 34 = .ok (.ireturn, 1) := by decide +kernel
theorem dX8_lay_0 : decode cX8_lay 0 = .ok (.aload_n 0, 1) := by decide +kernel
theorem dX8_lay_1 : decode cX8_lay 1 = .ok (.iload_n 1, 1) := by decide +kernel
theorem dX8_lay_2 : decode cX8_lay 2 = .ok (.invokevirtual 194, 3) := by decide +kernel
theorem dX8_lay_5 : decode cX8_lay 5 = .ok (.ifCond .eq 27, 3) := by decide +kernel
theorem dX8_lay_8 : decode cX8_lay 8 = .ok (.aload_n 0, 1) := by decide +kernel
theorem dX8_lay_9 : decode cX8_lay 9 = .ok (.iload_n 2, 1) := by decide +kernel
theorem dX8_lay_10 : decode cX8_lay 10 = .ok (.invokevirtual 194, 3) := by decide +kernel
theorem dX8_lay_13 : decode cX8_lay 13 = .ok (.ifCond .eq 19, 3) := by decide +kernel
theorem dX8_lay_16 : decode cX8_lay 16 = .ok (.iload_n 1, 1) := by decide +kernel
theorem dX8_lay_17 : decode cX8_lay 17 = .ok (.iload_n 2, 1) := by decide +kernel
theorem dX8_lay_18 : decode cX8_lay 18 = .ok (.if_icmp .eq 14, 3) := by decide +kernel
theorem dX8_lay_21 : decode cX8_lay 21 = .ok (.aload_n 0, 1) := by decide +kernel
theorem dX8_lay_22 : decode cX8_lay 22 = .ok (.bipush 33, 2) := by decide +kernel
theorem dX8_lay_24 : decode cX8_lay 24 = .ok (.iload_n 1, 1) := by decide +kernel
theorem dX8_lay_25 : decode cX8_lay 25 = .ok (.iload_n 2, 1) := by decide +kernel
theorem dX8_lay_26 : decode cX8_lay 26 = .ok (.invokevirtual 199, 3) := by decide +kernel
theorem dX8_lay_29 : decode cX8_lay 29 = .ok (.goto 5, 3) := by decide +kernel
theorem dX8_lay_32 : decode cX8_lay 32 = .ok (.ldc 52, 2) := by decide +kernel
theorem dX8_lay_34 : decode cX8_lay 34 = .ok (.ireturn, 1) := by decide +kernel
theorem dX8_undo_0 : decode cX8_undo 0 = .ok (.aload_n 0, 1) := by decide +kernel
theorem dX8_undo_1 : decode cX8_undo 1 = .ok (.getfield 146, 3) := by decide +kernel
theorem dX8_undo_4 : decode cX8_undo 4 = .ok (.ifCond .ne 6, 3) := by decide +kernel
theorem dX8_undo_7 : decode cX8_undo 7 = .ok (.ldc 180, 2) := by decide +kernel
theorem dX8_undo_9 : decode cX8_undo 9 = .ok (.ireturn, 1) := by decide +kernel
theorem dX8_undo_10 : decode cX8_undo 10 = .ok (.aload_n 0, 1) := by decide +kernel
theorem dX8_undo_11 : decode cX8_undo 11 = .ok (.dup, 1) := by decide +kernel
theorem dX8_undo_12 : decode cX8_undo 12 = .ok (.getfield 146, 3) := by decide +kernel
theorem dX8_undo_15 : decode cX8_undo 15 = .ok (.iconst 1, 1) := by decide +kernel
theorem dX8_undo_16 : decode cX8_undo 16 = .ok (.isub, 1) := by decide +kernel
theorem dX8_undo_17 : decode cX8_undo 17 = .ok (.putfield 146, 3) := by decide +kernel
theorem dX8_undo_20 : decode cX8_undo 20 = .ok (.aload_n 0, 1) := by decide +kernel
theorem dX8_undo_21 : decode cX8_undo 21 = .ok (.bipush 117, 2) := by decide +kernel
theorem dX8_undo_23 : decode cX8_undo 23 = .ok (.bipush 39, 2) := by decide +kernel
theorem dX8_undo_25 : decode cX8_undo 25 = .ok (.aload_n 0, 1) := by decide +kernel
theorem dX8_undo_26 : decode cX8_undo 26 = .ok (.getfield 146, 3) := by decide +kernel
theorem dX8_undo_29 : decode cX8_undo 29 = .ok (.imul, 1) := by decide +kernel
theorem dX8_undo_30 : decode cX8_undo 30 = .ok (.iadd, 1) := by decide +kernel
theorem dX8_undo_31 : decode cX8_undo 31 = .ok (.iconst 0, 1) := by decide +kernel
theorem dX8_undo_32 : decode cX8_undo 32 = .ok (.invokevirtual 142, 3) := by decide +kernel
theorem dX8_undo_35 : decode cX8_undo 35 = .ok (.aload_n 0, 1) := by decide +kernel
theorem dX8_undo_36 : decode cX8_undo 36 = .ok (.getfield 146, 3) := by decide +kernel
theorem dX8_undo_39 : decode cX8_undo 39 = .ok (.ireturn, 1) := by decide +kernel
theorem dX8_guest_0 : decode cX8_guest 0 = .ok (.aload_n 0, 1) := by decide +kernel
theorem dX8_guest_1 : decode cX8_guest 1 = .ok (.iload_n 1, 1) := by decide +kernel
theorem dX8_guest_2 : decode cX8_guest 2 = .ok (.invokevirtual 194, 3) := by decide +kernel
theorem dX8_guest_5 : decode cX8_guest 5 = .ok (.ifCond .eq 15, 3) := by decide +kernel
theorem dX8_guest_8 : decode cX8_guest 8 = .ok (.iload_n 2, 1) := by decide +kernel
theorem dX8_guest_9 : decode cX8_guest 9 = .ok (.i2l, 1) := by decide +kernel
theorem dX8_guest_10 : decode cX8_guest 10 = .ok (.lconst 0, 1) := by decide +kernel
theorem dX8_guest_11 : decode cX8_guest 11 = .ok (.ldc2_w 203, 3) := by decide +kernel
theorem dX8_guest_14 : decode cX8_guest 14 = .ok (.invokestatic 37, 3) := by decide +kernel
theorem dX8_guest_17 : decode cX8_guest 17 = .ok (.ifCond .ne 6, 3) := by decide +kernel
theorem dX8_guest_20 : decode cX8_guest 20 = .ok (.ldc 52, 2) := by decide +kernel
theorem dX8_guest_22 : decode cX8_guest 22 = .ok (.ireturn, 1) := by decide +kernel
theorem dX8_guest_23 : decode cX8_guest 23 = .ok (.iload_n 2, 1) := by decide +kernel
theorem dX8_guest_24 : decode cX8_guest 24 = .ok (.ifCond .ne 15, 3) := by decide +kernel
theorem dX8_guest_27 : decode cX8_guest 27 = .ok (.aload_n 0, 1) := by decide +kernel
theorem dX8_guest_28 : decode cX8_guest 28 = .ok (.getfield 7, 3) := by decide +kernel
theorem dX8_guest_31 : decode cX8_guest 31 = .ok (.bipush 21, 2) := by decide +kernel
theorem dX8_guest_33 : decode cX8_guest 33 = .ok (.iload_n 1, 1) := by decide +kernel
theorem dX8_guest_34 : decode cX8_guest 34 = .ok (.iadd, 1) := by decide +kernel
theorem dX8_guest_35 : decode cX8_guest 35 = .ok (.iaload, 1) := by decide +kernel
theorem dX8_guest_36 : decode cX8_guest 36 = .ok (.goto 43, 3) := by decide +kernel
theorem dX8_guest_39 : decode cX8_guest 39 = .ok (.iload_n 2, 1) := by decide +kernel
theorem dX8_guest_40 : decode cX8_guest 40 = .ok (.iconst 1, 1) := by decide +kernel
theorem dX8_guest_41 : decode cX8_guest 41 = .ok (.if_icmp .ne 15, 3) := by decide +kernel
theorem dX8_guest_44 : decode cX8_guest 44 = .ok (.aload_n 0, 1) := by decide +kernel
theorem dX8_guest_45 : decode cX8_guest 45 = .ok (.getfield 7, 3) := by decide +kernel
theorem dX8_guest_48 : decode cX8_guest 48 = .ok (.bipush 9, 2) := by decide +kernel
theorem dX8_guest_50 : decode cX8_guest 50 = .ok (.iload_n 1, 1) := by decide +kernel
theorem dX8_guest_51 : decode cX8_guest 51 = .ok (.iadd, 1) := by decide +kernel
theorem dX8_guest_52 : decode cX8_guest 52 = .ok (.iaload, 1) := by decide +kernel
theorem dX8_guest_53 : decode cX8_guest 53 = .ok (.goto 26, 3) := by decide +kernel
theorem dX8_guest_56 : decode cX8_guest 56 = .ok (.iload_n 2, 1) := by decide +kernel
theorem dX8_guest_57 : decode cX8_guest 57 = .ok (.iconst 2, 1) := by decide +kernel
theorem dX8_guest_58 : decode cX8_guest 58 = .ok (.if_icmp .ne 15, 3) := by decide +kernel
theorem dX8_guest_61 : decode cX8_guest 61 = .ok (.aload_n 0, 1) := by decide +kernel
theorem dX8_guest_62 : decode cX8_guest 62 = .ok (.getfield 7, 3) := by decide +kernel
theorem dX8_guest_65 : decode cX8_guest 65 = .ok (.bipush 15, 2) := by decide +kernel
theorem dX8_guest_67 : decode cX8_guest 67 = .ok (.iload_n 1, 1) := by decide +kernel
theorem dX8_guest_68 : decode cX8_guest 68 = .ok (.iadd, 1) := by decide +kernel
theorem dX8_guest_69 : decode cX8_guest 69 = .ok (.iaload, 1) := by decide +kernel
theorem dX8_guest_70 : decode cX8_guest 70 = .ok (.goto 9, 3) := by decide +kernel
theorem dX8_guest_73 : decode cX8_guest 73 = .ok (.aload_n 0, 1) := by decide +kernel
theorem dX8_guest_74 : decode cX8_guest 74 = .ok (.iconst 0, 1) := by decide +kernel
theorem dX8_guest_75 : decode cX8_guest 75 = .ok (.iload_n 1, 1) := by decide +kernel
theorem dX8_guest_76 : decode cX8_guest 76 = .ok (.invokevirtual 165, 3) := by decide +kernel
theorem dX8_guest_79 : decode cX8_guest 79 = .ok (.ireturn, 1) := by decide +kernel
theorem dX8_dish_0 : decode cX8_dish 0 = .ok (.aload_n 0, 1) := by decide +kernel
theorem dX8_dish_1 : decode cX8_dish 1 = .ok (.iload_n 1, 1) := by decide +kernel
theorem dX8_dish_2 : decode cX8_dish 2 = .ok (.invokevirtual 194, 3) := by decide +kernel
theorem dX8_dish_5 : decode cX8_dish 5 = .ok (.ifCond .eq 13, 3) := by decide +kernel
theorem dX8_dish_8 : decode cX8_dish 8 = .ok (.iload_n 2, 1) := by decide +kernel
theorem dX8_dish_9 : decode cX8_dish 9 = .ok (.i2l, 1) := by decide +kernel
theorem dX8_dish_10 : decode cX8_dish 10 = .ok (.lconst 0, 1) := by decide +kernel
theorem dX8_dish_11 : decode cX8_dish 11 = .ok (.lconst 1, 1) := by decide +kernel
theorem dX8_dish_12 : decode cX8_dish 12 = .ok (.invokestatic 37, 3) := by decide +kernel
theorem dX8_dish_15 : decode cX8_dish 15 = .ok (.ifCond .ne 6, 3) := by decide +kernel
theorem dX8_dish_18 : decode cX8_dish 18 = .ok (.ldc 52, 2) := by decide +kernel
theorem dX8_dish_20 : decode cX8_dish 20 = .ok (.ireturn, 1) := by decide +kernel
theorem dX8_dish_21 : decode cX8_dish 21 = .ok (.iload_n 2, 1) := by decide +kernel
theorem dX8_dish_22 : decode cX8_dish 22 = .ok (.ifCond .ne 15, 3) := by decide +kernel
theorem dX8_dish_25 : decode cX8_dish 25 = .ok (.aload_n 0, 1) := by decide +kernel
theorem dX8_dish_26 : decode cX8_dish 26 = .ok (.getfield 7, 3) := by decide +kernel
theorem dX8_dish_29 : decode cX8_dish 29 = .ok (.bipush 27, 2) := by decide +kernel
theorem dX8_dish_31 : decode cX8_dish 31 = .ok (.iload_n 1, 1) := by decide +kernel
theorem dX8_dish_32 : decode cX8_dish 32 = .ok (.iadd, 1) := by decide +kernel
theorem dX8_dish_33 : decode cX8_dish 33 = .ok (.iaload, 1) := by decide +kernel
theorem dX8_dish_34 : decode cX8_dish 34 = .ok (.goto 12, 3) := by decide +kernel
theorem dX8_dish_37 : decode cX8_dish 37 = .ok (.aload_n 0, 1) := by decide +kernel
theorem dX8_dish_38 : decode cX8_dish 38 = .ok (.getfield 7, 3) := by decide +kernel
theorem dX8_dish_41 : decode cX8_dish 41 = .ok (.bipush 33, 2) := by decide +kernel
theorem dX8_dish_43 : decode cX8_dish 43 = .ok (.iload_n 1, 1) := by decide +kernel
theorem dX8_dish_44 : decode cX8_dish 44 = .ok (.iadd, 1) := by decide +kernel
theorem dX8_dish_45 : decode cX8_dish 45 = .ok (.iaload, 1) := by decide +kernel
theorem dX8_dish_46 : decode cX8_dish 46 = .ok (.ireturn, 1) := by decide +kernel
theorem dX8_goMinutes_0 : decode cX8_goMinutes 0 = .ok (.aload_n 0, 1) := by decide +kernel
theorem dX8_goMinutes_1 : decode cX8_goMinutes 1 = .ok (.iconst 0, 1) := by decide +kernel
theorem dX8_goMinutes_2 : decode cX8_goMinutes 2 = .ok (.putfield 205, 3) := by decide +kernel
theorem dX8_goMinutes_5 : decode cX8_goMinutes 5 = .ok (.iconst 0, 1) := by decide +kernel
theorem dX8_goMinutes_6 : decode cX8_goMinutes 6 = .ok (.istore_n 2, 1) := by decide +kernel
theorem dX8_goMinutes_7 : decode cX8_goMinutes 7 = .ok (.iload_n 2, 1) := by decide +kernel
theorem dX8_goMinutes_8 : decode cX8_goMinutes 8 = .ok (.iload_n 1, 1) := by decide +kernel
theorem dX8_goMinutes_9 : decode cX8_goMinutes 9 = .ok (.if_icmp .ge 29, 3) := by decide +kernel
theorem dX8_goMinutes_12 : decode cX8_goMinutes 12 = .ok (.aload_n 0, 1) := by decide +kernel
theorem dX8_goMinutes_13 : decode cX8_goMinutes 13 = .ok (.sipush 1053, 3) := by decide +kernel
theorem dX8_goMinutes_16 : decode cX8_goMinutes 16 = .ok (.invokevirtual 186, 3) := by decide +kernel
theorem dX8_goMinutes_19 : decode cX8_goMinutes 19 = .ok (.aload_n 0, 1) := by decide +kernel
theorem dX8_goMinutes_20 : decode cX8_goMinutes 20 = .ok (.dup, 1) := by decide +kernel
theorem dX8_goMinutes_21 : decode cX8_goMinutes 21 = .ok (.getfield 205, 3) := by decide +kernel
theorem dX8_goMinutes_24 : decode cX8_goMinutes 24 = .ok (.aload_n 0, 1) := by decide +kernel
theorem dX8_goMinutes_25 : decode cX8_goMinutes 25 = .ok (.getfield 149, 3) := by decide +kernel
theorem dX8_goMinutes_28 : decode cX8_goMinutes 28 = .ok (.iadd, 1) := by decide +kernel
theorem dX8_goMinutes_29 : decode cX8_goMinutes 29 = .ok (.putfield 205, 3) := by decide +kernel
theorem dX8_goMinutes_32 : decode cX8_goMinutes 32 = .ok (.iinc 2 1, 3) := by decide +kernel
theorem dX8_goMinutes_35 : decode cX8_goMinutes 35 = .ok (.goto (-28), 3) := by decide +kernel
theorem dX8_goMinutes_38 : decode cX8_goMinutes 38 = .ok (.return_, 1) := by decide +kernel
theorem dX8_isLater_0 : decode cX8_isLater 0 = .ok (.iload_n 0, 1) := by decide +kernel
theorem dX8_isLater_1 : decode cX8_isLater 1 = .ok (.i2l, 1) := by decide +kernel
theorem dX8_isLater_2 : decode cX8_isLater 2 = .ok (.lconst 0, 1) := by decide +kernel
theorem dX8_isLater_3 : decode cX8_isLater 3 = .ok (.ldc2_w 208, 3) := by decide +kernel
theorem dX8_isLater_6 : decode cX8_isLater 6 = .ok (.invokestatic 37, 3) := by decide +kernel
theorem dX8_isLater_9 : decode cX8_isLater 9 = .ok (.ireturn, 1) := by decide +kernel
theorem dX8_ahead_0 : decode cX8_ahead 0 = .ok (.aload_n 0, 1) := by decide +kernel
theorem dX8_ahead_1 : decode cX8_ahead 1 = .ok (.invokevirtual 177, 3) := by decide +kernel
theorem dX8_ahead_4 : decode cX8_ahead 4 = .ok (.ifCond .eq 6, 3) := by decide +kernel
theorem dX8_ahead_7 : decode cX8_ahead 7 = .ok (.ldc 180, 2) := by decide +kernel
theorem dX8_ahead_9 : decode cX8_ahead 9 = .ok (.ireturn, 1) := by decide +kernel
theorem dX8_ahead_10 : decode cX8_ahead 10 = .ok (.iload_n 1, 1) := by decide +kernel
theorem dX8_ahead_11 : decode cX8_ahead 11 = .ok (.invokestatic 210, 3) := by decide +kernel
theorem dX8_ahead_14 : decode cX8_ahead 14 = .ok (.ifCond .eq 13, 3) := by decide +kernel
theorem dX8_ahead_17 : decode cX8_ahead 17 = .ok (.iload_n 2, 1) := by decide +kernel
theorem dX8_ahead_18 : decode cX8_ahead 18 = .ok (.i2l, 1) := by decide +kernel
theorem dX8_ahead_19 : decode cX8_ahead 19 = .ok (.lconst 0, 1) := by decide +kernel
theorem dX8_ahead_20 : decode cX8_ahead 20 = .ok (.lconst 1, 1) := by decide +kernel
theorem dX8_ahead_21 : decode cX8_ahead 21 = .ok (.invokestatic 37, 3) := by decide +kernel
theorem dX8_ahead_24 : decode cX8_ahead 24 = .ok (.ifCond .ne 6, 3) := by decide +kernel
theorem dX8_ahead_27 : decode cX8_ahead 27 = .ok (.ldc 52, 2) := by decide +kernel
theorem dX8_ahead_29 : decode cX8_ahead 29 = .ok (.ireturn, 1) := by decide +kernel
theorem dX8_ahead_30 : decode cX8_ahead 30 = .ok (.aload_n 0, 1) := by decide +kernel
theorem dX8_ahead_31 : decode cX8_ahead 31 = .ok (.iconst 0, 1) := by decide +kernel
theorem dX8_ahead_32 : decode cX8_ahead 32 = .ok (.sipush 1053, 3) := by decide +kernel
theorem dX8_ahead_35 : decode cX8_ahead 35 = .ok (.invokevirtual 142, 3) := by decide +kernel
theorem dX8_ahead_38 : decode cX8_ahead 38 = .ok (.aload_n 0, 1) := by decide +kernel
theorem dX8_ahead_39 : decode cX8_ahead 39 = .ok (.iload_n 1, 1) := by decide +kernel
theorem dX8_ahead_40 : decode cX8_ahead 40 = .ok (.invokevirtual 213, 3) := by decide +kernel
theorem dX8_ahead_43 : decode cX8_ahead 43 = .ok (.iload_n 2, 1) := by decide +kernel
theorem dX8_ahead_44 : decode cX8_ahead 44 = .ok (.ifCond .ne 14, 3) := by decide +kernel
theorem dX8_ahead_47 : decode cX8_ahead 47 = .ok (.aload_n 0, 1) := by decide +kernel
theorem dX8_ahead_48 : decode cX8_ahead 48 = .ok (.getfield 7, 3) := by decide +kernel
theorem dX8_ahead_51 : decode cX8_ahead 51 = .ok (.sipush 1054, 3) := by decide +kernel
theorem dX8_ahead_54 : decode cX8_ahead 54 = .ok (.iaload, 1) := by decide +kernel
theorem dX8_ahead_55 : decode cX8_ahead 55 = .ok (.goto 7, 3) := by decide +kernel
theorem dX8_ahead_58 : decode cX8_ahead 58 = .ok (.aload_n 0, 1) := by decide +kernel
theorem dX8_ahead_59 : decode cX8_ahead 59 = .ok (.getfield 205, 3) := by decide +kernel
theorem dX8_ahead_62 : decode cX8_ahead 62 = .ok (.ireturn, 1) := by decide +kernel
theorem dX8_dishAhead_0 : decode cX8_dishAhead 0 = .ok (.aload_n 0, 1) := by decide +kernel
theorem dX8_dishAhead_1 : decode cX8_dishAhead 1 = .ok (.iload_n 1, 1) := by decide +kernel
theorem dX8_dishAhead_2 : decode cX8_dishAhead 2 = .ok (.invokevirtual 194, 3) := by decide +kernel
theorem dX8_dishAhead_5 : decode cX8_dishAhead 5 = .ok (.ifCond .eq 10, 3) := by decide +kernel
theorem dX8_dishAhead_8 : decode cX8_dishAhead 8 = .ok (.iload_n 2, 1) := by decide +kernel
theorem dX8_dishAhead_9 : decode cX8_dishAhead 9 = .ok (.invokestatic 210, 3) := by decide +kernel
theorem dX8_dishAhead_12 : decode cX8_dishAhead 12 = .ok (.ifCond .ne 6, 3) := by decide +kernel
theorem dX8_dishAhead_15 : decode cX8_dishAhead 15 = .ok (.ldc 52, 2) := by decide +kernel
theorem dX8_dishAhead_17 : decode cX8_dishAhead 17 = .ok (.ireturn, 1) := by decide +kernel
theorem dX8_dishAhead_18 : decode cX8_dishAhead 18 = .ok (.aload_n 0, 1) := by decide +kernel
theorem dX8_dishAhead_19 : decode cX8_dishAhead 19 = .ok (.iconst 0, 1) := by decide +kernel
theorem dX8_dishAhead_20 : decode cX8_dishAhead 20 = .ok (.sipush 1053, 3) := by decide +kernel
theorem dX8_dishAhead_23 : decode cX8_dishAhead 23 = .ok (.invokevirtual 142, 3) := by decide +kernel
theorem dX8_dishAhead_26 : decode cX8_dishAhead 26 = .ok (.aload_n 0, 1) := by decide +kernel
theorem dX8_dishAhead_27 : decode cX8_dishAhead 27 = .ok (.iload_n 2, 1) := by decide +kernel
theorem dX8_dishAhead_28 : decode cX8_dishAhead 28 = .ok (.invokevirtual 213, 3) := by decide +kernel
theorem dX8_dishAhead_31 : decode cX8_dishAhead 31 = .ok (.aload_n 0, 1) := by decide +kernel
theorem dX8_dishAhead_32 : decode cX8_dishAhead 32 = .ok (.getfield 7, 3) := by decide +kernel
theorem dX8_dishAhead_35 : decode cX8_dishAhead 35 = .ok (.sipush 1080, 3) := by decide +kernel
theorem dX8_dishAhead_38 : decode cX8_dishAhead 38 = .ok (.iload_n 1, 1) := by decide +kernel
theorem dX8_dishAhead_39 : decode cX8_dishAhead 39 = .ok (.iadd, 1) := by decide +kernel
theorem dX8_dishAhead_40 : decode cX8_dishAhead 40 = .ok (.iaload, 1) := by decide +kernel
theorem dX8_dishAhead_41 : decode cX8_dishAhead 41 = .ok (.ireturn, 1) := by decide +kernel
theorem dX8_guestAhead_0 : decode cX8_guestAhead 0 = .ok (.aload_n 0, 1) := by decide +kernel
theorem dX8_guestAhead_1 : decode cX8_guestAhead 1 = .ok (.iload_n 1, 1) := by decide +kernel
theorem dX8_guestAhead_2 : decode cX8_guestAhead 2 = .ok (.invokevirtual 194, 3) := by decide +kernel
theorem dX8_guestAhead_5 : decode cX8_guestAhead 5 = .ok (.ifCond .eq 10, 3) := by decide +kernel
theorem dX8_guestAhead_8 : decode cX8_guestAhead 8 = .ok (.iload_n 2, 1) := by decide +kernel
theorem dX8_guestAhead_9 : decode cX8_guestAhead 9 = .ok (.invokestatic 210, 3) := by decide +kernel
theorem dX8_guestAhead_12 : decode cX8_guestAhead 12 = .ok (.ifCond .ne 6, 3) := by decide +kernel
theorem dX8_guestAhead_15 : decode cX8_guestAhead 15 = .ok (.ldc 52, 2) := by decide +kernel
theorem dX8_guestAhead_17 : decode cX8_guestAhead 17 = .ok (.ireturn, 1) := by decide +kernel
theorem dX8_guestAhead_18 : decode cX8_guestAhead 18 = .ok (.aload_n 0, 1) := by decide +kernel
theorem dX8_guestAhead_19 : decode cX8_guestAhead 19 = .ok (.iconst 0, 1) := by decide +kernel
theorem dX8_guestAhead_20 : decode cX8_guestAhead 20 = .ok (.sipush 1053, 3) := by decide +kernel
theorem dX8_guestAhead_23 : decode cX8_guestAhead 23 = .ok (.invokevirtual 142, 3) := by decide +kernel
theorem dX8_guestAhead_26 : decode cX8_guestAhead 26 = .ok (.aload_n 0, 1) := by decide +kernel
theorem dX8_guestAhead_27 : decode cX8_guestAhead 27 = .ok (.iload_n 2, 1) := by decide +kernel
theorem dX8_guestAhead_28 : decode cX8_guestAhead 28 = .ok (.invokevirtual 213, 3) := by decide +kernel
theorem dX8_guestAhead_31 : decode cX8_guestAhead 31 = .ok (.aload_n 0, 1) := by decide +kernel
theorem dX8_guestAhead_32 : decode cX8_guestAhead 32 = .ok (.getfield 7, 3) := by decide +kernel
theorem dX8_guestAhead_35 : decode cX8_guestAhead 35 = .ok (.sipush 1068, 3) := by decide +kernel
theorem dX8_guestAhead_38 : decode cX8_guestAhead 38 = .ok (.iload_n 1, 1) := by decide +kernel
theorem dX8_guestAhead_39 : decode cX8_guestAhead 39 = .ok (.iadd, 1) := by decide +kernel
theorem dX8_guestAhead_40 : decode cX8_guestAhead 40 = .ok (.iaload, 1) := by decide +kernel
theorem dX8_guestAhead_41 : decode cX8_guestAhead 41 = .ok (.aload_n 0, 1) := by decide +kernel
theorem dX8_guestAhead_42 : decode cX8_guestAhead 42 = .ok (.getfield 7, 3) := by decide +kernel
theorem dX8_guestAhead_45 : decode cX8_guestAhead 45 = .ok (.bipush 15, 2) := by decide +kernel
theorem dX8_guestAhead_47 : decode cX8_guestAhead 47 = .ok (.iload_n 1, 1) := by decide +kernel
theorem dX8_guestAhead_48 : decode cX8_guestAhead 48 = .ok (.iadd, 1) := by decide +kernel
theorem dX8_guestAhead_49 : decode cX8_guestAhead 49 = .ok (.iaload, 1) := by decide +kernel
theorem dX8_guestAhead_50 : decode cX8_guestAhead 50 = .ok (.isub, 1) := by decide +kernel
theorem dX8_guestAhead_51 : decode cX8_guestAhead 51 = .ok (.ireturn, 1) := by decide +kernel
theorem dX8_last_0 : decode cX8_last 0 = .ok (.aload_n 0, 1) := by decide +kernel
theorem dX8_last_1 : decode cX8_last 1 = .ok (.iload_n 1, 1) := by decide +kernel
theorem dX8_last_2 : decode cX8_last 2 = .ok (.invokevirtual 194, 3) := by decide +kernel
theorem dX8_last_5 : decode cX8_last 5 = .ok (.ifCond .eq 13, 3) := by decide +kernel
theorem dX8_last_8 : decode cX8_last 8 = .ok (.iload_n 2, 1) := by decide +kernel
theorem dX8_last_9 : decode cX8_last 9 = .ok (.i2l, 1) := by decide +kernel
theorem dX8_last_10 : decode cX8_last 10 = .ok (.lconst 0, 1) := by decide +kernel
theorem dX8_last_11 : decode cX8_last 11 = .ok (.lconst 1, 1) := by decide +kernel
theorem dX8_last_12 : decode cX8_last 12 = .ok (.invokestatic 37, 3) := by decide +kernel
theorem dX8_last_15 : decode cX8_last 15 = .ok (.ifCond .ne 6, 3) := by decide +kernel
theorem dX8_last_18 : decode cX8_last 18 = .ok (.ldc 52, 2) := by decide +kernel
theorem dX8_last_20 : decode cX8_last 20 = .ok (.ireturn, 1) := by decide +kernel
theorem dX8_last_21 : decode cX8_last 21 = .ok (.aload_n 0, 1) := by decide +kernel
theorem dX8_last_22 : decode cX8_last 22 = .ok (.iconst 0, 1) := by decide +kernel
theorem dX8_last_23 : decode cX8_last 23 = .ok (.sipush 1053, 3) := by decide +kernel
theorem dX8_last_26 : decode cX8_last 26 = .ok (.invokevirtual 142, 3) := by decide +kernel
theorem dX8_last_29 : decode cX8_last 29 = .ok (.iconst 1, 1) := by decide +kernel
theorem dX8_last_30 : decode cX8_last 30 = .ok (.istore_n 3, 1) := by decide +kernel
theorem dX8_last_31 : decode cX8_last 31 = .ok (.iload_n 3, 1) := by decide +kernel
theorem dX8_last_32 : decode cX8_last 32 = .ok (.sipush 200, 3) := by decide +kernel
theorem dX8_last_35 : decode cX8_last 35 = .ok (.if_icmp .gt 57, 3) := by decide +kernel
theorem dX8_last_38 : decode cX8_last 38 = .ok (.aload_n 0, 1) := by decide +kernel
theorem dX8_last_39 : decode cX8_last 39 = .ok (.sipush 1053, 3) := by decide +kernel
theorem dX8_last_42 : decode cX8_last 42 = .ok (.invokevirtual 186, 3) := by decide +kernel
theorem dX8_last_45 : decode cX8_last 45 = .ok (.aload_n 0, 1) := by decide +kernel
theorem dX8_last_46 : decode cX8_last 46 = .ok (.getfield 168, 3) := by decide +kernel
theorem dX8_last_49 : decode cX8_last 49 = .ok (.ifCond .le 37, 3) := by decide +kernel
theorem dX8_last_52 : decode cX8_last 52 = .ok (.aload_n 0, 1) := by decide +kernel
theorem dX8_last_53 : decode cX8_last 53 = .ok (.getfield 174, 3) := by decide +kernel
theorem dX8_last_56 : decode cX8_last 56 = .ok (.iload_n 1, 1) := by decide +kernel
theorem dX8_last_57 : decode cX8_last 57 = .ok (.if_icmp .ne 29, 3) := by decide +kernel
theorem dX8_last_60 : decode cX8_last 60 = .ok (.aload_n 0, 1) := by decide +kernel
theorem dX8_last_61 : decode cX8_last 61 = .ok (.getfield 7, 3) := by decide +kernel
theorem dX8_last_64 : decode cX8_last 64 = .ok (.sipush 1080, 3) := by decide +kernel
theorem dX8_last_67 : decode cX8_last 67 = .ok (.iload_n 1, 1) := by decide +kernel
theorem dX8_last_68 : decode cX8_last 68 = .ok (.iadd, 1) := by decide +kernel
theorem dX8_last_69 : decode cX8_last 69 = .ok (.iaload, 1) := by decide +kernel
theorem dX8_last_70 : decode cX8_last 70 = .ok (.ifCond .ne 16, 3) := by decide +kernel
theorem dX8_last_73 : decode cX8_last 73 = .ok (.iload_n 2, 1) := by decide +kernel
theorem dX8_last_74 : decode cX8_last 74 = .ok (.ifCond .ne 10, 3) := by decide +kernel
theorem dX8_last_77 : decode cX8_last 77 = .ok (.aload_n 0, 1) := by decide +kernel
theorem dX8_last_78 : decode cX8_last 78 = .ok (.getfield 171, 3) := by decide +kernel
theorem dX8_last_81 : decode cX8_last 81 = .ok (.goto 4, 3) := by decide +kernel
theorem dX8_last_84 : decode cX8_last 84 = .ok (.iload_n 3, 1) := by decide +kernel
theorem dX8_last_85 : decode cX8_last 85 = .ok (.ireturn, 1) := by decide +kernel
theorem dX8_last_86 : decode cX8_last 86 = .ok (.iinc 3 1, 3) := by decide +kernel
theorem dX8_last_89 : decode cX8_last 89 = .ok (.goto (-58), 3) := by decide +kernel
theorem dX8_last_92 : decode cX8_last 92 = .ok (.ldc 216, 2) := by decide +kernel
theorem dX8_last_94 : decode cX8_last 94 = .ok (.ireturn, 1) := by decide +kernel
theorem dX8_hungry_0 : decode cX8_hungry 0 = .ok (.aload_n 0, 1) := by decide +kernel
theorem dX8_hungry_1 : decode cX8_hungry 1 = .ok (.invokevirtual 177, 3) := by decide +kernel
theorem dX8_hungry_4 : decode cX8_hungry 4 = .ok (.ifCond .eq 6, 3) := by decide +kernel
theorem dX8_hungry_7 : decode cX8_hungry 7 = .ok (.ldc 180, 2) := by decide +kernel
theorem dX8_hungry_9 : decode cX8_hungry 9 = .ok (.ireturn, 1) := by decide +kernel
theorem dX8_hungry_10 : decode cX8_hungry 10 = .ok (.iload_n 1, 1) := by decide +kernel
theorem dX8_hungry_11 : decode cX8_hungry 11 = .ok (.invokestatic 210, 3) := by decide +kernel
theorem dX8_hungry_14 : decode cX8_hungry 14 = .ok (.ifCond .ne 6, 3) := by decide +kernel
theorem dX8_hungry_17 : decode cX8_hungry 17 = .ok (.ldc 52, 2) := by decide +kernel
theorem dX8_hungry_19 : decode cX8_hungry 19 = .ok (.ireturn, 1) := by decide +kernel
theorem dX8_hungry_20 : decode cX8_hungry 20 = .ok (.aload_n 0, 1) := by decide +kernel
theorem dX8_hungry_21 : decode cX8_hungry 21 = .ok (.iconst 0, 1) := by decide +kernel
theorem dX8_hungry_22 : decode cX8_hungry 22 = .ok (.sipush 1053, 3) := by decide +kernel
theorem dX8_hungry_25 : decode cX8_hungry 25 = .ok (.invokevirtual 142, 3) := by decide +kernel
theorem dX8_hungry_28 : decode cX8_hungry 28 = .ok (.aload_n 0, 1) := by decide +kernel
theorem dX8_hungry_29 : decode cX8_hungry 29 = .ok (.iload_n 1, 1) := by decide +kernel
theorem dX8_hungry_30 : decode cX8_hungry 30 = .ok (.invokevirtual 213, 3) := by decide +kernel
theorem dX8_hungry_33 : decode cX8_hungry 33 = .ok (.iconst 0, 1) := by decide +kernel
theorem dX8_hungry_34 : decode cX8_hungry 34 = .ok (.istore_n 2, 1) := by decide +kernel
theorem dX8_hungry_35 : decode cX8_hungry 35 = .ok (.iconst 0, 1) := by decide +kernel
theorem dX8_hungry_36 : decode cX8_hungry 36 = .ok (.istore_n 3, 1) := by decide +kernel
theorem dX8_hungry_37 : decode cX8_hungry 37 = .ok (.iload_n 3, 1) := by decide +kernel
theorem dX8_hungry_38 : decode cX8_hungry 38 = .ok (.aload_n 0, 1) := by decide +kernel
theorem dX8_hungry_39 : decode cX8_hungry 39 = .ok (.getfield 7, 3) := by decide +kernel
theorem dX8_hungry_42 : decode cX8_hungry 42 = .ok (.iconst 0, 1) := by decide +kernel
theorem dX8_hungry_43 : decode cX8_hungry 43 = .ok (.iaload, 1) := by decide +kernel
theorem dX8_hungry_44 : decode cX8_hungry 44 = .ok (.if_icmp .ge 32, 3) := by decide +kernel
theorem dX8_hungry_47 : decode cX8_hungry 47 = .ok (.iload_n 2, 1) := by decide +kernel
theorem dX8_hungry_48 : decode cX8_hungry 48 = .ok (.aload_n 0, 1) := by decide +kernel
theorem dX8_hungry_49 : decode cX8_hungry 49 = .ok (.getfield 7, 3) := by decide +kernel
theorem dX8_hungry_52 : decode cX8_hungry 52 = .ok (.sipush 1068, 3) := by decide +kernel
theorem dX8_hungry_55 : decode cX8_hungry 55 = .ok (.iload_n 3, 1) := by decide +kernel
theorem dX8_hungry_56 : decode cX8_hungry 56 = .ok (.iadd, 1) := by decide +kernel
theorem dX8_hungry_57 : decode cX8_hungry 57 = .ok (.iaload, 1) := by decide +kernel
theorem dX8_hungry_58 : decode cX8_hungry 58 = .ok (.ifCond .ne 9, 3) := by decide +kernel
theorem dX8_hungry_61 : decode cX8_hungry 61 = .ok (.iconst 1, 1) := by decide +kernel
theorem dX8_hungry_62 : decode cX8_hungry 62 = .ok (.iload_n 3, 1) := by decide +kernel
theorem dX8_hungry_63 : decode cX8_hungry 63 = .ok (.ishl, 1) := by decide +kernel
theorem dX8_hungry_64 : decode cX8_hungry 64 = .ok (.goto 4, 3) := by decide +kernel
theorem dX8_hungry_67 : decode cX8_hungry 67 = .ok (.iconst 0, 1) := by decide +kernel
theorem dX8_hungry_68 : decode cX8_hungry 68 = .ok (.ior, 1) := by decide +kernel
theorem dX8_hungry_69 : decode cX8_hungry 69 = .ok (.istore_n 2, 1) := by decide +kernel
theorem dX8_hungry_70 : decode cX8_hungry 70 = .ok (.iinc 3 1, 3) := by decide +kernel
theorem dX8_hungry_73 : decode cX8_hungry 73 = .ok (.goto (-36), 3) := by decide +kernel
theorem dX8_hungry_76 : decode cX8_hungry 76 = .ok (.iload_n 2, 1) := by decide +kernel
theorem dX8_hungry_77 : decode cX8_hungry 77 = .ok (.ireturn, 1) := by decide +kernel
theorem dX8_rest_0 : decode cX8_rest 0 = .ok (.aload_n 0, 1) := by decide +kernel
theorem dX8_rest_1 : decode cX8_rest 1 = .ok (.invokevirtual 177, 3) := by decide +kernel
theorem dX8_rest_4 : decode cX8_rest 4 = .ok (.ifCond .eq 6, 3) := by decide +kernel
theorem dX8_rest_7 : decode cX8_rest 7 = .ok (.ldc 180, 2) := by decide +kernel
theorem dX8_rest_9 : decode cX8_rest 9 = .ok (.ireturn, 1) := by decide +kernel
theorem dX8_rest_10 : decode cX8_rest 10 = .ok (.aload_n 0, 1) := by decide +kernel
theorem dX8_rest_11 : decode cX8_rest 11 = .ok (.iconst 0, 1) := by decide +kernel
theorem dX8_rest_12 : decode cX8_rest 12 = .ok (.sipush 1053, 3) := by decide +kernel
theorem dX8_rest_15 : decode cX8_rest 15 = .ok (.invokevirtual 142, 3) := by decide +kernel
theorem dX8_rest_18 : decode cX8_rest 18 = .ok (.iconst 0, 1) := by decide +kernel
theorem dX8_rest_19 : decode cX8_rest 19 = .ok (.istore_n 1, 1) := by decide +kernel
theorem dX8_rest_20 : decode cX8_rest 20 = .ok (.iconst 1, 1) := by decide +kernel
theorem dX8_rest_21 : decode cX8_rest 21 = .ok (.istore_n 2, 1) := by decide +kernel
theorem dX8_rest_22 : decode cX8_rest 22 = .ok (.iload_n 2, 1) := by decide +kernel
theorem dX8_rest_23 : decode cX8_rest 23 = .ok (.sipush 200, 3) := by decide +kernel
theorem dX8_rest_26 : decode cX8_rest 26 = .ok (.aload_n 0, 1) := by decide +kernel
theorem dX8_rest_27 : decode cX8_rest 27 = .ok (.getfield 7, 3) := by decide +kernel
theorem dX8_rest_30 : decode cX8_rest 30 = .ok (.iconst 0, 1) := by decide +kernel
theorem dX8_rest_31 : decode cX8_rest 31 = .ok (.iaload, 1) := by decide +kernel
theorem dX8_rest_32 : decode cX8_rest 32 = .ok (.iadd, 1) := by decide +kernel
theorem dX8_rest_33 : decode cX8_rest 33 = .ok (.if_icmp .gt 57, 3) := by decide +kernel
theorem dX8_rest_36 : decode cX8_rest 36 = .ok (.aload_n 0, 1) := by decide +kernel
theorem dX8_rest_37 : decode cX8_rest 37 = .ok (.sipush 1053, 3) := by decide +kernel
theorem dX8_rest_40 : decode cX8_rest 40 = .ok (.invokevirtual 186, 3) := by decide +kernel
theorem dX8_rest_43 : decode cX8_rest 43 = .ok (.aload_n 0, 1) := by decide +kernel
theorem dX8_rest_44 : decode cX8_rest 44 = .ok (.getfield 149, 3) := by decide +kernel
theorem dX8_rest_47 : decode cX8_rest 47 = .ok (.ifCond .ne 16, 3) := by decide +kernel
theorem dX8_rest_50 : decode cX8_rest 50 = .ok (.aload_n 0, 1) := by decide +kernel
theorem dX8_rest_51 : decode cX8_rest 51 = .ok (.getfield 168, 3) := by decide +kernel
theorem dX8_rest_54 : decode cX8_rest 54 = .ok (.ifCond .ne 9, 3) := by decide +kernel
theorem dX8_rest_57 : decode cX8_rest 57 = .ok (.iload_n 1, 1) := by decide +kernel
theorem dX8_rest_58 : decode cX8_rest 58 = .ok (.iconst 1, 1) := by decide +kernel
theorem dX8_rest_59 : decode cX8_rest 59 = .ok (.iadd, 1) := by decide +kernel
theorem dX8_rest_60 : decode cX8_rest 60 = .ok (.goto 4, 3) := by decide +kernel
theorem dX8_rest_63 : decode cX8_rest 63 = .ok (.iconst 0, 1) := by decide +kernel
theorem dX8_rest_64 : decode cX8_rest 64 = .ok (.istore_n 1, 1) := by decide +kernel
theorem dX8_rest_65 : decode cX8_rest 65 = .ok (.iload_n 1, 1) := by decide +kernel
theorem dX8_rest_66 : decode cX8_rest 66 = .ok (.aload_n 0, 1) := by decide +kernel
theorem dX8_rest_67 : decode cX8_rest 67 = .ok (.getfield 7, 3) := by decide +kernel
theorem dX8_rest_70 : decode cX8_rest 70 = .ok (.iconst 0, 1) := by decide +kernel
theorem dX8_rest_71 : decode cX8_rest 71 = .ok (.iaload, 1) := by decide +kernel
theorem dX8_rest_72 : decode cX8_rest 72 = .ok (.if_icmp .ne 12, 3) := by decide +kernel
theorem dX8_rest_75 : decode cX8_rest 75 = .ok (.iload_n 2, 1) := by decide +kernel
theorem dX8_rest_76 : decode cX8_rest 76 = .ok (.aload_n 0, 1) := by decide +kernel
theorem dX8_rest_77 : decode cX8_rest 77 = .ok (.getfield 7, 3) := by decide +kernel
theorem dX8_rest_80 : decode cX8_rest 80 = .ok (.iconst 0, 1) := by decide +kernel
theorem dX8_rest_81 : decode cX8_rest 81 = .ok (.iaload, 1) := by decide +kernel
theorem dX8_rest_82 : decode cX8_rest 82 = .ok (.isub, 1) := by decide +kernel
theorem dX8_rest_83 : decode cX8_rest 83 = .ok (.ireturn, 1) := by decide +kernel
theorem dX8_rest_84 : decode cX8_rest 84 = .ok (.iinc 2 1, 3) := by decide +kernel
theorem dX8_rest_87 : decode cX8_rest 87 = .ok (.goto (-65), 3) := by decide +kernel
theorem dX8_rest_90 : decode cX8_rest 90 = .ok (.ldc 216, 2) := by decide +kernel
theorem dX8_rest_92 : decode cX8_rest 92 = .ok (.ireturn, 1) := by decide +kernel
theorem dX8_served_0 : decode cX8_served 0 = .ok (.aload_n 0, 1) := by decide +kernel
theorem dX8_served_1 : decode cX8_served 1 = .ok (.invokevirtual 177, 3) := by decide +kernel
theorem dX8_served_4 : decode cX8_served 4 = .ok (.ifCond .eq 6, 3) := by decide +kernel
theorem dX8_served_7 : decode cX8_served 7 = .ok (.ldc 180, 2) := by decide +kernel
theorem dX8_served_9 : decode cX8_served 9 = .ok (.ireturn, 1) := by decide +kernel
theorem dX8_served_10 : decode cX8_served 10 = .ok (.aload_n 0, 1) := by decide +kernel
theorem dX8_served_11 : decode cX8_served 11 = .ok (.getfield 7, 3) := by decide +kernel
theorem dX8_served_14 : decode cX8_served 14 = .ok (.iconst 0, 1) := by decide +kernel
theorem dX8_served_15 : decode cX8_served 15 = .ok (.iaload, 1) := by decide +kernel
theorem dX8_served_16 : decode cX8_served 16 = .ok (.istore_n 1, 1) := by decide +kernel
theorem dX8_served_17 : decode cX8_served 17 = .ok (.ldc 217, 2) := by decide +kernel
theorem dX8_served_19 : decode cX8_served 19 = .ok (.istore_n 2, 1) := by decide +kernel
theorem dX8_served_20 : decode cX8_served 20 = .ok (.iconst 0, 1) := by decide +kernel
theorem dX8_served_21 : decode cX8_served 21 = .ok (.istore_n 3, 1) := by decide +kernel
theorem dX8_served_22 : decode cX8_served 22 = .ok (.iload_n 3, 1) := by decide +kernel
theorem dX8_served_23 : decode cX8_served 23 = .ok (.iload_n 1, 1) := by decide +kernel
theorem dX8_served_24 : decode cX8_served 24 = .ok (.if_icmp .ge 133, 3) := by decide +kernel
theorem dX8_served_27 : decode cX8_served 27 = .ok (.iconst 0, 1) := by decide +kernel
theorem dX8_served_28 : decode cX8_served 28 = .ok (.istore 4, 2) := by decide +kernel
theorem dX8_served_30 : decode cX8_served 30 = .ok (.iload 4, 2) := by decide +kernel
theorem dX8_served_32 : decode cX8_served 32 = .ok (.iload_n 1, 1) := by decide +kernel
theorem dX8_served_33 : decode cX8_served 33 = .ok (.if_icmp .ge 118, 3) := by decide +kernel
theorem dX8_served_36 : decode cX8_served 36 = .ok (.iconst 1, 1) := by decide +kernel
theorem dX8_served_37 : decode cX8_served 37 = .ok (.istore 5, 2) := by decide +kernel
theorem dX8_served_39 : decode cX8_served 39 = .ok (.iconst 0, 1) := by decide +kernel
theorem dX8_served_40 : decode cX8_served 40 = .ok (.istore 6, 2) := by decide +kernel
theorem dX8_served_42 : decode cX8_served 42 = .ok (.iload 6, 2) := by decide +kernel
theorem dX8_served_44 : decode cX8_served 44 = .ok (.iload_n 1, 1) := by decide +kernel
theorem dX8_served_45 : decode cX8_served 45 = .ok (.if_icmp .ge 63, 3) := by decide +kernel
theorem dX8_served_48 : decode cX8_served 48 = .ok (.aload_n 0, 1) := by decide +kernel
theorem dX8_served_49 : decode cX8_served 49 = .ok (.getfield 7, 3) := by decide +kernel
theorem dX8_served_52 : decode cX8_served 52 = .ok (.bipush 9, 2) := by decide +kernel
theorem dX8_served_54 : decode cX8_served 54 = .ok (.iload 6, 2) := by decide +kernel
theorem dX8_served_56 : decode cX8_served 56 = .ok (.iadd, 1) := by decide +kernel
theorem dX8_served_57 : decode cX8_served 57 = .ok (.iaload, 1) := by decide +kernel
theorem dX8_served_58 : decode cX8_served 58 = .ok (.iload_n 1, 1) := by decide +kernel
theorem dX8_served_59 : decode cX8_served 59 = .ok (.if_icmp .ge 13, 3) := by decide +kernel
theorem dX8_served_62 : decode cX8_served 62 = .ok (.aload_n 0, 1) := by decide +kernel
theorem dX8_served_63 : decode cX8_served 63 = .ok (.iconst 0, 1) := by decide +kernel
theorem dX8_served_64 : decode cX8_served 64 = .ok (.iload 6, 2) := by decide +kernel
theorem dX8_served_66 : decode cX8_served 66 = .ok (.invokevirtual 155, 3) := by decide +kernel
theorem dX8_served_69 : decode cX8_served 69 = .ok (.goto 4, 3) := by decide +kernel
theorem dX8_served_72 : decode cX8_served 72 = .ok (.iconst 0, 1) := by decide +kernel
theorem dX8_served_73 : decode cX8_served 73 = .ok (.istore 7, 2) := by decide +kernel
theorem dX8_served_75 : decode cX8_served 75 = .ok (.iload 5, 2) := by decide +kernel
theorem dX8_served_77 : decode cX8_served 77 = .ok (.ifCond .eq 22, 3) := by decide +kernel
theorem dX8_served_80 : decode cX8_served 80 = .ok (.iload 7, 2) := by decide +kernel
theorem dX8_served_82 : decode cX8_served 82 = .ok (.iload_n 3, 1) := by decide +kernel
theorem dX8_served_83 : decode cX8_served 83 = .ok (.if_icmp .le 12, 3) := by decide +kernel
theorem dX8_served_86 : decode cX8_served 86 = .ok (.iload_n 1, 1) := by decide +kernel
theorem dX8_served_87 : decode cX8_served 87 = .ok (.iload 7, 2) := by decide +kernel
theorem dX8_served_89 : decode cX8_served 89 = .ok (.isub, 1) := by decide +kernel
theorem dX8_served_90 : decode cX8_served 90 = .ok (.iload 4, 2) := by decide +kernel
theorem dX8_served_92 : decode cX8_served 92 = .ok (.if_icmp .gt 7, 3) := by decide +kernel
theorem dX8_served_95 : decode cX8_served 95 = .ok (.iconst 1, 1) := by decide +kernel
theorem dX8_served_96 : decode cX8_served 96 = .ok (.goto 4, 3) := by decide +kernel
theorem dX8_served_99 : decode cX8_served 99 = .ok (.iconst 0, 1) := by decide +kernel
theorem dX8_served_100 : decode cX8_served 100 = .ok (.istore 5, 2) := by decide +kernel
theorem dX8_served_102 : decode cX8_served 102 = .ok (.iinc 6 1, 3) := by decide +kernel
theorem dX8_served_105 : decode cX8_served 105 = .ok (.goto (-63), 3) := by decide +kernel
theorem dX8_served_108 : decode cX8_served 108 = .ok (.iload_n 3, 1) := by decide +kernel
theorem dX8_served_109 : decode cX8_served 109 = .ok (.iload 4, 2) := by decide +kernel
theorem dX8_served_111 : decode cX8_served 111 = .ok (.iadd, 1) := by decide +kernel
theorem dX8_served_112 : decode cX8_served 112 = .ok (.iload_n 3, 1) := by decide +kernel
theorem dX8_served_113 : decode cX8_served 113 = .ok (.iload 4, 2) := by decide +kernel
theorem dX8_served_115 : decode cX8_served 115 = .ok (.if_icmp .ge 7, 3) := by decide +kernel
theorem dX8_served_118 : decode cX8_served 118 = .ok (.iload_n 3, 1) := by decide +kernel
theorem dX8_served_119 : decode cX8_served 119 = .ok (.goto 5, 3) := by decide +kernel
theorem dX8_served_122 : decode cX8_served 122 = .ok (.iload 4, 2) := by decide +kernel
theorem dX8_served_124 : decode cX8_served 124 = .ok (.iadd, 1) := by decide +kernel
theorem dX8_served_125 : decode cX8_served 125 = .ok (.istore 6, 2) := by decide +kernel
theorem dX8_served_127 : decode cX8_served 127 = .ok (.iload 5, 2) := by decide +kernel
theorem dX8_served_129 : decode cX8_served 129 = .ok (.ifCond .eq 14, 3) := by decide +kernel
theorem dX8_served_132 : decode cX8_served 132 = .ok (.iload 6, 2) := by decide +kernel
theorem dX8_served_134 : decode cX8_served 134 = .ok (.iload_n 2, 1) := by decide +kernel
theorem dX8_served_135 : decode cX8_served 135 = .ok (.if_icmp .ge 8, 3) := by decide +kernel
theorem dX8_served_138 : decode cX8_served 138 = .ok (.iload 6, 2) := by decide +kernel
theorem dX8_served_140 : decode cX8_served 140 = .ok (.goto 4, 3) := by decide +kernel
theorem dX8_served_143 : decode cX8_served 143 = .ok (.iload_n 2, 1) := by decide +kernel
theorem dX8_served_144 : decode cX8_served 144 = .ok (.istore_n 2, 1) := by decide +kernel
theorem dX8_served_145 : decode cX8_served 145 = .ok (.iinc 4 1, 3) := by decide +kernel
theorem dX8_served_148 : decode cX8_served 148 = .ok (.goto (-118), 3) := by decide +kernel
theorem dX8_served_151 : decode cX8_served 151 = .ok (.iinc 3 1, 3) := by decide +kernel
theorem dX8_served_154 : decode cX8_served 154 = .ok (.goto (-132), 3) := by decide +kernel
theorem dX8_served_157 : decode cX8_served 157 = .ok (.iload_n 2, 1) := by decide +kernel
theorem dX8_served_158 : decode cX8_served 158 = .ok (.ireturn, 1) := by decide +kernel
theorem dX8_laysBy_0 : decode cX8_laysBy 0 = .ok (.iconst 0, 1) := by decide +kernel
theorem dX8_laysBy_1 : decode cX8_laysBy 1 = .ok (.istore_n 2, 1) := by decide +kernel
theorem dX8_laysBy_2 : decode cX8_laysBy 2 = .ok (.iload_n 1, 1) := by decide +kernel
theorem dX8_laysBy_3 : decode cX8_laysBy 3 = .ok (.istore_n 3, 1) := by decide +kernel
theorem dX8_laysBy_4 : decode cX8_laysBy 4 = .ok (.aload_n 0, 1) := by decide +kernel
theorem dX8_laysBy_5 : decode cX8_laysBy 5 = .ok (.getfield 7, 3) := by decide +kernel
theorem dX8_laysBy_8 : decode cX8_laysBy 8 = .ok (.iconst 0, 1) := by decide +kernel
theorem dX8_laysBy_9 : decode cX8_laysBy 9 = .ok (.iaload, 1) := by decide +kernel
theorem dX8_laysBy_10 : decode cX8_laysBy 10 = .ok (.iconst 1, 1) := by decide +kernel
theorem dX8_laysBy_11 : decode cX8_laysBy 11 = .ok (.isub, 1) := by decide +kernel
theorem dX8_laysBy_12 : decode cX8_laysBy 12 = .ok (.istore 4, 2) := by decide +kernel
theorem dX8_laysBy_14 : decode cX8_laysBy 14 = .ok (.iload 4, 2) := by decide +kernel
theorem dX8_laysBy_16 : decode cX8_laysBy 16 = .ok (.ifCond .lt 50, 3) := by decide +kernel
theorem dX8_laysBy_19 : decode cX8_laysBy 19 = .ok (.aload_n 0, 1) := by decide +kernel
theorem dX8_laysBy_20 : decode cX8_laysBy 20 = .ok (.getfield 7, 3) := by decide +kernel
theorem dX8_laysBy_23 : decode cX8_laysBy 23 = .ok (.sipush 1086, 3) := by decide +kernel
theorem dX8_laysBy_26 : decode cX8_laysBy 26 = .ok (.iload 4, 2) := by decide +kernel
theorem dX8_laysBy_28 : decode cX8_laysBy 28 = .ok (.iadd, 1) := by decide +kernel
theorem dX8_laysBy_29 : decode cX8_laysBy 29 = .ok (.iload_n 3, 1) := by decide +kernel
theorem dX8_laysBy_30 : decode cX8_laysBy 30 = .ok (.aload_n 0, 1) := by decide +kernel
theorem dX8_laysBy_31 : decode cX8_laysBy 31 = .ok (.getfield 7, 3) := by decide +kernel
theorem dX8_laysBy_34 : decode cX8_laysBy 34 = .ok (.iconst 0, 1) := by decide +kernel
theorem dX8_laysBy_35 : decode cX8_laysBy 35 = .ok (.iaload, 1) := by decide +kernel
theorem dX8_laysBy_36 : decode cX8_laysBy 36 = .ok (.irem, 1) := by decide +kernel
theorem dX8_laysBy_37 : decode cX8_laysBy 37 = .ok (.iastore, 1) := by decide +kernel
theorem dX8_laysBy_38 : decode cX8_laysBy 38 = .ok (.iload_n 2, 1) := by decide +kernel
theorem dX8_laysBy_39 : decode cX8_laysBy 39 = .ok (.iconst 1, 1) := by decide +kernel
theorem dX8_laysBy_40 : decode cX8_laysBy 40 = .ok (.iload_n 3, 1) := by decide +kernel
theorem dX8_laysBy_41 : decode cX8_laysBy 41 = .ok (.aload_n 0, 1) := by decide +kernel
theorem dX8_laysBy_42 : decode cX8_laysBy 42 = .ok (.getfield 7, 3) := by decide +kernel
theorem dX8_laysBy_45 : decode cX8_laysBy 45 = .ok (.iconst 0, 1) := by decide +kernel
theorem dX8_laysBy_46 : decode cX8_laysBy 46 = .ok (.iaload, 1) := by decide +kernel
theorem dX8_laysBy_47 : decode cX8_laysBy 47 = .ok (.irem, 1) := by decide +kernel
theorem dX8_laysBy_48 : decode cX8_laysBy 48 = .ok (.ishl, 1) := by decide +kernel
theorem dX8_laysBy_49 : decode cX8_laysBy 49 = .ok (.ior, 1) := by decide +kernel
theorem dX8_laysBy_50 : decode cX8_laysBy 50 = .ok (.istore_n 2, 1) := by decide +kernel
theorem dX8_laysBy_51 : decode cX8_laysBy 51 = .ok (.iload_n 3, 1) := by decide +kernel
theorem dX8_laysBy_52 : decode cX8_laysBy 52 = .ok (.aload_n 0, 1) := by decide +kernel
theorem dX8_laysBy_53 : decode cX8_laysBy 53 = .ok (.getfield 7, 3) := by decide +kernel
theorem dX8_laysBy_56 : decode cX8_laysBy 56 = .ok (.iconst 0, 1) := by decide +kernel
theorem dX8_laysBy_57 : decode cX8_laysBy 57 = .ok (.iaload, 1) := by decide +kernel
theorem dX8_laysBy_58 : decode cX8_laysBy 58 = .ok (.idiv, 1) := by decide +kernel
theorem dX8_laysBy_59 : decode cX8_laysBy 59 = .ok (.istore_n 3, 1) := by decide +kernel
theorem dX8_laysBy_60 : decode cX8_laysBy 60 = .ok (.iinc 4 (-1), 3) := by decide +kernel
theorem dX8_laysBy_63 : decode cX8_laysBy 63 = .ok (.goto (-49), 3) := by decide +kernel
theorem dX8_laysBy_66 : decode cX8_laysBy 66 = .ok (.iload_n 2, 1) := by decide +kernel
theorem dX8_laysBy_67 : decode cX8_laysBy 67 = .ok (.iconst 1, 1) := by decide +kernel
theorem dX8_laysBy_68 : decode cX8_laysBy 68 = .ok (.aload_n 0, 1) := by decide +kernel
theorem dX8_laysBy_69 : decode cX8_laysBy 69 = .ok (.getfield 7, 3) := by decide +kernel
theorem dX8_laysBy_72 : decode cX8_laysBy 72 = .ok (.iconst 0, 1) := by decide +kernel
theorem dX8_laysBy_73 : decode cX8_laysBy 73 = .ok (.iaload, 1) := by decide +kernel
theorem dX8_laysBy_74 : decode cX8_laysBy 74 = .ok (.ishl, 1) := by decide +kernel
theorem dX8_laysBy_75 : decode cX8_laysBy 75 = .ok (.iconst 1, 1) := by decide +kernel
theorem dX8_laysBy_76 : decode cX8_laysBy 76 = .ok (.isub, 1) := by decide +kernel
theorem dX8_laysBy_77 : decode cX8_laysBy 77 = .ok (.if_icmp .ne 7, 3) := by decide +kernel
theorem dX8_laysBy_80 : decode cX8_laysBy 80 = .ok (.iconst 1, 1) := by decide +kernel
theorem dX8_laysBy_81 : decode cX8_laysBy 81 = .ok (.goto 4, 3) := by decide +kernel
theorem dX8_laysBy_84 : decode cX8_laysBy 84 = .ok (.iconst 0, 1) := by decide +kernel
theorem dX8_laysBy_85 : decode cX8_laysBy 85 = .ok (.ireturn, 1) := by decide +kernel
theorem dX8_laid_0 : decode cX8_laid 0 = .ok (.aload_n 0, 1) := by decide +kernel
theorem dX8_laid_1 : decode cX8_laid 1 = .ok (.invokevirtual 177, 3) := by decide +kernel
theorem dX8_laid_4 : decode cX8_laid 4 = .ok (.ifCond .eq 6, 3) := by decide +kernel
theorem dX8_laid_7 : decode cX8_laid 7 = .ok (.ldc 180, 2) := by decide +kernel
theorem dX8_laid_9 : decode cX8_laid 9 = .ok (.ireturn, 1) := by decide +kernel
theorem dX8_laid_10 : decode cX8_laid 10 = .ok (.iload_n 1, 1) := by decide +kernel
theorem dX8_laid_11 : decode cX8_laid 11 = .ok (.i2l, 1) := by decide +kernel
theorem dX8_laid_12 : decode cX8_laid 12 = .ok (.lconst 1, 1) := by decide +kernel
theorem dX8_laid_13 : decode cX8_laid 13 = .ok (.ldc2_w 218, 3) := by decide +kernel
theorem dX8_laid_16 : decode cX8_laid 16 = .ok (.invokestatic 37, 3) := by decide +kernel
theorem dX8_laid_19 : decode cX8_laid 19 = .ok (.ifCond .eq 23, 3) := by decide +kernel
theorem dX8_laid_22 : decode cX8_laid 22 = .ok (.iload_n 2, 1) := by decide +kernel
theorem dX8_laid_23 : decode cX8_laid 23 = .ok (.i2l, 1) := by decide +kernel
theorem dX8_laid_24 : decode cX8_laid 24 = .ok (.ldc2_w 220, 3) := by decide +kernel
theorem dX8_laid_27 : decode cX8_laid 27 = .ok (.aload_n 0, 1) := by decide +kernel
theorem dX8_laid_28 : decode cX8_laid 28 = .ok (.getfield 7, 3) := by decide +kernel
theorem dX8_laid_31 : decode cX8_laid 31 = .ok (.iconst 0, 1) := by decide +kernel
theorem dX8_laid_32 : decode cX8_laid 32 = .ok (.iaload, 1) := by decide +kernel
theorem dX8_laid_33 : decode cX8_laid 33 = .ok (.iconst 1, 1) := by decide +kernel
theorem dX8_laid_34 : decode cX8_laid 34 = .ok (.isub, 1) := by decide +kernel
theorem dX8_laid_35 : decode cX8_laid 35 = .ok (.i2l, 1) := by decide +kernel
theorem dX8_laid_36 : decode cX8_laid 36 = .ok (.invokestatic 37, 3) := by decide +kernel
theorem dX8_laid_39 : decode cX8_laid 39 = .ok (.ifCond .ne 6, 3) := by decide +kernel
theorem dX8_laid_42 : decode cX8_laid 42 = .ok (.ldc 52, 2) := by decide +kernel
theorem dX8_laid_44 : decode cX8_laid 44 = .ok (.ireturn, 1) := by decide +kernel
theorem dX8_laid_45 : decode cX8_laid 45 = .ok (.iconst 1, 1) := by decide +kernel
theorem dX8_laid_46 : decode cX8_laid 46 = .ok (.istore_n 3, 1) := by decide +kernel
theorem dX8_laid_47 : decode cX8_laid 47 = .ok (.iconst 0, 1) := by decide +kernel
theorem dX8_laid_48 : decode cX8_laid 48 = .ok (.istore 4, 2) := by decide +kernel
theorem dX8_laid_50 : decode cX8_laid 50 = .ok (.iload 4, 2) := by decide +kernel
theorem dX8_laid_52 : decode cX8_laid 52 = .ok (.aload_n 0, 1) := by decide +kernel
theorem dX8_laid_53 : decode cX8_laid 53 = .ok (.getfield 7, 3) := by decide +kernel
theorem dX8_laid_56 : decode cX8_laid 56 = .ok (.iconst 0, 1) := by decide +kernel
theorem dX8_laid_57 : decode cX8_laid 57 = .ok (.iaload, 1) := by decide +kernel
theorem dX8_laid_58 : decode cX8_laid 58 = .ok (.if_icmp .ge 18, 3) := by decide +kernel
theorem dX8_laid_61 : decode cX8_laid 61 = .ok (.iload_n 3, 1) := by decide +kernel
theorem dX8_laid_62 : decode cX8_laid 62 = .ok (.aload_n 0, 1) := by decide +kernel
theorem dX8_laid_63 : decode cX8_laid 63 = .ok (.getfield 7, 3) := by decide +kernel
theorem dX8_laid_66 : decode cX8_laid 66 = .ok (.iconst 0, 1) := by decide +kernel
theorem dX8_laid_67 : decode cX8_laid 67 = .ok (.iaload, 1) := by decide +kernel
theorem dX8_laid_68 : decode cX8_laid 68 = .ok (.imul, 1) := by decide +kernel
theorem dX8_laid_69 : decode cX8_laid 69 = .ok (.istore_n 3, 1) := by decide +kernel
theorem dX8_laid_70 : decode cX8_laid 70 = .ok (.iinc 4 1, 3) := by decide +kernel
theorem dX8_laid_73 : decode cX8_laid 73 = .ok (.goto (-23), 3) := by decide +kernel
theorem dX8_laid_76 : decode cX8_laid 76 = .ok (.ldc 217, 2) := by decide +kernel
theorem dX8_laid_78 : decode cX8_laid 78 = .ok (.istore 4, 2) := by decide +kernel
theorem dX8_laid_80 : decode cX8_laid 80 = .ok (.iconst 0, 1) := by decide +kernel
theorem dX8_laid_81 : decode cX8_laid 81 = .ok (.istore 5, 2) := by decide +kernel
theorem dX8_laid_83 : decode cX8_laid 83 = .ok (.iconst 0, 1) := by decide +kernel
theorem dX8_laid_84 : decode cX8_laid 84 = .ok (.istore 6, 2) := by decide +kernel
theorem dX8_laid_86 : decode cX8_laid 86 = .ok (.iload 6, 2) := by decide +kernel
theorem dX8_laid_88 : decode cX8_laid 88 = .ok (.iload_n 3, 1) := by decide +kernel
theorem dX8_laid_89 : decode cX8_laid 89 = .ok (.if_icmp .ge 69, 3) := by decide +kernel
theorem dX8_laid_92 : decode cX8_laid 92 = .ok (.aload_n 0, 1) := by decide +kernel
theorem dX8_laid_93 : decode cX8_laid 93 = .ok (.iconst 0, 1) := by decide +kernel
theorem dX8_laid_94 : decode cX8_laid 94 = .ok (.sipush 1053, 3) := by decide +kernel
theorem dX8_laid_97 : decode cX8_laid 97 = .ok (.invokevirtual 142, 3) := by decide +kernel
theorem dX8_laid_100 : decode cX8_laid 100 = .ok (.aload_n 0, 1) := by decide +kernel
theorem dX8_laid_101 : decode cX8_laid 101 = .ok (.iload 6, 2) := by decide +kernel
theorem dX8_laid_103 : decode cX8_laid 103 = .ok (.invokevirtual 222, 3) := by decide +kernel
theorem dX8_laid_106 : decode cX8_laid 106 = .ok (.ifCond .eq 46, 3) := by decide +kernel
theorem dX8_laid_109 : decode cX8_laid 109 = .ok (.aload_n 0, 1) := by decide +kernel
theorem dX8_laid_110 : decode cX8_laid 110 = .ok (.iload_n 1, 1) := by decide +kernel
theorem dX8_laid_111 : decode cX8_laid 111 = .ok (.invokevirtual 213, 3) := by decide +kernel
theorem dX8_laid_114 : decode cX8_laid 114 = .ok (.aload_n 0, 1) := by decide +kernel
theorem dX8_laid_115 : decode cX8_laid 115 = .ok (.getfield 205, 3) := by decide +kernel
theorem dX8_laid_118 : decode cX8_laid 118 = .ok (.iload 4, 2) := by decide +kernel
theorem dX8_laid_120 : decode cX8_laid 120 = .ok (.if_icmp .ge 8, 3) := by decide +kernel
theorem dX8_laid_123 : decode cX8_laid 123 = .ok (.iload 6, 2) := by decide +kernel
theorem dX8_laid_125 : decode cX8_laid 125 = .ok (.goto 5, 3) := by decide +kernel
theorem dX8_laid_128 : decode cX8_laid 128 = .ok (.iload 5, 2) := by decide +kernel
theorem dX8_laid_130 : decode cX8_laid 130 = .ok (.istore 5, 2) := by decide +kernel
theorem dX8_laid_132 : decode cX8_laid 132 = .ok (.aload_n 0, 1) := by decide +kernel
theorem dX8_laid_133 : decode cX8_laid 133 = .ok (.getfield 205, 3) := by decide +kernel
theorem dX8_laid_136 : decode cX8_laid 136 = .ok (.iload 4, 2) := by decide +kernel
theorem dX8_laid_138 : decode cX8_laid 138 = .ok (.if_icmp .ge 10, 3) := by decide +kernel
theorem dX8_laid_141 : decode cX8_laid 141 = .ok (.aload_n 0, 1) := by decide +kernel
theorem dX8_laid_142 : decode cX8_laid 142 = .ok (.getfield 205, 3) := by decide +kernel
theorem dX8_laid_145 : decode cX8_laid 145 = .ok (.goto 5, 3) := by decide +kernel
theorem dX8_laid_148 : decode cX8_laid 148 = .ok (.iload 4, 2) := by decide +kernel
theorem dX8_laid_150 : decode cX8_laid 150 = .ok (.istore 4, 2) := by decide +kernel
theorem dX8_laid_152 : decode cX8_laid 152 = .ok (.iinc 6 1, 3) := by decide +kernel
theorem dX8_laid_155 : decode cX8_laid 155 = .ok (.goto (-69), 3) := by decide +kernel
theorem dX8_laid_158 : decode cX8_laid 158 = .ok (.aload_n 0, 1) := by decide +kernel
theorem dX8_laid_159 : decode cX8_laid 159 = .ok (.iload 5, 2) := by decide +kernel
theorem dX8_laid_161 : decode cX8_laid 161 = .ok (.invokevirtual 222, 3) := by decide +kernel
theorem dX8_laid_164 : decode cX8_laid 164 = .ok (.istore 6, 2) := by decide +kernel
theorem dX8_laid_166 : decode cX8_laid 166 = .ok (.iload_n 2, 1) := by decide +kernel
theorem dX8_laid_167 : decode cX8_laid 167 = .ok (.ifCond .ge 13, 3) := by decide +kernel
theorem dX8_laid_170 : decode cX8_laid 170 = .ok (.iload 6, 2) := by decide +kernel
theorem dX8_laid_172 : decode cX8_laid 172 = .ok (.ifCond .eq 8, 3) := by decide +kernel
theorem dX8_laid_175 : decode cX8_laid 175 = .ok (.iload 4, 2) := by decide +kernel
theorem dX8_laid_177 : decode cX8_laid 177 = .ok (.goto 13, 3) := by decide +kernel
theorem dX8_laid_180 : decode cX8_laid 180 = .ok (.aload_n 0, 1) := by decide +kernel
theorem dX8_laid_181 : decode cX8_laid 181 = .ok (.getfield 7, 3) := by decide +kernel
theorem dX8_laid_184 : decode cX8_laid 184 = .ok (.sipush 1086, 3) := by decide +kernel
theorem dX8_laid_187 : decode cX8_laid 187 = .ok (.iload_n 2, 1) := by decide +kernel
theorem dX8_laid_188 : decode cX8_laid 188 = .ok (.iadd, 1) := by decide +kernel
theorem dX8_laid_189 : decode cX8_laid 189 = .ok (.iaload, 1) := by decide +kernel
theorem dX8_laid_190 : decode cX8_laid 190 = .ok (.ireturn, 1) := by decide +kernel
theorem dX8_wanted_0 : decode cX8_wanted 0 = .ok (.iload_n 3, 1) := by decide +kernel
theorem dX8_wanted_1 : decode cX8_wanted 1 = .ok (.invokestatic 46, 3) := by decide +kernel
theorem dX8_wanted_4 : decode cX8_wanted 4 = .ok (.ifCond .eq 18, 3) := by decide +kernel
theorem dX8_wanted_7 : decode cX8_wanted 7 = .ok (.iload_n 2, 1) := by decide +kernel
theorem dX8_wanted_8 : decode cX8_wanted 8 = .ok (.invokestatic 210, 3) := by decide +kernel
theorem dX8_wanted_11 : decode cX8_wanted 11 = .ok (.ifCond .eq 11, 3) := by decide +kernel
theorem dX8_wanted_14 : decode cX8_wanted 14 = .ok (.aload_n 0, 1) := by decide +kernel
theorem dX8_wanted_15 : decode cX8_wanted 15 = .ok (.iload_n 1, 1) := by decide +kernel
theorem dX8_wanted_16 : decode cX8_wanted 16 = .ok (.invokevirtual 194, 3) := by decide +kernel
theorem dX8_wanted_19 : decode cX8_wanted 19 = .ok (.ifCond .ne 6, 3) := by decide +kernel
theorem dX8_wanted_22 : decode cX8_wanted 22 = .ok (.ldc 52, 2) := by decide +kernel
theorem dX8_wanted_24 : decode cX8_wanted 24 = .ok (.ireturn, 1) := by decide +kernel
theorem dX8_wanted_25 : decode cX8_wanted 25 = .ok (.aload_n 0, 1) := by decide +kernel
theorem dX8_wanted_26 : decode cX8_wanted 26 = .ok (.getfield 16, 3) := by decide +kernel
theorem dX8_wanted_29 : decode cX8_wanted 29 = .ok (.iload_n 3, 1) := by decide +kernel
theorem dX8_wanted_30 : decode cX8_wanted 30 = .ok (.iaload, 1) := by decide +kernel
theorem dX8_wanted_31 : decode cX8_wanted 31 = .ok (.ifCond .ge 9, 3) := by decide +kernel
theorem dX8_wanted_34 : decode cX8_wanted 34 = .ok (.aload_n 0, 1) := by decide +kernel
theorem dX8_wanted_35 : decode cX8_wanted 35 = .ok (.iconst 1, 1) := by decide +kernel
theorem dX8_wanted_36 : decode cX8_wanted 36 = .ok (.invokevirtual 53, 3) := by decide +kernel
theorem dX8_wanted_39 : decode cX8_wanted 39 = .ok (.ireturn, 1) := by decide +kernel
theorem dX8_wanted_40 : decode cX8_wanted 40 = .ok (.iload 4, 2) := by decide +kernel
theorem dX8_wanted_42 : decode cX8_wanted 42 = .ok (.aload_n 0, 1) := by decide +kernel
theorem dX8_wanted_43 : decode cX8_wanted 43 = .ok (.getfield 7, 3) := by decide +kernel
theorem dX8_wanted_46 : decode cX8_wanted 46 = .ok (.iconst 0, 1) := by decide +kernel
theorem dX8_wanted_47 : decode cX8_wanted 47 = .ok (.iaload, 1) := by decide +kernel
theorem dX8_wanted_48 : decode cX8_wanted 48 = .ok (.aload_n 0, 1) := by decide +kernel
theorem dX8_wanted_49 : decode cX8_wanted 49 = .ok (.getfield 19, 3) := by decide +kernel
theorem dX8_wanted_52 : decode cX8_wanted 52 = .ok (.iload_n 3, 1) := by decide +kernel
theorem dX8_wanted_53 : decode cX8_wanted 53 = .ok (.iaload, 1) := by decide +kernel
theorem dX8_wanted_54 : decode cX8_wanted 54 = .ok (.invokestatic 60, 3) := by decide +kernel
theorem dX8_wanted_57 : decode cX8_wanted 57 = .ok (.ifCond .ne 9, 3) := by decide +kernel
theorem dX8_wanted_60 : decode cX8_wanted 60 = .ok (.aload_n 0, 1) := by decide +kernel
theorem dX8_wanted_61 : decode cX8_wanted 61 = .ok (.iconst 2, 1) := by decide +kernel
theorem dX8_wanted_62 : decode cX8_wanted 62 = .ok (.invokevirtual 53, 3) := by decide +kernel
theorem dX8_wanted_65 : decode cX8_wanted 65 = .ok (.ireturn, 1) := by decide +kernel
theorem dX8_wanted_66 : decode cX8_wanted 66 = .ok (.iconst 0, 1) := by decide +kernel
theorem dX8_wanted_67 : decode cX8_wanted 67 = .ok (.istore 5, 2) := by decide +kernel
theorem dX8_wanted_69 : decode cX8_wanted 69 = .ok (.iconst 0, 1) := by decide +kernel
theorem dX8_wanted_70 : decode cX8_wanted 70 = .ok (.istore 6, 2) := by decide +kernel
theorem dX8_wanted_72 : decode cX8_wanted 72 = .ok (.iload 6, 2) := by decide +kernel
theorem dX8_wanted_74 : decode cX8_wanted 74 = .ok (.aload_n 0, 1) := by decide +kernel
theorem dX8_wanted_75 : decode cX8_wanted 75 = .ok (.getfield 7, 3) := by decide +kernel
theorem dX8_wanted_78 : decode cX8_wanted 78 = .ok (.iconst 0, 1) := by decide +kernel
theorem dX8_wanted_79 : decode cX8_wanted 79 = .ok (.iaload, 1) := by decide +kernel
theorem dX8_wanted_80 : decode cX8_wanted 80 = .ok (.if_icmp .ge 116, 3) := by decide +kernel
theorem dX8_wanted_83 : decode cX8_wanted 83 = .ok (.aload_n 0, 1) := by decide +kernel
theorem dX8_wanted_84 : decode cX8_wanted 84 = .ok (.iconst 0, 1) := by decide +kernel
theorem dX8_wanted_85 : decode cX8_wanted 85 = .ok (.sipush 1053, 3) := by decide +kernel
theorem dX8_wanted_88 : decode cX8_wanted 88 = .ok (.invokevirtual 142, 3) := by decide +kernel
theorem dX8_wanted_91 : decode cX8_wanted 91 = .ok (.aload_n 0, 1) := by decide +kernel
theorem dX8_wanted_92 : decode cX8_wanted 92 = .ok (.getfield 7, 3) := by decide +kernel
theorem dX8_wanted_95 : decode cX8_wanted 95 = .ok (.sipush 1062, 3) := by decide +kernel
theorem dX8_wanted_98 : decode cX8_wanted 98 = .ok (.iload_n 1, 1) := by decide +kernel
theorem dX8_wanted_99 : decode cX8_wanted 99 = .ok (.iadd, 1) := by decide +kernel
theorem dX8_wanted_100 : decode cX8_wanted 100 = .ok (.iload 6, 2) := by decide +kernel
theorem dX8_wanted_102 : decode cX8_wanted 102 = .ok (.iastore, 1) := by decide +kernel
theorem dX8_wanted_103 : decode cX8_wanted 103 = .ok (.aload_n 0, 1) := by decide +kernel
theorem dX8_wanted_104 : decode cX8_wanted 104 = .ok (.iload_n 2, 1) := by decide +kernel
theorem dX8_wanted_105 : decode cX8_wanted 105 = .ok (.invokevirtual 213, 3) := by decide +kernel
theorem dX8_wanted_108 : decode cX8_wanted 108 = .ok (.iconst 1, 1) := by decide +kernel
theorem dX8_wanted_109 : decode cX8_wanted 109 = .ok (.istore 7, 2) := by decide +kernel
theorem dX8_wanted_111 : decode cX8_wanted 111 = .ok (.iconst 0, 1) := by decide +kernel
theorem dX8_wanted_112 : decode cX8_wanted 112 = .ok (.istore 8, 2) := by decide +kernel
theorem dX8_wanted_114 : decode cX8_wanted 114 = .ok (.iload 8, 2) := by decide +kernel
theorem dX8_wanted_116 : decode cX8_wanted 116 = .ok (.aload_n 0, 1) := by decide +kernel
theorem dX8_wanted_117 : decode cX8_wanted 117 = .ok (.getfield 7, 3) := by decide +kernel
theorem dX8_wanted_120 : decode cX8_wanted 120 = .ok (.iconst 0, 1) := by decide +kernel
theorem dX8_wanted_121 : decode cX8_wanted 121 = .ok (.iaload, 1) := by decide +kernel
theorem dX8_wanted_122 : decode cX8_wanted 122 = .ok (.if_icmp .ge 50, 3) := by decide +kernel
theorem dX8_wanted_125 : decode cX8_wanted 125 = .ok (.iload 7, 2) := by decide +kernel
theorem dX8_wanted_127 : decode cX8_wanted 127 = .ok (.ifCond .eq 36, 3) := by decide +kernel
theorem dX8_wanted_130 : decode cX8_wanted 130 = .ok (.aload_n 0, 1) := by decide +kernel
theorem dX8_wanted_131 : decode cX8_wanted 131 = .ok (.getfield 7, 3) := by decide +kernel
theorem dX8_wanted_134 : decode cX8_wanted 134 = .ok (.sipush 1080, 3) := by decide +kernel
theorem dX8_wanted_137 : decode cX8_wanted 137 = .ok (.iload 8, 2) := by decide +kernel
theorem dX8_wanted_139 : decode cX8_wanted 139 = .ok (.iadd, 1) := by decide +kernel
theorem dX8_wanted_140 : decode cX8_wanted 140 = .ok (.iaload, 1) := by decide +kernel
theorem dX8_wanted_141 : decode cX8_wanted 141 = .ok (.aload_n 0, 1) := by decide +kernel
theorem dX8_wanted_142 : decode cX8_wanted 142 = .ok (.getfield 22, 3) := by decide +kernel
theorem dX8_wanted_145 : decode cX8_wanted 145 = .ok (.bipush 40, 2) := by decide +kernel
theorem dX8_wanted_147 : decode cX8_wanted 147 = .ok (.iload_n 3, 1) := by decide +kernel
theorem dX8_wanted_148 : decode cX8_wanted 148 = .ok (.imul, 1) := by decide +kernel
theorem dX8_wanted_149 : decode cX8_wanted 149 = .ok (.iload 4, 2) := by decide +kernel
theorem dX8_wanted_151 : decode cX8_wanted 151 = .ok (.iadd, 1) := by decide +kernel
theorem dX8_wanted_152 : decode cX8_wanted 152 = .ok (.iload 8, 2) := by decide +kernel
theorem dX8_wanted_154 : decode cX8_wanted 154 = .ok (.iadd, 1) := by decide +kernel
theorem dX8_wanted_155 : decode cX8_wanted 155 = .ok (.iaload, 1) := by decide +kernel
theorem dX8_wanted_156 : decode cX8_wanted 156 = .ok (.if_icmp .ne 7, 3) := by decide +kernel
theorem dX8_wanted_159 : decode cX8_wanted 159 = .ok (.iconst 1, 1) := by decide +kernel
theorem dX8_wanted_160 : decode cX8_wanted 160 = .ok (.goto 4, 3) := by decide +kernel
theorem dX8_wanted_163 : decode cX8_wanted 163 = .ok (.iconst 0, 1) := by decide +kernel
theorem dX8_wanted_164 : decode cX8_wanted 164 = .ok (.istore 7, 2) := by decide +kernel
theorem dX8_wanted_166 : decode cX8_wanted 166 = .ok (.iinc 8 1, 3) := by decide +kernel
theorem dX8_wanted_169 : decode cX8_wanted 169 = .ok (.goto (-55), 3) := by decide +kernel
theorem dX8_wanted_172 : decode cX8_wanted 172 = .ok (.iload 5, 2) := by decide +kernel
theorem dX8_wanted_174 : decode cX8_wanted 174 = .ok (.iload 7, 2) := by decide +kernel
theorem dX8_wanted_176 : decode cX8_wanted 176 = .ok (.ifCond .eq 10, 3) := by decide +kernel
theorem dX8_wanted_179 : decode cX8_wanted 179 = .ok (.iconst 1, 1) := by decide +kernel
theorem dX8_wanted_180 : decode cX8_wanted 180 = .ok (.iload 6, 2) := by decide +kernel
theorem dX8_wanted_182 : decode cX8_wanted 182 = .ok (.ishl, 1) := by decide +kernel
theorem dX8_wanted_183 : decode cX8_wanted 183 = .ok (.goto 4, 3) := by decide +kernel
theorem dX8_wanted_186 : decode cX8_wanted 186 = .ok (.iconst 0, 1) := by decide +kernel
theorem dX8_wanted_187 : decode cX8_wanted 187 = .ok (.ior, 1) := by decide +kernel
theorem dX8_wanted_188 : decode cX8_wanted 188 = .ok (.istore 5, 2) := by decide +kernel
theorem dX8_wanted_190 : decode cX8_wanted 190 = .ok (.iinc 6 1, 3) := by decide +kernel
theorem dX8_wanted_193 : decode cX8_wanted 193 = .ok (.goto (-121), 3) := by decide +kernel
theorem dX8_wanted_196 : decode cX8_wanted 196 = .ok (.aload_n 0, 1) := by decide +kernel
theorem dX8_wanted_197 : decode cX8_wanted 197 = .ok (.iload 5, 2) := by decide +kernel
theorem dX8_wanted_199 : decode cX8_wanted 199 = .ok (.invokevirtual 57, 3) := by decide +kernel
theorem dX8_wanted_202 : decode cX8_wanted 202 = .ok (.ireturn, 1) := by decide +kernel
theorem dX8_seated_0 : decode cX8_seated 0 = .ok (.aload_n 0, 1) := by decide +kernel
theorem dX8_seated_1 : decode cX8_seated 1 = .ok (.iload_n 1, 1) := by decide +kernel
theorem dX8_seated_2 : decode cX8_seated 2 = .ok (.invokevirtual 194, 3) := by decide +kernel
theorem dX8_seated_5 : decode cX8_seated 5 = .ok (.ifCond .eq 20, 3) := by decide +kernel
theorem dX8_seated_8 : decode cX8_seated 8 = .ok (.iload_n 2, 1) := by decide +kernel
theorem dX8_seated_9 : decode cX8_seated 9 = .ok (.invokestatic 210, 3) := by decide +kernel
theorem dX8_seated_12 : decode cX8_seated 12 = .ok (.ifCond .eq 13, 3) := by decide +kernel
theorem dX8_seated_15 : decode cX8_seated 15 = .ok (.iload_n 3, 1) := by decide +kernel
theorem dX8_seated_16 : decode cX8_seated 16 = .ok (.i2l, 1) := by decide +kernel
theorem dX8_seated_17 : decode cX8_seated 17 = .ok (.lconst 0, 1) := by decide +kernel
theorem dX8_seated_18 : decode cX8_seated 18 = .ok (.lconst 1, 1) := by decide +kernel
theorem dX8_seated_19 : decode cX8_seated 19 = .ok (.invokestatic 37, 3) := by decide +kernel
theorem dX8_seated_22 : decode cX8_seated 22 = .ok (.ifCond .ne 6, 3) := by decide +kernel
theorem dX8_seated_25 : decode cX8_seated 25 = .ok (.ldc 52, 2) := by decide +kernel
theorem dX8_seated_27 : decode cX8_seated 27 = .ok (.ireturn, 1) := by decide +kernel
theorem dX8_seated_28 : decode cX8_seated 28 = .ok (.iconst (-1), 1) := by decide +kernel
theorem dX8_seated_29 : decode cX8_seated 29 = .ok (.istore 4, 2) := by decide +kernel
theorem dX8_seated_31 : decode cX8_seated 31 = .ok (.iconst 0, 1) := by decide +kernel
theorem dX8_seated_32 : decode cX8_seated 32 = .ok (.istore 5, 2) := by decide +kernel
theorem dX8_seated_34 : decode cX8_seated 34 = .ok (.iconst 0, 1) := by decide +kernel
theorem dX8_seated_35 : decode cX8_seated 35 = .ok (.istore 6, 2) := by decide +kernel
theorem dX8_seated_37 : decode cX8_seated 37 = .ok (.iload 6, 2) := by decide +kernel
theorem dX8_seated_39 : decode cX8_seated 39 = .ok (.aload_n 0, 1) := by decide +kernel
theorem dX8_seated_40 : decode cX8_seated 40 = .ok (.getfield 7, 3) := by decide +kernel
theorem dX8_seated_43 : decode cX8_seated 43 = .ok (.iconst 0, 1) := by decide +kernel
theorem dX8_seated_44 : decode cX8_seated 44 = .ok (.iaload, 1) := by decide +kernel
theorem dX8_seated_45 : decode cX8_seated 45 = .ok (.if_icmp .ge 116, 3) := by decide +kernel
theorem dX8_seated_48 : decode cX8_seated 48 = .ok (.aload_n 0, 1) := by decide +kernel
theorem dX8_seated_49 : decode cX8_seated 49 = .ok (.iconst 0, 1) := by decide +kernel
theorem dX8_seated_50 : decode cX8_seated 50 = .ok (.sipush 1053, 3) := by decide +kernel
theorem dX8_seated_53 : decode cX8_seated 53 = .ok (.invokevirtual 142, 3) := by decide +kernel
theorem dX8_seated_56 : decode cX8_seated 56 = .ok (.aload_n 0, 1) := by decide +kernel
theorem dX8_seated_57 : decode cX8_seated 57 = .ok (.getfield 7, 3) := by decide +kernel
theorem dX8_seated_60 : decode cX8_seated 60 = .ok (.sipush 1074, 3) := by decide +kernel
theorem dX8_seated_63 : decode cX8_seated 63 = .ok (.iload_n 1, 1) := by decide +kernel
theorem dX8_seated_64 : decode cX8_seated 64 = .ok (.iadd, 1) := by decide +kernel
theorem dX8_seated_65 : decode cX8_seated 65 = .ok (.aload_n 0, 1) := by decide +kernel
theorem dX8_seated_66 : decode cX8_seated 66 = .ok (.getfield 7, 3) := by decide +kernel
theorem dX8_seated_69 : decode cX8_seated 69 = .ok (.bipush 21, 2) := by decide +kernel
theorem dX8_seated_71 : decode cX8_seated 71 = .ok (.iload 6, 2) := by decide +kernel
theorem dX8_seated_73 : decode cX8_seated 73 = .ok (.iadd, 1) := by decide +kernel
theorem dX8_seated_74 : decode cX8_seated 74 = .ok (.iaload, 1) := by decide +kernel
theorem dX8_seated_75 : decode cX8_seated 75 = .ok (.iastore, 1) := by decide +kernel
theorem dX8_seated_76 : decode cX8_seated 76 = .ok (.aload_n 0, 1) := by decide +kernel
theorem dX8_seated_77 : decode cX8_seated 77 = .ok (.getfield 7, 3) := by decide +kernel
theorem dX8_seated_80 : decode cX8_seated 80 = .ok (.sipush 1074, 3) := by decide +kernel
theorem dX8_seated_83 : decode cX8_seated 83 = .ok (.iload 6, 2) := by decide +kernel
theorem dX8_seated_85 : decode cX8_seated 85 = .ok (.iadd, 1) := by decide +kernel
theorem dX8_seated_86 : decode cX8_seated 86 = .ok (.aload_n 0, 1) := by decide +kernel
theorem dX8_seated_87 : decode cX8_seated 87 = .ok (.getfield 7, 3) := by decide +kernel
theorem dX8_seated_90 : decode cX8_seated 90 = .ok (.bipush 21, 2) := by decide +kernel
theorem dX8_seated_92 : decode cX8_seated 92 = .ok (.iload_n 1, 1) := by decide +kernel
theorem dX8_seated_93 : decode cX8_seated 93 = .ok (.iadd, 1) := by decide +kernel
theorem dX8_seated_94 : decode cX8_seated 94 = .ok (.iaload, 1) := by decide +kernel
theorem dX8_seated_95 : decode cX8_seated 95 = .ok (.iastore, 1) := by decide +kernel
theorem dX8_seated_96 : decode cX8_seated 96 = .ok (.aload_n 0, 1) := by decide +kernel
theorem dX8_seated_97 : decode cX8_seated 97 = .ok (.iload_n 2, 1) := by decide +kernel
theorem dX8_seated_98 : decode cX8_seated 98 = .ok (.invokevirtual 213, 3) := by decide +kernel
theorem dX8_seated_101 : decode cX8_seated 101 = .ok (.aload_n 0, 1) := by decide +kernel
theorem dX8_seated_102 : decode cX8_seated 102 = .ok (.getfield 7, 3) := by decide +kernel
theorem dX8_seated_105 : decode cX8_seated 105 = .ok (.sipush 1068, 3) := by decide +kernel
theorem dX8_seated_108 : decode cX8_seated 108 = .ok (.iload_n 1, 1) := by decide +kernel
theorem dX8_seated_109 : decode cX8_seated 109 = .ok (.iadd, 1) := by decide +kernel
theorem dX8_seated_110 : decode cX8_seated 110 = .ok (.iaload, 1) := by decide +kernel
theorem dX8_seated_111 : decode cX8_seated 111 = .ok (.aload_n 0, 1) := by decide +kernel
theorem dX8_seated_112 : decode cX8_seated 112 = .ok (.getfield 7, 3) := by decide +kernel
theorem dX8_seated_115 : decode cX8_seated 115 = .ok (.bipush 15, 2) := by decide +kernel
theorem dX8_seated_117 : decode cX8_seated 117 = .ok (.iload_n 1, 1) := by decide +kernel
theorem dX8_seated_118 : decode cX8_seated 118 = .ok (.iadd, 1) := by decide +kernel
theorem dX8_seated_119 : decode cX8_seated 119 = .ok (.iaload, 1) := by decide +kernel
theorem dX8_seated_120 : decode cX8_seated 120 = .ok (.isub, 1) := by decide +kernel
theorem dX8_seated_121 : decode cX8_seated 121 = .ok (.istore 7, 2) := by decide +kernel
theorem dX8_seated_123 : decode cX8_seated 123 = .ok (.iload 7, 2) := by decide +kernel
theorem dX8_seated_125 : decode cX8_seated 125 = .ok (.iload 4, 2) := by decide +kernel
theorem dX8_seated_127 : decode cX8_seated 127 = .ok (.if_icmp .le 8, 3) := by decide +kernel
theorem dX8_seated_130 : decode cX8_seated 130 = .ok (.iload 6, 2) := by decide +kernel
theorem dX8_seated_132 : decode cX8_seated 132 = .ok (.goto 5, 3) := by decide +kernel
theorem dX8_seated_135 : decode cX8_seated 135 = .ok (.iload 5, 2) := by decide +kernel
theorem dX8_seated_137 : decode cX8_seated 137 = .ok (.istore 5, 2) := by decide +kernel
theorem dX8_seated_139 : decode cX8_seated 139 = .ok (.iload 7, 2) := by decide +kernel
theorem dX8_seated_141 : decode cX8_seated 141 = .ok (.iload 4, 2) := by decide +kernel
theorem dX8_seated_143 : decode cX8_seated 143 = .ok (.if_icmp .le 8, 3) := by decide +kernel
theorem dX8_seated_146 : decode cX8_seated 146 = .ok (.iload 7, 2) := by decide +kernel
theorem dX8_seated_148 : decode cX8_seated 148 = .ok (.goto 5, 3) := by decide +kernel
theorem dX8_seated_151 : decode cX8_seated 151 = .ok (.iload 4, 2) := by decide +kernel
theorem dX8_seated_153 : decode cX8_seated 153 = .ok (.istore 4, 2) := by decide +kernel
theorem dX8_seated_155 : decode cX8_seated 155 = .ok (.iinc 6 1, 3) := by decide +kernel
theorem dX8_seated_158 : decode cX8_seated 158 = .ok (.goto (-121), 3) := by decide +kernel
theorem dX8_seated_161 : decode cX8_seated 161 = .ok (.iload_n 3, 1) := by decide +kernel
theorem dX8_seated_162 : decode cX8_seated 162 = .ok (.ifCond .ne 8, 3) := by decide +kernel
theorem dX8_seated_165 : decode cX8_seated 165 = .ok (.iload 5, 2) := by decide +kernel
theorem dX8_seated_167 : decode cX8_seated 167 = .ok (.goto 5, 3) := by decide +kernel
theorem dX8_seated_170 : decode cX8_seated 170 = .ok (.iload 4, 2) := by decide +kernel
theorem dX8_seated_172 : decode cX8_seated 172 = .ok (.ireturn, 1) := by decide +kernel
theorem dX8_image_0 : decode cX8_image 0 = .ok (.iload_n 1, 1) := by decide +kernel
theorem dX8_image_1 : decode cX8_image 1 = .ok (.i2l, 1) := by decide +kernel
theorem dX8_image_2 : decode cX8_image 2 = .ok (.lconst 0, 1) := by decide +kernel
theorem dX8_image_3 : decode cX8_image 3 = .ok (.lconst 1, 1) := by decide +kernel
theorem dX8_image_4 : decode cX8_image 4 = .ok (.invokestatic 37, 3) := by decide +kernel
theorem dX8_image_7 : decode cX8_image 7 = .ok (.ifCond .ne 6, 3) := by decide +kernel
theorem dX8_image_10 : decode cX8_image 10 = .ok (.ldc 52, 2) := by decide +kernel
theorem dX8_image_12 : decode cX8_image 12 = .ok (.ireturn, 1) := by decide +kernel
theorem dX8_image_13 : decode cX8_image 13 = .ok (.aload_n 0, 1) := by decide +kernel
theorem dX8_image_14 : decode cX8_image 14 = .ok (.invokevirtual 177, 3) := by decide +kernel
theorem dX8_image_17 : decode cX8_image 17 = .ok (.ifCond .eq 6, 3) := by decide +kernel
theorem dX8_image_20 : decode cX8_image 20 = .ok (.ldc 180, 2) := by decide +kernel
theorem dX8_image_22 : decode cX8_image 22 = .ok (.ireturn, 1) := by decide +kernel
theorem dX8_image_23 : decode cX8_image 23 = .ok (.aload_n 0, 1) := by decide +kernel
theorem dX8_image_24 : decode cX8_image 24 = .ok (.iconst 0, 1) := by decide +kernel
theorem dX8_image_25 : decode cX8_image 25 = .ok (.bipush 39, 2) := by decide +kernel
theorem dX8_image_27 : decode cX8_image 27 = .ok (.bipush 39, 2) := by decide +kernel
theorem dX8_image_29 : decode cX8_image 29 = .ok (.iload_n 1, 1) := by decide +kernel
theorem dX8_image_30 : decode cX8_image 30 = .ok (.imul, 1) := by decide +kernel
theorem dX8_image_31 : decode cX8_image 31 = .ok (.iadd, 1) := by decide +kernel
theorem dX8_image_32 : decode cX8_image 32 = .ok (.invokevirtual 142, 3) := by decide +kernel
theorem dX8_image_35 : decode cX8_image 35 = .ok (.aload_n 0, 1) := by decide +kernel
theorem dX8_image_36 : decode cX8_image 36 = .ok (.getfield 28, 3) := by decide +kernel
theorem dX8_image_39 : decode cX8_image 39 = .ok (.iload_n 1, 1) := by decide +kernel
theorem dX8_image_40 : decode cX8_image 40 = .ok (.iconst 1, 1) := by decide +kernel
theorem dX8_image_41 : decode cX8_image 41 = .ok (.bastore, 1) := by decide +kernel
theorem dX8_image_42 : decode cX8_image 42 = .ok (.iconst 1, 1) := by decide +kernel
theorem dX8_image_43 : decode cX8_image 43 = .ok (.ireturn, 1) := by decide +kernel
theorem dX8_restore_0 : decode cX8_restore 0 = .ok (.iload_n 1, 1) := by decide +kernel
theorem dX8_restore_1 : decode cX8_restore 1 = .ok (.i2l, 1) := by decide +kernel
theorem dX8_restore_2 : decode cX8_restore 2 = .ok (.lconst 0, 1) := by decide +kernel
theorem dX8_restore_3 : decode cX8_restore 3 = .ok (.lconst 1, 1) := by decide +kernel
theorem dX8_restore_4 : decode cX8_restore 4 = .ok (.invokestatic 37, 3) := by decide +kernel
theorem dX8_restore_7 : decode cX8_restore 7 = .ok (.ifCond .ne 6, 3) := by decide +kernel
theorem dX8_restore_10 : decode cX8_restore 10 = .ok (.ldc 52, 2) := by decide +kernel
theorem dX8_restore_12 : decode cX8_restore 12 = .ok (.ireturn, 1) := by decide +kernel
theorem dX8_restore_13 : decode cX8_restore 13 = .ok (.aload_n 0, 1) := by decide +kernel
theorem dX8_restore_14 : decode cX8_restore 14 = .ok (.getfield 28, 3) := by decide +kernel
theorem dX8_restore_17 : decode cX8_restore 17 = .ok (.iload_n 1, 1) := by decide +kernel
theorem dX8_restore_18 : decode cX8_restore 18 = .ok (.baload, 1) := by decide +kernel
theorem dX8_restore_19 : decode cX8_restore 19 = .ok (.ifCond .ne 6, 3) := by decide +kernel
theorem dX8_restore_22 : decode cX8_restore 22 = .ok (.ldc 180, 2) := by decide +kernel
theorem dX8_restore_24 : decode cX8_restore 24 = .ok (.ireturn, 1) := by decide +kernel
theorem dX8_restore_25 : decode cX8_restore 25 = .ok (.aload_n 0, 1) := by decide +kernel
theorem dX8_restore_26 : decode cX8_restore 26 = .ok (.bipush 39, 2) := by decide +kernel
theorem dX8_restore_28 : decode cX8_restore 28 = .ok (.bipush 39, 2) := by decide +kernel
theorem dX8_restore_30 : decode cX8_restore 30 = .ok (.iload_n 1, 1) := by decide +kernel
theorem dX8_restore_31 : decode cX8_restore 31 = .ok (.imul, 1) := by decide +kernel
theorem dX8_restore_32 : decode cX8_restore 32 = .ok (.iadd, 1) := by decide +kernel
theorem dX8_restore_33 : decode cX8_restore 33 = .ok (.iconst 0, 1) := by decide +kernel
theorem dX8_restore_34 : decode cX8_restore 34 = .ok (.invokevirtual 142, 3) := by decide +kernel
theorem dX8_restore_37 : decode cX8_restore 37 = .ok (.aload_n 0, 1) := by decide +kernel
theorem dX8_restore_38 : decode cX8_restore 38 = .ok (.iconst 0, 1) := by decide +kernel
theorem dX8_restore_39 : decode cX8_restore 39 = .ok (.putfield 146, 3) := by decide +kernel
theorem dX8_restore_42 : decode cX8_restore 42 = .ok (.iconst 1, 1) := by decide +kernel
theorem dX8_restore_43 : decode cX8_restore 43 = .ok (.ireturn, 1) := by decide +kernel
theorem dX8_leaves_0 : decode cX8_leaves 0 = .ok (.aload_n 0, 1) := by decide +kernel
theorem dX8_leaves_1 : decode cX8_leaves 1 = .ok (.getfield 225, 3) := by decide +kernel
theorem dX8_leaves_4 : decode cX8_leaves 4 = .ok (.bipush 16, 2) := by decide +kernel
theorem dX8_leaves_6 : decode cX8_leaves 6 = .ok (.if_icmp .ge 23, 3) := by decide +kernel
theorem dX8_leaves_9 : decode cX8_leaves 9 = .ok (.aload_n 0, 1) := by decide +kernel
theorem dX8_leaves_10 : decode cX8_leaves 10 = .ok (.getfield 32, 3) := by decide +kernel
theorem dX8_leaves_13 : decode cX8_leaves 13 = .ok (.aload_n 0, 1) := by decide +kernel
theorem dX8_leaves_14 : decode cX8_leaves 14 = .ok (.getfield 225, 3) := by decide +kernel
theorem dX8_leaves_17 : decode cX8_leaves 17 = .ok (.iload_n 1, 1) := by decide +kernel
theorem dX8_leaves_18 : decode cX8_leaves 18 = .ok (.iastore, 1) := by decide +kernel
theorem dX8_leaves_19 : decode cX8_leaves 19 = .ok (.aload_n 0, 1) := by decide +kernel
theorem dX8_leaves_20 : decode cX8_leaves 20 = .ok (.dup, 1) := by decide +kernel
theorem dX8_leaves_21 : decode cX8_leaves 21 = .ok (.getfield 225, 3) := by decide +kernel
theorem dX8_leaves_24 : decode cX8_leaves 24 = .ok (.iconst 1, 1) := by decide +kernel
theorem dX8_leaves_25 : decode cX8_leaves 25 = .ok (.iadd, 1) := by decide +kernel
theorem dX8_leaves_26 : decode cX8_leaves 26 = .ok (.putfield 225, 3) := by decide +kernel
theorem dX8_leaves_29 : decode cX8_leaves 29 = .ok (.return_, 1) := by decide +kernel
theorem dX8_kind_0 : decode cX8_kind 0 = .ok (.aload_n 0, 1) := by decide +kernel
theorem dX8_kind_1 : decode cX8_kind 1 = .ok (.iload_n 1, 1) := by decide +kernel
theorem dX8_kind_2 : decode cX8_kind 2 = .ok (.invokevirtual 194, 3) := by decide +kernel
theorem dX8_kind_5 : decode cX8_kind 5 = .ok (.ifCond .eq 14, 3) := by decide +kernel
theorem dX8_kind_8 : decode cX8_kind 8 = .ok (.aload_n 0, 1) := by decide +kernel
theorem dX8_kind_9 : decode cX8_kind 9 = .ok (.getfield 7, 3) := by decide +kernel
theorem dX8_kind_12 : decode cX8_kind 12 = .ok (.iconst 3, 1) := by decide +kernel
theorem dX8_kind_13 : decode cX8_kind 13 = .ok (.iload_n 1, 1) := by decide +kernel
theorem dX8_kind_14 : decode cX8_kind 14 = .ok (.iadd, 1) := by decide +kernel
theorem dX8_kind_15 : decode cX8_kind 15 = .ok (.iaload, 1) := by decide +kernel
theorem dX8_kind_16 : decode cX8_kind 16 = .ok (.goto 5, 3) := by decide +kernel
theorem dX8_kind_19 : decode cX8_kind 19 = .ok (.ldc 52, 2) := by decide +kernel
theorem dX8_kind_21 : decode cX8_kind 21 = .ok (.ireturn, 1) := by decide +kernel
theorem dX8_isOf_0 : decode cX8_isOf 0 = .ok (.iload_n 1, 1) := by decide +kernel
theorem dX8_isOf_1 : decode cX8_isOf 1 = .ok (.ifCond .eq 33, 3) := by decide +kernel
theorem dX8_isOf_4 : decode cX8_isOf 4 = .ok (.iload_n 1, 1) := by decide +kernel
theorem dX8_isOf_5 : decode cX8_isOf 5 = .ok (.iload_n 0, 1) := by decide +kernel
theorem dX8_isOf_6 : decode cX8_isOf 6 = .ok (.if_icmp .eq 28, 3) := by decide +kernel
theorem dX8_isOf_9 : decode cX8_isOf 9 = .ok (.iload_n 1, 1) := by decide +kernel
theorem dX8_isOf_10 : decode cX8_isOf 10 = .ok (.iconst 1, 1) := by decide +kernel
theorem dX8_isOf_11 : decode cX8_isOf 11 = .ok (.if_icmp .ne 13, 3) := by decide +kernel
theorem dX8_isOf_14 : decode cX8_isOf 14 = .ok (.iload_n 0, 1) := by decide +kernel
theorem dX8_isOf_15 : decode cX8_isOf 15 = .ok (.iconst 2, 1) := by decide +kernel
theorem dX8_isOf_16 : decode cX8_isOf 16 = .ok (.if_icmp .eq 18, 3) := by decide +kernel
theorem dX8_isOf_19 : decode cX8_isOf 19 = .ok (.iload_n 0, 1) := by decide +kernel
theorem dX8_isOf_20 : decode cX8_isOf 20 = .ok (.iconst 3, 1) := by decide +kernel
theorem dX8_isOf_21 : decode cX8_isOf 21 = .ok (.if_icmp .eq 13, 3) := by decide +kernel
theorem dX8_isOf_24 : decode cX8_isOf 24 = .ok (.iload_n 1, 1) := by decide +kernel
theorem dX8_isOf_25 : decode cX8_isOf 25 = .ok (.iconst 4, 1) := by decide +kernel
theorem dX8_isOf_26 : decode cX8_isOf 26 = .ok (.if_icmp .ne 12, 3) := by decide +kernel
theorem dX8_isOf_29 : decode cX8_isOf 29 = .ok (.iload_n 0, 1) := by decide +kernel
theorem dX8_isOf_30 : decode cX8_isOf 30 = .ok (.iconst 5, 1) := by decide +kernel
theorem dX8_isOf_31 : decode cX8_isOf 31 = .ok (.if_icmp .ne 7, 3) := by decide +kernel
theorem dX8_isOf_34 : decode cX8_isOf 34 = .ok (.iconst 1, 1) := by decide +kernel
theorem dX8_isOf_35 : decode cX8_isOf 35 = .ok (.goto 4, 3) := by decide +kernel
theorem dX8_isOf_38 : decode cX8_isOf 38 = .ok (.iconst 0, 1) := by decide +kernel
theorem dX8_isOf_39 : decode cX8_isOf 39 = .ok (.ireturn, 1) := by decide +kernel
theorem dX8_as_0 : decode cX8_as 0 = .ok (.aload_n 0, 1) := by decide +kernel
theorem dX8_as_1 : decode cX8_as 1 = .ok (.iload_n 1, 1) := by decide +kernel
theorem dX8_as_2 : decode cX8_as 2 = .ok (.invokevirtual 194, 3) := by decide +kernel
theorem dX8_as_5 : decode cX8_as 5 = .ok (.ifCond .eq 15, 3) := by decide +kernel
theorem dX8_as_8 : decode cX8_as 8 = .ok (.iload_n 2, 1) := by decide +kernel
theorem dX8_as_9 : decode cX8_as 9 = .ok (.i2l, 1) := by decide +kernel
theorem dX8_as_10 : decode cX8_as 10 = .ok (.lconst 0, 1) := by decide +kernel
theorem dX8_as_11 : decode cX8_as 11 = .ok (.ldc2_w 228, 3) := by decide +kernel
theorem dX8_as_14 : decode cX8_as 14 = .ok (.invokestatic 37, 3) := by decide +kernel
theorem dX8_as_17 : decode cX8_as 17 = .ok (.ifCond .ne 6, 3) := by decide +kernel
theorem dX8_as_20 : decode cX8_as 20 = .ok (.ldc 52, 2) := by decide +kernel
theorem dX8_as_22 : decode cX8_as 22 = .ok (.ireturn, 1) := by decide +kernel
theorem dX8_as_23 : decode cX8_as 23 = .ok (.aload_n 0, 1) := by decide +kernel
theorem dX8_as_24 : decode cX8_as 24 = .ok (.getfield 7, 3) := by decide +kernel
theorem dX8_as_27 : decode cX8_as 27 = .ok (.iconst 3, 1) := by decide +kernel
theorem dX8_as_28 : decode cX8_as 28 = .ok (.iload_n 1, 1) := by decide +kernel
theorem dX8_as_29 : decode cX8_as 29 = .ok (.iadd, 1) := by decide +kernel
theorem dX8_as_30 : decode cX8_as 30 = .ok (.iaload, 1) := by decide +kernel
theorem dX8_as_31 : decode cX8_as 31 = .ok (.iload_n 2, 1) := by decide +kernel
theorem dX8_as_32 : decode cX8_as 32 = .ok (.invokestatic 230, 3) := by decide +kernel
theorem dX8_as_35 : decode cX8_as 35 = .ok (.ifCond .eq 11, 3) := by decide +kernel
theorem dX8_as_38 : decode cX8_as 38 = .ok (.aload_n 0, 1) := by decide +kernel
theorem dX8_as_39 : decode cX8_as 39 = .ok (.iload_n 1, 1) := by decide +kernel
theorem dX8_as_40 : decode cX8_as 40 = .ok (.invokevirtual 57, 3) := by decide +kernel
theorem dX8_as_43 : decode cX8_as 43 = .ok (.goto 8, 3) := by decide +kernel
theorem dX8_as_46 : decode cX8_as 46 = .ok (.aload_n 0, 1) := by decide +kernel
theorem dX8_as_47 : decode cX8_as 47 = .ok (.iconst 3, 1) := by decide +kernel
theorem dX8_as_48 : decode cX8_as 48 = .ok (.invokevirtual 53, 3) := by decide +kernel
theorem dX8_as_51 : decode cX8_as 51 = .ok (.ireturn, 1) := by decide +kernel
theorem dX8_sizeOf_0 : decode cX8_sizeOf 0 = .ok (.aload_n 0, 1) := by decide +kernel
theorem dX8_sizeOf_1 : decode cX8_sizeOf 1 = .ok (.getfield 7, 3) := by decide +kernel
theorem dX8_sizeOf_4 : decode cX8_sizeOf 4 = .ok (.iconst 3, 1) := by decide +kernel
theorem dX8_sizeOf_5 : decode cX8_sizeOf 5 = .ok (.iload_n 1, 1) := by decide +kernel
theorem dX8_sizeOf_6 : decode cX8_sizeOf 6 = .ok (.iadd, 1) := by decide +kernel
theorem dX8_sizeOf_7 : decode cX8_sizeOf 7 = .ok (.iaload, 1) := by decide +kernel
theorem dX8_sizeOf_8 : decode cX8_sizeOf 8 = .ok (.istore_n 2, 1) := by decide +kernel
theorem dX8_sizeOf_9 : decode cX8_sizeOf 9 = .ok (.iload_n 2, 1) := by decide +kernel
theorem dX8_sizeOf_10 : decode cX8_sizeOf 10 = .ok (.iconst 2, 1) := by decide +kernel
theorem dX8_sizeOf_11 : decode cX8_sizeOf 11 = .ok (.if_icmp .ne 9, 3) := by decide +kernel
theorem dX8_sizeOf_14 : decode cX8_sizeOf 14 = .ok (.aload_n 0, 1) := by decide +kernel
theorem dX8_sizeOf_15 : decode cX8_sizeOf 15 = .ok (.bipush 12, 2) := by decide +kernel
theorem dX8_sizeOf_17 : decode cX8_sizeOf 17 = .ok (.invokevirtual 233, 3) := by decide +kernel
theorem dX8_sizeOf_20 : decode cX8_sizeOf 20 = .ok (.iload_n 2, 1) := by decide +kernel
theorem dX8_sizeOf_21 : decode cX8_sizeOf 21 = .ok (.iconst 5, 1) := by decide +kernel
theorem dX8_sizeOf_22 : decode cX8_sizeOf 22 = .ok (.if_icmp .ne 9, 3) := by decide +kernel
theorem dX8_sizeOf_25 : decode cX8_sizeOf 25 = .ok (.aload_n 0, 1) := by decide +kernel
theorem dX8_sizeOf_26 : decode cX8_sizeOf 26 = .ok (.bipush 14, 2) := by decide +kernel
theorem dX8_sizeOf_28 : decode cX8_sizeOf 28 = .ok (.invokevirtual 233, 3) := by decide +kernel
theorem dX8_sizeOf_31 : decode cX8_sizeOf 31 = .ok (.iload_n 2, 1) := by decide +kernel
theorem dX8_sizeOf_32 : decode cX8_sizeOf 32 = .ok (.iconst 4, 1) := by decide +kernel
theorem dX8_sizeOf_33 : decode cX8_sizeOf 33 = .ok (.invokestatic 230, 3) := by decide +kernel
theorem dX8_sizeOf_36 : decode cX8_sizeOf 36 = .ok (.istore_n 3, 1) := by decide +kernel
theorem dX8_sizeOf_37 : decode cX8_sizeOf 37 = .ok (.aload_n 0, 1) := by decide +kernel
theorem dX8_sizeOf_38 : decode cX8_sizeOf 38 = .ok (.iload_n 3, 1) := by decide +kernel
theorem dX8_sizeOf_39 : decode cX8_sizeOf 39 = .ok (.ifCond .eq 8, 3) := by decide +kernel
theorem dX8_sizeOf_42 : decode cX8_sizeOf 42 = .ok (.bipush 13, 2) := by decide +kernel
theorem dX8_sizeOf_44 : decode cX8_sizeOf 44 = .ok (.goto 5, 3) := by decide +kernel
theorem dX8_sizeOf_47 : decode cX8_sizeOf 47 = .ok (.bipush 11, 2) := by decide +kernel
theorem dX8_sizeOf_49 : decode cX8_sizeOf 49 = .ok (.invokevirtual 233, 3) := by decide +kernel
theorem dX8_sizeOf_52 : decode cX8_sizeOf 52 = .ok (.aload_n 0, 1) := by decide +kernel
theorem dX8_sizeOf_53 : decode cX8_sizeOf 53 = .ok (.bipush 10, 2) := by decide +kernel
theorem dX8_sizeOf_55 : decode cX8_sizeOf 55 = .ok (.invokevirtual 233, 3) := by decide +kernel
theorem dX8_sizeOf_58 : decode cX8_sizeOf 58 = .ok (.aload_n 0, 1) := by decide +kernel
theorem dX8_sizeOf_59 : decode cX8_sizeOf 59 = .ok (.getfield 7, 3) := by decide +kernel
theorem dX8_sizeOf_62 : decode cX8_sizeOf 62 = .ok (.bipush 15, 2) := by decide +kernel
theorem dX8_sizeOf_64 : decode cX8_sizeOf 64 = .ok (.iload_n 1, 1) := by decide +kernel
theorem dX8_sizeOf_65 : decode cX8_sizeOf 65 = .ok (.iadd, 1) := by decide +kernel
theorem dX8_sizeOf_66 : decode cX8_sizeOf 66 = .ok (.iaload, 1) := by decide +kernel
theorem dX8_sizeOf_67 : decode cX8_sizeOf 67 = .ok (.iload_n 3, 1) := by decide +kernel
theorem dX8_sizeOf_68 : decode cX8_sizeOf 68 = .ok (.ifCond .eq 8, 3) := by decide +kernel
theorem dX8_sizeOf_71 : decode cX8_sizeOf 71 = .ok (.bipush (-100), 2) := by decide +kernel
theorem dX8_sizeOf_73 : decode cX8_sizeOf 73 = .ok (.goto 8, 3) := by decide +kernel
theorem dX8_sizeOf_76 : decode cX8_sizeOf 76 = .ok (.aload_n 0, 1) := by decide +kernel
theorem dX8_sizeOf_77 : decode cX8_sizeOf 77 = .ok (.iload_n 1, 1) := by decide +kernel
theorem dX8_sizeOf_78 : decode cX8_sizeOf 78 = .ok (.invokevirtual 236, 3) := by decide +kernel
theorem dX8_sizeOf_81 : decode cX8_sizeOf 81 = .ok (.iadd, 1) := by decide +kernel
theorem dX8_sizeOf_82 : decode cX8_sizeOf 82 = .ok (.istore 4, 2) := by decide +kernel
theorem dX8_sizeOf_84 : decode cX8_sizeOf 84 = .ok (.iload_n 2, 1) := by decide +kernel
theorem dX8_sizeOf_85 : decode cX8_sizeOf 85 = .ok (.iconst 2, 1) := by decide +kernel
theorem dX8_sizeOf_86 : decode cX8_sizeOf 86 = .ok (.if_icmp .ne 9, 3) := by decide +kernel
theorem dX8_sizeOf_89 : decode cX8_sizeOf 89 = .ok (.iload 4, 2) := by decide +kernel
theorem dX8_sizeOf_91 : decode cX8_sizeOf 91 = .ok (.ineg, 1) := by decide +kernel
theorem dX8_sizeOf_92 : decode cX8_sizeOf 92 = .ok (.goto 17, 3) := by decide +kernel
theorem dX8_sizeOf_95 : decode cX8_sizeOf 95 = .ok (.iload_n 2, 1) := by decide +kernel
theorem dX8_sizeOf_96 : decode cX8_sizeOf 96 = .ok (.iconst 5, 1) := by decide +kernel
theorem dX8_sizeOf_97 : decode cX8_sizeOf 97 = .ok (.if_icmp .ne 10, 3) := by decide +kernel
theorem dX8_sizeOf_100 : decode cX8_sizeOf 100 = .ok (.iconst 2, 1) := by decide +kernel
theorem dX8_sizeOf_101 : decode cX8_sizeOf 101 = .ok (.iload 4, 2) := by decide +kernel
theorem dX8_sizeOf_103 : decode cX8_sizeOf 103 = .ok (.imul, 1) := by decide +kernel
theorem dX8_sizeOf_104 : decode cX8_sizeOf 104 = .ok (.goto 5, 3) := by decide +kernel
theorem dX8_sizeOf_107 : decode cX8_sizeOf 107 = .ok (.iload 4, 2) := by decide +kernel
theorem dX8_sizeOf_109 : decode cX8_sizeOf 109 = .ok (.ireturn, 1) := by decide +kernel
theorem dX8_markOfEater_0 : decode cX8_markOfEater 0 = .ok (.aload_n 0, 1) := by decide +kernel
theorem dX8_markOfEater_1 : decode cX8_markOfEater 1 = .ok (.getfield 7, 3) := by decide +kernel
theorem dX8_markOfEater_4 : decode cX8_markOfEater 4 = .ok (.iconst 3, 1) := by decide +kernel
theorem dX8_markOfEater_5 : decode cX8_markOfEater 5 = .ok (.iload_n 1, 1) := by decide +kernel
theorem dX8_markOfEater_6 : decode cX8_markOfEater 6 = .ok (.iadd, 1) := by decide +kernel
theorem dX8_markOfEater_7 : decode cX8_markOfEater 7 = .ok (.iaload, 1) := by decide +kernel
theorem dX8_markOfEater_8 : decode cX8_markOfEater 8 = .ok (.istore_n 2, 1) := by decide +kernel
theorem dX8_markOfEater_9 : decode cX8_markOfEater 9 = .ok (.iload_n 2, 1) := by decide +kernel
theorem dX8_markOfEater_10 : decode cX8_markOfEater 10 = .ok (.iconst 3, 1) := by decide +kernel
theorem dX8_markOfEater_11 : decode cX8_markOfEater 11 = .ok (.if_icmp .ne 9, 3) := by decide +kernel
theorem dX8_markOfEater_14 : decode cX8_markOfEater 14 = .ok (.aload_n 0, 1) := by decide +kernel
theorem dX8_markOfEater_15 : decode cX8_markOfEater 15 = .ok (.bipush 22, 2) := by decide +kernel
theorem dX8_markOfEater_17 : decode cX8_markOfEater 17 = .ok (.invokevirtual 233, 3) := by decide +kernel
theorem dX8_markOfEater_20 : decode cX8_markOfEater 20 = .ok (.iload_n 2, 1) := by decide +kernel
theorem dX8_markOfEater_21 : decode cX8_markOfEater 21 = .ok (.iconst 2, 1) := by decide +kernel
theorem dX8_markOfEater_22 : decode cX8_markOfEater 22 = .ok (.if_icmp .ne 9, 3) := by decide +kernel
theorem dX8_markOfEater_25 : decode cX8_markOfEater 25 = .ok (.aload_n 0, 1) := by decide +kernel
theorem dX8_markOfEater_26 : decode cX8_markOfEater 26 = .ok (.bipush 24, 2) := by decide +kernel
theorem dX8_markOfEater_28 : decode cX8_markOfEater 28 = .ok (.invokevirtual 233, 3) := by decide +kernel
theorem dX8_markOfEater_31 : decode cX8_markOfEater 31 = .ok (.aload_n 0, 1) := by decide +kernel
theorem dX8_markOfEater_32 : decode cX8_markOfEater 32 = .ok (.bipush 21, 2) := by decide +kernel
theorem dX8_markOfEater_34 : decode cX8_markOfEater 34 = .ok (.invokevirtual 233, 3) := by decide +kernel
theorem dX8_markOfEater_37 : decode cX8_markOfEater 37 = .ok (.aload_n 0, 1) := by decide +kernel
theorem dX8_markOfEater_38 : decode cX8_markOfEater 38 = .ok (.bipush 20, 2) := by decide +kernel
theorem dX8_markOfEater_40 : decode cX8_markOfEater 40 = .ok (.invokevirtual 233, 3) := by decide +kernel
theorem dX8_markOfEater_43 : decode cX8_markOfEater 43 = .ok (.iload_n 1, 1) := by decide +kernel
theorem dX8_markOfEater_44 : decode cX8_markOfEater 44 = .ok (.aload_n 0, 1) := by decide +kernel
theorem dX8_markOfEater_45 : decode cX8_markOfEater 45 = .ok (.getfield 7, 3) := by decide +kernel
theorem dX8_markOfEater_48 : decode cX8_markOfEater 48 = .ok (.bipush 9, 2) := by decide +kernel
theorem dX8_markOfEater_50 : decode cX8_markOfEater 50 = .ok (.iload_n 1, 1) := by decide +kernel
theorem dX8_markOfEater_51 : decode cX8_markOfEater 51 = .ok (.iadd, 1) := by decide +kernel
theorem dX8_markOfEater_52 : decode cX8_markOfEater 52 = .ok (.iaload, 1) := by decide +kernel
theorem dX8_markOfEater_53 : decode cX8_markOfEater 53 = .ok (.iadd, 1) := by decide +kernel
theorem dX8_markOfEater_54 : decode cX8_markOfEater 54 = .ok (.istore_n 3, 1) := by decide +kernel
theorem dX8_markOfEater_55 : decode cX8_markOfEater 55 = .ok (.iload_n 2, 1) := by decide +kernel
theorem dX8_markOfEater_56 : decode cX8_markOfEater 56 = .ok (.iconst 3, 1) := by decide +kernel
theorem dX8_markOfEater_57 : decode cX8_markOfEater 57 = .ok (.if_icmp .ne 11, 3) := by decide +kernel
theorem dX8_markOfEater_60 : decode cX8_markOfEater 60 = .ok (.iload_n 3, 1) := by decide +kernel
theorem dX8_markOfEater_61 : decode cX8_markOfEater 61 = .ok (.sipush 1000, 3) := by decide +kernel
theorem dX8_markOfEater_64 : decode cX8_markOfEater 64 = .ok (.isub, 1) := by decide +kernel
theorem dX8_markOfEater_65 : decode cX8_markOfEater 65 = .ok (.goto 15, 3) := by decide +kernel
theorem dX8_markOfEater_68 : decode cX8_markOfEater 68 = .ok (.iload_n 2, 1) := by decide +kernel
theorem dX8_markOfEater_69 : decode cX8_markOfEater 69 = .ok (.iconst 2, 1) := by decide +kernel
theorem dX8_markOfEater_70 : decode cX8_markOfEater 70 = .ok (.if_icmp .ne 9, 3) := by decide +kernel
theorem dX8_markOfEater_73 : decode cX8_markOfEater 73 = .ok (.iconst 2, 1) := by decide +kernel
theorem dX8_markOfEater_74 : decode cX8_markOfEater 74 = .ok (.iload_n 3, 1) := by decide +kernel
theorem dX8_markOfEater_75 : decode cX8_markOfEater 75 = .ok (.imul, 1) := by decide +kernel
theorem dX8_markOfEater_76 : decode cX8_markOfEater 76 = .ok (.goto 4, 3) := by decide +kernel
theorem dX8_markOfEater_79 : decode cX8_markOfEater 79 = .ok (.iload_n 3, 1) := by decide +kernel
theorem dX8_markOfEater_80 : decode cX8_markOfEater 80 = .ok (.ireturn, 1) := by decide +kernel
theorem dX8_markOf_0 : decode cX8_markOf 0 = .ok (.aload_n 0, 1) := by decide +kernel
theorem dX8_markOf_1 : decode cX8_markOf 1 = .ok (.getfield 7, 3) := by decide +kernel
theorem dX8_markOf_4 : decode cX8_markOf 4 = .ok (.iconst 3, 1) := by decide +kernel
theorem dX8_markOf_5 : decode cX8_markOf 5 = .ok (.iload_n 1, 1) := by decide +kernel
theorem dX8_markOf_6 : decode cX8_markOf 6 = .ok (.iadd, 1) := by decide +kernel
theorem dX8_markOf_7 : decode cX8_markOf 7 = .ok (.iaload, 1) := by decide +kernel
theorem dX8_markOf_8 : decode cX8_markOf 8 = .ok (.iconst 4, 1) := by decide +kernel
theorem dX8_markOf_9 : decode cX8_markOf 9 = .ok (.invokestatic 230, 3) := by decide +kernel
theorem dX8_markOf_12 : decode cX8_markOf 12 = .ok (.ifCond .ne 9, 3) := by decide +kernel
theorem dX8_markOf_15 : decode cX8_markOf 15 = .ok (.aload_n 0, 1) := by decide +kernel
theorem dX8_markOf_16 : decode cX8_markOf 16 = .ok (.iload_n 1, 1) := by decide +kernel
theorem dX8_markOf_17 : decode cX8_markOf 17 = .ok (.invokevirtual 236, 3) := by decide +kernel
theorem dX8_markOf_20 : decode cX8_markOf 20 = .ok (.ireturn, 1) := by decide +kernel
theorem dX8_markOf_21 : decode cX8_markOf 21 = .ok (.aload_n 0, 1) := by decide +kernel
theorem dX8_markOf_22 : decode cX8_markOf 22 = .ok (.bipush 23, 2) := by decide +kernel
theorem dX8_markOf_24 : decode cX8_markOf 24 = .ok (.invokevirtual 233, 3) := by decide +kernel
theorem dX8_markOf_27 : decode cX8_markOf 27 = .ok (.aload_n 0, 1) := by decide +kernel
theorem dX8_markOf_28 : decode cX8_markOf 28 = .ok (.bipush 20, 2) := by decide +kernel
theorem dX8_markOf_30 : decode cX8_markOf 30 = .ok (.invokevirtual 233, 3) := by decide +kernel
theorem dX8_markOf_33 : decode cX8_markOf 33 = .ok (.iload_n 1, 1) := by decide +kernel
theorem dX8_markOf_34 : decode cX8_markOf 34 = .ok (.aload_n 0, 1) := by decide +kernel
theorem dX8_markOf_35 : decode cX8_markOf 35 = .ok (.iload_n 1, 1) := by decide +kernel
theorem dX8_markOf_36 : decode cX8_markOf 36 = .ok (.invokevirtual 239, 3) := by decide +kernel
theorem dX8_markOf_39 : decode cX8_markOf 39 = .ok (.isub, 1) := by decide +kernel
theorem dX8_markOf_40 : decode cX8_markOf 40 = .ok (.ireturn, 1) := by decide +kernel
theorem dX8_ask_0 : decode cX8_ask 0 = .ok (.aload_n 0, 1) := by decide +kernel
theorem dX8_ask_1 : decode cX8_ask 1 = .ok (.iload_n 1, 1) := by decide +kernel
theorem dX8_ask_2 : decode cX8_ask 2 = .ok (.invokevirtual 194, 3) := by decide +kernel
theorem dX8_ask_5 : decode cX8_ask 5 = .ok (.ifCond .eq 13, 3) := by decide +kernel
theorem dX8_ask_8 : decode cX8_ask 8 = .ok (.iload_n 2, 1) := by decide +kernel
theorem dX8_ask_9 : decode cX8_ask 9 = .ok (.i2l, 1) := by decide +kernel
theorem dX8_ask_10 : decode cX8_ask 10 = .ok (.lconst 0, 1) := by decide +kernel
theorem dX8_ask_11 : decode cX8_ask 11 = .ok (.lconst 1, 1) := by decide +kernel
theorem dX8_ask_12 : decode cX8_ask 12 = .ok (.invokestatic 37, 3) := by decide +kernel
theorem dX8_ask_15 : decode cX8_ask 15 = .ok (.ifCond .ne 6, 3) := by decide +kernel
theorem dX8_ask_18 : decode cX8_ask 18 = .ok (.ldc 52, 2) := by decide +kernel
theorem dX8_ask_20 : decode cX8_ask 20 = .ok (.ireturn, 1) := by decide +kernel
theorem dX8_ask_21 : decode cX8_ask 21 = .ok (.aload_n 0, 1) := by decide +kernel
theorem dX8_ask_22 : decode cX8_ask 22 = .ok (.iconst 0, 1) := by decide +kernel
theorem dX8_ask_23 : decode cX8_ask 23 = .ok (.putfield 225, 3) := by decide +kernel
theorem dX8_ask_26 : decode cX8_ask 26 = .ok (.iload_n 2, 1) := by decide +kernel
theorem dX8_ask_27 : decode cX8_ask 27 = .ok (.ifCond .ne 11, 3) := by decide +kernel
theorem dX8_ask_30 : decode cX8_ask 30 = .ok (.aload_n 0, 1) := by decide +kernel
theorem dX8_ask_31 : decode cX8_ask 31 = .ok (.iload_n 1, 1) := by decide +kernel
theorem dX8_ask_32 : decode cX8_ask 32 = .ok (.invokevirtual 239, 3) := by decide +kernel
theorem dX8_ask_35 : decode cX8_ask 35 = .ok (.goto 8, 3) := by decide +kernel
theorem dX8_ask_38 : decode cX8_ask 38 = .ok (.aload_n 0, 1) := by decide +kernel
theorem dX8_ask_39 : decode cX8_ask 39 = .ok (.iload_n 1, 1) := by decide +kernel
theorem dX8_ask_40 : decode cX8_ask 40 = .ok (.invokevirtual 242, 3) := by decide +kernel
theorem dX8_ask_43 : decode cX8_ask 43 = .ok (.ireturn, 1) := by decide +kernel
theorem dX8_trace_0 : decode cX8_trace 0 = .ok (.iload_n 1, 1) := by decide +kernel
theorem dX8_trace_1 : decode cX8_trace 1 = .ok (.i2l, 1) := by decide +kernel
theorem dX8_trace_2 : decode cX8_trace 2 = .ok (.lconst 0, 1) := by decide +kernel
theorem dX8_trace_3 : decode cX8_trace 3 = .ok (.aload_n 0, 1) := by decide +kernel
theorem dX8_trace_4 : decode cX8_trace 4 = .ok (.getfield 225, 3) := by decide +kernel
theorem dX8_trace_7 : decode cX8_trace 7 = .ok (.iconst 1, 1) := by decide +kernel
theorem dX8_trace_8 : decode cX8_trace 8 = .ok (.isub, 1) := by decide +kernel
theorem dX8_trace_9 : decode cX8_trace 9 = .ok (.i2l, 1) := by decide +kernel
theorem dX8_trace_10 : decode cX8_trace 10 = .ok (.invokestatic 37, 3) := by decide +kernel
theorem dX8_trace_13 : decode cX8_trace 13 = .ok (.ifCond .eq 12, 3) := by decide +kernel
theorem dX8_trace_16 : decode cX8_trace 16 = .ok (.aload_n 0, 1) := by decide +kernel
theorem dX8_trace_17 : decode cX8_trace 17 = .ok (.getfield 32, 3) := by decide +kernel
theorem dX8_trace_20 : decode cX8_trace 20 = .ok (.iload_n 1, 1) := by decide +kernel
theorem dX8_trace_21 : decode cX8_trace 21 = .ok (.iaload, 1) := by decide +kernel
theorem dX8_trace_22 : decode cX8_trace 22 = .ok (.goto 5, 3) := by decide +kernel
theorem dX8_trace_25 : decode cX8_trace 25 = .ok (.ldc 216, 2) := by decide +kernel
theorem dX8_trace_27 : decode cX8_trace 27 = .ok (.ireturn, 1) := by decide +kernel
theorem dX8_count_0 : decode cX8_count 0 = .ok (.iconst 0, 1) := by decide +kernel
theorem dX8_count_1 : decode cX8_count 1 = .ok (.istore_n 2, 1) := by decide +kernel
theorem dX8_count_2 : decode cX8_count 2 = .ok (.iconst 0, 1) := by decide +kernel
theorem dX8_count_3 : decode cX8_count 3 = .ok (.istore_n 3, 1) := by decide +kernel
theorem dX8_count_4 : decode cX8_count 4 = .ok (.iconst 0, 1) := by decide +kernel
theorem dX8_count_5 : decode cX8_count 5 = .ok (.istore 4, 2) := by decide +kernel
theorem dX8_count_7 : decode cX8_count 7 = .ok (.iload 4, 2) := by decide +kernel
theorem dX8_count_9 : decode cX8_count 9 = .ok (.bipush 8, 2) := by decide +kernel
theorem dX8_count_11 : decode cX8_count 11 = .ok (.if_icmp .ge 27, 3) := by decide +kernel
theorem dX8_count_14 : decode cX8_count 14 = .ok (.iload_n 2, 1) := by decide +kernel
theorem dX8_count_15 : decode cX8_count 15 = .ok (.aload_n 0, 1) := by decide +kernel
theorem dX8_count_16 : decode cX8_count 16 = .ok (.getfield 16, 3) := by decide +kernel
theorem dX8_count_19 : decode cX8_count 19 = .ok (.iload 4, 2) := by decide +kernel
theorem dX8_count_21 : decode cX8_count 21 = .ok (.iaload, 1) := by decide +kernel
theorem dX8_count_22 : decode cX8_count 22 = .ok (.ifCond .ge 7, 3) := by decide +kernel
theorem dX8_count_25 : decode cX8_count 25 = .ok (.iconst 0, 1) := by decide +kernel
theorem dX8_count_26 : decode cX8_count 26 = .ok (.goto 4, 3) := by decide +kernel
theorem dX8_count_29 : decode cX8_count 29 = .ok (.iconst 1, 1) := by decide +kernel
theorem dX8_count_30 : decode cX8_count 30 = .ok (.iadd, 1) := by decide +kernel
theorem dX8_count_31 : decode cX8_count 31 = .ok (.istore_n 2, 1) := by decide +kernel
theorem dX8_count_32 : decode cX8_count 32 = .ok (.iinc 4 1, 3) := by decide +kernel
theorem dX8_count_35 : decode cX8_count 35 = .ok (.goto (-28), 3) := by decide +kernel
theorem dX8_count_38 : decode cX8_count 38 = .ok (.iconst 0, 1) := by decide +kernel
theorem dX8_count_39 : decode cX8_count 39 = .ok (.istore 4, 2) := by decide +kernel
theorem dX8_count_41 : decode cX8_count 41 = .ok (.iload 4, 2) := by decide +kernel
theorem dX8_count_43 : decode cX8_count 43 = .ok (.aload_n 0, 1) := by decide +kernel
theorem dX8_count_44 : decode cX8_count 44 = .ok (.getfield 7, 3) := by decide +kernel
theorem dX8_count_47 : decode cX8_count 47 = .ok (.iconst 0, 1) := by decide +kernel
theorem dX8_count_48 : decode cX8_count 48 = .ok (.iaload, 1) := by decide +kernel
theorem dX8_count_49 : decode cX8_count 49 = .ok (.if_icmp .ge 22, 3) := by decide +kernel
theorem dX8_count_52 : decode cX8_count 52 = .ok (.iload_n 3, 1) := by decide +kernel
theorem dX8_count_53 : decode cX8_count 53 = .ok (.aload_n 0, 1) := by decide +kernel
theorem dX8_count_54 : decode cX8_count 54 = .ok (.getfield 7, 3) := by decide +kernel
theorem dX8_count_57 : decode cX8_count 57 = .ok (.bipush 27, 2) := by decide +kernel
theorem dX8_count_59 : decode cX8_count 59 = .ok (.iload 4, 2) := by decide +kernel
theorem dX8_count_61 : decode cX8_count 61 = .ok (.iadd, 1) := by decide +kernel
theorem dX8_count_62 : decode cX8_count 62 = .ok (.iaload, 1) := by decide +kernel
theorem dX8_count_63 : decode cX8_count 63 = .ok (.iadd, 1) := by decide +kernel
theorem dX8_count_64 : decode cX8_count 64 = .ok (.istore_n 3, 1) := by decide +kernel
theorem dX8_count_65 : decode cX8_count 65 = .ok (.iinc 4 1, 3) := by decide +kernel
theorem dX8_count_68 : decode cX8_count 68 = .ok (.goto (-27), 3) := by decide +kernel
theorem dX8_count_71 : decode cX8_count 71 = .ok (.iload_n 1, 1) := by decide +kernel
theorem dX8_count_72 : decode cX8_count 72 = .ok (.tableswitch 79 0 6 #[44, 46, 53, 60, 67, 69, 74], 44) := by decide +kernel
theorem dX8_count_116 : decode cX8_count 116 = .ok (.iload_n 2, 1) := by decide +kernel
theorem dX8_count_117 : decode cX8_count 117 = .ok (.ireturn, 1) := by decide +kernel
theorem dX8_count_118 : decode cX8_count 118 = .ok (.aload_n 0, 1) := by decide +kernel
theorem dX8_count_119 : decode cX8_count 119 = .ok (.getfield 7, 3) := by decide +kernel
theorem dX8_count_122 : decode cX8_count 122 = .ok (.iconst 0, 1) := by decide +kernel
theorem dX8_count_123 : decode cX8_count 123 = .ok (.iaload, 1) := by decide +kernel
theorem dX8_count_124 : decode cX8_count 124 = .ok (.ireturn, 1) := by decide +kernel
theorem dX8_count_125 : decode cX8_count 125 = .ok (.aload_n 0, 1) := by decide +kernel
theorem dX8_count_126 : decode cX8_count 126 = .ok (.getfield 7, 3) := by decide +kernel
theorem dX8_count_129 : decode cX8_count 129 = .ok (.iconst 2, 1) := by decide +kernel
theorem dX8_count_130 : decode cX8_count 130 = .ok (.iaload, 1) := by decide +kernel
theorem dX8_count_131 : decode cX8_count 131 = .ok (.ireturn, 1) := by decide +kernel
theorem dX8_count_132 : decode cX8_count 132 = .ok (.aload_n 0, 1) := by decide +kernel
theorem dX8_count_133 : decode cX8_count 133 = .ok (.getfield 7, 3) := by decide +kernel
theorem dX8_count_136 : decode cX8_count 136 = .ok (.iconst 1, 1) := by decide +kernel
theorem dX8_count_137 : decode cX8_count 137 = .ok (.iaload, 1) := by decide +kernel
theorem dX8_count_138 : decode cX8_count 138 = .ok (.ireturn, 1) := by decide +kernel
theorem dX8_count_139 : decode cX8_count 139 = .ok (.iload_n 3, 1) := by decide +kernel
theorem dX8_count_140 : decode cX8_count 140 = .ok (.ireturn, 1) := by decide +kernel
theorem dX8_count_141 : decode cX8_count 141 = .ok (.aload_n 0, 1) := by decide +kernel
theorem dX8_count_142 : decode cX8_count 142 = .ok (.getfield 146, 3) := by decide +kernel
theorem dX8_count_145 : decode cX8_count 145 = .ok (.ireturn, 1) := by decide +kernel
theorem dX8_count_146 : decode cX8_count 146 = .ok (.aload_n 0, 1) := by decide +kernel
theorem dX8_count_147 : decode cX8_count 147 = .ok (.getfield 66, 3) := by decide +kernel
theorem dX8_count_150 : decode cX8_count 150 = .ok (.ireturn, 1) := by decide +kernel
theorem dX8_count_151 : decode cX8_count 151 = .ok (.ldc 52, 2) := by decide +kernel
theorem dX8_count_153 : decode cX8_count 153 = .ok (.ireturn, 1) := by decide +kernel
theorem dX8_status_0 : decode cX8_status 0 = .ok (.aload_n 0, 1) := by decide +kernel
theorem dX8_status_1 : decode cX8_status 1 = .ok (.getfield 41, 3) := by decide +kernel
theorem dX8_status_4 : decode cX8_status 4 = .ok (.ireturn, 1) := by decide +kernel
