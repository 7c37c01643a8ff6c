theorem dX0_init_0 : decode cX0_init 0 = .ok (.aload_n 0, 1) := by decide +kernel
theorem dX0_init_1 : decode cX0_init 1 = .ok (.invokespecial 3, 3) := by decide +kernel
theorem dX0_init_4 : decode cX0_init 4 = .ok (.aload_n 0, 1) := by decide +kernel
theorem dX0_init_5 : decode cX0_init 5 = .ok (.bipush 24, 2) := by decide +kernel
theorem dX0_init_7 : decode cX0_init 7 = .ok (.anewarray 9, 3) := by decide +kernel
theorem dX0_init_10 : decode cX0_init 10 = .ok (.putfield 11, 3) := by decide +kernel
theorem dX0_init_13 : decode cX0_init 13 = .ok (.iconst 0, 1) := by decide +kernel
theorem dX0_init_14 : decode cX0_init 14 = .ok (.istore_n 1, 1) := by decide +kernel
theorem dX0_init_15 : decode cX0_init 15 = .ok (.iload_n 1, 1) := by decide +kernel
theorem dX0_init_16 : decode cX0_init 16 = .ok (.aload_n 0, 1) := by decide +kernel
theorem dX0_init_17 : decode cX0_init 17 = .ok (.getfield 11, 3) := by decide +kernel
theorem dX0_init_20 : decode cX0_init 20 = .ok (.arraylength, 1) := by decide +kernel
theorem dX0_init_21 : decode cX0_init 21 = .ok (.if_icmp .ge 22, 3) := by decide +kernel
theorem dX0_init_24 : decode cX0_init 24 = .ok (.aload_n 0, 1) := by decide +kernel
theorem dX0_init_25 : decode cX0_init 25 = .ok (.getfield 11, 3) := by decide +kernel
theorem dX0_init_28 : decode cX0_init 28 = .ok (.iload_n 1, 1) := by decide +kernel
theorem dX0_init_29 : decode cX0_init 29 = .ok (.new 9, 3) := by decide +kernel
theorem dX0_init_32 : decode cX0_init 32 = .ok (.dup, 1) := by decide +kernel
theorem dX0_init_33 : decode cX0_init 33 = .ok (.invokespecial 17, 3) := by decide +kernel
theorem dX0_init_36 : decode cX0_init 36 = .ok (.aastore, 1) := by decide +kernel
theorem dX0_init_37 : decode cX0_init 37 = .ok (.iinc 1 1, 3) := by decide +kernel
theorem dX0_init_40 : decode cX0_init 40 = .ok (.goto (-25), 3) := by decide +kernel
theorem dX0_init_43 : decode cX0_init 43 = .ok (.return_, 1) := by decide +kernel
theorem dX0_keep_0 : decode cX0_keep 0 = .ok (.aload_n 0, 1) := by decide +kernel
theorem dX0_keep_1 : decode cX0_keep 1 = .ok (.aload_n 0, 1) := by decide +kernel
theorem dX0_keep_2 : decode cX0_keep 2 = .ok (.getfield 18, 3) := by decide +kernel
theorem dX0_keep_5 : decode cX0_keep 5 = .ok (.invokevirtual 22, 3) := by decide +kernel
theorem dX0_keep_8 : decode cX0_keep 8 = .ok (.astore_n 2, 1) := by decide +kernel
theorem dX0_keep_9 : decode cX0_keep 9 = .ok (.aload_n 2, 1) := by decide +kernel
theorem dX0_keep_10 : decode cX0_keep 10 = .ok (.ifnull 8, 3) := by decide +kernel
theorem dX0_keep_13 : decode cX0_keep 13 = .ok (.aload_n 2, 1) := by decide +kernel
theorem dX0_keep_14 : decode cX0_keep 14 = .ok (.aload_n 1, 1) := by decide +kernel
theorem dX0_keep_15 : decode cX0_keep 15 = .ok (.invokevirtual 26, 3) := by decide +kernel
theorem dX0_keep_18 : decode cX0_keep 18 = .ok (.aload_n 0, 1) := by decide +kernel
theorem dX0_keep_19 : decode cX0_keep 19 = .ok (.aload_n 0, 1) := by decide +kernel
theorem dX0_keep_20 : decode cX0_keep 20 = .ok (.getfield 18, 3) := by decide +kernel
theorem dX0_keep_23 : decode cX0_keep 23 = .ok (.iconst 1, 1) := by decide +kernel
theorem dX0_keep_24 : decode cX0_keep 24 = .ok (.iadd, 1) := by decide +kernel
theorem dX0_keep_25 : decode cX0_keep 25 = .ok (.bipush 24, 2) := by decide +kernel
theorem dX0_keep_27 : decode cX0_keep 27 = .ok (.invokestatic 30, 3) := by decide +kernel
theorem dX0_keep_30 : decode cX0_keep 30 = .ok (.putfield 18, 3) := by decide +kernel
theorem dX0_keep_33 : decode cX0_keep 33 = .ok (.aload_n 0, 1) := by decide +kernel
theorem dX0_keep_34 : decode cX0_keep 34 = .ok (.aload_n 0, 1) := by decide +kernel
theorem dX0_keep_35 : decode cX0_keep 35 = .ok (.getfield 34, 3) := by decide +kernel
theorem dX0_keep_38 : decode cX0_keep 38 = .ok (.iconst 1, 1) := by decide +kernel
theorem dX0_keep_39 : decode cX0_keep 39 = .ok (.iadd, 1) := by decide +kernel
theorem dX0_keep_40 : decode cX0_keep 40 = .ok (.bipush 24, 2) := by decide +kernel
theorem dX0_keep_42 : decode cX0_keep 42 = .ok (.invokestatic 37, 3) := by decide +kernel
theorem dX0_keep_45 : decode cX0_keep 45 = .ok (.putfield 34, 3) := by decide +kernel
theorem dX0_keep_48 : decode cX0_keep 48 = .ok (.return_, 1) := by decide +kernel
theorem dX0_giveBack_0 : decode cX0_giveBack 0 = .ok (.aload_n 0, 1) := by decide +kernel
theorem dX0_giveBack_1 : decode cX0_giveBack 1 = .ok (.aload_n 0, 1) := by decide +kernel
theorem dX0_giveBack_2 : decode cX0_giveBack 2 = .ok (.getfield 18, 3) := by decide +kernel
theorem dX0_giveBack_5 : decode cX0_giveBack 5 = .ok (.iconst 1, 1) := by decide +kernel
theorem dX0_giveBack_6 : decode cX0_giveBack 6 = .ok (.isub, 1) := by decide +kernel
theorem dX0_giveBack_7 : decode cX0_giveBack 7 = .ok (.bipush 24, 2) := by decide +kernel
theorem dX0_giveBack_9 : decode cX0_giveBack 9 = .ok (.invokestatic 30, 3) := by decide +kernel
theorem dX0_giveBack_12 : decode cX0_giveBack 12 = .ok (.putfield 18, 3) := by decide +kernel
theorem dX0_giveBack_15 : decode cX0_giveBack 15 = .ok (.aload_n 1, 1) := by decide +kernel
theorem dX0_giveBack_16 : decode cX0_giveBack 16 = .ok (.aload_n 0, 1) := by decide +kernel
theorem dX0_giveBack_17 : decode cX0_giveBack 17 = .ok (.aload_n 0, 1) := by decide +kernel
theorem dX0_giveBack_18 : decode cX0_giveBack 18 = .ok (.getfield 18, 3) := by decide +kernel
theorem dX0_giveBack_21 : decode cX0_giveBack 21 = .ok (.invokevirtual 22, 3) := by decide +kernel
theorem dX0_giveBack_24 : decode cX0_giveBack 24 = .ok (.invokevirtual 26, 3) := by decide +kernel
theorem dX0_giveBack_27 : decode cX0_giveBack 27 = .ok (.aload_n 0, 1) := by decide +kernel
theorem dX0_giveBack_28 : decode cX0_giveBack 28 = .ok (.dup, 1) := by decide +kernel
theorem dX0_giveBack_29 : decode cX0_giveBack 29 = .ok (.getfield 34, 3) := by decide +kernel
theorem dX0_giveBack_32 : decode cX0_giveBack 32 = .ok (.iconst 1, 1) := by decide +kernel
theorem dX0_giveBack_33 : decode cX0_giveBack 33 = .ok (.isub, 1) := by decide +kernel
theorem dX0_giveBack_34 : decode cX0_giveBack 34 = .ok (.putfield 34, 3) := by decide +kernel
theorem dX0_giveBack_37 : decode cX0_giveBack 37 = .ok (.return_, 1) := by decide +kernel
theorem dX0_forget_0 : decode cX0_forget 0 = .ok (.aload_n 0, 1) := by decide +kernel
theorem dX0_forget_1 : decode cX0_forget 1 = .ok (.iconst 0, 1) := by decide +kernel
theorem dX0_forget_2 : decode cX0_forget 2 = .ok (.putfield 34, 3) := by decide +kernel
theorem dX0_forget_5 : decode cX0_forget 5 = .ok (.return_, 1) := by decide +kernel
theorem dX0_at_0 : decode cX0_at 0 = .ok (.iload_n 1, 1) := by decide +kernel
theorem dX0_at_1 : decode cX0_at 1 = .ok (.ifCond .lt 21, 3) := by decide +kernel
theorem dX0_at_4 : decode cX0_at 4 = .ok (.iload_n 1, 1) := by decide +kernel
theorem dX0_at_5 : decode cX0_at 5 = .ok (.aload_n 0, 1) := by decide +kernel
theorem dX0_at_6 : decode cX0_at 6 = .ok (.getfield 11, 3) := by decide +kernel
theorem dX0_at_9 : decode cX0_at 9 = .ok (.arraylength, 1) := by decide +kernel
theorem dX0_at_10 : decode cX0_at 10 = .ok (.if_icmp .ge 12, 3) := by decide +kernel
theorem dX0_at_13 : decode cX0_at 13 = .ok (.aload_n 0, 1) := by decide +kernel
theorem dX0_at_14 : decode cX0_at 14 = .ok (.getfield 11, 3) := by decide +kernel
theorem dX0_at_17 : decode cX0_at 17 = .ok (.iload_n 1, 1) := by decide +kernel
theorem dX0_at_18 : decode cX0_at 18 = .ok (.aaload, 1) := by decide +kernel
theorem dX0_at_19 : decode cX0_at 19 = .ok (.goto 4, 3) := by decide +kernel
theorem dX0_at_22 : decode cX0_at 22 = .ok (.aconst_null, 1) := by decide +kernel
theorem dX0_at_23 : decode cX0_at 23 = .ok (.areturn, 1) := by decide +kernel
theorem dX1_init_0 : decode cX1_init 0 = .ok (.aload_n 0, 1) := by decide +kernel
theorem dX1_init_1 : decode cX1_init 1 = .ok (.invokespecial 3, 3) := by decide +kernel
theorem dX1_init_4 : decode cX1_init 4 = .ok (.aload_n 0, 1) := by decide +kernel
theorem dX1_init_5 : decode cX1_init 5 = .ok (.bipush 16, 2) := by decide +kernel
theorem dX1_init_7 : decode cX1_init 7 = .ok (.newarray .int, 2) := by decide +kernel
theorem dX1_init_9 : decode cX1_init 9 = .ok (.putfield 9, 3) := by decide +kernel
theorem dX1_init_12 : decode cX1_init 12 = .ok (.return_, 1) := by decide +kernel
theorem dX1_begin_0 : decode cX1_begin 0 = .ok (.aload_n 0, 1) := by decide +kernel
theorem dX1_begin_1 : decode cX1_begin 1 = .ok (.iconst 0, 1) := by decide +kernel
theorem dX1_begin_2 : decode cX1_begin 2 = .ok (.putfield 15, 3) := by decide +kernel
theorem dX1_begin_5 : decode cX1_begin 5 = .ok (.aload_n 0, 1) := by decide +kernel
theorem dX1_begin_6 : decode cX1_begin 6 = .ok (.iload_n 2, 1) := by decide +kernel
theorem dX1_begin_7 : decode cX1_begin 7 = .ok (.putfield 19, 3) := by decide +kernel
theorem dX1_begin_10 : decode cX1_begin 10 = .ok (.aload_n 0, 1) := by decide +kernel
theorem dX1_begin_11 : decode cX1_begin 11 = .ok (.aload_n 1, 1) := by decide +kernel
theorem dX1_begin_12 : decode cX1_begin 12 = .ok (.iconst 0, 1) := by decide +kernel
theorem dX1_begin_13 : decode cX1_begin 13 = .ok (.iload_n 2, 1) := by decide +kernel
theorem dX1_begin_14 : decode cX1_begin 14 = .ok (.invokevirtual 24, 3) := by decide +kernel
theorem dX1_begin_17 : decode cX1_begin 17 = .ok (.putfield 28, 3) := by decide +kernel
theorem dX1_begin_20 : decode cX1_begin 20 = .ok (.aload_n 0, 1) := by decide +kernel
theorem dX1_begin_21 : decode cX1_begin 21 = .ok (.aload_n 1, 1) := by decide +kernel
theorem dX1_begin_22 : decode cX1_begin 22 = .ok (.iconst 1, 1) := by decide +kernel
theorem dX1_begin_23 : decode cX1_begin 23 = .ok (.iload_n 2, 1) := by decide +kernel
theorem dX1_begin_24 : decode cX1_begin 24 = .ok (.invokevirtual 24, 3) := by decide +kernel
theorem dX1_begin_27 : decode cX1_begin 27 = .ok (.putfield 31, 3) := by decide +kernel
theorem dX1_begin_30 : decode cX1_begin 30 = .ok (.aload_n 0, 1) := by decide +kernel
theorem dX1_begin_31 : decode cX1_begin 31 = .ok (.aload_n 1, 1) := by decide +kernel
theorem dX1_begin_32 : decode cX1_begin 32 = .ok (.iconst 3, 1) := by decide +kernel
theorem dX1_begin_33 : decode cX1_begin 33 = .ok (.iload_n 2, 1) := by decide +kernel
theorem dX1_begin_34 : decode cX1_begin 34 = .ok (.invokevirtual 24, 3) := by decide +kernel
theorem dX1_begin_37 : decode cX1_begin 37 = .ok (.putfield 34, 3) := by decide +kernel
theorem dX1_begin_40 : decode cX1_begin 40 = .ok (.return_, 1) := by decide +kernel
theorem dX1_traced_0 : decode cX1_traced 0 = .ok (.iload_n 1, 1) := by decide +kernel
theorem dX1_traced_1 : decode cX1_traced 1 = .ok (.ifCond .lt 29, 3) := by decide +kernel
theorem dX1_traced_4 : decode cX1_traced 4 = .ok (.iload_n 1, 1) := by decide +kernel
theorem dX1_traced_5 : decode cX1_traced 5 = .ok (.aload_n 0, 1) := by decide +kernel
theorem dX1_traced_6 : decode cX1_traced 6 = .ok (.getfield 15, 3) := by decide +kernel
theorem dX1_traced_9 : decode cX1_traced 9 = .ok (.if_icmp .ge 21, 3) := by decide +kernel
theorem dX1_traced_12 : decode cX1_traced 12 = .ok (.iload_n 1, 1) := by decide +kernel
theorem dX1_traced_13 : decode cX1_traced 13 = .ok (.aload_n 0, 1) := by decide +kernel
theorem dX1_traced_14 : decode cX1_traced 14 = .ok (.getfield 9, 3) := by decide +kernel
theorem dX1_traced_17 : decode cX1_traced 17 = .ok (.arraylength, 1) := by decide +kernel
theorem dX1_traced_18 : decode cX1_traced 18 = .ok (.if_icmp .ge 12, 3) := by decide +kernel
theorem dX1_traced_21 : decode cX1_traced 21 = .ok (.aload_n 0, 1) := by decide +kernel
theorem dX1_traced_22 : decode cX1_traced 22 = .ok (.getfield 9, 3) := by decide +kernel
theorem dX1_traced_25 : decode cX1_traced 25 = .ok (.iload_n 1, 1) := by decide +kernel
theorem dX1_traced_26 : decode cX1_traced 26 = .ok (.iaload, 1) := by decide +kernel
theorem dX1_traced_27 : decode cX1_traced 27 = .ok (.goto 5, 3) := by decide +kernel
theorem dX1_traced_30 : decode cX1_traced 30 = .ok (.ldc 37, 2) := by decide +kernel
theorem dX1_traced_32 : decode cX1_traced 32 = .ok (.ireturn, 1) := by decide +kernel
theorem dX1_size_0 : decode cX1_size 0 = .ok (.aload_n 0, 1) := by decide +kernel
theorem dX1_size_1 : decode cX1_size 1 = .ok (.getfield 28, 3) := by decide +kernel
theorem dX1_size_4 : decode cX1_size 4 = .ok (.tableswitch 47 2 5 #[32, 47, 37, 42], 32) := by decide +kernel
theorem dX1_size_36 : decode cX1_size 36 = .ok (.aload_n 0, 1) := by decide +kernel
theorem dX1_size_37 : decode cX1_size 37 = .ok (.invokevirtual 38, 3) := by decide +kernel
theorem dX1_size_40 : decode cX1_size 40 = .ok (.ireturn, 1) := by decide +kernel
theorem dX1_size_41 : decode cX1_size 41 = .ok (.aload_n 0, 1) := by decide +kernel
theorem dX1_size_42 : decode cX1_size 42 = .ok (.invokevirtual 42, 3) := by decide +kernel
theorem dX1_size_45 : decode cX1_size 45 = .ok (.ireturn, 1) := by decide +kernel
theorem dX1_size_46 : decode cX1_size 46 = .ok (.aload_n 0, 1) := by decide +kernel
theorem dX1_size_47 : decode cX1_size 47 = .ok (.invokevirtual 45, 3) := by decide +kernel
theorem dX1_size_50 : decode cX1_size 50 = .ok (.ireturn, 1) := by decide +kernel
theorem dX1_size_51 : decode cX1_size 51 = .ok (.aload_n 0, 1) := by decide +kernel
theorem dX1_size_52 : decode cX1_size 52 = .ok (.invokevirtual 48, 3) := by decide +kernel
theorem dX1_size_55 : decode cX1_size 55 = .ok (.ireturn, 1) := by decide +kernel
theorem dX1_mark_0 : decode cX1_mark 0 = .ok (.aload_n 0, 1) := by decide +kernel
theorem dX1_mark_1 : decode cX1_mark 1 = .ok (.getfield 28, 3) := by decide +kernel
theorem dX1_mark_4 : decode cX1_mark 4 = .ok (.tableswitch 52 2 5 #[32, 37, 42, 47], 32) := by decide +kernel
theorem dX1_mark_36 : decode cX1_mark 36 = .ok (.aload_n 0, 1) := by decide +kernel
theorem dX1_mark_37 : decode cX1_mark 37 = .ok (.invokevirtual 51, 3) := by decide +kernel
theorem dX1_mark_40 : decode cX1_mark 40 = .ok (.ireturn, 1) := by decide +kernel
theorem dX1_mark_41 : decode cX1_mark 41 = .ok (.aload_n 0, 1) := by decide +kernel
theorem dX1_mark_42 : decode cX1_mark 42 = .ok (.invokevirtual 54, 3) := by decide +kernel
theorem dX1_mark_45 : decode cX1_mark 45 = .ok (.ireturn, 1) := by decide +kernel
theorem dX1_mark_46 : decode cX1_mark 46 = .ok (.aload_n 0, 1) := by decide +kernel
theorem dX1_mark_47 : decode cX1_mark 47 = .ok (.invokevirtual 57, 3) := by decide +kernel
theorem dX1_mark_50 : decode cX1_mark 50 = .ok (.ireturn, 1) := by decide +kernel
theorem dX1_mark_51 : decode cX1_mark 51 = .ok (.aload_n 0, 1) := by decide +kernel
theorem dX1_mark_52 : decode cX1_mark 52 = .ok (.invokevirtual 57, 3) := by decide +kernel
theorem dX1_mark_55 : decode cX1_mark 55 = .ok (.ireturn, 1) := by decide +kernel
theorem dX1_mark_56 : decode cX1_mark 56 = .ok (.aload_n 0, 1) := by decide +kernel
theorem dX1_mark_57 : decode cX1_mark 57 = .ok (.invokevirtual 60, 3) := by decide +kernel
theorem dX1_mark_60 : decode cX1_mark 60 = .ok (.ireturn, 1) := by decide +kernel
theorem dX1_size10_0 : decode cX1_size10 0 = .ok (.aload_n 0, 1) := by decide +kernel
theorem dX1_size10_1 : decode cX1_size10 1 = .ok (.bipush 10, 2) := by decide +kernel
theorem dX1_size10_3 : decode cX1_size10 3 = .ok (.invokevirtual 63, 3) := by decide +kernel
theorem dX1_size10_6 : decode cX1_size10 6 = .ok (.aload_n 0, 1) := by decide +kernel
theorem dX1_size10_7 : decode cX1_size10 7 = .ok (.getfield 34, 3) := by decide +kernel
theorem dX1_size10_10 : decode cX1_size10 10 = .ok (.ireturn, 1) := by decide +kernel
theorem dX1_size11_0 : decode cX1_size11 0 = .ok (.aload_n 0, 1) := by decide +kernel
theorem dX1_size11_1 : decode cX1_size11 1 = .ok (.bipush 11, 2) := by decide +kernel
theorem dX1_size11_3 : decode cX1_size11 3 = .ok (.invokevirtual 63, 3) := by decide +kernel
theorem dX1_size11_6 : decode cX1_size11 6 = .ok (.aload_n 0, 1) := by decide +kernel
theorem dX1_size11_7 : decode cX1_size11 7 = .ok (.invokevirtual 67, 3) := by decide +kernel
theorem dX1_size11_10 : decode cX1_size11 10 = .ok (.istore_n 1, 1) := by decide +kernel
theorem dX1_size11_11 : decode cX1_size11 11 = .ok (.aload_n 0, 1) := by decide +kernel
theorem dX1_size11_12 : decode cX1_size11 12 = .ok (.getfield 28, 3) := by decide +kernel
theorem dX1_size11_15 : decode cX1_size11 15 = .ok (.lookupswitch 39 #[(2, 25), (3, 32)], 25) := by decide +kernel
theorem dX1_size11_40 : decode cX1_size11 40 = .ok (.iload_n 1, 1) := by decide +kernel
theorem dX1_size11_41 : decode cX1_size11 41 = .ok (.aload_n 0, 1) := by decide +kernel
theorem dX1_size11_42 : decode cX1_size11 42 = .ok (.invokevirtual 51, 3) := by decide +kernel
theorem dX1_size11_45 : decode cX1_size11 45 = .ok (.iadd, 1) := by decide +kernel
theorem dX1_size11_46 : decode cX1_size11 46 = .ok (.ireturn, 1) := by decide +kernel
theorem dX1_size11_47 : decode cX1_size11 47 = .ok (.iload_n 1, 1) := by decide +kernel
theorem dX1_size11_48 : decode cX1_size11 48 = .ok (.aload_n 0, 1) := by decide +kernel
theorem dX1_size11_49 : decode cX1_size11 49 = .ok (.invokevirtual 54, 3) := by decide +kernel
theorem dX1_size11_52 : decode cX1_size11 52 = .ok (.iadd, 1) := by decide +kernel
theorem dX1_size11_53 : decode cX1_size11 53 = .ok (.ireturn, 1) := by decide +kernel
theorem dX1_size11_54 : decode cX1_size11 54 = .ok (.iload_n 1, 1) := by decide +kernel
theorem dX1_size11_55 : decode cX1_size11 55 = .ok (.aload_n 0, 1) := by decide +kernel
theorem dX1_size11_56 : decode cX1_size11 56 = .ok (.invokevirtual 60, 3) := by decide +kernel
theorem dX1_size11_59 : decode cX1_size11 59 = .ok (.iadd, 1) := by decide +kernel
theorem dX1_size11_60 : decode cX1_size11 60 = .ok (.ireturn, 1) := by decide +kernel
theorem dX1_size12_0 : decode cX1_size12 0 = .ok (.aload_n 0, 1) := by decide +kernel
theorem dX1_size12_1 : decode cX1_size12 1 = .ok (.bipush 12, 2) := by decide +kernel
theorem dX1_size12_3 : decode cX1_size12 3 = .ok (.invokevirtual 63, 3) := by decide +kernel
theorem dX1_size12_6 : decode cX1_size12 6 = .ok (.aload_n 0, 1) := by decide +kernel
theorem dX1_size12_7 : decode cX1_size12 7 = .ok (.invokevirtual 48, 3) := by decide +kernel
theorem dX1_size12_10 : decode cX1_size12 10 = .ok (.ineg, 1) := by decide +kernel
theorem dX1_size12_11 : decode cX1_size12 11 = .ok (.ireturn, 1) := by decide +kernel
theorem dX1_size13_0 : decode cX1_size13 0 = .ok (.aload_n 0, 1) := by decide +kernel
theorem dX1_size13_1 : decode cX1_size13 1 = .ok (.bipush 13, 2) := by decide +kernel
theorem dX1_size13_3 : decode cX1_size13 3 = .ok (.invokevirtual 63, 3) := by decide +kernel
theorem dX1_size13_6 : decode cX1_size13 6 = .ok (.aload_n 0, 1) := by decide +kernel
theorem dX1_size13_7 : decode cX1_size13 7 = .ok (.invokevirtual 67, 3) := by decide +kernel
theorem dX1_size13_10 : decode cX1_size13 10 = .ok (.bipush 100, 2) := by decide +kernel
theorem dX1_size13_12 : decode cX1_size13 12 = .ok (.isub, 1) := by decide +kernel
theorem dX1_size13_13 : decode cX1_size13 13 = .ok (.ireturn, 1) := by decide +kernel
theorem dX1_size14_0 : decode cX1_size14 0 = .ok (.aload_n 0, 1) := by decide +kernel
theorem dX1_size14_1 : decode cX1_size14 1 = .ok (.bipush 14, 2) := by decide +kernel
theorem dX1_size14_3 : decode cX1_size14 3 = .ok (.invokevirtual 63, 3) := by decide +kernel
theorem dX1_size14_6 : decode cX1_size14 6 = .ok (.iconst 2, 1) := by decide +kernel
theorem dX1_size14_7 : decode cX1_size14 7 = .ok (.aload_n 0, 1) := by decide +kernel
theorem dX1_size14_8 : decode cX1_size14 8 = .ok (.invokevirtual 42, 3) := by decide +kernel
theorem dX1_size14_11 : decode cX1_size14 11 = .ok (.imul, 1) := by decide +kernel
theorem dX1_size14_12 : decode cX1_size14 12 = .ok (.ireturn, 1) := by decide +kernel
theorem dX1_mark20_0 : decode cX1_mark20 0 = .ok (.aload_n 0, 1) := by decide +kernel
theorem dX1_mark20_1 : decode cX1_mark20 1 = .ok (.bipush 20, 2) := by decide +kernel
theorem dX1_mark20_3 : decode cX1_mark20 3 = .ok (.invokevirtual 63, 3) := by decide +kernel
theorem dX1_mark20_6 : decode cX1_mark20 6 = .ok (.aload_n 0, 1) := by decide +kernel
theorem dX1_mark20_7 : decode cX1_mark20 7 = .ok (.getfield 19, 3) := by decide +kernel
theorem dX1_mark20_10 : decode cX1_mark20 10 = .ok (.ireturn, 1) := by decide +kernel
theorem dX1_mark21_0 : decode cX1_mark21 0 = .ok (.aload_n 0, 1) := by decide +kernel
theorem dX1_mark21_1 : decode cX1_mark21 1 = .ok (.bipush 21, 2) := by decide +kernel
theorem dX1_mark21_3 : decode cX1_mark21 3 = .ok (.invokevirtual 63, 3) := by decide +kernel
theorem dX1_mark21_6 : decode cX1_mark21 6 = .ok (.aload_n 0, 1) := by decide +kernel
theorem dX1_mark21_7 : decode cX1_mark21 7 = .ok (.invokevirtual 70, 3) := by decide +kernel
theorem dX1_mark21_10 : decode cX1_mark21 10 = .ok (.aload_n 0, 1) := by decide +kernel
theorem dX1_mark21_11 : decode cX1_mark21 11 = .ok (.getfield 31, 3) := by decide +kernel
theorem dX1_mark21_14 : decode cX1_mark21 14 = .ok (.iadd, 1) := by decide +kernel
theorem dX1_mark21_15 : decode cX1_mark21 15 = .ok (.ireturn, 1) := by decide +kernel
theorem dX1_mark22_0 : decode cX1_mark22 0 = .ok (.aload_n 0, 1) := by decide +kernel
theorem dX1_mark22_1 : decode cX1_mark22 1 = .ok (.bipush 22, 2) := by decide +kernel
theorem dX1_mark22_3 : decode cX1_mark22 3 = .ok (.invokevirtual 63, 3) := by decide +kernel
theorem dX1_mark22_6 : decode cX1_mark22 6 = .ok (.aload_n 0, 1) := by decide +kernel
theorem dX1_mark22_7 : decode cX1_mark22 7 = .ok (.invokevirtual 60, 3) := by decide +kernel
theorem dX1_mark22_10 : decode cX1_mark22 10 = .ok (.sipush 1000, 3) := by decide +kernel
theorem dX1_mark22_13 : decode cX1_mark22 13 = .ok (.isub, 1) := by decide +kernel
theorem dX1_mark22_14 : decode cX1_mark22 14 = .ok (.ireturn, 1) := by decide +kernel
theorem dX1_mark23_0 : decode cX1_mark23 0 = .ok (.aload_n 0, 1) := by decide +kernel
theorem dX1_mark23_1 : decode cX1_mark23 1 = .ok (.bipush 23, 2) := by decide +kernel
theorem dX1_mark23_3 : decode cX1_mark23 3 = .ok (.invokevirtual 63, 3) := by decide +kernel
theorem dX1_mark23_6 : decode cX1_mark23 6 = .ok (.aload_n 0, 1) := by decide +kernel
theorem dX1_mark23_7 : decode cX1_mark23 7 = .ok (.invokevirtual 70, 3) := by decide +kernel
theorem dX1_mark23_10 : decode cX1_mark23 10 = .ok (.istore_n 1, 1) := by decide +kernel
theorem dX1_mark23_11 : decode cX1_mark23 11 = .ok (.iload_n 1, 1) := by decide +kernel
theorem dX1_mark23_12 : decode cX1_mark23 12 = .ok (.aload_n 0, 1) := by decide +kernel
theorem dX1_mark23_13 : decode cX1_mark23 13 = .ok (.getfield 28, 3) := by decide +kernel
theorem dX1_mark23_16 : decode cX1_mark23 16 = .ok (.iconst 5, 1) := by decide +kernel
theorem dX1_mark23_17 : decode cX1_mark23 17 = .ok (.if_icmp .ne 10, 3) := by decide +kernel
theorem dX1_mark23_20 : decode cX1_mark23 20 = .ok (.aload_n 0, 1) := by decide +kernel
theorem dX1_mark23_21 : decode cX1_mark23 21 = .ok (.invokevirtual 45, 3) := by decide +kernel
theorem dX1_mark23_24 : decode cX1_mark23 24 = .ok (.goto 7, 3) := by decide +kernel
theorem dX1_mark23_27 : decode cX1_mark23 27 = .ok (.aload_n 0, 1) := by decide +kernel
theorem dX1_mark23_28 : decode cX1_mark23 28 = .ok (.invokevirtual 42, 3) := by decide +kernel
theorem dX1_mark23_31 : decode cX1_mark23 31 = .ok (.isub, 1) := by decide +kernel
theorem dX1_mark23_32 : decode cX1_mark23 32 = .ok (.ireturn, 1) := by decide +kernel
theorem dX1_mark24_0 : decode cX1_mark24 0 = .ok (.aload_n 0, 1) := by decide +kernel
theorem dX1_mark24_1 : decode cX1_mark24 1 = .ok (.bipush 24, 2) := by decide +kernel
theorem dX1_mark24_3 : decode cX1_mark24 3 = .ok (.invokevirtual 63, 3) := by decide +kernel
theorem dX1_mark24_6 : decode cX1_mark24 6 = .ok (.iconst 2, 1) := by decide +kernel
theorem dX1_mark24_7 : decode cX1_mark24 7 = .ok (.aload_n 0, 1) := by decide +kernel
theorem dX1_mark24_8 : decode cX1_mark24 8 = .ok (.invokevirtual 60, 3) := by decide +kernel
theorem dX1_mark24_11 : decode cX1_mark24 11 = .ok (.imul, 1) := by decide +kernel
theorem dX1_mark24_12 : decode cX1_mark24 12 = .ok (.ireturn, 1) := by decide +kernel
theorem dX1_leave_0 : decode cX1_leave 0 = .ok (.aload_n 0, 1) := by decide +kernel
theorem dX1_leave_1 : decode cX1_leave 1 = .ok (.getfield 15, 3) := by decide +kernel
theorem dX1_leave_4 : decode cX1_leave 4 = .ok (.ifCond .lt 35, 3) := by decide +kernel
theorem dX1_leave_7 : decode cX1_leave 7 = .ok (.aload_n 0, 1) := by decide +kernel
theorem dX1_leave_8 : decode cX1_leave 8 = .ok (.getfield 15, 3) := by decide +kernel
theorem dX1_leave_11 : decode cX1_leave 11 = .ok (.aload_n 0, 1) := by decide +kernel
theorem dX1_leave_12 : decode cX1_leave 12 = .ok (.getfield 9, 3) := by decide +kernel
theorem dX1_leave_15 : decode cX1_leave 15 = .ok (.arraylength, 1) := by decide +kernel
theorem dX1_leave_16 : decode cX1_leave 16 = .ok (.if_icmp .ge 23, 3) := by decide +kernel
theorem dX1_leave_19 : decode cX1_leave 19 = .ok (.aload_n 0, 1) := by decide +kernel
theorem dX1_leave_20 : decode cX1_leave 20 = .ok (.getfield 9, 3) := by decide +kernel
theorem dX1_leave_23 : decode cX1_leave 23 = .ok (.aload_n 0, 1) := by decide +kernel
theorem dX1_leave_24 : decode cX1_leave 24 = .ok (.getfield 15, 3) := by decide +kernel
theorem dX1_leave_27 : decode cX1_leave 27 = .ok (.iload_n 1, 1) := by decide +kernel
theorem dX1_leave_28 : decode cX1_leave 28 = .ok (.iastore, 1) := by decide +kernel
theorem dX1_leave_29 : decode cX1_leave 29 = .ok (.aload_n 0, 1) := by decide +kernel
theorem dX1_leave_30 : decode cX1_leave 30 = .ok (.dup, 1) := by decide +kernel
theorem dX1_leave_31 : decode cX1_leave 31 = .ok (.getfield 15, 3) := by decide +kernel
theorem dX1_leave_34 : decode cX1_leave 34 = .ok (.iconst 1, 1) := by decide +kernel
theorem dX1_leave_35 : decode cX1_leave 35 = .ok (.iadd, 1) := by decide +kernel
theorem dX1_leave_36 : decode cX1_leave 36 = .ok (.putfield 15, 3) := by decide +kernel
theorem dX1_leave_39 : decode cX1_leave 39 = .ok (.return_, 1) := by decide +kernel
theorem dX2_init_0 : decode cX2_init 0 = .ok (.aload_n 0, 1) := by decide +kernel
theorem dX2_init_1 : decode cX2_init 1 = .ok (.invokespecial 3, 3) := by decide +kernel
theorem dX2_init_4 : decode cX2_init 4 = .ok (.aload_n 0, 1) := by decide +kernel
theorem dX2_init_5 : decode cX2_init 5 = .ok (.new 9, 3) := by decide +kernel
theorem dX2_init_8 : decode cX2_init 8 = .ok (.dup, 1) := by decide +kernel
theorem dX2_init_9 : decode cX2_init 9 = .ok (.invokespecial 11, 3) := by decide +kernel
theorem dX2_init_12 : decode cX2_init 12 = .ok (.putfield 12, 3) := by decide +kernel
theorem dX2_init_15 : decode cX2_init 15 = .ok (.aload_n 0, 1) := by decide +kernel
theorem dX2_init_16 : decode cX2_init 16 = .ok (.bipush 6, 2) := by decide +kernel
theorem dX2_init_18 : decode cX2_init 18 = .ok (.newarray .int, 2) := by decide +kernel
theorem dX2_init_20 : decode cX2_init 20 = .ok (.putfield 18, 3) := by decide +kernel
theorem dX2_init_23 : decode cX2_init 23 = .ok (.aload_n 0, 1) := by decide +kernel
theorem dX2_init_24 : decode cX2_init 24 = .ok (.bipush 6, 2) := by decide +kernel
theorem dX2_init_26 : decode cX2_init 26 = .ok (.newarray .int, 2) := by decide +kernel
theorem dX2_init_28 : decode cX2_init 28 = .ok (.putfield 22, 3) := by decide +kernel
theorem dX2_init_31 : decode cX2_init 31 = .ok (.return_, 1) := by decide +kernel
theorem dX2_look_0 : decode cX2_look 0 = .ok (.aload_n 0, 1) := by decide +kernel
theorem dX2_look_1 : decode cX2_look 1 = .ok (.getfield 12, 3) := by decide +kernel
theorem dX2_look_4 : decode cX2_look 4 = .ok (.aload_n 1, 1) := by decide +kernel
theorem dX2_look_5 : decode cX2_look 5 = .ok (.invokevirtual 25, 3) := by decide +kernel
theorem dX2_look_8 : decode cX2_look 8 = .ok (.aload_n 0, 1) := by decide +kernel
theorem dX2_look_9 : decode cX2_look 9 = .ok (.iload_n 2, 1) := by decide +kernel
theorem dX2_look_10 : decode cX2_look 10 = .ok (.ldc 29, 2) := by decide +kernel
theorem dX2_look_12 : decode cX2_look 12 = .ok (.invokevirtual 30, 3) := by decide +kernel
theorem dX2_look_15 : decode cX2_look 15 = .ok (.ireturn, 1) := by decide +kernel
theorem dX2_passMinutes_0 : decode cX2_passMinutes 0 = .ok (.iconst 0, 1) := by decide +kernel
theorem dX2_passMinutes_1 : decode cX2_passMinutes 1 = .ok (.istore_n 3, 1) := by decide +kernel
theorem dX2_passMinutes_2 : decode cX2_passMinutes 2 = .ok (.iconst 0, 1) := by decide +kernel
theorem dX2_passMinutes_3 : decode cX2_passMinutes 3 = .ok (.istore 4, 2) := by decide +kernel
theorem dX2_passMinutes_5 : decode cX2_passMinutes 5 = .ok (.iload 4, 2) := by decide +kernel
theorem dX2_passMinutes_7 : decode cX2_passMinutes 7 = .ok (.iload_n 1, 1) := by decide +kernel
theorem dX2_passMinutes_8 : decode cX2_passMinutes 8 = .ok (.if_icmp .ge 31, 3) := by decide +kernel
theorem dX2_passMinutes_11 : decode cX2_passMinutes 11 = .ok (.iload_n 3, 1) := by decide +kernel
theorem dX2_passMinutes_12 : decode cX2_passMinutes 12 = .ok (.iload_n 2, 1) := by decide +kernel
theorem dX2_passMinutes_13 : decode cX2_passMinutes 13 = .ok (.if_icmp .ge 26, 3) := by decide +kernel
theorem dX2_passMinutes_16 : decode cX2_passMinutes 16 = .ok (.aload_n 0, 1) := by decide +kernel
theorem dX2_passMinutes_17 : decode cX2_passMinutes 17 = .ok (.getfield 12, 3) := by decide +kernel
theorem dX2_passMinutes_20 : decode cX2_passMinutes 20 = .ok (.invokevirtual 34, 3) := by decide +kernel
theorem dX2_passMinutes_23 : decode cX2_passMinutes 23 = .ok (.iload_n 3, 1) := by decide +kernel
theorem dX2_passMinutes_24 : decode cX2_passMinutes 24 = .ok (.aload_n 0, 1) := by decide +kernel
theorem dX2_passMinutes_25 : decode cX2_passMinutes 25 = .ok (.getfield 12, 3) := by decide +kernel
theorem dX2_passMinutes_28 : decode cX2_passMinutes 28 = .ok (.getfield 37, 3) := by decide +kernel
theorem dX2_passMinutes_31 : decode cX2_passMinutes 31 = .ok (.iadd, 1) := by decide +kernel
theorem dX2_passMinutes_32 : decode cX2_passMinutes 32 = .ok (.istore_n 3, 1) := by decide +kernel
theorem dX2_passMinutes_33 : decode cX2_passMinutes 33 = .ok (.iinc 4 1, 3) := by decide +kernel
theorem dX2_passMinutes_36 : decode cX2_passMinutes 36 = .ok (.goto (-31), 3) := by decide +kernel
theorem dX2_passMinutes_39 : decode cX2_passMinutes 39 = .ok (.iload_n 3, 1) := by decide +kernel
theorem dX2_passMinutes_40 : decode cX2_passMinutes 40 = .ok (.ireturn, 1) := by decide +kernel
theorem dX2_eatsSeatedAs_0 : decode cX2_eatsSeatedAs 0 = .ok (.aload_n 0, 1) := by decide +kernel
theorem dX2_eatsSeatedAs_1 : decode cX2_eatsSeatedAs 1 = .ok (.getfield 12, 3) := by decide +kernel
theorem dX2_eatsSeatedAs_4 : decode cX2_eatsSeatedAs 4 = .ok (.aload_n 1, 1) := by decide +kernel
theorem dX2_eatsSeatedAs_5 : decode cX2_eatsSeatedAs 5 = .ok (.invokevirtual 25, 3) := by decide +kernel
theorem dX2_eatsSeatedAs_8 : decode cX2_eatsSeatedAs 8 = .ok (.iload_n 2, 1) := by decide +kernel
theorem dX2_eatsSeatedAs_9 : decode cX2_eatsSeatedAs 9 = .ok (.iload_n 3, 1) := by decide +kernel
theorem dX2_eatsSeatedAs_10 : decode cX2_eatsSeatedAs 10 = .ok (.if_icmp .eq 12, 3) := by decide +kernel
theorem dX2_eatsSeatedAs_13 : decode cX2_eatsSeatedAs 13 = .ok (.aload_n 0, 1) := by decide +kernel
theorem dX2_eatsSeatedAs_14 : decode cX2_eatsSeatedAs 14 = .ok (.getfield 12, 3) := by decide +kernel
theorem dX2_eatsSeatedAs_17 : decode cX2_eatsSeatedAs 17 = .ok (.iload_n 2, 1) := by decide +kernel
theorem dX2_eatsSeatedAs_18 : decode cX2_eatsSeatedAs 18 = .ok (.iload_n 3, 1) := by decide +kernel
theorem dX2_eatsSeatedAs_19 : decode cX2_eatsSeatedAs 19 = .ok (.invokevirtual 41, 3) := by decide +kernel
theorem dX2_eatsSeatedAs_22 : decode cX2_eatsSeatedAs 22 = .ok (.aload_n 0, 1) := by decide +kernel
theorem dX2_eatsSeatedAs_23 : decode cX2_eatsSeatedAs 23 = .ok (.iload 4, 2) := by decide +kernel
theorem dX2_eatsSeatedAs_25 : decode cX2_eatsSeatedAs 25 = .ok (.ldc 29, 2) := by decide +kernel
theorem dX2_eatsSeatedAs_27 : decode cX2_eatsSeatedAs 27 = .ok (.invokevirtual 30, 3) := by decide +kernel
theorem dX2_eatsSeatedAs_30 : decode cX2_eatsSeatedAs 30 = .ok (.pop, 1) := by decide +kernel
theorem dX2_eatsSeatedAs_31 : decode cX2_eatsSeatedAs 31 = .ok (.aload_n 0, 1) := by decide +kernel
theorem dX2_eatsSeatedAs_32 : decode cX2_eatsSeatedAs 32 = .ok (.getfield 12, 3) := by decide +kernel
theorem dX2_eatsSeatedAs_35 : decode cX2_eatsSeatedAs 35 = .ok (.iconst 3, 1) := by decide +kernel
theorem dX2_eatsSeatedAs_36 : decode cX2_eatsSeatedAs 36 = .ok (.iload_n 2, 1) := by decide +kernel
theorem dX2_eatsSeatedAs_37 : decode cX2_eatsSeatedAs 37 = .ok (.invokevirtual 45, 3) := by decide +kernel
theorem dX2_eatsSeatedAs_40 : decode cX2_eatsSeatedAs 40 = .ok (.aload_n 1, 1) := by decide +kernel
theorem dX2_eatsSeatedAs_41 : decode cX2_eatsSeatedAs 41 = .ok (.iconst 3, 1) := by decide +kernel
theorem dX2_eatsSeatedAs_42 : decode cX2_eatsSeatedAs 42 = .ok (.iload_n 2, 1) := by decide +kernel
theorem dX2_eatsSeatedAs_43 : decode cX2_eatsSeatedAs 43 = .ok (.invokevirtual 45, 3) := by decide +kernel
theorem dX2_eatsSeatedAs_46 : decode cX2_eatsSeatedAs 46 = .ok (.isub, 1) := by decide +kernel
theorem dX2_eatsSeatedAs_47 : decode cX2_eatsSeatedAs 47 = .ok (.ireturn, 1) := by decide +kernel
theorem dX2_bestToSitAs_0 : decode cX2_bestToSitAs 0 = .ok (.iconst 0, 1) := by decide +kernel
theorem dX2_bestToSitAs_1 : decode cX2_bestToSitAs 1 = .ok (.istore 4, 2) := by decide +kernel
theorem dX2_bestToSitAs_3 : decode cX2_bestToSitAs 3 = .ok (.iconst (-1), 1) := by decide +kernel
theorem dX2_bestToSitAs_4 : decode cX2_bestToSitAs 4 = .ok (.istore 5, 2) := by decide +kernel
theorem dX2_bestToSitAs_6 : decode cX2_bestToSitAs 6 = .ok (.iconst 0, 1) := by decide +kernel
theorem dX2_bestToSitAs_7 : decode cX2_bestToSitAs 7 = .ok (.istore 6, 2) := by decide +kernel
theorem dX2_bestToSitAs_9 : decode cX2_bestToSitAs 9 = .ok (.iload 6, 2) := by decide +kernel
theorem dX2_bestToSitAs_11 : decode cX2_bestToSitAs 11 = .ok (.aload_n 1, 1) := by decide +kernel
theorem dX2_bestToSitAs_12 : decode cX2_bestToSitAs 12 = .ok (.getfield 48, 3) := by decide +kernel
theorem dX2_bestToSitAs_15 : decode cX2_bestToSitAs 15 = .ok (.if_icmp .ge 35, 3) := by decide +kernel
theorem dX2_bestToSitAs_18 : decode cX2_bestToSitAs 18 = .ok (.aload_n 0, 1) := by decide +kernel
theorem dX2_bestToSitAs_19 : decode cX2_bestToSitAs 19 = .ok (.aload_n 1, 1) := by decide +kernel
theorem dX2_bestToSitAs_20 : decode cX2_bestToSitAs 20 = .ok (.iload_n 2, 1) := by decide +kernel
theorem dX2_bestToSitAs_21 : decode cX2_bestToSitAs 21 = .ok (.iload 6, 2) := by decide +kernel
theorem dX2_bestToSitAs_23 : decode cX2_bestToSitAs 23 = .ok (.iload_n 3, 1) := by decide +kernel
theorem dX2_bestToSitAs_24 : decode cX2_bestToSitAs 24 = .ok (.invokevirtual 51, 3) := by decide +kernel
theorem dX2_bestToSitAs_27 : decode cX2_bestToSitAs 27 = .ok (.istore 7, 2) := by decide +kernel
theorem dX2_bestToSitAs_29 : decode cX2_bestToSitAs 29 = .ok (.iload 7, 2) := by decide +kernel
theorem dX2_bestToSitAs_31 : decode cX2_bestToSitAs 31 = .ok (.iload 5, 2) := by decide +kernel
theorem dX2_bestToSitAs_33 : decode cX2_bestToSitAs 33 = .ok (.if_icmp .le 11, 3) := by decide +kernel
theorem dX2_bestToSitAs_36 : decode cX2_bestToSitAs 36 = .ok (.iload 7, 2) := by decide +kernel
theorem dX2_bestToSitAs_38 : decode cX2_bestToSitAs 38 = .ok (.istore 5, 2) := by decide +kernel
theorem dX2_bestToSitAs_40 : decode cX2_bestToSitAs 40 = .ok (.iload 6, 2) := by decide +kernel
theorem dX2_bestToSitAs_42 : decode cX2_bestToSitAs 42 = .ok (.istore 4, 2) := by decide +kernel
theorem dX2_bestToSitAs_44 : decode cX2_bestToSitAs 44 = .ok (.iinc 6 1, 3) := by decide +kernel
theorem dX2_bestToSitAs_47 : decode cX2_bestToSitAs 47 = .ok (.goto (-38), 3) := by decide +kernel
theorem dX2_bestToSitAs_50 : decode cX2_bestToSitAs 50 = .ok (.iload 4, 2) := by decide +kernel
theorem dX2_bestToSitAs_52 : decode cX2_bestToSitAs 52 = .ok (.ireturn, 1) := by decide +kernel
theorem dX2_minuteOfLastPortion_0 : decode cX2_minuteOfLastPortion 0 = .ok (.aload_n 0, 1) := by decide +kernel
theorem dX2_minuteOfLastPortion_1 : decode cX2_minuteOfLastPortion 1 = .ok (.getfield 12, 3) := by decide +kernel
theorem dX2_minuteOfLastPortion_4 : decode cX2_minuteOfLastPortion 4 = .ok (.aload_n 1, 1) := by decide +kernel
theorem dX2_minuteOfLastPortion_5 : decode cX2_minuteOfLastPortion 5 = .ok (.invokevirtual 25, 3) := by decide +kernel
theorem dX2_minuteOfLastPortion_8 : decode cX2_minuteOfLastPortion 8 = .ok (.iconst 1, 1) := by decide +kernel
theorem dX2_minuteOfLastPortion_9 : decode cX2_minuteOfLastPortion 9 = .ok (.istore_n 3, 1) := by decide +kernel
theorem dX2_minuteOfLastPortion_10 : decode cX2_minuteOfLastPortion 10 = .ok (.iload_n 3, 1) := by decide +kernel
theorem dX2_minuteOfLastPortion_11 : decode cX2_minuteOfLastPortion 11 = .ok (.sipush 200, 3) := by decide +kernel
theorem dX2_minuteOfLastPortion_14 : decode cX2_minuteOfLastPortion 14 = .ok (.if_icmp .gt 63, 3) := by decide +kernel
theorem dX2_minuteOfLastPortion_17 : decode cX2_minuteOfLastPortion 17 = .ok (.aload_n 0, 1) := by decide +kernel
theorem dX2_minuteOfLastPortion_18 : decode cX2_minuteOfLastPortion 18 = .ok (.getfield 12, 3) := by decide +kernel
theorem dX2_minuteOfLastPortion_21 : decode cX2_minuteOfLastPortion 21 = .ok (.invokevirtual 34, 3) := by decide +kernel
theorem dX2_minuteOfLastPortion_24 : decode cX2_minuteOfLastPortion 24 = .ok (.aload_n 0, 1) := by decide +kernel
theorem dX2_minuteOfLastPortion_25 : decode cX2_minuteOfLastPortion 25 = .ok (.getfield 12, 3) := by decide +kernel
theorem dX2_minuteOfLastPortion_28 : decode cX2_minuteOfLastPortion 28 = .ok (.getfield 55, 3) := by decide +kernel
theorem dX2_minuteOfLastPortion_31 : decode cX2_minuteOfLastPortion 31 = .ok (.ifCond .le 18, 3) := by decide +kernel
theorem dX2_minuteOfLastPortion_34 : decode cX2_minuteOfLastPortion 34 = .ok (.aload_n 0, 1) := by decide +kernel
theorem dX2_minuteOfLastPortion_35 : decode cX2_minuteOfLastPortion 35 = .ok (.getfield 12, 3) := by decide +kernel
theorem dX2_minuteOfLastPortion_38 : decode cX2_minuteOfLastPortion 38 = .ok (.getfield 58, 3) := by decide +kernel
theorem dX2_minuteOfLastPortion_41 : decode cX2_minuteOfLastPortion 41 = .ok (.iload_n 2, 1) := by decide +kernel
theorem dX2_minuteOfLastPortion_42 : decode cX2_minuteOfLastPortion 42 = .ok (.if_icmp .ne 7, 3) := by decide +kernel
theorem dX2_minuteOfLastPortion_45 : decode cX2_minuteOfLastPortion 45 = .ok (.iconst 1, 1) := by decide +kernel
theorem dX2_minuteOfLastPortion_46 : decode cX2_minuteOfLastPortion 46 = .ok (.goto 4, 3) := by decide +kernel
theorem dX2_minuteOfLastPortion_49 : decode cX2_minuteOfLastPortion 49 = .ok (.iconst 0, 1) := by decide +kernel
theorem dX2_minuteOfLastPortion_50 : decode cX2_minuteOfLastPortion 50 = .ok (.istore 4, 2) := by decide +kernel
theorem dX2_minuteOfLastPortion_52 : decode cX2_minuteOfLastPortion 52 = .ok (.iload 4, 2) := by decide +kernel
theorem dX2_minuteOfLastPortion_54 : decode cX2_minuteOfLastPortion 54 = .ok (.ifCond .eq 17, 3) := by decide +kernel
theorem dX2_minuteOfLastPortion_57 : decode cX2_minuteOfLastPortion 57 = .ok (.aload_n 0, 1) := by decide +kernel
theorem dX2_minuteOfLastPortion_58 : decode cX2_minuteOfLastPortion 58 = .ok (.getfield 12, 3) := by decide +kernel
theorem dX2_minuteOfLastPortion_61 : decode cX2_minuteOfLastPortion 61 = .ok (.iconst 4, 1) := by decide +kernel
theorem dX2_minuteOfLastPortion_62 : decode cX2_minuteOfLastPortion 62 = .ok (.iload_n 2, 1) := by decide +kernel
theorem dX2_minuteOfLastPortion_63 : decode cX2_minuteOfLastPortion 63 = .ok (.invokevirtual 45, 3) := by decide +kernel
theorem dX2_minuteOfLastPortion_66 : decode cX2_minuteOfLastPortion 66 = .ok (.ifCond .ne 5, 3) := by decide +kernel
theorem dX2_minuteOfLastPortion_69 : decode cX2_minuteOfLastPortion 69 = .ok (.iload_n 3, 1) := by decide +kernel
theorem dX2_minuteOfLastPortion_70 : decode cX2_minuteOfLastPortion 70 = .ok (.ireturn, 1) := by decide +kernel
theorem dX2_minuteOfLastPortion_71 : decode cX2_minuteOfLastPortion 71 = .ok (.iinc 3 1, 3) := by decide +kernel
theorem dX2_minuteOfLastPortion_74 : decode cX2_minuteOfLastPortion 74 = .ok (.goto (-64), 3) := by decide +kernel
theorem dX2_minuteOfLastPortion_77 : decode cX2_minuteOfLastPortion 77 = .ok (.ldc 61, 2) := by decide +kernel
theorem dX2_minuteOfLastPortion_79 : decode cX2_minuteOfLastPortion 79 = .ok (.ireturn, 1) := by decide +kernel
theorem dX2_minutesToRest_0 : decode cX2_minutesToRest 0 = .ok (.aload_n 0, 1) := by decide +kernel
theorem dX2_minutesToRest_1 : decode cX2_minutesToRest 1 = .ok (.getfield 12, 3) := by decide +kernel
theorem dX2_minutesToRest_4 : decode cX2_minutesToRest 4 = .ok (.aload_n 1, 1) := by decide +kernel
theorem dX2_minutesToRest_5 : decode cX2_minutesToRest 5 = .ok (.invokevirtual 25, 3) := by decide +kernel
theorem dX2_minutesToRest_8 : decode cX2_minutesToRest 8 = .ok (.iconst 0, 1) := by decide +kernel
theorem dX2_minutesToRest_9 : decode cX2_minutesToRest 9 = .ok (.istore_n 2, 1) := by decide +kernel
theorem dX2_minutesToRest_10 : decode cX2_minutesToRest 10 = .ok (.iconst 1, 1) := by decide +kernel
theorem dX2_minutesToRest_11 : decode cX2_minutesToRest 11 = .ok (.istore_n 3, 1) := by decide +kernel
theorem dX2_minutesToRest_12 : decode cX2_minutesToRest 12 = .ok (.iload_n 3, 1) := by decide +kernel
theorem dX2_minutesToRest_13 : decode cX2_minutesToRest 13 = .ok (.sipush 200, 3) := by decide +kernel
theorem dX2_minutesToRest_16 : decode cX2_minutesToRest 16 = .ok (.aload_n 1, 1) := by decide +kernel
theorem dX2_minutesToRest_17 : decode cX2_minutesToRest 17 = .ok (.getfield 48, 3) := by decide +kernel
theorem dX2_minutesToRest_20 : decode cX2_minutesToRest 20 = .ok (.iadd, 1) := by decide +kernel
theorem dX2_minutesToRest_21 : decode cX2_minutesToRest 21 = .ok (.if_icmp .gt 56, 3) := by decide +kernel
theorem dX2_minutesToRest_24 : decode cX2_minutesToRest 24 = .ok (.aload_n 0, 1) := by decide +kernel
theorem dX2_minutesToRest_25 : decode cX2_minutesToRest 25 = .ok (.getfield 12, 3) := by decide +kernel
theorem dX2_minutesToRest_28 : decode cX2_minutesToRest 28 = .ok (.invokevirtual 34, 3) := by decide +kernel
theorem dX2_minutesToRest_31 : decode cX2_minutesToRest 31 = .ok (.aload_n 0, 1) := by decide +kernel
theorem dX2_minutesToRest_32 : decode cX2_minutesToRest 32 = .ok (.getfield 12, 3) := by decide +kernel
theorem dX2_minutesToRest_35 : decode cX2_minutesToRest 35 = .ok (.getfield 37, 3) := by decide +kernel
theorem dX2_minutesToRest_38 : decode cX2_minutesToRest 38 = .ok (.ifCond .ne 19, 3) := by decide +kernel
theorem dX2_minutesToRest_41 : decode cX2_minutesToRest 41 = .ok (.aload_n 0, 1) := by decide +kernel
theorem dX2_minutesToRest_42 : decode cX2_minutesToRest 42 = .ok (.getfield 12, 3) := by decide +kernel
theorem dX2_minutesToRest_45 : decode cX2_minutesToRest 45 = .ok (.getfield 55, 3) := by decide +kernel
theorem dX2_minutesToRest_48 : decode cX2_minutesToRest 48 = .ok (.ifCond .ne 9, 3) := by decide +kernel
theorem dX2_minutesToRest_51 : decode cX2_minutesToRest 51 = .ok (.iload_n 2, 1) := by decide +kernel
theorem dX2_minutesToRest_52 : decode cX2_minutesToRest 52 = .ok (.iconst 1, 1) := by decide +kernel
theorem dX2_minutesToRest_53 : decode cX2_minutesToRest 53 = .ok (.iadd, 1) := by decide +kernel
theorem dX2_minutesToRest_54 : decode cX2_minutesToRest 54 = .ok (.goto 4, 3) := by decide +kernel
theorem dX2_minutesToRest_57 : decode cX2_minutesToRest 57 = .ok (.iconst 0, 1) := by decide +kernel
theorem dX2_minutesToRest_58 : decode cX2_minutesToRest 58 = .ok (.istore_n 2, 1) := by decide +kernel
theorem dX2_minutesToRest_59 : decode cX2_minutesToRest 59 = .ok (.iload_n 2, 1) := by decide +kernel
theorem dX2_minutesToRest_60 : decode cX2_minutesToRest 60 = .ok (.aload_n 1, 1) := by decide +kernel
theorem dX2_minutesToRest_61 : decode cX2_minutesToRest 61 = .ok (.getfield 48, 3) := by decide +kernel
theorem dX2_minutesToRest_64 : decode cX2_minutesToRest 64 = .ok (.if_icmp .ne 7, 3) := by decide +kernel
theorem dX2_minutesToRest_67 : decode cX2_minutesToRest 67 = .ok (.iload_n 3, 1) := by decide +kernel
theorem dX2_minutesToRest_68 : decode cX2_minutesToRest 68 = .ok (.iload_n 2, 1) := by decide +kernel
theorem dX2_minutesToRest_69 : decode cX2_minutesToRest 69 = .ok (.isub, 1) := by decide +kernel
theorem dX2_minutesToRest_70 : decode cX2_minutesToRest 70 = .ok (.ireturn, 1) := by decide +kernel
theorem dX2_minutesToRest_71 : decode cX2_minutesToRest 71 = .ok (.iinc 3 1, 3) := by decide +kernel
theorem dX2_minutesToRest_74 : decode cX2_minutesToRest 74 = .ok (.goto (-62), 3) := by decide +kernel
theorem dX2_minutesToRest_77 : decode cX2_minutesToRest 77 = .ok (.ldc 61, 2) := by decide +kernel
theorem dX2_minutesToRest_79 : decode cX2_minutesToRest 79 = .ok (.ireturn, 1) := by decide +kernel
theorem dX2_turnsToServe_0 : decode cX2_turnsToServe 0 = .ok (.iconst 2, 1) := by decide +kernel
theorem dX2_turnsToServe_1 : decode cX2_turnsToServe 1 = .ok (.aload_n 1, 1) := by decide +kernel
theorem dX2_turnsToServe_2 : decode cX2_turnsToServe 2 = .ok (.getfield 48, 3) := by decide +kernel
theorem dX2_turnsToServe_5 : decode cX2_turnsToServe 5 = .ok (.imul, 1) := by decide +kernel
theorem dX2_turnsToServe_6 : decode cX2_turnsToServe 6 = .ok (.istore_n 2, 1) := by decide +kernel
theorem dX2_turnsToServe_7 : decode cX2_turnsToServe 7 = .ok (.iconst 0, 1) := by decide +kernel
theorem dX2_turnsToServe_8 : decode cX2_turnsToServe 8 = .ok (.istore_n 3, 1) := by decide +kernel
theorem dX2_turnsToServe_9 : decode cX2_turnsToServe 9 = .ok (.iload_n 3, 1) := by decide +kernel
theorem dX2_turnsToServe_10 : decode cX2_turnsToServe 10 = .ok (.aload_n 1, 1) := by decide +kernel
theorem dX2_turnsToServe_11 : decode cX2_turnsToServe 11 = .ok (.getfield 48, 3) := by decide +kernel
theorem dX2_turnsToServe_14 : decode cX2_turnsToServe 14 = .ok (.if_icmp .ge 32, 3) := by decide +kernel
theorem dX2_turnsToServe_17 : decode cX2_turnsToServe 17 = .ok (.aload_n 1, 1) := by decide +kernel
theorem dX2_turnsToServe_18 : decode cX2_turnsToServe 18 = .ok (.iload_n 3, 1) := by decide +kernel
theorem dX2_turnsToServe_19 : decode cX2_turnsToServe 19 = .ok (.invokestatic 62, 3) := by decide +kernel
theorem dX2_turnsToServe_22 : decode cX2_turnsToServe 22 = .ok (.istore 4, 2) := by decide +kernel
theorem dX2_turnsToServe_24 : decode cX2_turnsToServe 24 = .ok (.iload_n 2, 1) := by decide +kernel
theorem dX2_turnsToServe_25 : decode cX2_turnsToServe 25 = .ok (.iload_n 3, 1) := by decide +kernel
theorem dX2_turnsToServe_26 : decode cX2_turnsToServe 26 = .ok (.iload 4, 2) := by decide +kernel
theorem dX2_turnsToServe_28 : decode cX2_turnsToServe 28 = .ok (.iadd, 1) := by decide +kernel
theorem dX2_turnsToServe_29 : decode cX2_turnsToServe 29 = .ok (.iload_n 3, 1) := by decide +kernel
theorem dX2_turnsToServe_30 : decode cX2_turnsToServe 30 = .ok (.iload 4, 2) := by decide +kernel
theorem dX2_turnsToServe_32 : decode cX2_turnsToServe 32 = .ok (.invokestatic 66, 3) := by decide +kernel
theorem dX2_turnsToServe_35 : decode cX2_turnsToServe 35 = .ok (.iadd, 1) := by decide +kernel
theorem dX2_turnsToServe_36 : decode cX2_turnsToServe 36 = .ok (.invokestatic 66, 3) := by decide +kernel
theorem dX2_turnsToServe_39 : decode cX2_turnsToServe 39 = .ok (.istore_n 2, 1) := by decide +kernel
theorem dX2_turnsToServe_40 : decode cX2_turnsToServe 40 = .ok (.iinc 3 1, 3) := by decide +kernel
theorem dX2_turnsToServe_43 : decode cX2_turnsToServe 43 = .ok (.goto (-34), 3) := by decide +kernel
theorem dX2_turnsToServe_46 : decode cX2_turnsToServe 46 = .ok (.iload_n 2, 1) := by decide +kernel
theorem dX2_turnsToServe_47 : decode cX2_turnsToServe 47 = .ok (.ireturn, 1) := by decide +kernel
theorem dX2_toTheRightForOthers_0 : decode cX2_toTheRightForOthers 0 = .ok (.iconst 0, 1) := by decide +kernel
theorem dX2_toTheRightForOthers_1 : decode cX2_toTheRightForOthers 1 = .ok (.istore_n 2, 1) := by decide +kernel
theorem dX2_toTheRightForOthers_2 : decode cX2_toTheRightForOthers 2 = .ok (.iconst 0, 1) := by decide +kernel
theorem dX2_toTheRightForOthers_3 : decode cX2_toTheRightForOthers 3 = .ok (.istore_n 3, 1) := by decide +kernel
theorem dX2_toTheRightForOthers_4 : decode cX2_toTheRightForOthers 4 = .ok (.iload_n 3, 1) := by decide +kernel
theorem dX2_toTheRightForOthers_5 : decode cX2_toTheRightForOthers 5 = .ok (.aload_n 0, 1) := by decide +kernel
theorem dX2_toTheRightForOthers_6 : decode cX2_toTheRightForOthers 6 = .ok (.getfield 48, 3) := by decide +kernel
theorem dX2_toTheRightForOthers_9 : decode cX2_toTheRightForOthers 9 = .ok (.if_icmp .ge 53, 3) := by decide +kernel
theorem dX2_toTheRightForOthers_12 : decode cX2_toTheRightForOthers 12 = .ok (.aload_n 0, 1) := by decide +kernel
theorem dX2_toTheRightForOthers_13 : decode cX2_toTheRightForOthers 13 = .ok (.iconst 1, 1) := by decide +kernel
theorem dX2_toTheRightForOthers_14 : decode cX2_toTheRightForOthers 14 = .ok (.iload_n 3, 1) := by decide +kernel
theorem dX2_toTheRightForOthers_15 : decode cX2_toTheRightForOthers 15 = .ok (.invokevirtual 45, 3) := by decide +kernel
theorem dX2_toTheRightForOthers_18 : decode cX2_toTheRightForOthers 18 = .ok (.istore 4, 2) := by decide +kernel
theorem dX2_toTheRightForOthers_20 : decode cX2_toTheRightForOthers 20 = .ok (.aload_n 0, 1) := by decide +kernel
theorem dX2_toTheRightForOthers_21 : decode cX2_toTheRightForOthers 21 = .ok (.iload_n 3, 1) := by decide +kernel
theorem dX2_toTheRightForOthers_22 : decode cX2_toTheRightForOthers 22 = .ok (.iload 4, 2) := by decide +kernel
theorem dX2_toTheRightForOthers_24 : decode cX2_toTheRightForOthers 24 = .ok (.invokevirtual 71, 3) := by decide +kernel
theorem dX2_toTheRightForOthers_27 : decode cX2_toTheRightForOthers 27 = .ok (.istore 5, 2) := by decide +kernel
theorem dX2_toTheRightForOthers_29 : decode cX2_toTheRightForOthers 29 = .ok (.aload_n 0, 1) := by decide +kernel
theorem dX2_toTheRightForOthers_30 : decode cX2_toTheRightForOthers 30 = .ok (.iload 4, 2) := by decide +kernel
theorem dX2_toTheRightForOthers_32 : decode cX2_toTheRightForOthers 32 = .ok (.invokevirtual 74, 3) := by decide +kernel
theorem dX2_toTheRightForOthers_35 : decode cX2_toTheRightForOthers 35 = .ok (.ifCond .eq 21, 3) := by decide +kernel
theorem dX2_toTheRightForOthers_38 : decode cX2_toTheRightForOthers 38 = .ok (.iload 5, 2) := by decide +kernel
theorem dX2_toTheRightForOthers_40 : decode cX2_toTheRightForOthers 40 = .ok (.iload_n 1, 1) := by decide +kernel
theorem dX2_toTheRightForOthers_41 : decode cX2_toTheRightForOthers 41 = .ok (.if_icmp .le 15, 3) := by decide +kernel
theorem dX2_toTheRightForOthers_44 : decode cX2_toTheRightForOthers 44 = .ok (.iload_n 2, 1) := by decide +kernel
theorem dX2_toTheRightForOthers_45 : decode cX2_toTheRightForOthers 45 = .ok (.aload_n 0, 1) := by decide +kernel
theorem dX2_toTheRightForOthers_46 : decode cX2_toTheRightForOthers 46 = .ok (.getfield 48, 3) := by decide +kernel
theorem dX2_toTheRightForOthers_49 : decode cX2_toTheRightForOthers 49 = .ok (.iload 5, 2) := by decide +kernel
theorem dX2_toTheRightForOthers_51 : decode cX2_toTheRightForOthers 51 = .ok (.isub, 1) := by decide +kernel
theorem dX2_toTheRightForOthers_52 : decode cX2_toTheRightForOthers 52 = .ok (.invokestatic 78, 3) := by decide +kernel
theorem dX2_toTheRightForOthers_55 : decode cX2_toTheRightForOthers 55 = .ok (.istore_n 2, 1) := by decide +kernel
theorem dX2_toTheRightForOthers_56 : decode cX2_toTheRightForOthers 56 = .ok (.iinc 3 1, 3) := by decide +kernel
theorem dX2_toTheRightForOthers_59 : decode cX2_toTheRightForOthers 59 = .ok (.goto (-55), 3) := by decide +kernel
theorem dX2_toTheRightForOthers_62 : decode cX2_toTheRightForOthers 62 = .ok (.iload_n 2, 1) := by decide +kernel
theorem dX2_toTheRightForOthers_63 : decode cX2_toTheRightForOthers 63 = .ok (.ireturn, 1) := by decide +kernel
theorem dX2_findBestSlots_0 : decode cX2_findBestSlots 0 = .ok (.ldc 29, 2) := by decide +kernel
theorem dX2_findBestSlots_2 : decode cX2_findBestSlots 2 = .ok (.istore_n 3, 1) := by decide +kernel
theorem dX2_findBestSlots_3 : decode cX2_findBestSlots 3 = .ok (.iconst 0, 1) := by decide +kernel
theorem dX2_findBestSlots_4 : decode cX2_findBestSlots 4 = .ok (.istore 4, 2) := by decide +kernel
theorem dX2_findBestSlots_6 : decode cX2_findBestSlots 6 = .ok (.iload 4, 2) := by decide +kernel
theorem dX2_findBestSlots_8 : decode cX2_findBestSlots 8 = .ok (.aload_n 0, 1) := by decide +kernel
theorem dX2_findBestSlots_9 : decode cX2_findBestSlots 9 = .ok (.getfield 18, 3) := by decide +kernel
theorem dX2_findBestSlots_12 : decode cX2_findBestSlots 12 = .ok (.arraylength, 1) := by decide +kernel
theorem dX2_findBestSlots_13 : decode cX2_findBestSlots 13 = .ok (.if_icmp .ge 18, 3) := by decide +kernel
theorem dX2_findBestSlots_16 : decode cX2_findBestSlots 16 = .ok (.aload_n 0, 1) := by decide +kernel
theorem dX2_findBestSlots_17 : decode cX2_findBestSlots 17 = .ok (.getfield 18, 3) := by decide +kernel
theorem dX2_findBestSlots_20 : decode cX2_findBestSlots 20 = .ok (.iload 4, 2) := by decide +kernel
theorem dX2_findBestSlots_22 : decode cX2_findBestSlots 22 = .ok (.iload 4, 2) := by decide +kernel
theorem dX2_findBestSlots_24 : decode cX2_findBestSlots 24 = .ok (.iastore, 1) := by decide +kernel
theorem dX2_findBestSlots_25 : decode cX2_findBestSlots 25 = .ok (.iinc 4 1, 3) := by decide +kernel
theorem dX2_findBestSlots_28 : decode cX2_findBestSlots 28 = .ok (.goto (-22), 3) := by decide +kernel
theorem dX2_findBestSlots_31 : decode cX2_findBestSlots 31 = .ok (.iconst 1, 1) := by decide +kernel
theorem dX2_findBestSlots_32 : decode cX2_findBestSlots 32 = .ok (.istore 4, 2) := by decide +kernel
theorem dX2_findBestSlots_34 : decode cX2_findBestSlots 34 = .ok (.iconst 0, 1) := by decide +kernel
theorem dX2_findBestSlots_35 : decode cX2_findBestSlots 35 = .ok (.istore 5, 2) := by decide +kernel
theorem dX2_findBestSlots_37 : decode cX2_findBestSlots 37 = .ok (.iload 4, 2) := by decide +kernel
theorem dX2_findBestSlots_39 : decode cX2_findBestSlots 39 = .ok (.ifCond .eq 77, 3) := by decide +kernel
theorem dX2_findBestSlots_42 : decode cX2_findBestSlots 42 = .ok (.iload 5, 2) := by decide +kernel
theorem dX2_findBestSlots_44 : decode cX2_findBestSlots 44 = .ok (.ldc 29, 2) := by decide +kernel
theorem dX2_findBestSlots_46 : decode cX2_findBestSlots 46 = .ok (.if_icmp .ge 70, 3) := by decide +kernel
theorem dX2_findBestSlots_49 : decode cX2_findBestSlots 49 = .ok (.iload_n 3, 1) := by decide +kernel
theorem dX2_findBestSlots_50 : decode cX2_findBestSlots 50 = .ok (.ifCond .le 66, 3) := by decide +kernel
theorem dX2_findBestSlots_53 : decode cX2_findBestSlots 53 = .ok (.aload_n 0, 1) := by decide +kernel
theorem dX2_findBestSlots_54 : decode cX2_findBestSlots 54 = .ok (.getfield 12, 3) := by decide +kernel
theorem dX2_findBestSlots_57 : decode cX2_findBestSlots 57 = .ok (.aload_n 1, 1) := by decide +kernel
theorem dX2_findBestSlots_58 : decode cX2_findBestSlots 58 = .ok (.invokevirtual 25, 3) := by decide +kernel
theorem dX2_findBestSlots_61 : decode cX2_findBestSlots 61 = .ok (.aload_n 0, 1) := by decide +kernel
theorem dX2_findBestSlots_62 : decode cX2_findBestSlots 62 = .ok (.invokevirtual 81, 3) := by decide +kernel
theorem dX2_findBestSlots_65 : decode cX2_findBestSlots 65 = .ok (.aload_n 0, 1) := by decide +kernel
theorem dX2_findBestSlots_66 : decode cX2_findBestSlots 66 = .ok (.iload_n 2, 1) := by decide +kernel
theorem dX2_findBestSlots_67 : decode cX2_findBestSlots 67 = .ok (.iload_n 3, 1) := by decide +kernel
theorem dX2_findBestSlots_68 : decode cX2_findBestSlots 68 = .ok (.invokevirtual 30, 3) := by decide +kernel
theorem dX2_findBestSlots_71 : decode cX2_findBestSlots 71 = .ok (.istore 6, 2) := by decide +kernel
theorem dX2_findBestSlots_73 : decode cX2_findBestSlots 73 = .ok (.iload 6, 2) := by decide +kernel
theorem dX2_findBestSlots_75 : decode cX2_findBestSlots 75 = .ok (.iload_n 3, 1) := by decide +kernel
theorem dX2_findBestSlots_76 : decode cX2_findBestSlots 76 = .ok (.if_icmp .ge 24, 3) := by decide +kernel
theorem dX2_findBestSlots_79 : decode cX2_findBestSlots 79 = .ok (.iload 6, 2) := by decide +kernel
theorem dX2_findBestSlots_81 : decode cX2_findBestSlots 81 = .ok (.istore_n 3, 1) := by decide +kernel
theorem dX2_findBestSlots_82 : decode cX2_findBestSlots 82 = .ok (.aload_n 0, 1) := by decide +kernel
theorem dX2_findBestSlots_83 : decode cX2_findBestSlots 83 = .ok (.getfield 18, 3) := by decide +kernel
theorem dX2_findBestSlots_86 : decode cX2_findBestSlots 86 = .ok (.iconst 0, 1) := by decide +kernel
theorem dX2_findBestSlots_87 : decode cX2_findBestSlots 87 = .ok (.aload_n 0, 1) := by decide +kernel
theorem dX2_findBestSlots_88 : decode cX2_findBestSlots 88 = .ok (.getfield 22, 3) := by decide +kernel
theorem dX2_findBestSlots_91 : decode cX2_findBestSlots 91 = .ok (.iconst 0, 1) := by decide +kernel
theorem dX2_findBestSlots_92 : decode cX2_findBestSlots 92 = .ok (.aload_n 0, 1) := by decide +kernel
theorem dX2_findBestSlots_93 : decode cX2_findBestSlots 93 = .ok (.getfield 18, 3) := by decide +kernel
theorem dX2_findBestSlots_96 : decode cX2_findBestSlots 96 = .ok (.arraylength, 1) := by decide +kernel
theorem dX2_findBestSlots_97 : decode cX2_findBestSlots 97 = .ok (.invokestatic 84, 3) := by decide +kernel
theorem dX2_findBestSlots_100 : decode cX2_findBestSlots 100 = .ok (.aload_n 0, 1) := by decide +kernel
theorem dX2_findBestSlots_101 : decode cX2_findBestSlots 101 = .ok (.aload_n 1, 1) := by decide +kernel
theorem dX2_findBestSlots_102 : decode cX2_findBestSlots 102 = .ok (.getfield 48, 3) := by decide +kernel
theorem dX2_findBestSlots_105 : decode cX2_findBestSlots 105 = .ok (.invokevirtual 90, 3) := by decide +kernel
theorem dX2_findBestSlots_108 : decode cX2_findBestSlots 108 = .ok (.istore 4, 2) := by decide +kernel
theorem dX2_findBestSlots_110 : decode cX2_findBestSlots 110 = .ok (.iinc 5 1, 3) := by decide +kernel
theorem dX2_findBestSlots_113 : decode cX2_findBestSlots 113 = .ok (.goto (-76), 3) := by decide +kernel
theorem dX2_findBestSlots_116 : decode cX2_findBestSlots 116 = .ok (.iload_n 3, 1) := by decide +kernel
theorem dX2_findBestSlots_117 : decode cX2_findBestSlots 117 = .ok (.ireturn, 1) := by decide +kernel
theorem dX2_bestSlot_0 : decode cX2_bestSlot 0 = .ok (.iload_n 1, 1) := by decide +kernel
theorem dX2_bestSlot_1 : decode cX2_bestSlot 1 = .ok (.ifCond .lt 21, 3) := by decide +kernel
theorem dX2_bestSlot_4 : decode cX2_bestSlot 4 = .ok (.iload_n 1, 1) := by decide +kernel
theorem dX2_bestSlot_5 : decode cX2_bestSlot 5 = .ok (.aload_n 0, 1) := by decide +kernel
theorem dX2_bestSlot_6 : decode cX2_bestSlot 6 = .ok (.getfield 22, 3) := by decide +kernel
theorem dX2_bestSlot_9 : decode cX2_bestSlot 9 = .ok (.arraylength, 1) := by decide +kernel
theorem dX2_bestSlot_10 : decode cX2_bestSlot 10 = .ok (.if_icmp .ge 12, 3) := by decide +kernel
theorem dX2_bestSlot_13 : decode cX2_bestSlot 13 = .ok (.aload_n 0, 1) := by decide +kernel
theorem dX2_bestSlot_14 : decode cX2_bestSlot 14 = .ok (.getfield 22, 3) := by decide +kernel
theorem dX2_bestSlot_17 : decode cX2_bestSlot 17 = .ok (.iload_n 1, 1) := by decide +kernel
theorem dX2_bestSlot_18 : decode cX2_bestSlot 18 = .ok (.iaload, 1) := by decide +kernel
theorem dX2_bestSlot_19 : decode cX2_bestSlot 19 = .ok (.goto 4, 3) := by decide +kernel
theorem dX2_bestSlot_22 : decode cX2_bestSlot 22 = .ok (.iconst 0, 1) := by decide +kernel
theorem dX2_bestSlot_23 : decode cX2_bestSlot 23 = .ok (.ireturn, 1) := by decide +kernel
theorem dX2_layAsTried_0 : decode cX2_layAsTried 0 = .ok (.iconst 0, 1) := by decide +kernel
theorem dX2_layAsTried_1 : decode cX2_layAsTried 1 = .ok (.istore_n 1, 1) := by decide +kernel
theorem dX2_layAsTried_2 : decode cX2_layAsTried 2 = .ok (.iload_n 1, 1) := by decide +kernel
theorem dX2_layAsTried_3 : decode cX2_layAsTried 3 = .ok (.aload_n 0, 1) := by decide +kernel
theorem dX2_layAsTried_4 : decode cX2_layAsTried 4 = .ok (.getfield 12, 3) := by decide +kernel
theorem dX2_layAsTried_7 : decode cX2_layAsTried 7 = .ok (.getfield 48, 3) := by decide +kernel
theorem dX2_layAsTried_10 : decode cX2_layAsTried 10 = .ok (.if_icmp .ge 32, 3) := by decide +kernel
theorem dX2_layAsTried_13 : decode cX2_layAsTried 13 = .ok (.iload_n 1, 1) := by decide +kernel
theorem dX2_layAsTried_14 : decode cX2_layAsTried 14 = .ok (.aload_n 0, 1) := by decide +kernel
theorem dX2_layAsTried_15 : decode cX2_layAsTried 15 = .ok (.getfield 18, 3) := by decide +kernel
theorem dX2_layAsTried_18 : decode cX2_layAsTried 18 = .ok (.arraylength, 1) := by decide +kernel
theorem dX2_layAsTried_19 : decode cX2_layAsTried 19 = .ok (.if_icmp .ge 23, 3) := by decide +kernel
theorem dX2_layAsTried_22 : decode cX2_layAsTried 22 = .ok (.aload_n 0, 1) := by decide +kernel
theorem dX2_layAsTried_23 : decode cX2_layAsTried 23 = .ok (.getfield 12, 3) := by decide +kernel
theorem dX2_layAsTried_26 : decode cX2_layAsTried 26 = .ok (.iload_n 1, 1) := by decide +kernel
theorem dX2_layAsTried_27 : decode cX2_layAsTried 27 = .ok (.aload_n 0, 1) := by decide +kernel
theorem dX2_layAsTried_28 : decode cX2_layAsTried 28 = .ok (.getfield 18, 3) := by decide +kernel
theorem dX2_layAsTried_31 : decode cX2_layAsTried 31 = .ok (.iload_n 1, 1) := by decide +kernel
theorem dX2_layAsTried_32 : decode cX2_layAsTried 32 = .ok (.iaload, 1) := by decide +kernel
theorem dX2_layAsTried_33 : decode cX2_layAsTried 33 = .ok (.invokevirtual 93, 3) := by decide +kernel
theorem dX2_layAsTried_36 : decode cX2_layAsTried 36 = .ok (.iinc 1 1, 3) := by decide +kernel
theorem dX2_layAsTried_39 : decode cX2_layAsTried 39 = .ok (.goto (-37), 3) := by decide +kernel
theorem dX2_layAsTried_42 : decode cX2_layAsTried 42 = .ok (.return_, 1) := by decide +kernel
theorem dX2_toNextOrder_0 : decode cX2_toNextOrder 0 = .ok (.iload_n 1, 1) := by decide +kernel
theorem dX2_toNextOrder_1 : decode cX2_toNextOrder 1 = .ok (.aload_n 0, 1) := by decide +kernel
theorem dX2_toNextOrder_2 : decode cX2_toNextOrder 2 = .ok (.getfield 18, 3) := by decide +kernel
theorem dX2_toNextOrder_5 : decode cX2_toNextOrder 5 = .ok (.arraylength, 1) := by decide +kernel
theorem dX2_toNextOrder_6 : decode cX2_toNextOrder 6 = .ok (.invokestatic 66, 3) := by decide +kernel
theorem dX2_toNextOrder_9 : decode cX2_toNextOrder 9 = .ok (.iconst 2, 1) := by decide +kernel
theorem dX2_toNextOrder_10 : decode cX2_toNextOrder 10 = .ok (.isub, 1) := by decide +kernel
theorem dX2_toNextOrder_11 : decode cX2_toNextOrder 11 = .ok (.istore_n 2, 1) := by decide +kernel
theorem dX2_toNextOrder_12 : decode cX2_toNextOrder 12 = .ok (.iload_n 2, 1) := by decide +kernel
theorem dX2_toNextOrder_13 : decode cX2_toNextOrder 13 = .ok (.ifCond .lt 26, 3) := by decide +kernel
theorem dX2_toNextOrder_16 : decode cX2_toNextOrder 16 = .ok (.aload_n 0, 1) := by decide +kernel
theorem dX2_toNextOrder_17 : decode cX2_toNextOrder 17 = .ok (.getfield 18, 3) := by decide +kernel
theorem dX2_toNextOrder_20 : decode cX2_toNextOrder 20 = .ok (.iload_n 2, 1) := by decide +kernel
theorem dX2_toNextOrder_21 : decode cX2_toNextOrder 21 = .ok (.iaload, 1) := by decide +kernel
theorem dX2_toNextOrder_22 : decode cX2_toNextOrder 22 = .ok (.aload_n 0, 1) := by decide +kernel
theorem dX2_toNextOrder_23 : decode cX2_toNextOrder 23 = .ok (.getfield 18, 3) := by decide +kernel
theorem dX2_toNextOrder_26 : decode cX2_toNextOrder 26 = .ok (.iload_n 2, 1) := by decide +kernel
theorem dX2_toNextOrder_27 : decode cX2_toNextOrder 27 = .ok (.iconst 1, 1) := by decide +kernel
theorem dX2_toNextOrder_28 : decode cX2_toNextOrder 28 = .ok (.iadd, 1) := by decide +kernel
theorem dX2_toNextOrder_29 : decode cX2_toNextOrder 29 = .ok (.iaload, 1) := by decide +kernel
theorem dX2_toNextOrder_30 : decode cX2_toNextOrder 30 = .ok (.if_icmp .le 9, 3) := by decide +kernel
theorem dX2_toNextOrder_33 : decode cX2_toNextOrder 33 = .ok (.iinc 2 (-1), 3) := by decide +kernel
theorem dX2_toNextOrder_36 : decode cX2_toNextOrder 36 = .ok (.goto (-24), 3) := by decide +kernel
theorem dX2_toNextOrder_39 : decode cX2_toNextOrder 39 = .ok (.iload_n 2, 1) := by decide +kernel
theorem dX2_toNextOrder_40 : decode cX2_toNextOrder 40 = .ok (.ifCond .ge 5, 3) := by decide +kernel
theorem dX2_toNextOrder_43 : decode cX2_toNextOrder 43 = .ok (.iconst 0, 1) := by decide +kernel
theorem dX2_toNextOrder_44 : decode cX2_toNextOrder 44 = .ok (.ireturn, 1) := by decide +kernel
theorem dX2_toNextOrder_45 : decode cX2_toNextOrder 45 = .ok (.iload_n 1, 1) := by decide +kernel
theorem dX2_toNextOrder_46 : decode cX2_toNextOrder 46 = .ok (.aload_n 0, 1) := by decide +kernel
theorem dX2_toNextOrder_47 : decode cX2_toNextOrder 47 = .ok (.getfield 18, 3) := by decide +kernel
theorem dX2_toNextOrder_50 : decode cX2_toNextOrder 50 = .ok (.arraylength, 1) := by decide +kernel
theorem dX2_toNextOrder_51 : decode cX2_toNextOrder 51 = .ok (.invokestatic 66, 3) := by decide +kernel
theorem dX2_toNextOrder_54 : decode cX2_toNextOrder 54 = .ok (.iconst 1, 1) := by decide +kernel
theorem dX2_toNextOrder_55 : decode cX2_toNextOrder 55 = .ok (.isub, 1) := by decide +kernel
theorem dX2_toNextOrder_56 : decode cX2_toNextOrder 56 = .ok (.istore_n 3, 1) := by decide +kernel
theorem dX2_toNextOrder_57 : decode cX2_toNextOrder 57 = .ok (.iload_n 3, 1) := by decide +kernel
theorem dX2_toNextOrder_58 : decode cX2_toNextOrder 58 = .ok (.iload_n 2, 1) := by decide +kernel
theorem dX2_toNextOrder_59 : decode cX2_toNextOrder 59 = .ok (.iconst 1, 1) := by decide +kernel
theorem dX2_toNextOrder_60 : decode cX2_toNextOrder 60 = .ok (.iadd, 1) := by decide +kernel
theorem dX2_toNextOrder_61 : decode cX2_toNextOrder 61 = .ok (.if_icmp .le 24, 3) := by decide +kernel
theorem dX2_toNextOrder_64 : decode cX2_toNextOrder 64 = .ok (.aload_n 0, 1) := by decide +kernel
theorem dX2_toNextOrder_65 : decode cX2_toNextOrder 65 = .ok (.getfield 18, 3) := by decide +kernel
theorem dX2_toNextOrder_68 : decode cX2_toNextOrder 68 = .ok (.iload_n 3, 1) := by decide +kernel
theorem dX2_toNextOrder_69 : decode cX2_toNextOrder 69 = .ok (.iaload, 1) := by decide +kernel
theorem dX2_toNextOrder_70 : decode cX2_toNextOrder 70 = .ok (.aload_n 0, 1) := by decide +kernel
theorem dX2_toNextOrder_71 : decode cX2_toNextOrder 71 = .ok (.getfield 18, 3) := by decide +kernel
theorem dX2_toNextOrder_74 : decode cX2_toNextOrder 74 = .ok (.iload_n 2, 1) := by decide +kernel
theorem dX2_toNextOrder_75 : decode cX2_toNextOrder 75 = .ok (.iaload, 1) := by decide +kernel
theorem dX2_toNextOrder_76 : decode cX2_toNextOrder 76 = .ok (.if_icmp .ge 9, 3) := by decide +kernel
theorem dX2_toNextOrder_79 : decode cX2_toNextOrder 79 = .ok (.iinc 3 (-1), 3) := by decide +kernel
theorem dX2_toNextOrder_82 : decode cX2_toNextOrder 82 = .ok (.goto (-25), 3) := by decide +kernel
theorem dX2_toNextOrder_85 : decode cX2_toNextOrder 85 = .ok (.aload_n 0, 1) := by decide +kernel
theorem dX2_toNextOrder_86 : decode cX2_toNextOrder 86 = .ok (.iload_n 2, 1) := by decide +kernel
theorem dX2_toNextOrder_87 : decode cX2_toNextOrder 87 = .ok (.iload_n 3, 1) := by decide +kernel
theorem dX2_toNextOrder_88 : decode cX2_toNextOrder 88 = .ok (.invokevirtual 96, 3) := by decide +kernel
theorem dX2_toNextOrder_91 : decode cX2_toNextOrder 91 = .ok (.iload_n 1, 1) := by decide +kernel
theorem dX2_toNextOrder_92 : decode cX2_toNextOrder 92 = .ok (.aload_n 0, 1) := by decide +kernel
theorem dX2_toNextOrder_93 : decode cX2_toNextOrder 93 = .ok (.getfield 18, 3) := by decide +kernel
theorem dX2_toNextOrder_96 : decode cX2_toNextOrder 96 = .ok (.arraylength, 1) := by decide +kernel
theorem dX2_toNextOrder_97 : decode cX2_toNextOrder 97 = .ok (.invokestatic 66, 3) := by decide +kernel
theorem dX2_toNextOrder_100 : decode cX2_toNextOrder 100 = .ok (.iconst 1, 1) := by decide +kernel
theorem dX2_toNextOrder_101 : decode cX2_toNextOrder 101 = .ok (.isub, 1) := by decide +kernel
theorem dX2_toNextOrder_102 : decode cX2_toNextOrder 102 = .ok (.istore 4, 2) := by decide +kernel
theorem dX2_toNextOrder_104 : decode cX2_toNextOrder 104 = .ok (.iload_n 2, 1) := by decide +kernel
theorem dX2_toNextOrder_105 : decode cX2_toNextOrder 105 = .ok (.iconst 1, 1) := by decide +kernel
theorem dX2_toNextOrder_106 : decode cX2_toNextOrder 106 = .ok (.iadd, 1) := by decide +kernel
theorem dX2_toNextOrder_107 : decode cX2_toNextOrder 107 = .ok (.istore 5, 2) := by decide +kernel
theorem dX2_toNextOrder_109 : decode cX2_toNextOrder 109 = .ok (.iload 5, 2) := by decide +kernel
theorem dX2_toNextOrder_111 : decode cX2_toNextOrder 111 = .ok (.iload 4, 2) := by decide +kernel
theorem dX2_toNextOrder_113 : decode cX2_toNextOrder 113 = .ok (.if_icmp .ge 20, 3) := by decide +kernel
theorem dX2_toNextOrder_116 : decode cX2_toNextOrder 116 = .ok (.aload_n 0, 1) := by decide +kernel
theorem dX2_toNextOrder_117 : decode cX2_toNextOrder 117 = .ok (.iload 5, 2) := by decide +kernel
theorem dX2_toNextOrder_119 : decode cX2_toNextOrder 119 = .ok (.iload 4, 2) := by decide +kernel
theorem dX2_toNextOrder_121 : decode cX2_toNextOrder 121 = .ok (.invokevirtual 96, 3) := by decide +kernel
theorem dX2_toNextOrder_124 : decode cX2_toNextOrder 124 = .ok (.iinc 4 (-1), 3) := by decide +kernel
theorem dX2_toNextOrder_127 : decode cX2_toNextOrder 127 = .ok (.iinc 5 1, 3) := by decide +kernel
theorem dX2_toNextOrder_130 : decode cX2_toNextOrder 130 = .ok (.goto (-21), 3) := by decide +kernel
theorem dX2_toNextOrder_133 : decode cX2_toNextOrder 133 = .ok (.iconst 1, 1) := by decide +kernel
theorem dX2_toNextOrder_134 : decode cX2_toNextOrder 134 = .ok (.ireturn, 1) := by decide +kernel
theorem dX2_swapTried_0 : decode cX2_swapTried 0 = .ok (.iload_n 1, 1) := by decide +kernel
theorem dX2_swapTried_1 : decode cX2_swapTried 1 = .ok (.iconst 0, 1) := by decide +kernel
theorem dX2_swapTried_2 : decode cX2_swapTried 2 = .ok (.aload_n 0, 1) := by decide +kernel
theorem dX2_swapTried_3 : decode cX2_swapTried 3 = .ok (.getfield 18, 3) := by decide +kernel
theorem dX2_swapTried_6 : decode cX2_swapTried 6 = .ok (.arraylength, 1) := by decide +kernel
theorem dX2_swapTried_7 : decode cX2_swapTried 7 = .ok (.iconst 1, 1) := by decide +kernel
theorem dX2_swapTried_8 : decode cX2_swapTried 8 = .ok (.isub, 1) := by decide +kernel
theorem dX2_swapTried_9 : decode cX2_swapTried 9 = .ok (.invokestatic 99, 3) := by decide +kernel
theorem dX2_swapTried_12 : decode cX2_swapTried 12 = .ok (.ifCond .eq 44, 3) := by decide +kernel
theorem dX2_swapTried_15 : decode cX2_swapTried 15 = .ok (.iload_n 2, 1) := by decide +kernel
theorem dX2_swapTried_16 : decode cX2_swapTried 16 = .ok (.iconst 0, 1) := by decide +kernel
theorem dX2_swapTried_17 : decode cX2_swapTried 17 = .ok (.aload_n 0, 1) := by decide +kernel
theorem dX2_swapTried_18 : decode cX2_swapTried 18 = .ok (.getfield 18, 3) := by decide +kernel
theorem dX2_swapTried_21 : decode cX2_swapTried 21 = .ok (.arraylength, 1) := by decide +kernel
theorem dX2_swapTried_22 : decode cX2_swapTried 22 = .ok (.iconst 1, 1) := by decide +kernel
theorem dX2_swapTried_23 : decode cX2_swapTried 23 = .ok (.isub, 1) := by decide +kernel
theorem dX2_swapTried_24 : decode cX2_swapTried 24 = .ok (.invokestatic 99, 3) := by decide +kernel
theorem dX2_swapTried_27 : decode cX2_swapTried 27 = .ok (.ifCond .eq 29, 3) := by decide +kernel
theorem dX2_swapTried_30 : decode cX2_swapTried 30 = .ok (.aload_n 0, 1) := by decide +kernel
theorem dX2_swapTried_31 : decode cX2_swapTried 31 = .ok (.getfield 18, 3) := by decide +kernel
theorem dX2_swapTried_34 : decode cX2_swapTried 34 = .ok (.iload_n 1, 1) := by decide +kernel
theorem dX2_swapTried_35 : decode cX2_swapTried 35 = .ok (.iaload, 1) := by decide +kernel
theorem dX2_swapTried_36 : decode cX2_swapTried 36 = .ok (.istore_n 3, 1) := by decide +kernel
theorem dX2_swapTried_37 : decode cX2_swapTried 37 = .ok (.aload_n 0, 1) := by decide +kernel
theorem dX2_swapTried_38 : decode cX2_swapTried 38 = .ok (.getfield 18, 3) := by decide +kernel
theorem dX2_swapTried_41 : decode cX2_swapTried 41 = .ok (.iload_n 1, 1) := by decide +kernel
theorem dX2_swapTried_42 : decode cX2_swapTried 42 = .ok (.aload_n 0, 1) := by decide +kernel
theorem dX2_swapTried_43 : decode cX2_swapTried 43 = .ok (.getfield 18, 3) := by decide +kernel
theorem dX2_swapTried_46 : decode cX2_swapTried 46 = .ok (.iload_n 2, 1) := by decide +kernel
theorem dX2_swapTried_47 : decode cX2_swapTried 47 = .ok (.iaload, 1) := by decide +kernel
theorem dX2_swapTried_48 : decode cX2_swapTried 48 = .ok (.iastore, 1) := by decide +kernel
theorem dX2_swapTried_49 : decode cX2_swapTried 49 = .ok (.aload_n 0, 1) := by decide +kernel
theorem dX2_swapTried_50 : decode cX2_swapTried 50 = .ok (.getfield 18, 3) := by decide +kernel
theorem dX2_swapTried_53 : decode cX2_swapTried 53 = .ok (.iload_n 2, 1) := by decide +kernel
theorem dX2_swapTried_54 : decode cX2_swapTried 54 = .ok (.iload_n 3, 1) := by decide +kernel
theorem dX2_swapTried_55 : decode cX2_swapTried 55 = .ok (.iastore, 1) := by decide +kernel
theorem dX2_swapTried_56 : decode cX2_swapTried 56 = .ok (.return_, 1) := by decide +kernel
theorem dX2_dishesToWant_0 : decode cX2_dishesToWant 0 = .ok (.iconst 0, 1) := by decide +kernel
theorem dX2_dishesToWant_1 : decode cX2_dishesToWant 1 = .ok (.istore 6, 2) := by decide +kernel
theorem dX2_dishesToWant_3 : decode cX2_dishesToWant 3 = .ok (.iconst 0, 1) := by decide +kernel
theorem dX2_dishesToWant_4 : decode cX2_dishesToWant 4 = .ok (.istore 7, 2) := by decide +kernel
theorem dX2_dishesToWant_6 : decode cX2_dishesToWant 6 = .ok (.iload 7, 2) := by decide +kernel
theorem dX2_dishesToWant_8 : decode cX2_dishesToWant 8 = .ok (.aload_n 1, 1) := by decide +kernel
theorem dX2_dishesToWant_9 : decode cX2_dishesToWant 9 = .ok (.getfield 48, 3) := by decide +kernel
theorem dX2_dishesToWant_12 : decode cX2_dishesToWant 12 = .ok (.if_icmp .ge 56, 3) := by decide +kernel
theorem dX2_dishesToWant_15 : decode cX2_dishesToWant 15 = .ok (.aload_n 0, 1) := by decide +kernel
theorem dX2_dishesToWant_16 : decode cX2_dishesToWant 16 = .ok (.getfield 12, 3) := by decide +kernel
theorem dX2_dishesToWant_19 : decode cX2_dishesToWant 19 = .ok (.aload_n 1, 1) := by decide +kernel
theorem dX2_dishesToWant_20 : decode cX2_dishesToWant 20 = .ok (.invokevirtual 25, 3) := by decide +kernel
theorem dX2_dishesToWant_23 : decode cX2_dishesToWant 23 = .ok (.aload_n 0, 1) := by decide +kernel
theorem dX2_dishesToWant_24 : decode cX2_dishesToWant 24 = .ok (.getfield 12, 3) := by decide +kernel
theorem dX2_dishesToWant_27 : decode cX2_dishesToWant 27 = .ok (.iconst 1, 1) := by decide +kernel
theorem dX2_dishesToWant_28 : decode cX2_dishesToWant 28 = .ok (.iload_n 2, 1) := by decide +kernel
theorem dX2_dishesToWant_29 : decode cX2_dishesToWant 29 = .ok (.iload 7, 2) := by decide +kernel
theorem dX2_dishesToWant_31 : decode cX2_dishesToWant 31 = .ok (.invokevirtual 103, 3) := by decide +kernel
theorem dX2_dishesToWant_34 : decode cX2_dishesToWant 34 = .ok (.aload_n 0, 1) := by decide +kernel
theorem dX2_dishesToWant_35 : decode cX2_dishesToWant 35 = .ok (.iload_n 3, 1) := by decide +kernel
theorem dX2_dishesToWant_36 : decode cX2_dishesToWant 36 = .ok (.ldc 29, 2) := by decide +kernel
theorem dX2_dishesToWant_38 : decode cX2_dishesToWant 38 = .ok (.invokevirtual 30, 3) := by decide +kernel
theorem dX2_dishesToWant_41 : decode cX2_dishesToWant 41 = .ok (.pop, 1) := by decide +kernel
theorem dX2_dishesToWant_42 : decode cX2_dishesToWant 42 = .ok (.aload_n 0, 1) := by decide +kernel
theorem dX2_dishesToWant_43 : decode cX2_dishesToWant 43 = .ok (.aload 4, 2) := by decide +kernel
theorem dX2_dishesToWant_45 : decode cX2_dishesToWant 45 = .ok (.iload 5, 2) := by decide +kernel
theorem dX2_dishesToWant_47 : decode cX2_dishesToWant 47 = .ok (.invokevirtual 107, 3) := by decide +kernel
theorem dX2_dishesToWant_50 : decode cX2_dishesToWant 50 = .ok (.ifCond .eq 12, 3) := by decide +kernel
theorem dX2_dishesToWant_53 : decode cX2_dishesToWant 53 = .ok (.iload 6, 2) := by decide +kernel
theorem dX2_dishesToWant_55 : decode cX2_dishesToWant 55 = .ok (.iconst 1, 1) := by decide +kernel
theorem dX2_dishesToWant_56 : decode cX2_dishesToWant 56 = .ok (.iload 7, 2) := by decide +kernel
theorem dX2_dishesToWant_58 : decode cX2_dishesToWant 58 = .ok (.ishl, 1) := by decide +kernel
theorem dX2_dishesToWant_59 : decode cX2_dishesToWant 59 = .ok (.ior, 1) := by decide +kernel
theorem dX2_dishesToWant_60 : decode cX2_dishesToWant 60 = .ok (.istore 6, 2) := by decide +kernel
theorem dX2_dishesToWant_62 : decode cX2_dishesToWant 62 = .ok (.iinc 7 1, 3) := by decide +kernel
theorem dX2_dishesToWant_65 : decode cX2_dishesToWant 65 = .ok (.goto (-59), 3) := by decide +kernel
theorem dX2_dishesToWant_68 : decode cX2_dishesToWant 68 = .ok (.iload 6, 2) := by decide +kernel
theorem dX2_dishesToWant_70 : decode cX2_dishesToWant 70 = .ok (.ireturn, 1) := by decide +kernel
theorem dX2_isLeft_0 : decode cX2_isLeft 0 = .ok (.iconst 0, 1) := by decide +kernel
theorem dX2_isLeft_1 : decode cX2_isLeft 1 = .ok (.istore_n 3, 1) := by decide +kernel
theorem dX2_isLeft_2 : decode cX2_isLeft 2 = .ok (.iload_n 3, 1) := by decide +kernel
theorem dX2_isLeft_3 : decode cX2_isLeft 3 = .ok (.aload_n 0, 1) := by decide +kernel
theorem dX2_isLeft_4 : decode cX2_isLeft 4 = .ok (.getfield 12, 3) := by decide +kernel
theorem dX2_isLeft_7 : decode cX2_isLeft 7 = .ok (.getfield 48, 3) := by decide +kernel
theorem dX2_isLeft_10 : decode cX2_isLeft 10 = .ok (.if_icmp .ge 30, 3) := by decide +kernel
theorem dX2_isLeft_13 : decode cX2_isLeft 13 = .ok (.aload_n 1, 1) := by decide +kernel
theorem dX2_isLeft_14 : decode cX2_isLeft 14 = .ok (.iload_n 2, 1) := by decide +kernel
theorem dX2_isLeft_15 : decode cX2_isLeft 15 = .ok (.iload_n 3, 1) := by decide +kernel
theorem dX2_isLeft_16 : decode cX2_isLeft 16 = .ok (.iadd, 1) := by decide +kernel
theorem dX2_isLeft_17 : decode cX2_isLeft 17 = .ok (.invokevirtual 111, 3) := by decide +kernel
theorem dX2_isLeft_20 : decode cX2_isLeft 20 = .ok (.aload_n 0, 1) := by decide +kernel
theorem dX2_isLeft_21 : decode cX2_isLeft 21 = .ok (.getfield 12, 3) := by decide +kernel
theorem dX2_isLeft_24 : decode cX2_isLeft 24 = .ok (.iconst 4, 1) := by decide +kernel
theorem dX2_isLeft_25 : decode cX2_isLeft 25 = .ok (.iload_n 3, 1) := by decide +kernel
theorem dX2_isLeft_26 : decode cX2_isLeft 26 = .ok (.invokevirtual 45, 3) := by decide +kernel
theorem dX2_isLeft_29 : decode cX2_isLeft 29 = .ok (.if_icmp .eq 5, 3) := by decide +kernel
theorem dX2_isLeft_32 : decode cX2_isLeft 32 = .ok (.iconst 0, 1) := by decide +kernel
theorem dX2_isLeft_33 : decode cX2_isLeft 33 = .ok (.ireturn, 1) := by decide +kernel
theorem dX2_isLeft_34 : decode cX2_isLeft 34 = .ok (.iinc 3 1, 3) := by decide +kernel
theorem dX2_isLeft_37 : decode cX2_isLeft 37 = .ok (.goto (-35), 3) := by decide +kernel
theorem dX2_isLeft_40 : decode cX2_isLeft 40 = .ok (.iconst 1, 1) := by decide +kernel
theorem dX2_isLeft_41 : decode cX2_isLeft 41 = .ok (.ireturn, 1) := by decide +kernel
theorem dX3_init_0 : decode cX3_init 0 = .ok (.aload_n 0, 1) := by decide +kernel
theorem dX3_init_1 : decode cX3_init 1 = .ok (.invokespecial 3, 3) := by decide +kernel
theorem dX3_init_4 : decode cX3_init 4 = .ok (.aload_n 0, 1) := by decide +kernel
theorem dX3_init_5 : decode cX3_init 5 = .ok (.bipush 40, 2) := by decide +kernel
theorem dX3_init_7 : decode cX3_init 7 = .ok (.newarray .int, 2) := by decide +kernel
theorem dX3_init_9 : decode cX3_init 9 = .ok (.putfield 9, 3) := by decide +kernel
theorem dX3_init_12 : decode cX3_init 12 = .ok (.aload_n 0, 1) := by decide +kernel
theorem dX3_init_13 : decode cX3_init 13 = .ok (.iconst (-1), 1) := by decide +kernel
theorem dX3_init_14 : decode cX3_init 14 = .ok (.putfield 15, 3) := by decide +kernel
theorem dX3_init_17 : decode cX3_init 17 = .ok (.return_, 1) := by decide +kernel
theorem dX3_isMissing_0 : decode cX3_isMissing 0 = .ok (.aload_n 0, 1) := by decide +kernel
theorem dX3_isMissing_1 : decode cX3_isMissing 1 = .ok (.getfield 15, 3) := by decide +kernel
theorem dX3_isMissing_4 : decode cX3_isMissing 4 = .ok (.iconst (-1), 1) := by decide +kernel
theorem dX3_isMissing_5 : decode cX3_isMissing 5 = .ok (.if_icmp .ne 7, 3) := by decide +kernel
theorem dX3_isMissing_8 : decode cX3_isMissing 8 = .ok (.iconst 1, 1) := by decide +kernel
theorem dX3_isMissing_9 : decode cX3_isMissing 9 = .ok (.goto 4, 3) := by decide +kernel
theorem dX3_isMissing_12 : decode cX3_isMissing 12 = .ok (.iconst 0, 1) := by decide +kernel
theorem dX3_isMissing_13 : decode cX3_isMissing 13 = .ok (.ireturn, 1) := by decide +kernel
theorem dX3_begin_0 : decode cX3_begin 0 = .ok (.aload_n 0, 1) := by decide +kernel
theorem dX3_begin_1 : decode cX3_begin 1 = .ok (.iload_n 1, 1) := by decide +kernel
theorem dX3_begin_2 : decode cX3_begin 2 = .ok (.putfield 15, 3) := by decide +kernel
theorem dX3_begin_5 : decode cX3_begin 5 = .ok (.aload_n 0, 1) := by decide +kernel
theorem dX3_begin_6 : decode cX3_begin 6 = .ok (.iconst 0, 1) := by decide +kernel
theorem dX3_begin_7 : decode cX3_begin 7 = .ok (.iload_n 2, 1) := by decide +kernel
theorem dX3_begin_8 : decode cX3_begin 8 = .ok (.aload_n 0, 1) := by decide +kernel
theorem dX3_begin_9 : decode cX3_begin 9 = .ok (.getfield 9, 3) := by decide +kernel
theorem dX3_begin_12 : decode cX3_begin 12 = .ok (.arraylength, 1) := by decide +kernel
theorem dX3_begin_13 : decode cX3_begin 13 = .ok (.invokestatic 19, 3) := by decide +kernel
theorem dX3_begin_16 : decode cX3_begin 16 = .ok (.invokestatic 25, 3) := by decide +kernel
theorem dX3_begin_19 : decode cX3_begin 19 = .ok (.putfield 28, 3) := by decide +kernel
theorem dX3_begin_22 : decode cX3_begin 22 = .ok (.iconst 0, 1) := by decide +kernel
theorem dX3_begin_23 : decode cX3_begin 23 = .ok (.istore_n 3, 1) := by decide +kernel
theorem dX3_begin_24 : decode cX3_begin 24 = .ok (.iload_n 3, 1) := by decide +kernel
theorem dX3_begin_25 : decode cX3_begin 25 = .ok (.aload_n 0, 1) := by decide +kernel
theorem dX3_begin_26 : decode cX3_begin 26 = .ok (.getfield 9, 3) := by decide +kernel
theorem dX3_begin_29 : decode cX3_begin 29 = .ok (.arraylength, 1) := by decide +kernel
theorem dX3_begin_30 : decode cX3_begin 30 = .ok (.if_icmp .ge 16, 3) := by decide +kernel
theorem dX3_begin_33 : decode cX3_begin 33 = .ok (.aload_n 0, 1) := by decide +kernel
theorem dX3_begin_34 : decode cX3_begin 34 = .ok (.getfield 9, 3) := by decide +kernel
theorem dX3_begin_37 : decode cX3_begin 37 = .ok (.iload_n 3, 1) := by decide +kernel
theorem dX3_begin_38 : decode cX3_begin 38 = .ok (.iconst 0, 1) := by decide +kernel
theorem dX3_begin_39 : decode cX3_begin 39 = .ok (.iastore, 1) := by decide +kernel
theorem dX3_begin_40 : decode cX3_begin 40 = .ok (.iinc 3 1, 3) := by decide +kernel
theorem dX3_begin_43 : decode cX3_begin 43 = .ok (.goto (-19), 3) := by decide +kernel
theorem dX3_begin_46 : decode cX3_begin 46 = .ok (.return_, 1) := by decide +kernel
theorem dX3_end_0 : decode cX3_end 0 = .ok (.aload_n 0, 1) := by decide +kernel
theorem dX3_end_1 : decode cX3_end 1 = .ok (.iconst (-1), 1) := by decide +kernel
theorem dX3_end_2 : decode cX3_end 2 = .ok (.putfield 15, 3) := by decide +kernel
theorem dX3_end_5 : decode cX3_end 5 = .ok (.aload_n 0, 1) := by decide +kernel
theorem dX3_end_6 : decode cX3_end 6 = .ok (.iconst 0, 1) := by decide +kernel
theorem dX3_end_7 : decode cX3_end 7 = .ok (.putfield 28, 3) := by decide +kernel
theorem dX3_end_10 : decode cX3_end 10 = .ok (.return_, 1) := by decide +kernel
theorem dX3_hasPlaces_0 : decode cX3_hasPlaces 0 = .ok (.iload_n 2, 1) := by decide +kernel
theorem dX3_hasPlaces_1 : decode cX3_hasPlaces 1 = .ok (.ifCond .lt 29, 3) := by decide +kernel
theorem dX3_hasPlaces_4 : decode cX3_hasPlaces 4 = .ok (.iload_n 1, 1) := by decide +kernel
theorem dX3_hasPlaces_5 : decode cX3_hasPlaces 5 = .ok (.ifCond .lt 25, 3) := by decide +kernel
theorem dX3_hasPlaces_8 : decode cX3_hasPlaces 8 = .ok (.iload_n 2, 1) := by decide +kernel
theorem dX3_hasPlaces_9 : decode cX3_hasPlaces 9 = .ok (.aload_n 0, 1) := by decide +kernel
theorem dX3_hasPlaces_10 : decode cX3_hasPlaces 10 = .ok (.getfield 28, 3) := by decide +kernel
theorem dX3_hasPlaces_13 : decode cX3_hasPlaces 13 = .ok (.if_icmp .gt 17, 3) := by decide +kernel
theorem dX3_hasPlaces_16 : decode cX3_hasPlaces 16 = .ok (.iload_n 1, 1) := by decide +kernel
theorem dX3_hasPlaces_17 : decode cX3_hasPlaces 17 = .ok (.aload_n 0, 1) := by decide +kernel
theorem dX3_hasPlaces_18 : decode cX3_hasPlaces 18 = .ok (.getfield 28, 3) := by decide +kernel
theorem dX3_hasPlaces_21 : decode cX3_hasPlaces 21 = .ok (.iload_n 2, 1) := by decide +kernel
theorem dX3_hasPlaces_22 : decode cX3_hasPlaces 22 = .ok (.isub, 1) := by decide +kernel
theorem dX3_hasPlaces_23 : decode cX3_hasPlaces 23 = .ok (.if_icmp .gt 7, 3) := by decide +kernel
theorem dX3_hasPlaces_26 : decode cX3_hasPlaces 26 = .ok (.iconst 1, 1) := by decide +kernel
theorem dX3_hasPlaces_27 : decode cX3_hasPlaces 27 = .ok (.goto 4, 3) := by decide +kernel
theorem dX3_hasPlaces_30 : decode cX3_hasPlaces 30 = .ok (.iconst 0, 1) := by decide +kernel
theorem dX3_hasPlaces_31 : decode cX3_hasPlaces 31 = .ok (.ireturn, 1) := by decide +kernel
theorem dX3_item_0 : decode cX3_item 0 = .ok (.iload_n 1, 1) := by decide +kernel
theorem dX3_item_1 : decode cX3_item 1 = .ok (.ifCond .lt 21, 3) := by decide +kernel
theorem dX3_item_4 : decode cX3_item 4 = .ok (.iload_n 1, 1) := by decide +kernel
theorem dX3_item_5 : decode cX3_item 5 = .ok (.aload_n 0, 1) := by decide +kernel
theorem dX3_item_6 : decode cX3_item 6 = .ok (.getfield 9, 3) := by decide +kernel
theorem dX3_item_9 : decode cX3_item 9 = .ok (.arraylength, 1) := by decide +kernel
theorem dX3_item_10 : decode cX3_item 10 = .ok (.if_icmp .ge 12, 3) := by decide +kernel
theorem dX3_item_13 : decode cX3_item 13 = .ok (.aload_n 0, 1) := by decide +kernel
theorem dX3_item_14 : decode cX3_item 14 = .ok (.getfield 9, 3) := by decide +kernel
theorem dX3_item_17 : decode cX3_item 17 = .ok (.iload_n 1, 1) := by decide +kernel
theorem dX3_item_18 : decode cX3_item 18 = .ok (.iaload, 1) := by decide +kernel
theorem dX3_item_19 : decode cX3_item 19 = .ok (.goto 4, 3) := by decide +kernel
theorem dX3_item_22 : decode cX3_item 22 = .ok (.iconst 0, 1) := by decide +kernel
theorem dX3_item_23 : decode cX3_item 23 = .ok (.ireturn, 1) := by decide +kernel
theorem dX3_store_0 : decode cX3_store 0 = .ok (.iload_n 1, 1) := by decide +kernel
theorem dX3_store_1 : decode cX3_store 1 = .ok (.ifCond .lt 12, 3) := by decide +kernel
theorem dX3_store_4 : decode cX3_store 4 = .ok (.iload_n 1, 1) := by decide +kernel
theorem dX3_store_5 : decode cX3_store 5 = .ok (.aload_n 0, 1) := by decide +kernel
theorem dX3_store_6 : decode cX3_store 6 = .ok (.getfield 9, 3) := by decide +kernel
theorem dX3_store_9 : decode cX3_store 9 = .ok (.arraylength, 1) := by decide +kernel
theorem dX3_store_10 : decode cX3_store 10 = .ok (.if_icmp .lt 4, 3) := by decide +kernel
theorem dX3_store_13 : decode cX3_store 13 = .ok (.return_, 1) := by decide +kernel
theorem dX3_store_14 : decode cX3_store 14 = .ok (.aload_n 0, 1) := by decide +kernel
theorem dX3_store_15 : decode cX3_store 15 = .ok (.getfield 15, 3) := by decide +kernel
theorem dX3_store_18 : decode cX3_store 18 = .ok (.lookupswitch 48 #[(0, 26), (1, 37)], 26) := by decide +kernel
theorem dX3_store_44 : decode cX3_store 44 = .ok (.aload_n 0, 1) := by decide +kernel
theorem dX3_store_45 : decode cX3_store 45 = .ok (.getfield 9, 3) := by decide +kernel
theorem dX3_store_48 : decode cX3_store 48 = .ok (.iload_n 1, 1) := by decide +kernel
theorem dX3_store_49 : decode cX3_store 49 = .ok (.iload_n 2, 1) := by decide +kernel
theorem dX3_store_50 : decode cX3_store 50 = .ok (.i2b, 1) := by decide +kernel
theorem dX3_store_51 : decode cX3_store 51 = .ok (.iastore, 1) := by decide +kernel
theorem dX3_store_52 : decode cX3_store 52 = .ok (.goto 21, 3) := by decide +kernel
theorem dX3_store_55 : decode cX3_store 55 = .ok (.aload_n 0, 1) := by decide +kernel
theorem dX3_store_56 : decode cX3_store 56 = .ok (.getfield 9, 3) := by decide +kernel
theorem dX3_store_59 : decode cX3_store 59 = .ok (.iload_n 1, 1) := by decide +kernel
theorem dX3_store_60 : decode cX3_store 60 = .ok (.iload_n 2, 1) := by decide +kernel
theorem dX3_store_61 : decode cX3_store 61 = .ok (.i2s, 1) := by decide +kernel
theorem dX3_store_62 : decode cX3_store 62 = .ok (.iastore, 1) := by decide +kernel
theorem dX3_store_63 : decode cX3_store 63 = .ok (.goto 10, 3) := by decide +kernel
theorem dX3_store_66 : decode cX3_store 66 = .ok (.aload_n 0, 1) := by decide +kernel
theorem dX3_store_67 : decode cX3_store 67 = .ok (.getfield 9, 3) := by decide +kernel
theorem dX3_store_70 : decode cX3_store 70 = .ok (.iload_n 1, 1) := by decide +kernel
theorem dX3_store_71 : decode cX3_store 71 = .ok (.iload_n 2, 1) := by decide +kernel
theorem dX3_store_72 : decode cX3_store 72 = .ok (.iastore, 1) := by decide +kernel
theorem dX3_store_73 : decode cX3_store 73 = .ok (.return_, 1) := by decide +kernel
theorem dX3_take_0 : decode cX3_take 0 = .ok (.aload_n 1, 1) := by decide +kernel
theorem dX3_take_1 : decode cX3_take 1 = .ok (.ifnull 38, 3) := by decide +kernel
theorem dX3_take_4 : decode cX3_take 4 = .ok (.aload_n 1, 1) := by decide +kernel
theorem dX3_take_5 : decode cX3_take 5 = .ok (.iload_n 2, 1) := by decide +kernel
theorem dX3_take_6 : decode cX3_take 6 = .ok (.iload 4, 2) := by decide +kernel
theorem dX3_take_8 : decode cX3_take 8 = .ok (.invokevirtual 31, 3) := by decide +kernel
theorem dX3_take_11 : decode cX3_take 11 = .ok (.ifCond .eq 28, 3) := by decide +kernel
theorem dX3_take_14 : decode cX3_take 14 = .ok (.aload_n 0, 1) := by decide +kernel
theorem dX3_take_15 : decode cX3_take 15 = .ok (.iload_n 3, 1) := by decide +kernel
theorem dX3_take_16 : decode cX3_take 16 = .ok (.iload 4, 2) := by decide +kernel
theorem dX3_take_18 : decode cX3_take 18 = .ok (.invokevirtual 31, 3) := by decide +kernel
theorem dX3_take_21 : decode cX3_take 21 = .ok (.ifCond .eq 18, 3) := by decide +kernel
theorem dX3_take_24 : decode cX3_take 24 = .ok (.aload_n 1, 1) := by decide +kernel
theorem dX3_take_25 : decode cX3_take 25 = .ok (.getfield 9, 3) := by decide +kernel
theorem dX3_take_28 : decode cX3_take 28 = .ok (.iload_n 2, 1) := by decide +kernel
theorem dX3_take_29 : decode cX3_take 29 = .ok (.aload_n 0, 1) := by decide +kernel
theorem dX3_take_30 : decode cX3_take 30 = .ok (.getfield 9, 3) := by decide +kernel
theorem dX3_take_33 : decode cX3_take 33 = .ok (.iload_n 3, 1) := by decide +kernel
theorem dX3_take_34 : decode cX3_take 34 = .ok (.iload 4, 2) := by decide +kernel
theorem dX3_take_36 : decode cX3_take 36 = .ok (.invokestatic 35, 3) := by decide +kernel
theorem dX3_take_39 : decode cX3_take 39 = .ok (.return_, 1) := by decide +kernel
theorem dX4_init_0 : decode cX4_init 0 = .ok (.aload_n 0, 1) := by decide +kernel
theorem dX4_init_1 : decode cX4_init 1 = .ok (.invokespecial 3, 3) := by decide +kernel
theorem dX4_init_4 : decode cX4_init 4 = .ok (.aload_n 0, 1) := by decide +kernel
theorem dX4_init_5 : decode cX4_init 5 = .ok (.bipush 48, 2) := by decide +kernel
theorem dX4_init_7 : decode cX4_init 7 = .ok (.newarray .int, 2) := by decide +kernel
theorem dX4_init_9 : decode cX4_init 9 = .ok (.putfield 11, 3) := by decide +kernel
theorem dX4_init_12 : decode cX4_init 12 = .ok (.return_, 1) := by decide +kernel
theorem dX4_of_0 : decode cX4_of 0 = .ok (.iload_n 1, 1) := by decide +kernel
theorem dX4_of_1 : decode cX4_of 1 = .ok (.bipush 6, 2) := by decide +kernel
theorem dX4_of_3 : decode cX4_of 3 = .ok (.imul, 1) := by decide +kernel
theorem dX4_of_4 : decode cX4_of 4 = .ok (.iload_n 2, 1) := by decide +kernel
theorem dX4_of_5 : decode cX4_of 5 = .ok (.iadd, 1) := by decide +kernel
theorem dX4_of_6 : decode cX4_of 6 = .ok (.istore_n 3, 1) := by decide +kernel
theorem dX4_of_7 : decode cX4_of 7 = .ok (.iload_n 2, 1) := by decide +kernel
theorem dX4_of_8 : decode cX4_of 8 = .ok (.ifCond .lt 31, 3) := by decide +kernel
theorem dX4_of_11 : decode cX4_of 11 = .ok (.iload_n 2, 1) := by decide +kernel
theorem dX4_of_12 : decode cX4_of 12 = .ok (.bipush 6, 2) := by decide +kernel
theorem dX4_of_14 : decode cX4_of 14 = .ok (.if_icmp .ge 25, 3) := by decide +kernel
theorem dX4_of_17 : decode cX4_of 17 = .ok (.iload_n 3, 1) := by decide +kernel
theorem dX4_of_18 : decode cX4_of 18 = .ok (.ifCond .lt 21, 3) := by decide +kernel
theorem dX4_of_21 : decode cX4_of 21 = .ok (.iload_n 3, 1) := by decide +kernel
theorem dX4_of_22 : decode cX4_of 22 = .ok (.aload_n 0, 1) := by decide +kernel
theorem dX4_of_23 : decode cX4_of 23 = .ok (.getfield 11, 3) := by decide +kernel
theorem dX4_of_26 : decode cX4_of 26 = .ok (.arraylength, 1) := by decide +kernel
theorem dX4_of_27 : decode cX4_of 27 = .ok (.if_icmp .ge 12, 3) := by decide +kernel
theorem dX4_of_30 : decode cX4_of 30 = .ok (.aload_n 0, 1) := by decide +kernel
theorem dX4_of_31 : decode cX4_of 31 = .ok (.getfield 11, 3) := by decide +kernel
theorem dX4_of_34 : decode cX4_of 34 = .ok (.iload_n 3, 1) := by decide +kernel
theorem dX4_of_35 : decode cX4_of 35 = .ok (.iaload, 1) := by decide +kernel
theorem dX4_of_36 : decode cX4_of 36 = .ok (.goto 4, 3) := by decide +kernel
theorem dX4_of_39 : decode cX4_of 39 = .ok (.iconst 0, 1) := by decide +kernel
theorem dX4_of_40 : decode cX4_of 40 = .ok (.ireturn, 1) := by decide +kernel
theorem dX4_put_0 : decode cX4_put 0 = .ok (.iload_n 1, 1) := by decide +kernel
theorem dX4_put_1 : decode cX4_put 1 = .ok (.bipush 6, 2) := by decide +kernel
theorem dX4_put_3 : decode cX4_put 3 = .ok (.imul, 1) := by decide +kernel
theorem dX4_put_4 : decode cX4_put 4 = .ok (.iload_n 2, 1) := by decide +kernel
theorem dX4_put_5 : decode cX4_put 5 = .ok (.iadd, 1) := by decide +kernel
theorem dX4_put_6 : decode cX4_put 6 = .ok (.istore 4, 2) := by decide +kernel
theorem dX4_put_8 : decode cX4_put 8 = .ok (.iload_n 2, 1) := by decide +kernel
theorem dX4_put_9 : decode cX4_put 9 = .ok (.ifCond .lt 32, 3) := by decide +kernel
theorem dX4_put_12 : decode cX4_put 12 = .ok (.iload_n 2, 1) := by decide +kernel
theorem dX4_put_13 : decode cX4_put 13 = .ok (.bipush 6, 2) := by decide +kernel
theorem dX4_put_15 : decode cX4_put 15 = .ok (.if_icmp .ge 26, 3) := by decide +kernel
theorem dX4_put_18 : decode cX4_put 18 = .ok (.iload 4, 2) := by decide +kernel
theorem dX4_put_20 : decode cX4_put 20 = .ok (.ifCond .lt 21, 3) := by decide +kernel
theorem dX4_put_23 : decode cX4_put 23 = .ok (.iload 4, 2) := by decide +kernel
theorem dX4_put_25 : decode cX4_put 25 = .ok (.aload_n 0, 1) := by decide +kernel
theorem dX4_put_26 : decode cX4_put 26 = .ok (.getfield 11, 3) := by decide +kernel
theorem dX4_put_29 : decode cX4_put 29 = .ok (.arraylength, 1) := by decide +kernel
theorem dX4_put_30 : decode cX4_put 30 = .ok (.if_icmp .ge 11, 3) := by decide +kernel
theorem dX4_put_33 : decode cX4_put 33 = .ok (.aload_n 0, 1) := by decide +kernel
theorem dX4_put_34 : decode cX4_put 34 = .ok (.getfield 11, 3) := by decide +kernel
theorem dX4_put_37 : decode cX4_put 37 = .ok (.iload 4, 2) := by decide +kernel
theorem dX4_put_39 : decode cX4_put 39 = .ok (.iload_n 3, 1) := by decide +kernel
theorem dX4_put_40 : decode cX4_put 40 = .ok (.iastore, 1) := by decide +kernel
theorem dX4_put_41 : decode cX4_put 41 = .ok (.return_, 1) := by decide +kernel
theorem dX4_add_0 : decode cX4_add 0 = .ok (.aload_n 0, 1) := by decide +kernel
theorem dX4_add_1 : decode cX4_add 1 = .ok (.iload_n 1, 1) := by decide +kernel
theorem dX4_add_2 : decode cX4_add 2 = .ok (.iload_n 2, 1) := by decide +kernel
theorem dX4_add_3 : decode cX4_add 3 = .ok (.aload_n 0, 1) := by decide +kernel
theorem dX4_add_4 : decode cX4_add 4 = .ok (.iload_n 1, 1) := by decide +kernel
theorem dX4_add_5 : decode cX4_add 5 = .ok (.iload_n 2, 1) := by decide +kernel
theorem dX4_add_6 : decode cX4_add 6 = .ok (.invokevirtual 15, 3) := by decide +kernel
theorem dX4_add_9 : decode cX4_add 9 = .ok (.iload_n 3, 1) := by decide +kernel
theorem dX4_add_10 : decode cX4_add 10 = .ok (.iadd, 1) := by decide +kernel
theorem dX4_add_11 : decode cX4_add 11 = .ok (.invokevirtual 19, 3) := by decide +kernel
theorem dX4_add_14 : decode cX4_add 14 = .ok (.return_, 1) := by decide +kernel
theorem dX4_stands_0 : decode cX4_stands 0 = .ok (.aload_n 0, 1) := by decide +kernel
theorem dX4_stands_1 : decode cX4_stands 1 = .ok (.getfield 23, 3) := by decide +kernel
theorem dX4_stands_4 : decode cX4_stands 4 = .ok (.ifCond .le 7, 3) := by decide +kernel
theorem dX4_stands_7 : decode cX4_stands 7 = .ok (.iconst 1, 1) := by decide +kernel
theorem dX4_stands_8 : decode cX4_stands 8 = .ok (.goto 4, 3) := by decide +kernel
theorem dX4_stands_11 : decode cX4_stands 11 = .ok (.iconst 0, 1) := by decide +kernel
theorem dX4_stands_12 : decode cX4_stands 12 = .ok (.ireturn, 1) := by decide +kernel
theorem dX4_has_0 : decode cX4_has 0 = .ok (.iload_n 1, 1) := by decide +kernel
theorem dX4_has_1 : decode cX4_has 1 = .ok (.ifCond .lt 15, 3) := by decide +kernel
theorem dX4_has_4 : decode cX4_has 4 = .ok (.iload_n 1, 1) := by decide +kernel
theorem dX4_has_5 : decode cX4_has 5 = .ok (.aload_n 0, 1) := by decide +kernel
theorem dX4_has_6 : decode cX4_has 6 = .ok (.getfield 23, 3) := by decide +kernel
theorem dX4_has_9 : decode cX4_has 9 = .ok (.if_icmp .ge 7, 3) := by decide +kernel
theorem dX4_has_12 : decode cX4_has 12 = .ok (.iconst 1, 1) := by decide +kernel
theorem dX4_has_13 : decode cX4_has 13 = .ok (.goto 4, 3) := by decide +kernel
theorem dX4_has_16 : decode cX4_has 16 = .ok (.iconst 0, 1) := by decide +kernel
theorem dX4_has_17 : decode cX4_has 17 = .ok (.ireturn, 1) := by decide +kernel
theorem dX4_clear_0 : decode cX4_clear 0 = .ok (.aload_n 0, 1) := by decide +kernel
theorem dX4_clear_1 : decode cX4_clear 1 = .ok (.iconst 0, 1) := by decide +kernel
theorem dX4_clear_2 : decode cX4_clear 2 = .ok (.putfield 23, 3) := by decide +kernel
theorem dX4_clear_5 : decode cX4_clear 5 = .ok (.aload_n 0, 1) := by decide +kernel
theorem dX4_clear_6 : decode cX4_clear 6 = .ok (.iconst 0, 1) := by decide +kernel
theorem dX4_clear_7 : decode cX4_clear 7 = .ok (.putfield 27, 3) := by decide +kernel
theorem dX4_clear_10 : decode cX4_clear 10 = .ok (.aload_n 0, 1) := by decide +kernel
theorem dX4_clear_11 : decode cX4_clear 11 = .ok (.iconst 0, 1) := by decide +kernel
theorem dX4_clear_12 : decode cX4_clear 12 = .ok (.putfield 30, 3) := by decide +kernel
theorem dX4_clear_15 : decode cX4_clear 15 = .ok (.iconst 0, 1) := by decide +kernel
theorem dX4_clear_16 : decode cX4_clear 16 = .ok (.istore_n 1, 1) := by decide +kernel
theorem dX4_clear_17 : decode cX4_clear 17 = .ok (.iload_n 1, 1) := by decide +kernel
theorem dX4_clear_18 : decode cX4_clear 18 = .ok (.aload_n 0, 1) := by decide +kernel
theorem dX4_clear_19 : decode cX4_clear 19 = .ok (.getfield 11, 3) := by decide +kernel
theorem dX4_clear_22 : decode cX4_clear 22 = .ok (.arraylength, 1) := by decide +kernel
theorem dX4_clear_23 : decode cX4_clear 23 = .ok (.if_icmp .ge 16, 3) := by decide +kernel
theorem dX4_clear_26 : decode cX4_clear 26 = .ok (.aload_n 0, 1) := by decide +kernel
theorem dX4_clear_27 : decode cX4_clear 27 = .ok (.getfield 11, 3) := by decide +kernel
theorem dX4_clear_30 : decode cX4_clear 30 = .ok (.iload_n 1, 1) := by decide +kernel
theorem dX4_clear_31 : decode cX4_clear 31 = .ok (.iconst 0, 1) := by decide +kernel
theorem dX4_clear_32 : decode cX4_clear 32 = .ok (.iastore, 1) := by decide +kernel
theorem dX4_clear_33 : decode cX4_clear 33 = .ok (.iinc 1 1, 3) := by decide +kernel
theorem dX4_clear_36 : decode cX4_clear 36 = .ok (.goto (-19), 3) := by decide +kernel
theorem dX4_clear_39 : decode cX4_clear 39 = .ok (.return_, 1) := by decide +kernel
theorem dX4_become_0 : decode cX4_become 0 = .ok (.aload_n 1, 1) := by decide +kernel
theorem dX4_become_1 : decode cX4_become 1 = .ok (.ifnull 16, 3) := by decide +kernel
theorem dX4_become_4 : decode cX4_become 4 = .ok (.aload_n 1, 1) := by decide +kernel
theorem dX4_become_5 : decode cX4_become 5 = .ok (.getfield 11, 3) := by decide +kernel
theorem dX4_become_8 : decode cX4_become 8 = .ok (.arraylength, 1) := by decide +kernel
theorem dX4_become_9 : decode cX4_become 9 = .ok (.aload_n 0, 1) := by decide +kernel
theorem dX4_become_10 : decode cX4_become 10 = .ok (.getfield 11, 3) := by decide +kernel
theorem dX4_become_13 : decode cX4_become 13 = .ok (.arraylength, 1) := by decide +kernel
theorem dX4_become_14 : decode cX4_become 14 = .ok (.if_icmp .eq 4, 3) := by decide +kernel
theorem dX4_become_17 : decode cX4_become 17 = .ok (.return_, 1) := by decide +kernel
theorem dX4_become_18 : decode cX4_become 18 = .ok (.aload_n 1, 1) := by decide +kernel
theorem dX4_become_19 : decode cX4_become 19 = .ok (.getfield 11, 3) := by decide +kernel
theorem dX4_become_22 : decode cX4_become 22 = .ok (.iconst 0, 1) := by decide +kernel
theorem dX4_become_23 : decode cX4_become 23 = .ok (.aload_n 0, 1) := by decide +kernel
theorem dX4_become_24 : decode cX4_become 24 = .ok (.getfield 11, 3) := by decide +kernel
theorem dX4_become_27 : decode cX4_become 27 = .ok (.iconst 0, 1) := by decide +kernel
theorem dX4_become_28 : decode cX4_become 28 = .ok (.aload_n 0, 1) := by decide +kernel
theorem dX4_become_29 : decode cX4_become 29 = .ok (.getfield 11, 3) := by decide +kernel
theorem dX4_become_32 : decode cX4_become 32 = .ok (.arraylength, 1) := by decide +kernel
theorem dX4_become_33 : decode cX4_become 33 = .ok (.invokestatic 33, 3) := by decide +kernel
theorem dX4_become_36 : decode cX4_become 36 = .ok (.aload_n 0, 1) := by decide +kernel
theorem dX4_become_37 : decode cX4_become 37 = .ok (.aload_n 1, 1) := by decide +kernel
theorem dX4_become_38 : decode cX4_become 38 = .ok (.getfield 23, 3) := by decide +kernel
theorem dX4_become_41 : decode cX4_become 41 = .ok (.putfield 23, 3) := by decide +kernel
theorem dX4_become_44 : decode cX4_become 44 = .ok (.aload_n 0, 1) := by decide +kernel
theorem dX4_become_45 : decode cX4_become 45 = .ok (.aload_n 1, 1) := by decide +kernel
theorem dX4_become_46 : decode cX4_become 46 = .ok (.getfield 27, 3) := by decide +kernel
theorem dX4_become_49 : decode cX4_become 49 = .ok (.putfield 27, 3) := by decide +kernel
theorem dX4_become_52 : decode cX4_become 52 = .ok (.aload_n 0, 1) := by decide +kernel
theorem dX4_become_53 : decode cX4_become 53 = .ok (.aload_n 1, 1) := by decide +kernel
theorem dX4_become_54 : decode cX4_become 54 = .ok (.getfield 30, 3) := by decide +kernel
theorem dX4_become_57 : decode cX4_become 57 = .ok (.putfield 30, 3) := by decide +kernel
theorem dX4_become_60 : decode cX4_become 60 = .ok (.return_, 1) := by decide +kernel
theorem dX4_seat_0 : decode cX4_seat 0 = .ok (.aload_n 0, 1) := by decide +kernel
theorem dX4_seat_1 : decode cX4_seat 1 = .ok (.iconst 0, 1) := by decide +kernel
theorem dX4_seat_2 : decode cX4_seat 2 = .ok (.aload_n 0, 1) := by decide +kernel
theorem dX4_seat_3 : decode cX4_seat 3 = .ok (.getfield 23, 3) := by decide +kernel
theorem dX4_seat_6 : decode cX4_seat 6 = .ok (.iload_n 1, 1) := by decide +kernel
theorem dX4_seat_7 : decode cX4_seat 7 = .ok (.invokevirtual 19, 3) := by decide +kernel
theorem dX4_seat_10 : decode cX4_seat 10 = .ok (.aload_n 0, 1) := by decide +kernel
theorem dX4_seat_11 : decode cX4_seat 11 = .ok (.iconst 1, 1) := by decide +kernel
theorem dX4_seat_12 : decode cX4_seat 12 = .ok (.aload_n 0, 1) := by decide +kernel
theorem dX4_seat_13 : decode cX4_seat 13 = .ok (.getfield 23, 3) := by decide +kernel
theorem dX4_seat_16 : decode cX4_seat 16 = .ok (.iload_n 2, 1) := by decide +kernel
theorem dX4_seat_17 : decode cX4_seat 17 = .ok (.invokevirtual 19, 3) := by decide +kernel
theorem dX4_seat_20 : decode cX4_seat 20 = .ok (.aload_n 0, 1) := by decide +kernel
theorem dX4_seat_21 : decode cX4_seat 21 = .ok (.iconst 2, 1) := by decide +kernel
theorem dX4_seat_22 : decode cX4_seat 22 = .ok (.aload_n 0, 1) := by decide +kernel
theorem dX4_seat_23 : decode cX4_seat 23 = .ok (.getfield 23, 3) := by decide +kernel
theorem dX4_seat_26 : decode cX4_seat 26 = .ok (.aload_n 0, 1) := by decide +kernel
theorem dX4_seat_27 : decode cX4_seat 27 = .ok (.getfield 23, 3) := by decide +kernel
theorem dX4_seat_30 : decode cX4_seat 30 = .ok (.invokevirtual 19, 3) := by decide +kernel
theorem dX4_seat_33 : decode cX4_seat 33 = .ok (.aload_n 0, 1) := by decide +kernel
theorem dX4_seat_34 : decode cX4_seat 34 = .ok (.bipush 6, 2) := by decide +kernel
theorem dX4_seat_36 : decode cX4_seat 36 = .ok (.aload_n 0, 1) := by decide +kernel
theorem dX4_seat_37 : decode cX4_seat 37 = .ok (.getfield 23, 3) := by decide +kernel
theorem dX4_seat_40 : decode cX4_seat 40 = .ok (.aload_n 0, 1) := by decide +kernel
theorem dX4_seat_41 : decode cX4_seat 41 = .ok (.getfield 23, 3) := by decide +kernel
theorem dX4_seat_44 : decode cX4_seat 44 = .ok (.invokevirtual 19, 3) := by decide +kernel
theorem dX4_seat_47 : decode cX4_seat 47 = .ok (.aload_n 0, 1) := by decide +kernel
theorem dX4_seat_48 : decode cX4_seat 48 = .ok (.aload_n 0, 1) := by decide +kernel
theorem dX4_seat_49 : decode cX4_seat 49 = .ok (.getfield 23, 3) := by decide +kernel
theorem dX4_seat_52 : decode cX4_seat 52 = .ok (.aload_n 0, 1) := by decide +kernel
theorem dX4_seat_53 : decode cX4_seat 53 = .ok (.getfield 23, 3) := by decide +kernel
theorem dX4_seat_56 : decode cX4_seat 56 = .ok (.invokevirtual 39, 3) := by decide +kernel
theorem dX4_seat_59 : decode cX4_seat 59 = .ok (.aload_n 0, 1) := by decide +kernel
theorem dX4_seat_60 : decode cX4_seat 60 = .ok (.dup, 1) := by decide +kernel
theorem dX4_seat_61 : decode cX4_seat 61 = .ok (.getfield 23, 3) := by decide +kernel
theorem dX4_seat_64 : decode cX4_seat 64 = .ok (.iconst 1, 1) := by decide +kernel
theorem dX4_seat_65 : decode cX4_seat 65 = .ok (.iadd, 1) := by decide +kernel
theorem dX4_seat_66 : decode cX4_seat 66 = .ok (.putfield 23, 3) := by decide +kernel
theorem dX4_seat_69 : decode cX4_seat 69 = .ok (.return_, 1) := by decide +kernel
theorem dX4_layIn_0 : decode cX4_layIn 0 = .ok (.aload_n 0, 1) := by decide +kernel
theorem dX4_layIn_1 : decode cX4_layIn 1 = .ok (.iconst 5, 1) := by decide +kernel
theorem dX4_layIn_2 : decode cX4_layIn 2 = .ok (.iload_n 1, 1) := by decide +kernel
theorem dX4_layIn_3 : decode cX4_layIn 3 = .ok (.iload_n 2, 1) := by decide +kernel
theorem dX4_layIn_4 : decode cX4_layIn 4 = .ok (.invokevirtual 19, 3) := by decide +kernel
theorem dX4_layIn_7 : decode cX4_layIn 7 = .ok (.aload_n 0, 1) := by decide +kernel
theorem dX4_layIn_8 : decode cX4_layIn 8 = .ok (.bipush 7, 2) := by decide +kernel
theorem dX4_layIn_10 : decode cX4_layIn 10 = .ok (.iload_n 2, 1) := by decide +kernel
theorem dX4_layIn_11 : decode cX4_layIn 11 = .ok (.iload_n 1, 1) := by decide +kernel
theorem dX4_layIn_12 : decode cX4_layIn 12 = .ok (.invokevirtual 19, 3) := by decide +kernel
theorem dX4_layIn_15 : decode cX4_layIn 15 = .ok (.return_, 1) := by decide +kernel
theorem dX4_swapSeats_0 : decode cX4_swapSeats 0 = .ok (.aload_n 0, 1) := by decide +kernel
theorem dX4_swapSeats_1 : decode cX4_swapSeats 1 = .ok (.iconst 2, 1) := by decide +kernel
theorem dX4_swapSeats_2 : decode cX4_swapSeats 2 = .ok (.iload_n 1, 1) := by decide +kernel
theorem dX4_swapSeats_3 : decode cX4_swapSeats 3 = .ok (.invokevirtual 15, 3) := by decide +kernel
theorem dX4_swapSeats_6 : decode cX4_swapSeats 6 = .ok (.istore_n 3, 1) := by decide +kernel
theorem dX4_swapSeats_7 : decode cX4_swapSeats 7 = .ok (.aload_n 0, 1) := by decide +kernel
theorem dX4_swapSeats_8 : decode cX4_swapSeats 8 = .ok (.iconst 2, 1) := by decide +kernel
theorem dX4_swapSeats_9 : decode cX4_swapSeats 9 = .ok (.iload_n 2, 1) := by decide +kernel
theorem dX4_swapSeats_10 : decode cX4_swapSeats 10 = .ok (.invokevirtual 15, 3) := by decide +kernel
theorem dX4_swapSeats_13 : decode cX4_swapSeats 13 = .ok (.istore 4, 2) := by decide +kernel
theorem dX4_swapSeats_15 : decode cX4_swapSeats 15 = .ok (.aload_n 0, 1) := by decide +kernel
theorem dX4_swapSeats_16 : decode cX4_swapSeats 16 = .ok (.iconst 2, 1) := by decide +kernel
theorem dX4_swapSeats_17 : decode cX4_swapSeats 17 = .ok (.iload_n 1, 1) := by decide +kernel
theorem dX4_swapSeats_18 : decode cX4_swapSeats 18 = .ok (.iload 4, 2) := by decide +kernel
theorem dX4_swapSeats_20 : decode cX4_swapSeats 20 = .ok (.invokevirtual 19, 3) := by decide +kernel
theorem dX4_swapSeats_23 : decode cX4_swapSeats 23 = .ok (.aload_n 0, 1) := by decide +kernel
theorem dX4_swapSeats_24 : decode cX4_swapSeats 24 = .ok (.iconst 2, 1) := by decide +kernel
theorem dX4_swapSeats_25 : decode cX4_swapSeats 25 = .ok (.iload_n 2, 1) := by decide +kernel
theorem dX4_swapSeats_26 : decode cX4_swapSeats 26 = .ok (.iload_n 3, 1) := by decide +kernel
theorem dX4_swapSeats_27 : decode cX4_swapSeats 27 = .ok (.invokevirtual 19, 3) := by decide +kernel
theorem dX4_swapSeats_30 : decode cX4_swapSeats 30 = .ok (.aload_n 0, 1) := by decide +kernel
theorem dX4_swapSeats_31 : decode cX4_swapSeats 31 = .ok (.bipush 6, 2) := by decide +kernel
theorem dX4_swapSeats_33 : decode cX4_swapSeats 33 = .ok (.iload 4, 2) := by decide +kernel
theorem dX4_swapSeats_35 : decode cX4_swapSeats 35 = .ok (.iload_n 1, 1) := by decide +kernel
theorem dX4_swapSeats_36 : decode cX4_swapSeats 36 = .ok (.invokevirtual 19, 3) := by decide +kernel
theorem dX4_swapSeats_39 : decode cX4_swapSeats 39 = .ok (.aload_n 0, 1) := by decide +kernel
theorem dX4_swapSeats_40 : decode cX4_swapSeats 40 = .ok (.bipush 6, 2) := by decide +kernel
theorem dX4_swapSeats_42 : decode cX4_swapSeats 42 = .ok (.iload_n 3, 1) := by decide +kernel
theorem dX4_swapSeats_43 : decode cX4_swapSeats 43 = .ok (.iload_n 2, 1) := by decide +kernel
theorem dX4_swapSeats_44 : decode cX4_swapSeats 44 = .ok (.invokevirtual 19, 3) := by decide +kernel
theorem dX4_swapSeats_47 : decode cX4_swapSeats 47 = .ok (.return_, 1) := by decide +kernel
theorem dX4_swapSlots_0 : decode cX4_swapSlots 0 = .ok (.aload_n 0, 1) := by decide +kernel
theorem dX4_swapSlots_1 : decode cX4_swapSlots 1 = .ok (.iconst 5, 1) := by decide +kernel
theorem dX4_swapSlots_2 : decode cX4_swapSlots 2 = .ok (.iload_n 1, 1) := by decide +kernel
theorem dX4_swapSlots_3 : decode cX4_swapSlots 3 = .ok (.invokevirtual 15, 3) := by decide +kernel
theorem dX4_swapSlots_6 : decode cX4_swapSlots 6 = .ok (.istore_n 3, 1) := by decide +kernel
theorem dX4_swapSlots_7 : decode cX4_swapSlots 7 = .ok (.aload_n 0, 1) := by decide +kernel
theorem dX4_swapSlots_8 : decode cX4_swapSlots 8 = .ok (.iload_n 1, 1) := by decide +kernel
theorem dX4_swapSlots_9 : decode cX4_swapSlots 9 = .ok (.aload_n 0, 1) := by decide +kernel
theorem dX4_swapSlots_10 : decode cX4_swapSlots 10 = .ok (.iconst 5, 1) := by decide +kernel
theorem dX4_swapSlots_11 : decode cX4_swapSlots 11 = .ok (.iload_n 2, 1) := by decide +kernel
theorem dX4_swapSlots_12 : decode cX4_swapSlots 12 = .ok (.invokevirtual 15, 3) := by decide +kernel
theorem dX4_swapSlots_15 : decode cX4_swapSlots 15 = .ok (.invokevirtual 39, 3) := by decide +kernel
theorem dX4_swapSlots_18 : decode cX4_swapSlots 18 = .ok (.aload_n 0, 1) := by decide +kernel
theorem dX4_swapSlots_19 : decode cX4_swapSlots 19 = .ok (.iload_n 2, 1) := by decide +kernel
theorem dX4_swapSlots_20 : decode cX4_swapSlots 20 = .ok (.iload_n 3, 1) := by decide +kernel
theorem dX4_swapSlots_21 : decode cX4_swapSlots 21 = .ok (.invokevirtual 39, 3) := by decide +kernel
theorem dX4_swapSlots_24 : decode cX4_swapSlots 24 = .ok (.return_, 1) := by decide +kernel
theorem dX4_turnLeft_0 : decode cX4_turnLeft 0 = .ok (.aload_n 0, 1) := by decide +kernel
theorem dX4_turnLeft_1 : decode cX4_turnLeft 1 = .ok (.aload_n 0, 1) := by decide +kernel
theorem dX4_turnLeft_2 : decode cX4_turnLeft 2 = .ok (.getfield 27, 3) := by decide +kernel
theorem dX4_turnLeft_5 : decode cX4_turnLeft 5 = .ok (.iload_n 1, 1) := by decide +kernel
theorem dX4_turnLeft_6 : decode cX4_turnLeft 6 = .ok (.iadd, 1) := by decide +kernel
theorem dX4_turnLeft_7 : decode cX4_turnLeft 7 = .ok (.aload_n 0, 1) := by decide +kernel
theorem dX4_turnLeft_8 : decode cX4_turnLeft 8 = .ok (.getfield 23, 3) := by decide +kernel
theorem dX4_turnLeft_11 : decode cX4_turnLeft 11 = .ok (.invokestatic 43, 3) := by decide +kernel
theorem dX4_turnLeft_14 : decode cX4_turnLeft 14 = .ok (.putfield 27, 3) := by decide +kernel
theorem dX4_turnLeft_17 : decode cX4_turnLeft 17 = .ok (.return_, 1) := by decide +kernel
theorem dX4_dishBefore_0 : decode cX4_dishBefore 0 = .ok (.aload_n 0, 1) := by decide +kernel
theorem dX4_dishBefore_1 : decode cX4_dishBefore 1 = .ok (.bipush 7, 2) := by decide +kernel
theorem dX4_dishBefore_3 : decode cX4_dishBefore 3 = .ok (.aload_n 0, 1) := by decide +kernel
theorem dX4_dishBefore_4 : decode cX4_dishBefore 4 = .ok (.iconst 2, 1) := by decide +kernel
theorem dX4_dishBefore_5 : decode cX4_dishBefore 5 = .ok (.iload_n 1, 1) := by decide +kernel
theorem dX4_dishBefore_6 : decode cX4_dishBefore 6 = .ok (.invokevirtual 15, 3) := by decide +kernel
theorem dX4_dishBefore_9 : decode cX4_dishBefore 9 = .ok (.aload_n 0, 1) := by decide +kernel
theorem dX4_dishBefore_10 : decode cX4_dishBefore 10 = .ok (.getfield 27, 3) := by decide +kernel
theorem dX4_dishBefore_13 : decode cX4_dishBefore 13 = .ok (.iadd, 1) := by decide +kernel
theorem dX4_dishBefore_14 : decode cX4_dishBefore 14 = .ok (.aload_n 0, 1) := by decide +kernel
theorem dX4_dishBefore_15 : decode cX4_dishBefore 15 = .ok (.getfield 23, 3) := by decide +kernel
theorem dX4_dishBefore_18 : decode cX4_dishBefore 18 = .ok (.invokestatic 43, 3) := by decide +kernel
theorem dX4_dishBefore_21 : decode cX4_dishBefore 21 = .ok (.invokevirtual 15, 3) := by decide +kernel
theorem dX4_dishBefore_24 : decode cX4_dishBefore 24 = .ok (.ireturn, 1) := by decide +kernel
theorem dX4_passMinute_0 : decode cX4_passMinute 0 = .ok (.aload_n 0, 1) := by decide +kernel
theorem dX4_passMinute_1 : decode cX4_passMinute 1 = .ok (.aload_n 0, 1) := by decide +kernel
theorem dX4_passMinute_2 : decode cX4_passMinute 2 = .ok (.bipush 6, 2) := by decide +kernel
theorem dX4_passMinute_4 : decode cX4_passMinute 4 = .ok (.aload_n 0, 1) := by decide +kernel
theorem dX4_passMinute_5 : decode cX4_passMinute 5 = .ok (.getfield 30, 3) := by decide +kernel
theorem dX4_passMinute_8 : decode cX4_passMinute 8 = .ok (.aload_n 0, 1) := by decide +kernel
theorem dX4_passMinute_9 : decode cX4_passMinute 9 = .ok (.getfield 23, 3) := by decide +kernel
theorem dX4_passMinute_12 : decode cX4_passMinute 12 = .ok (.invokestatic 43, 3) := by decide +kernel
theorem dX4_passMinute_15 : decode cX4_passMinute 15 = .ok (.invokevirtual 15, 3) := by decide +kernel
theorem dX4_passMinute_18 : decode cX4_passMinute 18 = .ok (.putfield 46, 3) := by decide +kernel
theorem dX4_passMinute_21 : decode cX4_passMinute 21 = .ok (.aload_n 0, 1) := by decide +kernel
theorem dX4_passMinute_22 : decode cX4_passMinute 22 = .ok (.aload_n 0, 1) := by decide +kernel
theorem dX4_passMinute_23 : decode cX4_passMinute 23 = .ok (.getfield 46, 3) := by decide +kernel
theorem dX4_passMinute_26 : decode cX4_passMinute 26 = .ok (.invokevirtual 49, 3) := by decide +kernel
theorem dX4_passMinute_29 : decode cX4_passMinute 29 = .ok (.istore_n 1, 1) := by decide +kernel
theorem dX4_passMinute_30 : decode cX4_passMinute 30 = .ok (.aload_n 0, 1) := by decide +kernel
theorem dX4_passMinute_31 : decode cX4_passMinute 31 = .ok (.iload_n 1, 1) := by decide +kernel
theorem dX4_passMinute_32 : decode cX4_passMinute 32 = .ok (.invokestatic 53, 3) := by decide +kernel
theorem dX4_passMinute_35 : decode cX4_passMinute 35 = .ok (.putfield 58, 3) := by decide +kernel
theorem dX4_passMinute_38 : decode cX4_passMinute 38 = .ok (.aload_n 0, 1) := by decide +kernel
theorem dX4_passMinute_39 : decode cX4_passMinute 39 = .ok (.iload_n 1, 1) := by decide +kernel
theorem dX4_passMinute_40 : decode cX4_passMinute 40 = .ok (.invokevirtual 61, 3) := by decide +kernel
theorem dX4_passMinute_43 : decode cX4_passMinute 43 = .ok (.aload_n 0, 1) := by decide +kernel
theorem dX4_passMinute_44 : decode cX4_passMinute 44 = .ok (.aload_n 0, 1) := by decide +kernel
theorem dX4_passMinute_45 : decode cX4_passMinute 45 = .ok (.aload_n 0, 1) := by decide +kernel
theorem dX4_passMinute_46 : decode cX4_passMinute 46 = .ok (.getfield 46, 3) := by decide +kernel
theorem dX4_passMinute_49 : decode cX4_passMinute 49 = .ok (.invokevirtual 65, 3) := by decide +kernel
theorem dX4_passMinute_52 : decode cX4_passMinute 52 = .ok (.putfield 68, 3) := by decide +kernel
theorem dX4_passMinute_55 : decode cX4_passMinute 55 = .ok (.aload_n 0, 1) := by decide +kernel
theorem dX4_passMinute_56 : decode cX4_passMinute 56 = .ok (.aload_n 0, 1) := by decide +kernel
theorem dX4_passMinute_57 : decode cX4_passMinute 57 = .ok (.aload_n 0, 1) := by decide +kernel
theorem dX4_passMinute_58 : decode cX4_passMinute 58 = .ok (.getfield 46, 3) := by decide +kernel
theorem dX4_passMinute_61 : decode cX4_passMinute 61 = .ok (.aload_n 0, 1) := by decide +kernel
theorem dX4_passMinute_62 : decode cX4_passMinute 62 = .ok (.getfield 68, 3) := by decide +kernel
theorem dX4_passMinute_65 : decode cX4_passMinute 65 = .ok (.invokevirtual 71, 3) := by decide +kernel
theorem dX4_passMinute_68 : decode cX4_passMinute 68 = .ok (.putfield 74, 3) := by decide +kernel
theorem dX4_passMinute_71 : decode cX4_passMinute 71 = .ok (.aload_n 0, 1) := by decide +kernel
theorem dX4_passMinute_72 : decode cX4_passMinute 72 = .ok (.iconst 4, 1) := by decide +kernel
theorem dX4_passMinute_73 : decode cX4_passMinute 73 = .ok (.aload_n 0, 1) := by decide +kernel
theorem dX4_passMinute_74 : decode cX4_passMinute 74 = .ok (.getfield 68, 3) := by decide +kernel
theorem dX4_passMinute_77 : decode cX4_passMinute 77 = .ok (.aload_n 0, 1) := by decide +kernel
theorem dX4_passMinute_78 : decode cX4_passMinute 78 = .ok (.getfield 74, 3) := by decide +kernel
theorem dX4_passMinute_81 : decode cX4_passMinute 81 = .ok (.ineg, 1) := by decide +kernel
theorem dX4_passMinute_82 : decode cX4_passMinute 82 = .ok (.invokevirtual 77, 3) := by decide +kernel
theorem dX4_passMinute_85 : decode cX4_passMinute 85 = .ok (.aload_n 0, 1) := by decide +kernel
theorem dX4_passMinute_86 : decode cX4_passMinute 86 = .ok (.iconst 3, 1) := by decide +kernel
theorem dX4_passMinute_87 : decode cX4_passMinute 87 = .ok (.aload_n 0, 1) := by decide +kernel
theorem dX4_passMinute_88 : decode cX4_passMinute 88 = .ok (.getfield 46, 3) := by decide +kernel
theorem dX4_passMinute_91 : decode cX4_passMinute 91 = .ok (.aload_n 0, 1) := by decide +kernel
theorem dX4_passMinute_92 : decode cX4_passMinute 92 = .ok (.getfield 74, 3) := by decide +kernel
theorem dX4_passMinute_95 : decode cX4_passMinute 95 = .ok (.invokevirtual 77, 3) := by decide +kernel
theorem dX4_passMinute_98 : decode cX4_passMinute 98 = .ok (.aload_n 0, 1) := by decide +kernel
theorem dX4_passMinute_99 : decode cX4_passMinute 99 = .ok (.dup, 1) := by decide +kernel
theorem dX4_passMinute_100 : decode cX4_passMinute 100 = .ok (.getfield 30, 3) := by decide +kernel
theorem dX4_passMinute_103 : decode cX4_passMinute 103 = .ok (.iconst 1, 1) := by decide +kernel
theorem dX4_passMinute_104 : decode cX4_passMinute 104 = .ok (.iadd, 1) := by decide +kernel
theorem dX4_passMinute_105 : decode cX4_passMinute 105 = .ok (.putfield 30, 3) := by decide +kernel
theorem dX4_passMinute_108 : decode cX4_passMinute 108 = .ok (.return_, 1) := by decide +kernel
theorem dX4_pushBy_0 : decode cX4_pushBy 0 = .ok (.aload_n 0, 1) := by decide +kernel
theorem dX4_pushBy_1 : decode cX4_pushBy 1 = .ok (.iconst 0, 1) := by decide +kernel
theorem dX4_pushBy_2 : decode cX4_pushBy 2 = .ok (.iload_n 1, 1) := by decide +kernel
theorem dX4_pushBy_3 : decode cX4_pushBy 3 = .ok (.invokevirtual 15, 3) := by decide +kernel
theorem dX4_pushBy_6 : decode cX4_pushBy 6 = .ok (.istore_n 2, 1) := by decide +kernel
theorem dX4_pushBy_7 : decode cX4_pushBy 7 = .ok (.aload_n 0, 1) := by decide +kernel
theorem dX4_pushBy_8 : decode cX4_pushBy 8 = .ok (.iconst 1, 1) := by decide +kernel
theorem dX4_pushBy_9 : decode cX4_pushBy 9 = .ok (.iload_n 1, 1) := by decide +kernel
theorem dX4_pushBy_10 : decode cX4_pushBy 10 = .ok (.invokevirtual 15, 3) := by decide +kernel
theorem dX4_pushBy_13 : decode cX4_pushBy 13 = .ok (.istore_n 3, 1) := by decide +kernel
theorem dX4_pushBy_14 : decode cX4_pushBy 14 = .ok (.iload_n 2, 1) := by decide +kernel
theorem dX4_pushBy_15 : decode cX4_pushBy 15 = .ok (.iconst 5, 1) := by decide +kernel
theorem dX4_pushBy_16 : decode cX4_pushBy 16 = .ok (.if_icmp .ne 5, 3) := by decide +kernel
theorem dX4_pushBy_19 : decode cX4_pushBy 19 = .ok (.iconst 1, 1) := by decide +kernel
theorem dX4_pushBy_20 : decode cX4_pushBy 20 = .ok (.ireturn, 1) := by decide +kernel
theorem dX4_pushBy_21 : decode cX4_pushBy 21 = .ok (.iload_n 2, 1) := by decide +kernel
theorem dX4_pushBy_22 : decode cX4_pushBy 22 = .ok (.iconst 4, 1) := by decide +kernel
theorem dX4_pushBy_23 : decode cX4_pushBy 23 = .ok (.if_icmp .eq 20, 3) := by decide +kernel
theorem dX4_pushBy_26 : decode cX4_pushBy 26 = .ok (.aload_n 0, 1) := by decide +kernel
theorem dX4_pushBy_27 : decode cX4_pushBy 27 = .ok (.iload_n 3, 1) := by decide +kernel
theorem dX4_pushBy_28 : decode cX4_pushBy 28 = .ok (.invokevirtual 80, 3) := by decide +kernel
theorem dX4_pushBy_31 : decode cX4_pushBy 31 = .ok (.ifCond .eq 12, 3) := by decide +kernel
theorem dX4_pushBy_34 : decode cX4_pushBy 34 = .ok (.aload_n 0, 1) := by decide +kernel
theorem dX4_pushBy_35 : decode cX4_pushBy 35 = .ok (.iconst 4, 1) := by decide +kernel
theorem dX4_pushBy_36 : decode cX4_pushBy 36 = .ok (.iload_n 3, 1) := by decide +kernel
theorem dX4_pushBy_37 : decode cX4_pushBy 37 = .ok (.invokevirtual 15, 3) := by decide +kernel
theorem dX4_pushBy_40 : decode cX4_pushBy 40 = .ok (.ifCond .ne 5, 3) := by decide +kernel
theorem dX4_pushBy_43 : decode cX4_pushBy 43 = .ok (.iconst 0, 1) := by decide +kernel
theorem dX4_pushBy_44 : decode cX4_pushBy 44 = .ok (.ireturn, 1) := by decide +kernel
theorem dX4_pushBy_45 : decode cX4_pushBy 45 = .ok (.iconst 1, 1) := by decide +kernel
theorem dX4_pushBy_46 : decode cX4_pushBy 46 = .ok (.aload_n 0, 1) := by decide +kernel
theorem dX4_pushBy_47 : decode cX4_pushBy 47 = .ok (.getfield 23, 3) := by decide +kernel
theorem dX4_pushBy_50 : decode cX4_pushBy 50 = .ok (.iconst 4, 1) := by decide +kernel
theorem dX4_pushBy_51 : decode cX4_pushBy 51 = .ok (.idiv, 1) := by decide +kernel
theorem dX4_pushBy_52 : decode cX4_pushBy 52 = .ok (.invokestatic 84, 3) := by decide +kernel
theorem dX4_pushBy_55 : decode cX4_pushBy 55 = .ok (.istore 4, 2) := by decide +kernel
theorem dX4_pushBy_57 : decode cX4_pushBy 57 = .ok (.aload_n 0, 1) := by decide +kernel
theorem dX4_pushBy_58 : decode cX4_pushBy 58 = .ok (.iload_n 1, 1) := by decide +kernel
theorem dX4_pushBy_59 : decode cX4_pushBy 59 = .ok (.iload_n 3, 1) := by decide +kernel
theorem dX4_pushBy_60 : decode cX4_pushBy 60 = .ok (.invokevirtual 87, 3) := by decide +kernel
theorem dX4_pushBy_63 : decode cX4_pushBy 63 = .ok (.istore 5, 2) := by decide +kernel
theorem dX4_pushBy_65 : decode cX4_pushBy 65 = .ok (.aload_n 0, 1) := by decide +kernel
theorem dX4_pushBy_66 : decode cX4_pushBy 66 = .ok (.getfield 23, 3) := by decide +kernel
theorem dX4_pushBy_69 : decode cX4_pushBy 69 = .ok (.iload 5, 2) := by decide +kernel
theorem dX4_pushBy_71 : decode cX4_pushBy 71 = .ok (.isub, 1) := by decide +kernel
theorem dX4_pushBy_72 : decode cX4_pushBy 72 = .ok (.istore 6, 2) := by decide +kernel
theorem dX4_pushBy_74 : decode cX4_pushBy 74 = .ok (.iload 5, 2) := by decide +kernel
theorem dX4_pushBy_76 : decode cX4_pushBy 76 = .ok (.iload 6, 2) := by decide +kernel
theorem dX4_pushBy_78 : decode cX4_pushBy 78 = .ok (.if_icmp .gt 13, 3) := by decide +kernel
theorem dX4_pushBy_81 : decode cX4_pushBy 81 = .ok (.iload 5, 2) := by decide +kernel
theorem dX4_pushBy_83 : decode cX4_pushBy 83 = .ok (.iload 4, 2) := by decide +kernel
theorem dX4_pushBy_85 : decode cX4_pushBy 85 = .ok (.invokestatic 90, 3) := by decide +kernel
theorem dX4_pushBy_88 : decode cX4_pushBy 88 = .ok (.goto 11, 3) := by decide +kernel
theorem dX4_pushBy_91 : decode cX4_pushBy 91 = .ok (.iload 6, 2) := by decide +kernel
theorem dX4_pushBy_93 : decode cX4_pushBy 93 = .ok (.iload 4, 2) := by decide +kernel
theorem dX4_pushBy_95 : decode cX4_pushBy 95 = .ok (.invokestatic 90, 3) := by decide +kernel
theorem dX4_pushBy_98 : decode cX4_pushBy 98 = .ok (.ineg, 1) := by decide +kernel
theorem dX4_pushBy_99 : decode cX4_pushBy 99 = .ok (.ireturn, 1) := by decide +kernel
theorem dX4_toTheLeft_0 : decode cX4_toTheLeft 0 = .ok (.aload_n 0, 1) := by decide +kernel
theorem dX4_toTheLeft_1 : decode cX4_toTheLeft 1 = .ok (.iconst 5, 1) := by decide +kernel
theorem dX4_toTheLeft_2 : decode cX4_toTheLeft 2 = .ok (.iload_n 2, 1) := by decide +kernel
theorem dX4_toTheLeft_3 : decode cX4_toTheLeft 3 = .ok (.invokevirtual 15, 3) := by decide +kernel
theorem dX4_toTheLeft_6 : decode cX4_toTheLeft 6 = .ok (.aload_n 0, 1) := by decide +kernel
theorem dX4_toTheLeft_7 : decode cX4_toTheLeft 7 = .ok (.iconst 2, 1) := by decide +kernel
theorem dX4_toTheLeft_8 : decode cX4_toTheLeft 8 = .ok (.iload_n 1, 1) := by decide +kernel
theorem dX4_toTheLeft_9 : decode cX4_toTheLeft 9 = .ok (.invokevirtual 15, 3) := by decide +kernel
theorem dX4_toTheLeft_12 : decode cX4_toTheLeft 12 = .ok (.isub, 1) := by decide +kernel
theorem dX4_toTheLeft_13 : decode cX4_toTheLeft 13 = .ok (.aload_n 0, 1) := by decide +kernel
theorem dX4_toTheLeft_14 : decode cX4_toTheLeft 14 = .ok (.getfield 27, 3) := by decide +kernel
theorem dX4_toTheLeft_17 : decode cX4_toTheLeft 17 = .ok (.isub, 1) := by decide +kernel
theorem dX4_toTheLeft_18 : decode cX4_toTheLeft 18 = .ok (.aload_n 0, 1) := by decide +kernel
theorem dX4_toTheLeft_19 : decode cX4_toTheLeft 19 = .ok (.getfield 23, 3) := by decide +kernel
theorem dX4_toTheLeft_22 : decode cX4_toTheLeft 22 = .ok (.invokestatic 43, 3) := by decide +kernel
theorem dX4_toTheLeft_25 : decode cX4_toTheLeft 25 = .ok (.ireturn, 1) := by decide +kernel
theorem dX4_biteOf_0 : decode cX4_biteOf 0 = .ok (.aload_n 0, 1) := by decide +kernel
theorem dX4_biteOf_1 : decode cX4_biteOf 1 = .ok (.iconst 0, 1) := by decide +kernel
theorem dX4_biteOf_2 : decode cX4_biteOf 2 = .ok (.iload_n 1, 1) := by decide +kernel
theorem dX4_biteOf_3 : decode cX4_biteOf 3 = .ok (.invokevirtual 15, 3) := by decide +kernel
theorem dX4_biteOf_6 : decode cX4_biteOf 6 = .ok (.istore_n 3, 1) := by decide +kernel
theorem dX4_biteOf_7 : decode cX4_biteOf 7 = .ok (.aload_n 0, 1) := by decide +kernel
theorem dX4_biteOf_8 : decode cX4_biteOf 8 = .ok (.iconst 4, 1) := by decide +kernel
theorem dX4_biteOf_9 : decode cX4_biteOf 9 = .ok (.iload_n 2, 1) := by decide +kernel
theorem dX4_biteOf_10 : decode cX4_biteOf 10 = .ok (.invokevirtual 15, 3) := by decide +kernel
theorem dX4_biteOf_13 : decode cX4_biteOf 13 = .ok (.istore 4, 2) := by decide +kernel
theorem dX4_biteOf_15 : decode cX4_biteOf 15 = .ok (.iload_n 3, 1) := by decide +kernel
theorem dX4_biteOf_16 : decode cX4_biteOf 16 = .ok (.iconst 3, 1) := by decide +kernel
theorem dX4_biteOf_17 : decode cX4_biteOf 17 = .ok (.if_icmp .eq 8, 3) := by decide +kernel
theorem dX4_biteOf_20 : decode cX4_biteOf 20 = .ok (.iload_n 3, 1) := by decide +kernel
theorem dX4_biteOf_21 : decode cX4_biteOf 21 = .ok (.iconst 5, 1) := by decide +kernel
theorem dX4_biteOf_22 : decode cX4_biteOf 22 = .ok (.if_icmp .ne 7, 3) := by decide +kernel
theorem dX4_biteOf_25 : decode cX4_biteOf 25 = .ok (.iconst 1, 1) := by decide +kernel
theorem dX4_biteOf_26 : decode cX4_biteOf 26 = .ok (.goto 4, 3) := by decide +kernel
theorem dX4_biteOf_29 : decode cX4_biteOf 29 = .ok (.iconst 0, 1) := by decide +kernel
theorem dX4_biteOf_30 : decode cX4_biteOf 30 = .ok (.istore 5, 2) := by decide +kernel
theorem dX4_biteOf_32 : decode cX4_biteOf 32 = .ok (.iload 5, 2) := by decide +kernel
theorem dX4_biteOf_34 : decode cX4_biteOf 34 = .ok (.ifCond .ne 15, 3) := by decide +kernel
theorem dX4_biteOf_37 : decode cX4_biteOf 37 = .ok (.aload_n 0, 1) := by decide +kernel
theorem dX4_biteOf_38 : decode cX4_biteOf 38 = .ok (.iconst 1, 1) := by decide +kernel
theorem dX4_biteOf_39 : decode cX4_biteOf 39 = .ok (.iload_n 1, 1) := by decide +kernel
theorem dX4_biteOf_40 : decode cX4_biteOf 40 = .ok (.invokevirtual 15, 3) := by decide +kernel
theorem dX4_biteOf_43 : decode cX4_biteOf 43 = .ok (.iload_n 2, 1) := by decide +kernel
theorem dX4_biteOf_44 : decode cX4_biteOf 44 = .ok (.if_icmp .eq 5, 3) := by decide +kernel
theorem dX4_biteOf_47 : decode cX4_biteOf 47 = .ok (.iconst 0, 1) := by decide +kernel
theorem dX4_biteOf_48 : decode cX4_biteOf 48 = .ok (.ireturn, 1) := by decide +kernel
theorem dX4_biteOf_49 : decode cX4_biteOf 49 = .ok (.iload 4, 2) := by decide +kernel
theorem dX4_biteOf_51 : decode cX4_biteOf 51 = .ok (.iload_n 3, 1) := by decide +kernel
theorem dX4_biteOf_52 : decode cX4_biteOf 52 = .ok (.iconst 2, 1) := by decide +kernel
theorem dX4_biteOf_53 : decode cX4_biteOf 53 = .ok (.if_icmp .ne 7, 3) := by decide +kernel
theorem dX4_biteOf_56 : decode cX4_biteOf 56 = .ok (.iconst 2, 1) := by decide +kernel
theorem dX4_biteOf_57 : decode cX4_biteOf 57 = .ok (.goto 4, 3) := by decide +kernel
theorem dX4_biteOf_60 : decode cX4_biteOf 60 = .ok (.iconst 1, 1) := by decide +kernel
theorem dX4_biteOf_61 : decode cX4_biteOf 61 = .ok (.invokestatic 90, 3) := by decide +kernel
theorem dX4_biteOf_64 : decode cX4_biteOf 64 = .ok (.ireturn, 1) := by decide +kernel
theorem dX4_portionsOfAll_0 : decode cX4_portionsOfAll 0 = .ok (.iconst 0, 1) := by decide +kernel
theorem dX4_portionsOfAll_1 : decode cX4_portionsOfAll 1 = .ok (.istore_n 1, 1) := by decide +kernel
theorem dX4_portionsOfAll_2 : decode cX4_portionsOfAll 2 = .ok (.iconst 0, 1) := by decide +kernel
theorem dX4_portionsOfAll_3 : decode cX4_portionsOfAll 3 = .ok (.istore_n 2, 1) := by decide +kernel
theorem dX4_portionsOfAll_4 : decode cX4_portionsOfAll 4 = .ok (.iload_n 2, 1) := by decide +kernel
theorem dX4_portionsOfAll_5 : decode cX4_portionsOfAll 5 = .ok (.aload_n 0, 1) := by decide +kernel
theorem dX4_portionsOfAll_6 : decode cX4_portionsOfAll 6 = .ok (.getfield 23, 3) := by decide +kernel
theorem dX4_portionsOfAll_9 : decode cX4_portionsOfAll 9 = .ok (.if_icmp .ge 18, 3) := by decide +kernel
theorem dX4_portionsOfAll_12 : decode cX4_portionsOfAll 12 = .ok (.iload_n 1, 1) := by decide +kernel
theorem dX4_portionsOfAll_13 : decode cX4_portionsOfAll 13 = .ok (.aload_n 0, 1) := by decide +kernel
theorem dX4_portionsOfAll_14 : decode cX4_portionsOfAll 14 = .ok (.iconst 4, 1) := by decide +kernel
theorem dX4_portionsOfAll_15 : decode cX4_portionsOfAll 15 = .ok (.iload_n 2, 1) := by decide +kernel
theorem dX4_portionsOfAll_16 : decode cX4_portionsOfAll 16 = .ok (.invokevirtual 15, 3) := by decide +kernel
theorem dX4_portionsOfAll_19 : decode cX4_portionsOfAll 19 = .ok (.iadd, 1) := by decide +kernel
theorem dX4_portionsOfAll_20 : decode cX4_portionsOfAll 20 = .ok (.istore_n 1, 1) := by decide +kernel
theorem dX4_portionsOfAll_21 : decode cX4_portionsOfAll 21 = .ok (.iinc 2 1, 3) := by decide +kernel
theorem dX4_portionsOfAll_24 : decode cX4_portionsOfAll 24 = .ok (.goto (-20), 3) := by decide +kernel
theorem dX4_portionsOfAll_27 : decode cX4_portionsOfAll 27 = .ok (.iload_n 1, 1) := by decide +kernel
theorem dX4_portionsOfAll_28 : decode cX4_portionsOfAll 28 = .ok (.ireturn, 1) := by decide +kernel
theorem dX4_whoAteNothing_0 : decode cX4_whoAteNothing 0 = .ok (.iconst 0, 1) := by decide +kernel
theorem dX4_whoAteNothing_1 : decode cX4_whoAteNothing 1 = .ok (.istore_n 1, 1) := by decide +kernel
theorem dX4_whoAteNothing_2 : decode cX4_whoAteNothing 2 = .ok (.iconst 0, 1) := by decide +kernel
theorem dX4_whoAteNothing_3 : decode cX4_whoAteNothing 3 = .ok (.istore_n 2, 1) := by decide +kernel
theorem dX4_whoAteNothing_4 : decode cX4_whoAteNothing 4 = .ok (.iload_n 2, 1) := by decide +kernel
theorem dX4_whoAteNothing_5 : decode cX4_whoAteNothing 5 = .ok (.aload_n 0, 1) := by decide +kernel
theorem dX4_whoAteNothing_6 : decode cX4_whoAteNothing 6 = .ok (.getfield 23, 3) := by decide +kernel
theorem dX4_whoAteNothing_9 : decode cX4_whoAteNothing 9 = .ok (.if_icmp .ge 24, 3) := by decide +kernel
theorem dX4_whoAteNothing_12 : decode cX4_whoAteNothing 12 = .ok (.aload_n 0, 1) := by decide +kernel
theorem dX4_whoAteNothing_13 : decode cX4_whoAteNothing 13 = .ok (.iconst 3, 1) := by decide +kernel
theorem dX4_whoAteNothing_14 : decode cX4_whoAteNothing 14 = .ok (.iload_n 2, 1) := by decide +kernel
theorem dX4_whoAteNothing_15 : decode cX4_whoAteNothing 15 = .ok (.invokevirtual 15, 3) := by decide +kernel
theorem dX4_whoAteNothing_18 : decode cX4_whoAteNothing 18 = .ok (.ifCond .ne 9, 3) := by decide +kernel
theorem dX4_whoAteNothing_21 : decode cX4_whoAteNothing 21 = .ok (.iload_n 1, 1) := by decide +kernel
theorem dX4_whoAteNothing_22 : decode cX4_whoAteNothing 22 = .ok (.iconst 1, 1) := by decide +kernel
theorem dX4_whoAteNothing_23 : decode cX4_whoAteNothing 23 = .ok (.iload_n 2, 1) := by decide +kernel
theorem dX4_whoAteNothing_24 : decode cX4_whoAteNothing 24 = .ok (.ishl, 1) := by decide +kernel
theorem dX4_whoAteNothing_25 : decode cX4_whoAteNothing 25 = .ok (.ior, 1) := by decide +kernel
theorem dX4_whoAteNothing_26 : decode cX4_whoAteNothing 26 = .ok (.istore_n 1, 1) := by decide +kernel
theorem dX4_whoAteNothing_27 : decode cX4_whoAteNothing 27 = .ok (.iinc 2 1, 3) := by decide +kernel
theorem dX4_whoAteNothing_30 : decode cX4_whoAteNothing 30 = .ok (.goto (-26), 3) := by decide +kernel
theorem dX4_whoAteNothing_33 : decode cX4_whoAteNothing 33 = .ok (.iload_n 1, 1) := by decide +kernel
theorem dX4_whoAteNothing_34 : decode cX4_whoAteNothing 34 = .ok (.ireturn, 1) := by decide +kernel
theorem dX5_init_0 : decode cX5_init 0 = .ok (.aload_n 0, 1) := by decide +kernel
theorem dX5_init_1 : decode cX5_init 1 = .ok (.invokespecial 3, 3) := by decide +kernel
theorem dX5_init_4 : decode cX5_init 4 = .ok (.aload_n 0, 1) := by decide +kernel
theorem dX5_init_5 : decode cX5_init 5 = .ok (.new 9, 3) := by decide +kernel
theorem dX5_init_8 : decode cX5_init 8 = .ok (.dup, 1) := by decide +kernel
theorem dX5_init_9 : decode cX5_init 9 = .ok (.invokespecial 11, 3) := by decide +kernel
theorem dX5_init_12 : decode cX5_init 12 = .ok (.putfield 12, 3) := by decide +kernel
theorem dX5_init_15 : decode cX5_init 15 = .ok (.aload_n 0, 1) := by decide +kernel
theorem dX5_init_16 : decode cX5_init 16 = .ok (.new 18, 3) := by decide +kernel
theorem dX5_init_19 : decode cX5_init 19 = .ok (.dup, 1) := by decide +kernel
theorem dX5_init_20 : decode cX5_init 20 = .ok (.invokespecial 20, 3) := by decide +kernel
theorem dX5_init_23 : decode cX5_init 23 = .ok (.putfield 21, 3) := by decide +kernel
theorem dX5_init_26 : decode cX5_init 26 = .ok (.return_, 1) := by decide +kernel
theorem dX5_read_0 : decode cX5_read 0 = .ok (.aload_n 0, 1) := by decide +kernel
theorem dX5_read_1 : decode cX5_read 1 = .ok (.getfield 21, 3) := by decide +kernel
theorem dX5_read_4 : decode cX5_read 4 = .ok (.invokevirtual 25, 3) := by decide +kernel
theorem dX5_read_7 : decode cX5_read 7 = .ok (.aload_n 0, 1) := by decide +kernel
theorem dX5_read_8 : decode cX5_read 8 = .ok (.iconst 0, 1) := by decide +kernel
theorem dX5_read_9 : decode cX5_read 9 = .ok (.putfield 28, 3) := by decide +kernel
theorem dX5_read_12 : decode cX5_read 12 = .ok (.aload_n 0, 1) := by decide +kernel
theorem dX5_read_13 : decode cX5_read 13 = .ok (.iconst 0, 1) := by decide +kernel
theorem dX5_read_14 : decode cX5_read 14 = .ok (.putfield 32, 3) := by decide +kernel
theorem dX5_read_17 : decode cX5_read 17 = .ok (.aload_n 0, 1) := by decide +kernel
theorem dX5_read_18 : decode cX5_read 18 = .ok (.invokevirtual 35, 3) := by decide +kernel
theorem dX5_read_21 : decode cX5_read 21 = .ok (.aload_n 0, 1) := by decide +kernel
theorem dX5_read_22 : decode cX5_read 22 = .ok (.aload_n 0, 1) := by decide +kernel
theorem dX5_read_23 : decode cX5_read 23 = .ok (.ldc 38, 2) := by decide +kernel
theorem dX5_read_25 : decode cX5_read 25 = .ok (.invokevirtual 40, 3) := by decide +kernel
theorem dX5_read_28 : decode cX5_read 28 = .ok (.ifCond .eq 7, 3) := by decide +kernel
theorem dX5_read_31 : decode cX5_read 31 = .ok (.iconst 0, 1) := by decide +kernel
theorem dX5_read_32 : decode cX5_read 32 = .ok (.goto 4, 3) := by decide +kernel
theorem dX5_read_35 : decode cX5_read 35 = .ok (.iconst 1, 1) := by decide +kernel
theorem dX5_read_36 : decode cX5_read 36 = .ok (.putfield 44, 3) := by decide +kernel
theorem dX5_read_39 : decode cX5_read 39 = .ok (.iconst 0, 1) := by decide +kernel
theorem dX5_read_40 : decode cX5_read 40 = .ok (.istore_n 1, 1) := by decide +kernel
theorem dX5_read_41 : decode cX5_read 41 = .ok (.iload_n 1, 1) := by decide +kernel
theorem dX5_read_42 : decode cX5_read 42 = .ok (.bipush 6, 2) := by decide +kernel
theorem dX5_read_44 : decode cX5_read 44 = .ok (.if_icmp .gt 29, 3) := by decide +kernel
theorem dX5_read_47 : decode cX5_read 47 = .ok (.aload_n 0, 1) := by decide +kernel
theorem dX5_read_48 : decode cX5_read 48 = .ok (.getfield 44, 3) := by decide +kernel
theorem dX5_read_51 : decode cX5_read 51 = .ok (.ifCond .ne 22, 3) := by decide +kernel
theorem dX5_read_54 : decode cX5_read 54 = .ok (.aload_n 0, 1) := by decide +kernel
theorem dX5_read_55 : decode cX5_read 55 = .ok (.ldc 38, 2) := by decide +kernel
theorem dX5_read_57 : decode cX5_read 57 = .ok (.invokevirtual 40, 3) := by decide +kernel
theorem dX5_read_60 : decode cX5_read 60 = .ok (.ifCond .eq 13, 3) := by decide +kernel
theorem dX5_read_63 : decode cX5_read 63 = .ok (.aload_n 0, 1) := by decide +kernel
theorem dX5_read_64 : decode cX5_read 64 = .ok (.invokevirtual 47, 3) := by decide +kernel
theorem dX5_read_67 : decode cX5_read 67 = .ok (.iinc 1 1, 3) := by decide +kernel
theorem dX5_read_70 : decode cX5_read 70 = .ok (.goto (-29), 3) := by decide +kernel
theorem dX5_read_73 : decode cX5_read 73 = .ok (.iconst 0, 1) := by decide +kernel
theorem dX5_read_74 : decode cX5_read 74 = .ok (.istore_n 1, 1) := by decide +kernel
theorem dX5_read_75 : decode cX5_read 75 = .ok (.iload_n 1, 1) := by decide +kernel
theorem dX5_read_76 : decode cX5_read 76 = .ok (.bipush 6, 2) := by decide +kernel
theorem dX5_read_78 : decode cX5_read 78 = .ok (.if_icmp .gt 29, 3) := by decide +kernel
theorem dX5_read_81 : decode cX5_read 81 = .ok (.aload_n 0, 1) := by decide +kernel
theorem dX5_read_82 : decode cX5_read 82 = .ok (.getfield 44, 3) := by decide +kernel
theorem dX5_read_85 : decode cX5_read 85 = .ok (.ifCond .ne 22, 3) := by decide +kernel
theorem dX5_read_88 : decode cX5_read 88 = .ok (.aload_n 0, 1) := by decide +kernel
theorem dX5_read_89 : decode cX5_read 89 = .ok (.ldc 50, 2) := by decide +kernel
theorem dX5_read_91 : decode cX5_read 91 = .ok (.invokevirtual 40, 3) := by decide +kernel
theorem dX5_read_94 : decode cX5_read 94 = .ok (.ifCond .eq 13, 3) := by decide +kernel
theorem dX5_read_97 : decode cX5_read 97 = .ok (.aload_n 0, 1) := by decide +kernel
theorem dX5_read_98 : decode cX5_read 98 = .ok (.invokevirtual 52, 3) := by decide +kernel
theorem dX5_read_101 : decode cX5_read 101 = .ok (.iinc 1 1, 3) := by decide +kernel
