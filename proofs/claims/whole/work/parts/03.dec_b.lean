theorem dX5_read_104 : decode cX5_read 104 = .ok (.goto (-29), 3) := by decide +kernel
theorem dX5_read_107 : decode cX5_read 107 = .ok (.aload_n 0, 1) := by decide +kernel
theorem dX5_read_108 : decode cX5_read 108 = .ok (.getfield 44, 3) := by decide +kernel
theorem dX5_read_111 : decode cX5_read 111 = .ok (.ifCond .ne 16, 3) := by decide +kernel
theorem dX5_read_114 : decode cX5_read 114 = .ok (.aload_n 0, 1) := by decide +kernel
theorem dX5_read_115 : decode cX5_read 115 = .ok (.getfield 55, 3) := by decide +kernel
theorem dX5_read_118 : decode cX5_read 118 = .ok (.iconst 3, 1) := by decide +kernel
theorem dX5_read_119 : decode cX5_read 119 = .ok (.if_icmp .eq 8, 3) := by decide +kernel
theorem dX5_read_122 : decode cX5_read 122 = .ok (.aload_n 0, 1) := by decide +kernel
theorem dX5_read_123 : decode cX5_read 123 = .ok (.iconst 1, 1) := by decide +kernel
theorem dX5_read_124 : decode cX5_read 124 = .ok (.putfield 44, 3) := by decide +kernel
theorem dX5_read_127 : decode cX5_read 127 = .ok (.return_, 1) := by decide +kernel
theorem dX5_readGuest_0 : decode cX5_readGuest 0 = .ok (.aload_n 0, 1) := by decide +kernel
theorem dX5_readGuest_1 : decode cX5_readGuest 1 = .ok (.getfield 21, 3) := by decide +kernel
theorem dX5_readGuest_4 : decode cX5_readGuest 4 = .ok (.getfield 58, 3) := by decide +kernel
theorem dX5_readGuest_7 : decode cX5_readGuest 7 = .ok (.bipush 6, 2) := by decide +kernel
theorem dX5_readGuest_9 : decode cX5_readGuest 9 = .ok (.if_icmp .lt 9, 3) := by decide +kernel
theorem dX5_readGuest_12 : decode cX5_readGuest 12 = .ok (.aload_n 0, 1) := by decide +kernel
theorem dX5_readGuest_13 : decode cX5_readGuest 13 = .ok (.iconst 3, 1) := by decide +kernel
theorem dX5_readGuest_14 : decode cX5_readGuest 14 = .ok (.putfield 44, 3) := by decide +kernel
theorem dX5_readGuest_17 : decode cX5_readGuest 17 = .ok (.return_, 1) := by decide +kernel
theorem dX5_readGuest_18 : decode cX5_readGuest 18 = .ok (.aload_n 0, 1) := by decide +kernel
theorem dX5_readGuest_19 : decode cX5_readGuest 19 = .ok (.invokevirtual 35, 3) := by decide +kernel
theorem dX5_readGuest_22 : decode cX5_readGuest 22 = .ok (.aload_n 0, 1) := by decide +kernel
theorem dX5_readGuest_23 : decode cX5_readGuest 23 = .ok (.invokevirtual 61, 3) := by decide +kernel
theorem dX5_readGuest_26 : decode cX5_readGuest 26 = .ok (.istore_n 1, 1) := by decide +kernel
theorem dX5_readGuest_27 : decode cX5_readGuest 27 = .ok (.iload_n 1, 1) := by decide +kernel
theorem dX5_readGuest_28 : decode cX5_readGuest 28 = .ok (.ifCond .ne 9, 3) := by decide +kernel
theorem dX5_readGuest_31 : decode cX5_readGuest 31 = .ok (.aload_n 0, 1) := by decide +kernel
theorem dX5_readGuest_32 : decode cX5_readGuest 32 = .ok (.iconst 1, 1) := by decide +kernel
theorem dX5_readGuest_33 : decode cX5_readGuest 33 = .ok (.putfield 44, 3) := by decide +kernel
theorem dX5_readGuest_36 : decode cX5_readGuest 36 = .ok (.return_, 1) := by decide +kernel
theorem dX5_readGuest_37 : decode cX5_readGuest 37 = .ok (.aload_n 0, 1) := by decide +kernel
theorem dX5_readGuest_38 : decode cX5_readGuest 38 = .ok (.invokevirtual 35, 3) := by decide +kernel
theorem dX5_readGuest_41 : decode cX5_readGuest 41 = .ok (.aload_n 0, 1) := by decide +kernel
theorem dX5_readGuest_42 : decode cX5_readGuest 42 = .ok (.iconst 5, 1) := by decide +kernel
theorem dX5_readGuest_43 : decode cX5_readGuest 43 = .ok (.invokevirtual 65, 3) := by decide +kernel
theorem dX5_readGuest_46 : decode cX5_readGuest 46 = .ok (.istore_n 2, 1) := by decide +kernel
theorem dX5_readGuest_47 : decode cX5_readGuest 47 = .ok (.aload_n 0, 1) := by decide +kernel
theorem dX5_readGuest_48 : decode cX5_readGuest 48 = .ok (.getfield 44, 3) := by decide +kernel
theorem dX5_readGuest_51 : decode cX5_readGuest 51 = .ok (.ifCond .ne 12, 3) := by decide +kernel
theorem dX5_readGuest_54 : decode cX5_readGuest 54 = .ok (.aload_n 0, 1) := by decide +kernel
theorem dX5_readGuest_55 : decode cX5_readGuest 55 = .ok (.getfield 21, 3) := by decide +kernel
theorem dX5_readGuest_58 : decode cX5_readGuest 58 = .ok (.iload_n 1, 1) := by decide +kernel
theorem dX5_readGuest_59 : decode cX5_readGuest 59 = .ok (.iload_n 2, 1) := by decide +kernel
theorem dX5_readGuest_60 : decode cX5_readGuest 60 = .ok (.invokevirtual 69, 3) := by decide +kernel
theorem dX5_readGuest_63 : decode cX5_readGuest 63 = .ok (.return_, 1) := by decide +kernel
theorem dX5_readDish_0 : decode cX5_readDish 0 = .ok (.aload_n 0, 1) := by decide +kernel
theorem dX5_readDish_1 : decode cX5_readDish 1 = .ok (.getfield 32, 3) := by decide +kernel
theorem dX5_readDish_4 : decode cX5_readDish 4 = .ok (.aload_n 0, 1) := by decide +kernel
theorem dX5_readDish_5 : decode cX5_readDish 5 = .ok (.getfield 21, 3) := by decide +kernel
theorem dX5_readDish_8 : decode cX5_readDish 8 = .ok (.getfield 58, 3) := by decide +kernel
theorem dX5_readDish_11 : decode cX5_readDish 11 = .ok (.if_icmp .lt 9, 3) := by decide +kernel
theorem dX5_readDish_14 : decode cX5_readDish 14 = .ok (.aload_n 0, 1) := by decide +kernel
theorem dX5_readDish_15 : decode cX5_readDish 15 = .ok (.iconst 3, 1) := by decide +kernel
theorem dX5_readDish_16 : decode cX5_readDish 16 = .ok (.putfield 44, 3) := by decide +kernel
theorem dX5_readDish_19 : decode cX5_readDish 19 = .ok (.return_, 1) := by decide +kernel
theorem dX5_readDish_20 : decode cX5_readDish 20 = .ok (.aload_n 0, 1) := by decide +kernel
theorem dX5_readDish_21 : decode cX5_readDish 21 = .ok (.invokevirtual 35, 3) := by decide +kernel
theorem dX5_readDish_24 : decode cX5_readDish 24 = .ok (.aload_n 0, 1) := by decide +kernel
theorem dX5_readDish_25 : decode cX5_readDish 25 = .ok (.bipush 30, 2) := by decide +kernel
theorem dX5_readDish_27 : decode cX5_readDish 27 = .ok (.invokevirtual 65, 3) := by decide +kernel
theorem dX5_readDish_30 : decode cX5_readDish 30 = .ok (.istore_n 1, 1) := by decide +kernel
theorem dX5_readDish_31 : decode cX5_readDish 31 = .ok (.aload_n 0, 1) := by decide +kernel
theorem dX5_readDish_32 : decode cX5_readDish 32 = .ok (.getfield 44, 3) := by decide +kernel
theorem dX5_readDish_35 : decode cX5_readDish 35 = .ok (.ifCond .ne 26, 3) := by decide +kernel
theorem dX5_readDish_38 : decode cX5_readDish 38 = .ok (.aload_n 0, 1) := by decide +kernel
theorem dX5_readDish_39 : decode cX5_readDish 39 = .ok (.getfield 21, 3) := by decide +kernel
theorem dX5_readDish_42 : decode cX5_readDish 42 = .ok (.iconst 4, 1) := by decide +kernel
theorem dX5_readDish_43 : decode cX5_readDish 43 = .ok (.aload_n 0, 1) := by decide +kernel
theorem dX5_readDish_44 : decode cX5_readDish 44 = .ok (.getfield 32, 3) := by decide +kernel
theorem dX5_readDish_47 : decode cX5_readDish 47 = .ok (.iload_n 1, 1) := by decide +kernel
theorem dX5_readDish_48 : decode cX5_readDish 48 = .ok (.invokevirtual 73, 3) := by decide +kernel
theorem dX5_readDish_51 : decode cX5_readDish 51 = .ok (.aload_n 0, 1) := by decide +kernel
theorem dX5_readDish_52 : decode cX5_readDish 52 = .ok (.dup, 1) := by decide +kernel
theorem dX5_readDish_53 : decode cX5_readDish 53 = .ok (.getfield 32, 3) := by decide +kernel
theorem dX5_readDish_56 : decode cX5_readDish 56 = .ok (.iconst 1, 1) := by decide +kernel
theorem dX5_readDish_57 : decode cX5_readDish 57 = .ok (.iadd, 1) := by decide +kernel
theorem dX5_readDish_58 : decode cX5_readDish 58 = .ok (.putfield 32, 3) := by decide +kernel
theorem dX5_readDish_61 : decode cX5_readDish 61 = .ok (.return_, 1) := by decide +kernel
theorem dX5_readNumberAndEnd_0 : decode cX5_readNumberAndEnd 0 = .ok (.aload_n 0, 1) := by decide +kernel
theorem dX5_readNumberAndEnd_1 : decode cX5_readNumberAndEnd 1 = .ok (.getfield 77, 3) := by decide +kernel
theorem dX5_readNumberAndEnd_4 : decode cX5_readNumberAndEnd 4 = .ok (.istore_n 2, 1) := by decide +kernel
theorem dX5_readNumberAndEnd_5 : decode cX5_readNumberAndEnd 5 = .ok (.aload_n 0, 1) := by decide +kernel
theorem dX5_readNumberAndEnd_6 : decode cX5_readNumberAndEnd 6 = .ok (.getfield 55, 3) := by decide +kernel
theorem dX5_readNumberAndEnd_9 : decode cX5_readNumberAndEnd 9 = .ok (.iconst 1, 1) := by decide +kernel
theorem dX5_readNumberAndEnd_10 : decode cX5_readNumberAndEnd 10 = .ok (.if_icmp .eq 10, 3) := by decide +kernel
theorem dX5_readNumberAndEnd_13 : decode cX5_readNumberAndEnd 13 = .ok (.aload_n 0, 1) := by decide +kernel
theorem dX5_readNumberAndEnd_14 : decode cX5_readNumberAndEnd 14 = .ok (.iconst 1, 1) := by decide +kernel
theorem dX5_readNumberAndEnd_15 : decode cX5_readNumberAndEnd 15 = .ok (.putfield 44, 3) := by decide +kernel
theorem dX5_readNumberAndEnd_18 : decode cX5_readNumberAndEnd 18 = .ok (.iconst 0, 1) := by decide +kernel
theorem dX5_readNumberAndEnd_19 : decode cX5_readNumberAndEnd 19 = .ok (.ireturn, 1) := by decide +kernel
theorem dX5_readNumberAndEnd_20 : decode cX5_readNumberAndEnd 20 = .ok (.iload_n 2, 1) := by decide +kernel
theorem dX5_readNumberAndEnd_21 : decode cX5_readNumberAndEnd 21 = .ok (.iload_n 1, 1) := by decide +kernel
theorem dX5_readNumberAndEnd_22 : decode cX5_readNumberAndEnd 22 = .ok (.if_icmp .le 10, 3) := by decide +kernel
theorem dX5_readNumberAndEnd_25 : decode cX5_readNumberAndEnd 25 = .ok (.aload_n 0, 1) := by decide +kernel
theorem dX5_readNumberAndEnd_26 : decode cX5_readNumberAndEnd 26 = .ok (.iconst 2, 1) := by decide +kernel
theorem dX5_readNumberAndEnd_27 : decode cX5_readNumberAndEnd 27 = .ok (.putfield 44, 3) := by decide +kernel
theorem dX5_readNumberAndEnd_30 : decode cX5_readNumberAndEnd 30 = .ok (.iconst 0, 1) := by decide +kernel
theorem dX5_readNumberAndEnd_31 : decode cX5_readNumberAndEnd 31 = .ok (.ireturn, 1) := by decide +kernel
theorem dX5_readNumberAndEnd_32 : decode cX5_readNumberAndEnd 32 = .ok (.aload_n 0, 1) := by decide +kernel
theorem dX5_readNumberAndEnd_33 : decode cX5_readNumberAndEnd 33 = .ok (.invokevirtual 35, 3) := by decide +kernel
theorem dX5_readNumberAndEnd_36 : decode cX5_readNumberAndEnd 36 = .ok (.aload_n 0, 1) := by decide +kernel
theorem dX5_readNumberAndEnd_37 : decode cX5_readNumberAndEnd 37 = .ok (.getfield 55, 3) := by decide +kernel
theorem dX5_readNumberAndEnd_40 : decode cX5_readNumberAndEnd 40 = .ok (.iconst 2, 1) := by decide +kernel
theorem dX5_readNumberAndEnd_41 : decode cX5_readNumberAndEnd 41 = .ok (.if_icmp .eq 10, 3) := by decide +kernel
theorem dX5_readNumberAndEnd_44 : decode cX5_readNumberAndEnd 44 = .ok (.aload_n 0, 1) := by decide +kernel
theorem dX5_readNumberAndEnd_45 : decode cX5_readNumberAndEnd 45 = .ok (.iconst 1, 1) := by decide +kernel
theorem dX5_readNumberAndEnd_46 : decode cX5_readNumberAndEnd 46 = .ok (.putfield 44, 3) := by decide +kernel
theorem dX5_readNumberAndEnd_49 : decode cX5_readNumberAndEnd 49 = .ok (.iconst 0, 1) := by decide +kernel
theorem dX5_readNumberAndEnd_50 : decode cX5_readNumberAndEnd 50 = .ok (.ireturn, 1) := by decide +kernel
theorem dX5_readNumberAndEnd_51 : decode cX5_readNumberAndEnd 51 = .ok (.aload_n 0, 1) := by decide +kernel
theorem dX5_readNumberAndEnd_52 : decode cX5_readNumberAndEnd 52 = .ok (.invokevirtual 35, 3) := by decide +kernel
theorem dX5_readNumberAndEnd_55 : decode cX5_readNumberAndEnd 55 = .ok (.iload_n 2, 1) := by decide +kernel
theorem dX5_readNumberAndEnd_56 : decode cX5_readNumberAndEnd 56 = .ok (.ireturn, 1) := by decide +kernel
theorem dX5_sortNamed_0 : decode cX5_sortNamed 0 = .ok (.aload_n 0, 1) := by decide +kernel
theorem dX5_sortNamed_1 : decode cX5_sortNamed 1 = .ok (.ldc 80, 2) := by decide +kernel
theorem dX5_sortNamed_3 : decode cX5_sortNamed 3 = .ok (.invokevirtual 40, 3) := by decide +kernel
theorem dX5_sortNamed_6 : decode cX5_sortNamed 6 = .ok (.ifCond .eq 5, 3) := by decide +kernel
theorem dX5_sortNamed_9 : decode cX5_sortNamed 9 = .ok (.iconst 1, 1) := by decide +kernel
theorem dX5_sortNamed_10 : decode cX5_sortNamed 10 = .ok (.ireturn, 1) := by decide +kernel
theorem dX5_sortNamed_11 : decode cX5_sortNamed 11 = .ok (.aload_n 0, 1) := by decide +kernel
theorem dX5_sortNamed_12 : decode cX5_sortNamed 12 = .ok (.ldc 82, 2) := by decide +kernel
theorem dX5_sortNamed_14 : decode cX5_sortNamed 14 = .ok (.invokevirtual 40, 3) := by decide +kernel
theorem dX5_sortNamed_17 : decode cX5_sortNamed 17 = .ok (.ifCond .eq 5, 3) := by decide +kernel
theorem dX5_sortNamed_20 : decode cX5_sortNamed 20 = .ok (.iconst 2, 1) := by decide +kernel
theorem dX5_sortNamed_21 : decode cX5_sortNamed 21 = .ok (.ireturn, 1) := by decide +kernel
theorem dX5_sortNamed_22 : decode cX5_sortNamed 22 = .ok (.aload_n 0, 1) := by decide +kernel
theorem dX5_sortNamed_23 : decode cX5_sortNamed 23 = .ok (.ldc 84, 2) := by decide +kernel
theorem dX5_sortNamed_25 : decode cX5_sortNamed 25 = .ok (.invokevirtual 40, 3) := by decide +kernel
theorem dX5_sortNamed_28 : decode cX5_sortNamed 28 = .ok (.ifCond .eq 5, 3) := by decide +kernel
theorem dX5_sortNamed_31 : decode cX5_sortNamed 31 = .ok (.iconst 3, 1) := by decide +kernel
theorem dX5_sortNamed_32 : decode cX5_sortNamed 32 = .ok (.ireturn, 1) := by decide +kernel
theorem dX5_sortNamed_33 : decode cX5_sortNamed 33 = .ok (.aload_n 0, 1) := by decide +kernel
theorem dX5_sortNamed_34 : decode cX5_sortNamed 34 = .ok (.ldc 86, 2) := by decide +kernel
theorem dX5_sortNamed_36 : decode cX5_sortNamed 36 = .ok (.invokevirtual 40, 3) := by decide +kernel
theorem dX5_sortNamed_39 : decode cX5_sortNamed 39 = .ok (.ifCond .eq 5, 3) := by decide +kernel
theorem dX5_sortNamed_42 : decode cX5_sortNamed 42 = .ok (.iconst 4, 1) := by decide +kernel
theorem dX5_sortNamed_43 : decode cX5_sortNamed 43 = .ok (.ireturn, 1) := by decide +kernel
theorem dX5_sortNamed_44 : decode cX5_sortNamed 44 = .ok (.aload_n 0, 1) := by decide +kernel
theorem dX5_sortNamed_45 : decode cX5_sortNamed 45 = .ok (.ldc 88, 2) := by decide +kernel
theorem dX5_sortNamed_47 : decode cX5_sortNamed 47 = .ok (.invokevirtual 40, 3) := by decide +kernel
theorem dX5_sortNamed_50 : decode cX5_sortNamed 50 = .ok (.ifCond .eq 7, 3) := by decide +kernel
theorem dX5_sortNamed_53 : decode cX5_sortNamed 53 = .ok (.iconst 5, 1) := by decide +kernel
theorem dX5_sortNamed_54 : decode cX5_sortNamed 54 = .ok (.goto 4, 3) := by decide +kernel
theorem dX5_sortNamed_57 : decode cX5_sortNamed 57 = .ok (.iconst 0, 1) := by decide +kernel
theorem dX5_sortNamed_58 : decode cX5_sortNamed 58 = .ok (.ireturn, 1) := by decide +kernel
theorem dX5_isWord_0 : decode cX5_isWord 0 = .ok (.aload_n 0, 1) := by decide +kernel
theorem dX5_isWord_1 : decode cX5_isWord 1 = .ok (.getfield 55, 3) := by decide +kernel
theorem dX5_isWord_4 : decode cX5_isWord 4 = .ok (.ifCond .ne 19, 3) := by decide +kernel
theorem dX5_isWord_7 : decode cX5_isWord 7 = .ok (.aload_n 0, 1) := by decide +kernel
theorem dX5_isWord_8 : decode cX5_isWord 8 = .ok (.getfield 28, 3) := by decide +kernel
theorem dX5_isWord_11 : decode cX5_isWord 11 = .ok (.aload_n 0, 1) := by decide +kernel
theorem dX5_isWord_12 : decode cX5_isWord 12 = .ok (.getfield 90, 3) := by decide +kernel
theorem dX5_isWord_15 : decode cX5_isWord 15 = .ok (.isub, 1) := by decide +kernel
theorem dX5_isWord_16 : decode cX5_isWord 16 = .ok (.aload_n 1, 1) := by decide +kernel
theorem dX5_isWord_17 : decode cX5_isWord 17 = .ok (.invokevirtual 93, 3) := by decide +kernel
theorem dX5_isWord_20 : decode cX5_isWord 20 = .ok (.if_icmp .eq 5, 3) := by decide +kernel
theorem dX5_isWord_23 : decode cX5_isWord 23 = .ok (.iconst 0, 1) := by decide +kernel
theorem dX5_isWord_24 : decode cX5_isWord 24 = .ok (.ireturn, 1) := by decide +kernel
theorem dX5_isWord_25 : decode cX5_isWord 25 = .ok (.iconst 0, 1) := by decide +kernel
theorem dX5_isWord_26 : decode cX5_isWord 26 = .ok (.istore_n 2, 1) := by decide +kernel
theorem dX5_isWord_27 : decode cX5_isWord 27 = .ok (.iload_n 2, 1) := by decide +kernel
theorem dX5_isWord_28 : decode cX5_isWord 28 = .ok (.aload_n 1, 1) := by decide +kernel
theorem dX5_isWord_29 : decode cX5_isWord 29 = .ok (.invokevirtual 93, 3) := by decide +kernel
theorem dX5_isWord_32 : decode cX5_isWord 32 = .ok (.if_icmp .ge 32, 3) := by decide +kernel
theorem dX5_isWord_35 : decode cX5_isWord 35 = .ok (.aload_n 0, 1) := by decide +kernel
theorem dX5_isWord_36 : decode cX5_isWord 36 = .ok (.getfield 12, 3) := by decide +kernel
theorem dX5_isWord_39 : decode cX5_isWord 39 = .ok (.aload_n 0, 1) := by decide +kernel
theorem dX5_isWord_40 : decode cX5_isWord 40 = .ok (.getfield 90, 3) := by decide +kernel
theorem dX5_isWord_43 : decode cX5_isWord 43 = .ok (.iload_n 2, 1) := by decide +kernel
theorem dX5_isWord_44 : decode cX5_isWord 44 = .ok (.iadd, 1) := by decide +kernel
theorem dX5_isWord_45 : decode cX5_isWord 45 = .ok (.invokevirtual 98, 3) := by decide +kernel
theorem dX5_isWord_48 : decode cX5_isWord 48 = .ok (.aload_n 1, 1) := by decide +kernel
theorem dX5_isWord_49 : decode cX5_isWord 49 = .ok (.iload_n 2, 1) := by decide +kernel
theorem dX5_isWord_50 : decode cX5_isWord 50 = .ok (.invokevirtual 101, 3) := by decide +kernel
theorem dX5_isWord_53 : decode cX5_isWord 53 = .ok (.if_icmp .eq 5, 3) := by decide +kernel
theorem dX5_isWord_56 : decode cX5_isWord 56 = .ok (.iconst 0, 1) := by decide +kernel
theorem dX5_isWord_57 : decode cX5_isWord 57 = .ok (.ireturn, 1) := by decide +kernel
theorem dX5_isWord_58 : decode cX5_isWord 58 = .ok (.iinc 2 1, 3) := by decide +kernel
theorem dX5_isWord_61 : decode cX5_isWord 61 = .ok (.goto (-34), 3) := by decide +kernel
theorem dX5_isWord_64 : decode cX5_isWord 64 = .ok (.iconst 1, 1) := by decide +kernel
theorem dX5_isWord_65 : decode cX5_isWord 65 = .ok (.ireturn, 1) := by decide +kernel
theorem dX5_next_0 : decode cX5_next 0 = .ok (.aload_n 0, 1) := by decide +kernel
theorem dX5_next_1 : decode cX5_next 1 = .ok (.aload_n 0, 1) := by decide +kernel
theorem dX5_next_2 : decode cX5_next 2 = .ok (.getfield 12, 3) := by decide +kernel
theorem dX5_next_5 : decode cX5_next 5 = .ok (.aload_n 0, 1) := by decide +kernel
theorem dX5_next_6 : decode cX5_next 6 = .ok (.getfield 28, 3) := by decide +kernel
theorem dX5_next_9 : decode cX5_next 9 = .ok (.invokevirtual 105, 3) := by decide +kernel
theorem dX5_next_12 : decode cX5_next 12 = .ok (.putfield 90, 3) := by decide +kernel
theorem dX5_next_15 : decode cX5_next 15 = .ok (.aload_n 0, 1) := by decide +kernel
theorem dX5_next_16 : decode cX5_next 16 = .ok (.aload_n 0, 1) := by decide +kernel
theorem dX5_next_17 : decode cX5_next 17 = .ok (.getfield 90, 3) := by decide +kernel
theorem dX5_next_20 : decode cX5_next 20 = .ok (.iconst 1, 1) := by decide +kernel
theorem dX5_next_21 : decode cX5_next 21 = .ok (.iadd, 1) := by decide +kernel
theorem dX5_next_22 : decode cX5_next 22 = .ok (.putfield 28, 3) := by decide +kernel
theorem dX5_next_25 : decode cX5_next 25 = .ok (.aload_n 0, 1) := by decide +kernel
theorem dX5_next_26 : decode cX5_next 26 = .ok (.getfield 12, 3) := by decide +kernel
theorem dX5_next_29 : decode cX5_next 29 = .ok (.aload_n 0, 1) := by decide +kernel
theorem dX5_next_30 : decode cX5_next 30 = .ok (.getfield 90, 3) := by decide +kernel
theorem dX5_next_33 : decode cX5_next 33 = .ok (.invokevirtual 98, 3) := by decide +kernel
theorem dX5_next_36 : decode cX5_next 36 = .ok (.istore_n 1, 1) := by decide +kernel
theorem dX5_next_37 : decode cX5_next 37 = .ok (.iload_n 1, 1) := by decide +kernel
theorem dX5_next_38 : decode cX5_next 38 = .ok (.iconst (-1), 1) := by decide +kernel
theorem dX5_next_39 : decode cX5_next 39 = .ok (.if_icmp .ne 19, 3) := by decide +kernel
theorem dX5_next_42 : decode cX5_next 42 = .ok (.aload_n 0, 1) := by decide +kernel
theorem dX5_next_43 : decode cX5_next 43 = .ok (.iconst 3, 1) := by decide +kernel
theorem dX5_next_44 : decode cX5_next 44 = .ok (.putfield 55, 3) := by decide +kernel
theorem dX5_next_47 : decode cX5_next 47 = .ok (.aload_n 0, 1) := by decide +kernel
theorem dX5_next_48 : decode cX5_next 48 = .ok (.aload_n 0, 1) := by decide +kernel
theorem dX5_next_49 : decode cX5_next 49 = .ok (.getfield 90, 3) := by decide +kernel
theorem dX5_next_52 : decode cX5_next 52 = .ok (.putfield 28, 3) := by decide +kernel
theorem dX5_next_55 : decode cX5_next 55 = .ok (.goto 115, 3) := by decide +kernel
theorem dX5_next_58 : decode cX5_next 58 = .ok (.iload_n 1, 1) := by decide +kernel
theorem dX5_next_59 : decode cX5_next 59 = .ok (.invokestatic 108, 3) := by decide +kernel
theorem dX5_next_62 : decode cX5_next 62 = .ok (.ifCond .eq 26, 3) := by decide +kernel
theorem dX5_next_65 : decode cX5_next 65 = .ok (.aload_n 0, 1) := by decide +kernel
theorem dX5_next_66 : decode cX5_next 66 = .ok (.iconst 0, 1) := by decide +kernel
theorem dX5_next_67 : decode cX5_next 67 = .ok (.putfield 55, 3) := by decide +kernel
theorem dX5_next_70 : decode cX5_next 70 = .ok (.aload_n 0, 1) := by decide +kernel
theorem dX5_next_71 : decode cX5_next 71 = .ok (.aload_n 0, 1) := by decide +kernel
theorem dX5_next_72 : decode cX5_next 72 = .ok (.getfield 12, 3) := by decide +kernel
theorem dX5_next_75 : decode cX5_next 75 = .ok (.aload_n 0, 1) := by decide +kernel
theorem dX5_next_76 : decode cX5_next 76 = .ok (.getfield 90, 3) := by decide +kernel
theorem dX5_next_79 : decode cX5_next 79 = .ok (.invokevirtual 112, 3) := by decide +kernel
theorem dX5_next_82 : decode cX5_next 82 = .ok (.putfield 28, 3) := by decide +kernel
theorem dX5_next_85 : decode cX5_next 85 = .ok (.goto 85, 3) := by decide +kernel
theorem dX5_next_88 : decode cX5_next 88 = .ok (.iload_n 1, 1) := by decide +kernel
theorem dX5_next_89 : decode cX5_next 89 = .ok (.invokestatic 115, 3) := by decide +kernel
theorem dX5_next_92 : decode cX5_next 92 = .ok (.ifCond .eq 63, 3) := by decide +kernel
theorem dX5_next_95 : decode cX5_next 95 = .ok (.aload_n 0, 1) := by decide +kernel
theorem dX5_next_96 : decode cX5_next 96 = .ok (.aload_n 0, 1) := by decide +kernel
theorem dX5_next_97 : decode cX5_next 97 = .ok (.getfield 12, 3) := by decide +kernel
theorem dX5_next_100 : decode cX5_next 100 = .ok (.aload_n 0, 1) := by decide +kernel
theorem dX5_next_101 : decode cX5_next 101 = .ok (.getfield 90, 3) := by decide +kernel
theorem dX5_next_104 : decode cX5_next 104 = .ok (.invokevirtual 118, 3) := by decide +kernel
theorem dX5_next_107 : decode cX5_next 107 = .ok (.putfield 28, 3) := by decide +kernel
theorem dX5_next_110 : decode cX5_next 110 = .ok (.aload_n 0, 1) := by decide +kernel
theorem dX5_next_111 : decode cX5_next 111 = .ok (.aload_n 0, 1) := by decide +kernel
theorem dX5_next_112 : decode cX5_next 112 = .ok (.getfield 28, 3) := by decide +kernel
theorem dX5_next_115 : decode cX5_next 115 = .ok (.aload_n 0, 1) := by decide +kernel
theorem dX5_next_116 : decode cX5_next 116 = .ok (.getfield 90, 3) := by decide +kernel
theorem dX5_next_119 : decode cX5_next 119 = .ok (.isub, 1) := by decide +kernel
theorem dX5_next_120 : decode cX5_next 120 = .ok (.iconst 3, 1) := by decide +kernel
theorem dX5_next_121 : decode cX5_next 121 = .ok (.if_icmp .gt 7, 3) := by decide +kernel
theorem dX5_next_124 : decode cX5_next 124 = .ok (.iconst 1, 1) := by decide +kernel
theorem dX5_next_125 : decode cX5_next 125 = .ok (.goto 4, 3) := by decide +kernel
theorem dX5_next_128 : decode cX5_next 128 = .ok (.iconst 4, 1) := by decide +kernel
theorem dX5_next_129 : decode cX5_next 129 = .ok (.putfield 55, 3) := by decide +kernel
theorem dX5_next_132 : decode cX5_next 132 = .ok (.aload_n 0, 1) := by decide +kernel
theorem dX5_next_133 : decode cX5_next 133 = .ok (.aload_n 0, 1) := by decide +kernel
theorem dX5_next_134 : decode cX5_next 134 = .ok (.getfield 55, 3) := by decide +kernel
theorem dX5_next_137 : decode cX5_next 137 = .ok (.iconst 1, 1) := by decide +kernel
theorem dX5_next_138 : decode cX5_next 138 = .ok (.if_icmp .ne 10, 3) := by decide +kernel
theorem dX5_next_141 : decode cX5_next 141 = .ok (.aload_n 0, 1) := by decide +kernel
theorem dX5_next_142 : decode cX5_next 142 = .ok (.invokevirtual 121, 3) := by decide +kernel
theorem dX5_next_145 : decode cX5_next 145 = .ok (.goto 4, 3) := by decide +kernel
theorem dX5_next_148 : decode cX5_next 148 = .ok (.iconst 0, 1) := by decide +kernel
theorem dX5_next_149 : decode cX5_next 149 = .ok (.putfield 77, 3) := by decide +kernel
theorem dX5_next_152 : decode cX5_next 152 = .ok (.goto 18, 3) := by decide +kernel
theorem dX5_next_155 : decode cX5_next 155 = .ok (.aload_n 0, 1) := by decide +kernel
theorem dX5_next_156 : decode cX5_next 156 = .ok (.iload_n 1, 1) := by decide +kernel
theorem dX5_next_157 : decode cX5_next 157 = .ok (.bipush 59, 2) := by decide +kernel
theorem dX5_next_159 : decode cX5_next 159 = .ok (.if_icmp .ne 7, 3) := by decide +kernel
theorem dX5_next_162 : decode cX5_next 162 = .ok (.iconst 2, 1) := by decide +kernel
theorem dX5_next_163 : decode cX5_next 163 = .ok (.goto 4, 3) := by decide +kernel
theorem dX5_next_166 : decode cX5_next 166 = .ok (.iconst 4, 1) := by decide +kernel
theorem dX5_next_167 : decode cX5_next 167 = .ok (.putfield 55, 3) := by decide +kernel
theorem dX5_next_170 : decode cX5_next 170 = .ok (.return_, 1) := by decide +kernel
theorem dX5_valueOfFigures_0 : decode cX5_valueOfFigures 0 = .ok (.iconst 0, 1) := by decide +kernel
theorem dX5_valueOfFigures_1 : decode cX5_valueOfFigures 1 = .ok (.istore_n 1, 1) := by decide +kernel
theorem dX5_valueOfFigures_2 : decode cX5_valueOfFigures 2 = .ok (.aload_n 0, 1) := by decide +kernel
theorem dX5_valueOfFigures_3 : decode cX5_valueOfFigures 3 = .ok (.getfield 90, 3) := by decide +kernel
theorem dX5_valueOfFigures_6 : decode cX5_valueOfFigures 6 = .ok (.istore_n 2, 1) := by decide +kernel
theorem dX5_valueOfFigures_7 : decode cX5_valueOfFigures 7 = .ok (.iload_n 2, 1) := by decide +kernel
theorem dX5_valueOfFigures_8 : decode cX5_valueOfFigures 8 = .ok (.aload_n 0, 1) := by decide +kernel
theorem dX5_valueOfFigures_9 : decode cX5_valueOfFigures 9 = .ok (.getfield 28, 3) := by decide +kernel
theorem dX5_valueOfFigures_12 : decode cX5_valueOfFigures 12 = .ok (.if_icmp .ge 26, 3) := by decide +kernel
theorem dX5_valueOfFigures_15 : decode cX5_valueOfFigures 15 = .ok (.bipush 10, 2) := by decide +kernel
theorem dX5_valueOfFigures_17 : decode cX5_valueOfFigures 17 = .ok (.iload_n 1, 1) := by decide +kernel
theorem dX5_valueOfFigures_18 : decode cX5_valueOfFigures 18 = .ok (.imul, 1) := by decide +kernel
theorem dX5_valueOfFigures_19 : decode cX5_valueOfFigures 19 = .ok (.aload_n 0, 1) := by decide +kernel
theorem dX5_valueOfFigures_20 : decode cX5_valueOfFigures 20 = .ok (.getfield 12, 3) := by decide +kernel
theorem dX5_valueOfFigures_23 : decode cX5_valueOfFigures 23 = .ok (.iload_n 2, 1) := by decide +kernel
theorem dX5_valueOfFigures_24 : decode cX5_valueOfFigures 24 = .ok (.invokevirtual 98, 3) := by decide +kernel
theorem dX5_valueOfFigures_27 : decode cX5_valueOfFigures 27 = .ok (.iadd, 1) := by decide +kernel
theorem dX5_valueOfFigures_28 : decode cX5_valueOfFigures 28 = .ok (.bipush 48, 2) := by decide +kernel
theorem dX5_valueOfFigures_30 : decode cX5_valueOfFigures 30 = .ok (.isub, 1) := by decide +kernel
theorem dX5_valueOfFigures_31 : decode cX5_valueOfFigures 31 = .ok (.istore_n 1, 1) := by decide +kernel
theorem dX5_valueOfFigures_32 : decode cX5_valueOfFigures 32 = .ok (.iinc 2 1, 3) := by decide +kernel
theorem dX5_valueOfFigures_35 : decode cX5_valueOfFigures 35 = .ok (.goto (-28), 3) := by decide +kernel
theorem dX5_valueOfFigures_38 : decode cX5_valueOfFigures 38 = .ok (.iload_n 1, 1) := by decide +kernel
theorem dX5_valueOfFigures_39 : decode cX5_valueOfFigures 39 = .ok (.ireturn, 1) := by decide +kernel
theorem dX6_init_0 : decode cX6_init 0 = .ok (.aload_n 0, 1) := by decide +kernel
theorem dX6_init_1 : decode cX6_init 1 = .ok (.invokespecial 3, 3) := by decide +kernel
theorem dX6_init_4 : decode cX6_init 4 = .ok (.aload_n 0, 1) := by decide +kernel
theorem dX6_init_5 : decode cX6_init 5 = .ok (.sipush 300, 3) := by decide +kernel
theorem dX6_init_8 : decode cX6_init 8 = .ok (.newarray .int, 2) := by decide +kernel
theorem dX6_init_10 : decode cX6_init 10 = .ok (.putfield 9, 3) := by decide +kernel
theorem dX6_init_13 : decode cX6_init 13 = .ok (.return_, 1) := by decide +kernel
theorem dX6_add_0 : decode cX6_add 0 = .ok (.aload_n 0, 1) := by decide +kernel
theorem dX6_add_1 : decode cX6_add 1 = .ok (.getfield 15, 3) := by decide +kernel
theorem dX6_add_4 : decode cX6_add 4 = .ok (.ifCond .lt 35, 3) := by decide +kernel
theorem dX6_add_7 : decode cX6_add 7 = .ok (.aload_n 0, 1) := by decide +kernel
theorem dX6_add_8 : decode cX6_add 8 = .ok (.getfield 15, 3) := by decide +kernel
theorem dX6_add_11 : decode cX6_add 11 = .ok (.aload_n 0, 1) := by decide +kernel
theorem dX6_add_12 : decode cX6_add 12 = .ok (.getfield 9, 3) := by decide +kernel
theorem dX6_add_15 : decode cX6_add 15 = .ok (.arraylength, 1) := by decide +kernel
theorem dX6_add_16 : decode cX6_add 16 = .ok (.if_icmp .ge 23, 3) := by decide +kernel
theorem dX6_add_19 : decode cX6_add 19 = .ok (.aload_n 0, 1) := by decide +kernel
theorem dX6_add_20 : decode cX6_add 20 = .ok (.getfield 9, 3) := by decide +kernel
theorem dX6_add_23 : decode cX6_add 23 = .ok (.aload_n 0, 1) := by decide +kernel
theorem dX6_add_24 : decode cX6_add 24 = .ok (.getfield 15, 3) := by decide +kernel
theorem dX6_add_27 : decode cX6_add 27 = .ok (.iload_n 1, 1) := by decide +kernel
theorem dX6_add_28 : decode cX6_add 28 = .ok (.iastore, 1) := by decide +kernel
theorem dX6_add_29 : decode cX6_add 29 = .ok (.aload_n 0, 1) := by decide +kernel
theorem dX6_add_30 : decode cX6_add 30 = .ok (.dup, 1) := by decide +kernel
theorem dX6_add_31 : decode cX6_add 31 = .ok (.getfield 15, 3) := by decide +kernel
theorem dX6_add_34 : decode cX6_add 34 = .ok (.iconst 1, 1) := by decide +kernel
theorem dX6_add_35 : decode cX6_add 35 = .ok (.iadd, 1) := by decide +kernel
theorem dX6_add_36 : decode cX6_add 36 = .ok (.putfield 15, 3) := by decide +kernel
theorem dX6_add_39 : decode cX6_add 39 = .ok (.return_, 1) := by decide +kernel
theorem dX6_clear_0 : decode cX6_clear 0 = .ok (.aload_n 0, 1) := by decide +kernel
theorem dX6_clear_1 : decode cX6_clear 1 = .ok (.iconst 0, 1) := by decide +kernel
theorem dX6_clear_2 : decode cX6_clear 2 = .ok (.putfield 15, 3) := by decide +kernel
theorem dX6_clear_5 : decode cX6_clear 5 = .ok (.return_, 1) := by decide +kernel
theorem dX6_at_0 : decode cX6_at 0 = .ok (.iload_n 1, 1) := by decide +kernel
theorem dX6_at_1 : decode cX6_at 1 = .ok (.ifCond .lt 29, 3) := by decide +kernel
theorem dX6_at_4 : decode cX6_at 4 = .ok (.iload_n 1, 1) := by decide +kernel
theorem dX6_at_5 : decode cX6_at 5 = .ok (.aload_n 0, 1) := by decide +kernel
theorem dX6_at_6 : decode cX6_at 6 = .ok (.getfield 15, 3) := by decide +kernel
theorem dX6_at_9 : decode cX6_at 9 = .ok (.if_icmp .ge 21, 3) := by decide +kernel
theorem dX6_at_12 : decode cX6_at 12 = .ok (.iload_n 1, 1) := by decide +kernel
theorem dX6_at_13 : decode cX6_at 13 = .ok (.aload_n 0, 1) := by decide +kernel
theorem dX6_at_14 : decode cX6_at 14 = .ok (.getfield 9, 3) := by decide +kernel
theorem dX6_at_17 : decode cX6_at 17 = .ok (.arraylength, 1) := by decide +kernel
theorem dX6_at_18 : decode cX6_at 18 = .ok (.if_icmp .ge 12, 3) := by decide +kernel
theorem dX6_at_21 : decode cX6_at 21 = .ok (.aload_n 0, 1) := by decide +kernel
theorem dX6_at_22 : decode cX6_at 22 = .ok (.getfield 9, 3) := by decide +kernel
theorem dX6_at_25 : decode cX6_at 25 = .ok (.iload_n 1, 1) := by decide +kernel
theorem dX6_at_26 : decode cX6_at 26 = .ok (.iaload, 1) := by decide +kernel
theorem dX6_at_27 : decode cX6_at 27 = .ok (.goto 4, 3) := by decide +kernel
theorem dX6_at_30 : decode cX6_at 30 = .ok (.iconst (-1), 1) := by decide +kernel
theorem dX6_at_31 : decode cX6_at 31 = .ok (.ireturn, 1) := by decide +kernel
theorem dX6_endOfBlanks_0 : decode cX6_endOfBlanks 0 = .ok (.iload_n 1, 1) := by decide +kernel
theorem dX6_endOfBlanks_1 : decode cX6_endOfBlanks 1 = .ok (.istore_n 2, 1) := by decide +kernel
theorem dX6_endOfBlanks_2 : decode cX6_endOfBlanks 2 = .ok (.iload_n 2, 1) := by decide +kernel
theorem dX6_endOfBlanks_3 : decode cX6_endOfBlanks 3 = .ok (.aload_n 0, 1) := by decide +kernel
theorem dX6_endOfBlanks_4 : decode cX6_endOfBlanks 4 = .ok (.getfield 15, 3) := by decide +kernel
theorem dX6_endOfBlanks_7 : decode cX6_endOfBlanks 7 = .ok (.if_icmp .ge 20, 3) := by decide +kernel
theorem dX6_endOfBlanks_10 : decode cX6_endOfBlanks 10 = .ok (.aload_n 0, 1) := by decide +kernel
theorem dX6_endOfBlanks_11 : decode cX6_endOfBlanks 11 = .ok (.iload_n 2, 1) := by decide +kernel
theorem dX6_endOfBlanks_12 : decode cX6_endOfBlanks 12 = .ok (.invokevirtual 19, 3) := by decide +kernel
theorem dX6_endOfBlanks_15 : decode cX6_endOfBlanks 15 = .ok (.invokestatic 23, 3) := by decide +kernel
theorem dX6_endOfBlanks_18 : decode cX6_endOfBlanks 18 = .ok (.ifCond .eq 9, 3) := by decide +kernel
theorem dX6_endOfBlanks_21 : decode cX6_endOfBlanks 21 = .ok (.iinc 2 1, 3) := by decide +kernel
theorem dX6_endOfBlanks_24 : decode cX6_endOfBlanks 24 = .ok (.goto (-22), 3) := by decide +kernel
theorem dX6_endOfBlanks_27 : decode cX6_endOfBlanks 27 = .ok (.iload_n 2, 1) := by decide +kernel
theorem dX6_endOfBlanks_28 : decode cX6_endOfBlanks 28 = .ok (.ireturn, 1) := by decide +kernel
theorem dX6_endOfLetters_0 : decode cX6_endOfLetters 0 = .ok (.iload_n 1, 1) := by decide +kernel
theorem dX6_endOfLetters_1 : decode cX6_endOfLetters 1 = .ok (.istore_n 2, 1) := by decide +kernel
theorem dX6_endOfLetters_2 : decode cX6_endOfLetters 2 = .ok (.iload_n 2, 1) := by decide +kernel
theorem dX6_endOfLetters_3 : decode cX6_endOfLetters 3 = .ok (.aload_n 0, 1) := by decide +kernel
theorem dX6_endOfLetters_4 : decode cX6_endOfLetters 4 = .ok (.getfield 15, 3) := by decide +kernel
theorem dX6_endOfLetters_7 : decode cX6_endOfLetters 7 = .ok (.if_icmp .ge 20, 3) := by decide +kernel
theorem dX6_endOfLetters_10 : decode cX6_endOfLetters 10 = .ok (.aload_n 0, 1) := by decide +kernel
theorem dX6_endOfLetters_11 : decode cX6_endOfLetters 11 = .ok (.iload_n 2, 1) := by decide +kernel
theorem dX6_endOfLetters_12 : decode cX6_endOfLetters 12 = .ok (.invokevirtual 19, 3) := by decide +kernel
theorem dX6_endOfLetters_15 : decode cX6_endOfLetters 15 = .ok (.invokestatic 27, 3) := by decide +kernel
theorem dX6_endOfLetters_18 : decode cX6_endOfLetters 18 = .ok (.ifCond .eq 9, 3) := by decide +kernel
theorem dX6_endOfLetters_21 : decode cX6_endOfLetters 21 = .ok (.iinc 2 1, 3) := by decide +kernel
theorem dX6_endOfLetters_24 : decode cX6_endOfLetters 24 = .ok (.goto (-22), 3) := by decide +kernel
theorem dX6_endOfLetters_27 : decode cX6_endOfLetters 27 = .ok (.iload_n 2, 1) := by decide +kernel
theorem dX6_endOfLetters_28 : decode cX6_endOfLetters 28 = .ok (.ireturn, 1) := by decide +kernel
theorem dX6_endOfFigures_0 : decode cX6_endOfFigures 0 = .ok (.iload_n 1, 1) := by decide +kernel
theorem dX6_endOfFigures_1 : decode cX6_endOfFigures 1 = .ok (.istore_n 2, 1) := by decide +kernel
theorem dX6_endOfFigures_2 : decode cX6_endOfFigures 2 = .ok (.iload_n 2, 1) := by decide +kernel
theorem dX6_endOfFigures_3 : decode cX6_endOfFigures 3 = .ok (.aload_n 0, 1) := by decide +kernel
theorem dX6_endOfFigures_4 : decode cX6_endOfFigures 4 = .ok (.getfield 15, 3) := by decide +kernel
theorem dX6_endOfFigures_7 : decode cX6_endOfFigures 7 = .ok (.if_icmp .ge 20, 3) := by decide +kernel
theorem dX6_endOfFigures_10 : decode cX6_endOfFigures 10 = .ok (.aload_n 0, 1) := by decide +kernel
theorem dX6_endOfFigures_11 : decode cX6_endOfFigures 11 = .ok (.iload_n 2, 1) := by decide +kernel
theorem dX6_endOfFigures_12 : decode cX6_endOfFigures 12 = .ok (.invokevirtual 19, 3) := by decide +kernel
theorem dX6_endOfFigures_15 : decode cX6_endOfFigures 15 = .ok (.invokestatic 30, 3) := by decide +kernel
theorem dX6_endOfFigures_18 : decode cX6_endOfFigures 18 = .ok (.ifCond .eq 9, 3) := by decide +kernel
theorem dX6_endOfFigures_21 : decode cX6_endOfFigures 21 = .ok (.iinc 2 1, 3) := by decide +kernel
theorem dX6_endOfFigures_24 : decode cX6_endOfFigures 24 = .ok (.goto (-22), 3) := by decide +kernel
theorem dX6_endOfFigures_27 : decode cX6_endOfFigures 27 = .ok (.iload_n 2, 1) := by decide +kernel
theorem dX6_endOfFigures_28 : decode cX6_endOfFigures 28 = .ok (.ireturn, 1) := by decide +kernel
theorem dX6_isBlank_0 : decode cX6_isBlank 0 = .ok (.iload_n 0, 1) := by decide +kernel
theorem dX6_isBlank_1 : decode cX6_isBlank 1 = .ok (.bipush 32, 2) := by decide +kernel
theorem dX6_isBlank_3 : decode cX6_isBlank 3 = .ok (.if_icmp .eq 9, 3) := by decide +kernel
theorem dX6_isBlank_6 : decode cX6_isBlank 6 = .ok (.iload_n 0, 1) := by decide +kernel
theorem dX6_isBlank_7 : decode cX6_isBlank 7 = .ok (.bipush 10, 2) := by decide +kernel
theorem dX6_isBlank_9 : decode cX6_isBlank 9 = .ok (.if_icmp .ne 7, 3) := by decide +kernel
theorem dX6_isBlank_12 : decode cX6_isBlank 12 = .ok (.iconst 1, 1) := by decide +kernel
theorem dX6_isBlank_13 : decode cX6_isBlank 13 = .ok (.goto 4, 3) := by decide +kernel
theorem dX6_isBlank_16 : decode cX6_isBlank 16 = .ok (.iconst 0, 1) := by decide +kernel
theorem dX6_isBlank_17 : decode cX6_isBlank 17 = .ok (.ireturn, 1) := by decide +kernel
theorem dX6_isLetter_0 : decode cX6_isLetter 0 = .ok (.iload_n 0, 1) := by decide +kernel
theorem dX6_isLetter_1 : decode cX6_isLetter 1 = .ok (.bipush 97, 2) := by decide +kernel
theorem dX6_isLetter_3 : decode cX6_isLetter 3 = .ok (.if_icmp .lt 13, 3) := by decide +kernel
theorem dX6_isLetter_6 : decode cX6_isLetter 6 = .ok (.iload_n 0, 1) := by decide +kernel
theorem dX6_isLetter_7 : decode cX6_isLetter 7 = .ok (.bipush 122, 2) := by decide +kernel
theorem dX6_isLetter_9 : decode cX6_isLetter 9 = .ok (.if_icmp .gt 7, 3) := by decide +kernel
theorem dX6_isLetter_12 : decode cX6_isLetter 12 = .ok (.iconst 1, 1) := by decide +kernel
theorem dX6_isLetter_13 : decode cX6_isLetter 13 = .ok (.goto 4, 3) := by decide +kernel
theorem dX6_isLetter_16 : decode cX6_isLetter 16 = .ok (.iconst 0, 1) := by decide +kernel
theorem dX6_isLetter_17 : decode cX6_isLetter 17 = .ok (.ireturn, 1) := by decide +kernel
theorem dX6_isFigure_0 : decode cX6_isFigure 0 = .ok (.iload_n 0, 1) := by decide +kernel
theorem dX6_isFigure_1 : decode cX6_isFigure 1 = .ok (.bipush 48, 2) := by decide +kernel
theorem dX6_isFigure_3 : decode cX6_isFigure 3 = .ok (.if_icmp .lt 13, 3) := by decide +kernel
theorem dX6_isFigure_6 : decode cX6_isFigure 6 = .ok (.iload_n 0, 1) := by decide +kernel
theorem dX6_isFigure_7 : decode cX6_isFigure 7 = .ok (.bipush 57, 2) := by decide +kernel
theorem dX6_isFigure_9 : decode cX6_isFigure 9 = .ok (.if_icmp .gt 7, 3) := by decide +kernel
theorem dX6_isFigure_12 : decode cX6_isFigure 12 = .ok (.iconst 1, 1) := by decide +kernel
theorem dX6_isFigure_13 : decode cX6_isFigure 13 = .ok (.goto 4, 3) := by decide +kernel
theorem dX6_isFigure_16 : decode cX6_isFigure 16 = .ok (.iconst 0, 1) := by decide +kernel
theorem dX6_isFigure_17 : decode cX6_isFigure 17 = .ok (.ireturn, 1) := by decide +kernel
theorem dX7_init_0 : decode cX7_init 0 = .ok (.aload_n 0, 1) := by decide +kernel
theorem dX7_init_1 : decode cX7_init 1 = .ok (.invokespecial 1, 3) := by decide +kernel
theorem dX7_init_4 : decode cX7_init 4 = .ok (.aload_n 0, 1) := by decide +kernel
theorem dX7_init_5 : decode cX7_init 5 = .ok (.bipush 8, 2) := by decide +kernel
theorem dX7_init_7 : decode cX7_init 7 = .ok (.anewarray 9, 3) := by decide +kernel
theorem dX7_init_10 : decode cX7_init 10 = .ok (.putfield 11, 3) := by decide +kernel
theorem dX7_init_13 : decode cX7_init 13 = .ok (.iconst 0, 1) := by decide +kernel
theorem dX7_init_14 : decode cX7_init 14 = .ok (.istore_n 1, 1) := by decide +kernel
theorem dX7_init_15 : decode cX7_init 15 = .ok (.iload_n 1, 1) := by decide +kernel
theorem dX7_init_16 : decode cX7_init 16 = .ok (.aload_n 0, 1) := by decide +kernel
theorem dX7_init_17 : decode cX7_init 17 = .ok (.getfield 11, 3) := by decide +kernel
theorem dX7_init_20 : decode cX7_init 20 = .ok (.arraylength, 1) := by decide +kernel
theorem dX7_init_21 : decode cX7_init 21 = .ok (.if_icmp .ge 22, 3) := by decide +kernel
theorem dX7_init_24 : decode cX7_init 24 = .ok (.aload_n 0, 1) := by decide +kernel
theorem dX7_init_25 : decode cX7_init 25 = .ok (.getfield 11, 3) := by decide +kernel
theorem dX7_init_28 : decode cX7_init 28 = .ok (.iload_n 1, 1) := by decide +kernel
theorem dX7_init_29 : decode cX7_init 29 = .ok (.new 9, 3) := by decide +kernel
theorem dX7_init_32 : decode cX7_init 32 = .ok (.dup, 1) := by decide +kernel
theorem dX7_init_33 : decode cX7_init 33 = .ok (.invokespecial 15, 3) := by decide +kernel
theorem dX7_init_36 : decode cX7_init 36 = .ok (.aastore, 1) := by decide +kernel
theorem dX7_init_37 : decode cX7_init 37 = .ok (.iinc 1 1, 3) := by decide +kernel
theorem dX7_init_40 : decode cX7_init 40 = .ok (.goto (-25), 3) := by decide +kernel
theorem dX7_init_43 : decode cX7_init 43 = .ok (.aload_n 0, 1) := by decide +kernel
theorem dX7_init_44 : decode cX7_init 44 = .ok (.iconst 2, 1) := by decide +kernel
theorem dX7_init_45 : decode cX7_init 45 = .ok (.anewarray 16, 3) := by decide +kernel
theorem dX7_init_48 : decode cX7_init 48 = .ok (.putfield 18, 3) := by decide +kernel
theorem dX7_init_51 : decode cX7_init 51 = .ok (.iconst 0, 1) := by decide +kernel
theorem dX7_init_52 : decode cX7_init 52 = .ok (.istore_n 1, 1) := by decide +kernel
theorem dX7_init_53 : decode cX7_init 53 = .ok (.iload_n 1, 1) := by decide +kernel
theorem dX7_init_54 : decode cX7_init 54 = .ok (.aload_n 0, 1) := by decide +kernel
theorem dX7_init_55 : decode cX7_init 55 = .ok (.getfield 18, 3) := by decide +kernel
theorem dX7_init_58 : decode cX7_init 58 = .ok (.arraylength, 1) := by decide +kernel
theorem dX7_init_59 : decode cX7_init 59 = .ok (.if_icmp .ge 22, 3) := by decide +kernel
theorem dX7_init_62 : decode cX7_init 62 = .ok (.aload_n 0, 1) := by decide +kernel
theorem dX7_init_63 : decode cX7_init 63 = .ok (.getfield 18, 3) := by decide +kernel
theorem dX7_init_66 : decode cX7_init 66 = .ok (.iload_n 1, 1) := by decide +kernel
theorem dX7_init_67 : decode cX7_init 67 = .ok (.new 16, 3) := by decide +kernel
theorem dX7_init_70 : decode cX7_init 70 = .ok (.dup, 1) := by decide +kernel
theorem dX7_init_71 : decode cX7_init 71 = .ok (.invokespecial 22, 3) := by decide +kernel
theorem dX7_init_74 : decode cX7_init 74 = .ok (.aastore, 1) := by decide +kernel
theorem dX7_init_75 : decode cX7_init 75 = .ok (.iinc 1 1, 3) := by decide +kernel
theorem dX7_init_78 : decode cX7_init 78 = .ok (.goto (-25), 3) := by decide +kernel
theorem dX7_init_81 : decode cX7_init 81 = .ok (.aload_n 0, 1) := by decide +kernel
theorem dX7_init_82 : decode cX7_init 82 = .ok (.new 23, 3) := by decide +kernel
theorem dX7_init_85 : decode cX7_init 85 = .ok (.dup, 1) := by decide +kernel
theorem dX7_init_86 : decode cX7_init 86 = .ok (.invokespecial 25, 3) := by decide +kernel
theorem dX7_init_89 : decode cX7_init 89 = .ok (.putfield 26, 3) := by decide +kernel
theorem dX7_init_92 : decode cX7_init 92 = .ok (.aload_n 0, 1) := by decide +kernel
theorem dX7_init_93 : decode cX7_init 93 = .ok (.new 16, 3) := by decide +kernel
theorem dX7_init_96 : decode cX7_init 96 = .ok (.dup, 1) := by decide +kernel
theorem dX7_init_97 : decode cX7_init 97 = .ok (.invokespecial 22, 3) := by decide +kernel
theorem dX7_init_100 : decode cX7_init 100 = .ok (.putfield 30, 3) := by decide +kernel
theorem dX7_init_103 : decode cX7_init 103 = .ok (.aload_n 0, 1) := by decide +kernel
theorem dX7_init_104 : decode cX7_init 104 = .ok (.new 34, 3) := by decide +kernel
theorem dX7_init_107 : decode cX7_init 107 = .ok (.dup, 1) := by decide +kernel
theorem dX7_init_108 : decode cX7_init 108 = .ok (.invokespecial 36, 3) := by decide +kernel
theorem dX7_init_111 : decode cX7_init 111 = .ok (.putfield 37, 3) := by decide +kernel
theorem dX7_init_114 : decode cX7_init 114 = .ok (.aload_n 0, 1) := by decide +kernel
theorem dX7_init_115 : decode cX7_init 115 = .ok (.new 41, 3) := by decide +kernel
theorem dX7_init_118 : decode cX7_init 118 = .ok (.dup, 1) := by decide +kernel
theorem dX7_init_119 : decode cX7_init 119 = .ok (.invokespecial 43, 3) := by decide +kernel
theorem dX7_init_122 : decode cX7_init 122 = .ok (.putfield 44, 3) := by decide +kernel
theorem dX7_init_125 : decode cX7_init 125 = .ok (.aload_n 0, 1) := by decide +kernel
theorem dX7_init_126 : decode cX7_init 126 = .ok (.new 48, 3) := by decide +kernel
theorem dX7_init_129 : decode cX7_init 129 = .ok (.dup, 1) := by decide +kernel
theorem dX7_init_130 : decode cX7_init 130 = .ok (.invokespecial 50, 3) := by decide +kernel
theorem dX7_init_133 : decode cX7_init 133 = .ok (.putfield 51, 3) := by decide +kernel
theorem dX7_init_136 : decode cX7_init 136 = .ok (.return_, 1) := by decide +kernel
theorem dX7_row_0 : decode cX7_row 0 = .ok (.aload_n 0, 1) := by decide +kernel
theorem dX7_row_1 : decode cX7_row 1 = .ok (.iload_n 1, 1) := by decide +kernel
theorem dX7_row_2 : decode cX7_row 2 = .ok (.invokevirtual 55, 3) := by decide +kernel
theorem dX7_row_5 : decode cX7_row 5 = .ok (.astore 4, 2) := by decide +kernel
theorem dX7_row_7 : decode cX7_row 7 = .ok (.aload 4, 2) := by decide +kernel
theorem dX7_row_9 : decode cX7_row 9 = .ok (.ifnull 18, 3) := by decide +kernel
theorem dX7_row_12 : decode cX7_row 12 = .ok (.iload_n 2, 1) := by decide +kernel
theorem dX7_row_13 : decode cX7_row 13 = .ok (.iconst 0, 1) := by decide +kernel
theorem dX7_row_14 : decode cX7_row 14 = .ok (.iconst 2, 1) := by decide +kernel
theorem dX7_row_15 : decode cX7_row 15 = .ok (.invokestatic 59, 3) := by decide +kernel
theorem dX7_row_18 : decode cX7_row 18 = .ok (.ifCond .eq 9, 3) := by decide +kernel
theorem dX7_row_21 : decode cX7_row 21 = .ok (.iload_n 3, 1) := by decide +kernel
theorem dX7_row_22 : decode cX7_row 22 = .ok (.bipush 40, 2) := by decide +kernel
theorem dX7_row_24 : decode cX7_row 24 = .ok (.if_icmp .le 6, 3) := by decide +kernel
theorem dX7_row_27 : decode cX7_row 27 = .ok (.ldc 63, 2) := by decide +kernel
theorem dX7_row_29 : decode cX7_row 29 = .ok (.ireturn, 1) := by decide +kernel
theorem dX7_row_30 : decode cX7_row 30 = .ok (.iload_n 3, 1) := by decide +kernel
theorem dX7_row_31 : decode cX7_row 31 = .ok (.ifCond .ge 9, 3) := by decide +kernel
theorem dX7_row_34 : decode cX7_row 34 = .ok (.aload_n 0, 1) := by decide +kernel
theorem dX7_row_35 : decode cX7_row 35 = .ok (.iconst 4, 1) := by decide +kernel
theorem dX7_row_36 : decode cX7_row 36 = .ok (.invokevirtual 64, 3) := by decide +kernel
theorem dX7_row_39 : decode cX7_row 39 = .ok (.ireturn, 1) := by decide +kernel
theorem dX7_row_40 : decode cX7_row 40 = .ok (.aload 4, 2) := by decide +kernel
theorem dX7_row_42 : decode cX7_row 42 = .ok (.iload_n 2, 1) := by decide +kernel
theorem dX7_row_43 : decode cX7_row 43 = .ok (.iload_n 3, 1) := by decide +kernel
theorem dX7_row_44 : decode cX7_row 44 = .ok (.invokevirtual 68, 3) := by decide +kernel
theorem dX7_row_47 : decode cX7_row 47 = .ok (.aload_n 0, 1) := by decide +kernel
theorem dX7_row_48 : decode cX7_row 48 = .ok (.iload_n 3, 1) := by decide +kernel
theorem dX7_row_49 : decode cX7_row 49 = .ok (.invokevirtual 72, 3) := by decide +kernel
theorem dX7_row_52 : decode cX7_row 52 = .ok (.ireturn, 1) := by decide +kernel
theorem dX7_set_0 : decode cX7_set 0 = .ok (.aload_n 0, 1) := by decide +kernel
theorem dX7_set_1 : decode cX7_set 1 = .ok (.iload_n 1, 1) := by decide +kernel
theorem dX7_set_2 : decode cX7_set 2 = .ok (.invokevirtual 55, 3) := by decide +kernel
theorem dX7_set_5 : decode cX7_set 5 = .ok (.astore 4, 2) := by decide +kernel
theorem dX7_set_7 : decode cX7_set 7 = .ok (.aload 4, 2) := by decide +kernel
theorem dX7_set_9 : decode cX7_set 9 = .ok (.ifnonnull 6, 3) := by decide +kernel
theorem dX7_set_12 : decode cX7_set 12 = .ok (.ldc 63, 2) := by decide +kernel
theorem dX7_set_14 : decode cX7_set 14 = .ok (.ireturn, 1) := by decide +kernel
theorem dX7_set_15 : decode cX7_set 15 = .ok (.aload 4, 2) := by decide +kernel
theorem dX7_set_17 : decode cX7_set 17 = .ok (.invokevirtual 75, 3) := by decide +kernel
theorem dX7_set_20 : decode cX7_set 20 = .ok (.ifCond .eq 9, 3) := by decide +kernel
theorem dX7_set_23 : decode cX7_set 23 = .ok (.aload_n 0, 1) := by decide +kernel
theorem dX7_set_24 : decode cX7_set 24 = .ok (.iconst 1, 1) := by decide +kernel
theorem dX7_set_25 : decode cX7_set 25 = .ok (.invokevirtual 64, 3) := by decide +kernel
theorem dX7_set_28 : decode cX7_set 28 = .ok (.ireturn, 1) := by decide +kernel
theorem dX7_set_29 : decode cX7_set 29 = .ok (.aload 4, 2) := by decide +kernel
theorem dX7_set_31 : decode cX7_set 31 = .ok (.iload_n 2, 1) := by decide +kernel
theorem dX7_set_32 : decode cX7_set 32 = .ok (.iconst 1, 1) := by decide +kernel
theorem dX7_set_33 : decode cX7_set 33 = .ok (.invokevirtual 79, 3) := by decide +kernel
theorem dX7_set_36 : decode cX7_set 36 = .ok (.ifCond .ne 9, 3) := by decide +kernel
theorem dX7_set_39 : decode cX7_set 39 = .ok (.aload_n 0, 1) := by decide +kernel
theorem dX7_set_40 : decode cX7_set 40 = .ok (.iconst 2, 1) := by decide +kernel
theorem dX7_set_41 : decode cX7_set 41 = .ok (.invokevirtual 64, 3) := by decide +kernel
theorem dX7_set_44 : decode cX7_set 44 = .ok (.ireturn, 1) := by decide +kernel
theorem dX7_set_45 : decode cX7_set 45 = .ok (.aload 4, 2) := by decide +kernel
theorem dX7_set_47 : decode cX7_set 47 = .ok (.iload_n 2, 1) := by decide +kernel
theorem dX7_set_48 : decode cX7_set 48 = .ok (.iload_n 3, 1) := by decide +kernel
theorem dX7_set_49 : decode cX7_set 49 = .ok (.invokevirtual 83, 3) := by decide +kernel
theorem dX7_set_52 : decode cX7_set 52 = .ok (.aload_n 0, 1) := by decide +kernel
theorem dX7_set_53 : decode cX7_set 53 = .ok (.aload 4, 2) := by decide +kernel
theorem dX7_set_55 : decode cX7_set 55 = .ok (.iload_n 2, 1) := by decide +kernel
theorem dX7_set_56 : decode cX7_set 56 = .ok (.invokevirtual 86, 3) := by decide +kernel
theorem dX7_set_59 : decode cX7_set 59 = .ok (.invokevirtual 72, 3) := by decide +kernel
theorem dX7_set_62 : decode cX7_set 62 = .ok (.ireturn, 1) := by decide +kernel
theorem dX7_copy_0 : decode cX7_copy 0 = .ok (.aload_n 0, 1) := by decide +kernel
theorem dX7_copy_1 : decode cX7_copy 1 = .ok (.iload_n 1, 1) := by decide +kernel
theorem dX7_copy_2 : decode cX7_copy 2 = .ok (.invokevirtual 55, 3) := by decide +kernel
theorem dX7_copy_5 : decode cX7_copy 5 = .ok (.astore 6, 2) := by decide +kernel
theorem dX7_copy_7 : decode cX7_copy 7 = .ok (.aload_n 0, 1) := by decide +kernel
theorem dX7_copy_8 : decode cX7_copy 8 = .ok (.iload_n 3, 1) := by decide +kernel
theorem dX7_copy_9 : decode cX7_copy 9 = .ok (.invokevirtual 55, 3) := by decide +kernel
theorem dX7_copy_12 : decode cX7_copy 12 = .ok (.astore 7, 2) := by decide +kernel
theorem dX7_copy_14 : decode cX7_copy 14 = .ok (.aload 6, 2) := by decide +kernel
theorem dX7_copy_16 : decode cX7_copy 16 = .ok (.ifnull 8, 3) := by decide +kernel
theorem dX7_copy_19 : decode cX7_copy 19 = .ok (.aload 7, 2) := by decide +kernel
theorem dX7_copy_21 : decode cX7_copy 21 = .ok (.ifnonnull 6, 3) := by decide +kernel
theorem dX7_copy_24 : decode cX7_copy 24 = .ok (.ldc 63, 2) := by decide +kernel
theorem dX7_copy_26 : decode cX7_copy 26 = .ok (.ireturn, 1) := by decide +kernel
theorem dX7_copy_27 : decode cX7_copy 27 = .ok (.aload 6, 2) := by decide +kernel
theorem dX7_copy_29 : decode cX7_copy 29 = .ok (.invokevirtual 75, 3) := by decide +kernel
theorem dX7_copy_32 : decode cX7_copy 32 = .ok (.ifCond .ne 11, 3) := by decide +kernel
theorem dX7_copy_35 : decode cX7_copy 35 = .ok (.aload 7, 2) := by decide +kernel
theorem dX7_copy_37 : decode cX7_copy 37 = .ok (.invokevirtual 75, 3) := by decide +kernel
theorem dX7_copy_40 : decode cX7_copy 40 = .ok (.ifCond .eq 9, 3) := by decide +kernel
theorem dX7_copy_43 : decode cX7_copy 43 = .ok (.aload_n 0, 1) := by decide +kernel
theorem dX7_copy_44 : decode cX7_copy 44 = .ok (.iconst 1, 1) := by decide +kernel
theorem dX7_copy_45 : decode cX7_copy 45 = .ok (.invokevirtual 64, 3) := by decide +kernel
theorem dX7_copy_48 : decode cX7_copy 48 = .ok (.ireturn, 1) := by decide +kernel
theorem dX7_copy_49 : decode cX7_copy 49 = .ok (.aload 6, 2) := by decide +kernel
theorem dX7_copy_51 : decode cX7_copy 51 = .ok (.getfield 89, 3) := by decide +kernel
theorem dX7_copy_54 : decode cX7_copy 54 = .ok (.aload 7, 2) := by decide +kernel
theorem dX7_copy_56 : decode cX7_copy 56 = .ok (.getfield 89, 3) := by decide +kernel
theorem dX7_copy_59 : decode cX7_copy 59 = .ok (.if_icmp .eq 9, 3) := by decide +kernel
theorem dX7_copy_62 : decode cX7_copy 62 = .ok (.aload_n 0, 1) := by decide +kernel
theorem dX7_copy_63 : decode cX7_copy 63 = .ok (.iconst 5, 1) := by decide +kernel
theorem dX7_copy_64 : decode cX7_copy 64 = .ok (.invokevirtual 64, 3) := by decide +kernel
theorem dX7_copy_67 : decode cX7_copy 67 = .ok (.ireturn, 1) := by decide +kernel
theorem dX7_copy_68 : decode cX7_copy 68 = .ok (.aload 6, 2) := by decide +kernel
theorem dX7_copy_70 : decode cX7_copy 70 = .ok (.iload_n 2, 1) := by decide +kernel
theorem dX7_copy_71 : decode cX7_copy 71 = .ok (.iload 5, 2) := by decide +kernel
theorem dX7_copy_73 : decode cX7_copy 73 = .ok (.invokevirtual 79, 3) := by decide +kernel
theorem dX7_copy_76 : decode cX7_copy 76 = .ok (.ifCond .eq 15, 3) := by decide +kernel
theorem dX7_copy_79 : decode cX7_copy 79 = .ok (.aload 7, 2) := by decide +kernel
theorem dX7_copy_81 : decode cX7_copy 81 = .ok (.iload 4, 2) := by decide +kernel
theorem dX7_copy_83 : decode cX7_copy 83 = .ok (.iload 5, 2) := by decide +kernel
theorem dX7_copy_85 : decode cX7_copy 85 = .ok (.invokevirtual 79, 3) := by decide +kernel
theorem dX7_copy_88 : decode cX7_copy 88 = .ok (.ifCond .ne 9, 3) := by decide +kernel
theorem dX7_copy_91 : decode cX7_copy 91 = .ok (.aload_n 0, 1) := by decide +kernel
theorem dX7_copy_92 : decode cX7_copy 92 = .ok (.iconst 2, 1) := by decide +kernel
theorem dX7_copy_93 : decode cX7_copy 93 = .ok (.invokevirtual 64, 3) := by decide +kernel
theorem dX7_copy_96 : decode cX7_copy 96 = .ok (.ireturn, 1) := by decide +kernel
theorem dX7_copy_97 : decode cX7_copy 97 = .ok (.aload 7, 2) := by decide +kernel
theorem dX7_copy_99 : decode cX7_copy 99 = .ok (.aload 6, 2) := by decide +kernel
theorem dX7_copy_101 : decode cX7_copy 101 = .ok (.iload_n 2, 1) := by decide +kernel
theorem dX7_copy_102 : decode cX7_copy 102 = .ok (.iload 4, 2) := by decide +kernel
theorem dX7_copy_104 : decode cX7_copy 104 = .ok (.iload 5, 2) := by decide +kernel
theorem dX7_copy_106 : decode cX7_copy 106 = .ok (.invokevirtual 93, 3) := by decide +kernel
theorem dX7_copy_109 : decode cX7_copy 109 = .ok (.aload_n 0, 1) := by decide +kernel
theorem dX7_copy_110 : decode cX7_copy 110 = .ok (.iload 5, 2) := by decide +kernel
theorem dX7_copy_112 : decode cX7_copy 112 = .ok (.invokevirtual 72, 3) := by decide +kernel
theorem dX7_copy_115 : decode cX7_copy 115 = .ok (.ireturn, 1) := by decide +kernel
theorem dX7_drop_0 : decode cX7_drop 0 = .ok (.aload_n 0, 1) := by decide +kernel
theorem dX7_drop_1 : decode cX7_drop 1 = .ok (.iload_n 1, 1) := by decide +kernel
theorem dX7_drop_2 : decode cX7_drop 2 = .ok (.invokevirtual 55, 3) := by decide +kernel
theorem dX7_drop_5 : decode cX7_drop 5 = .ok (.astore_n 2, 1) := by decide +kernel
theorem dX7_drop_6 : decode cX7_drop 6 = .ok (.aload_n 2, 1) := by decide +kernel
theorem dX7_drop_7 : decode cX7_drop 7 = .ok (.ifnonnull 6, 3) := by decide +kernel
theorem dX7_drop_10 : decode cX7_drop 10 = .ok (.ldc 63, 2) := by decide +kernel
theorem dX7_drop_12 : decode cX7_drop 12 = .ok (.ireturn, 1) := by decide +kernel
theorem dX7_drop_13 : decode cX7_drop 13 = .ok (.aload_n 2, 1) := by decide +kernel
theorem dX7_drop_14 : decode cX7_drop 14 = .ok (.invokevirtual 75, 3) := by decide +kernel
theorem dX7_drop_17 : decode cX7_drop 17 = .ok (.ifCond .eq 9, 3) := by decide +kernel
theorem dX7_drop_20 : decode cX7_drop 20 = .ok (.aload_n 0, 1) := by decide +kernel
theorem dX7_drop_21 : decode cX7_drop 21 = .ok (.iconst 1, 1) := by decide +kernel
theorem dX7_drop_22 : decode cX7_drop 22 = .ok (.invokevirtual 64, 3) := by decide +kernel
theorem dX7_drop_25 : decode cX7_drop 25 = .ok (.ireturn, 1) := by decide +kernel
theorem dX7_drop_26 : decode cX7_drop 26 = .ok (.aload_n 2, 1) := by decide +kernel
theorem dX7_drop_27 : decode cX7_drop 27 = .ok (.getfield 97, 3) := by decide +kernel
theorem dX7_drop_30 : decode cX7_drop 30 = .ok (.istore_n 3, 1) := by decide +kernel
theorem dX7_drop_31 : decode cX7_drop 31 = .ok (.aload_n 2, 1) := by decide +kernel
theorem dX7_drop_32 : decode cX7_drop 32 = .ok (.invokevirtual 100, 3) := by decide +kernel
theorem dX7_drop_35 : decode cX7_drop 35 = .ok (.aload_n 0, 1) := by decide +kernel
theorem dX7_drop_36 : decode cX7_drop 36 = .ok (.iload_n 3, 1) := by decide +kernel
theorem dX7_drop_37 : decode cX7_drop 37 = .ok (.invokevirtual 72, 3) := by decide +kernel
theorem dX7_drop_40 : decode cX7_drop 40 = .ok (.ireturn, 1) := by decide +kernel
theorem dX7_feed_0 : decode cX7_feed 0 = .ok (.iload_n 3, 1) := by decide +kernel
theorem dX7_feed_1 : decode cX7_feed 1 = .ok (.iconst 1, 1) := by decide +kernel
theorem dX7_feed_2 : decode cX7_feed 2 = .ok (.bipush 8, 2) := by decide +kernel
theorem dX7_feed_4 : decode cX7_feed 4 = .ok (.invokestatic 59, 3) := by decide +kernel
theorem dX7_feed_7 : decode cX7_feed 7 = .ok (.ifCond .ne 6, 3) := by decide +kernel
theorem dX7_feed_10 : decode cX7_feed 10 = .ok (.ldc 63, 2) := by decide +kernel
theorem dX7_feed_12 : decode cX7_feed 12 = .ok (.ireturn, 1) := by decide +kernel
theorem dX7_feed_13 : decode cX7_feed 13 = .ok (.aload_n 0, 1) := by decide +kernel
theorem dX7_feed_14 : decode cX7_feed 14 = .ok (.getfield 26, 3) := by decide +kernel
theorem dX7_feed_17 : decode cX7_feed 17 = .ok (.getfield 103, 3) := by decide +kernel
theorem dX7_feed_20 : decode cX7_feed 20 = .ok (.getfield 107, 3) := by decide +kernel
theorem dX7_feed_23 : decode cX7_feed 23 = .ok (.iload_n 3, 1) := by decide +kernel
theorem dX7_feed_24 : decode cX7_feed 24 = .ok (.iadd, 1) := by decide +kernel
theorem dX7_feed_25 : decode cX7_feed 25 = .ok (.sipush 300, 3) := by decide +kernel
theorem dX7_feed_28 : decode cX7_feed 28 = .ok (.if_icmp .le 6, 3) := by decide +kernel
theorem dX7_feed_31 : decode cX7_feed 31 = .ok (.ldc 110, 2) := by decide +kernel
theorem dX7_feed_33 : decode cX7_feed 33 = .ok (.ireturn, 1) := by decide +kernel
theorem dX7_feed_34 : decode cX7_feed 34 = .ok (.iload_n 3, 1) := by decide +kernel
theorem dX7_feed_35 : decode cX7_feed 35 = .ok (.iconst 1, 1) := by decide +kernel
theorem dX7_feed_36 : decode cX7_feed 36 = .ok (.isub, 1) := by decide +kernel
theorem dX7_feed_37 : decode cX7_feed 37 = .ok (.istore 4, 2) := by decide +kernel
theorem dX7_feed_39 : decode cX7_feed 39 = .ok (.iload 4, 2) := by decide +kernel
theorem dX7_feed_41 : decode cX7_feed 41 = .ok (.ifCond .lt 31, 3) := by decide +kernel
theorem dX7_feed_44 : decode cX7_feed 44 = .ok (.aload_n 0, 1) := by decide +kernel
theorem dX7_feed_45 : decode cX7_feed 45 = .ok (.getfield 26, 3) := by decide +kernel
theorem dX7_feed_48 : decode cX7_feed 48 = .ok (.getfield 103, 3) := by decide +kernel
theorem dX7_feed_51 : decode cX7_feed 51 = .ok (.lload_n 1, 1) := by decide +kernel
theorem dX7_feed_52 : decode cX7_feed 52 = .ok (.bipush 8, 2) := by decide +kernel
theorem dX7_feed_54 : decode cX7_feed 54 = .ok (.iload 4, 2) := by decide +kernel
theorem dX7_feed_56 : decode cX7_feed 56 = .ok (.imul, 1) := by decide +kernel
theorem dX7_feed_57 : decode cX7_feed 57 = .ok (.lshr, 1) := by decide +kernel
theorem dX7_feed_58 : decode cX7_feed 58 = .ok (.l2i, 1) := by decide +kernel
theorem dX7_feed_59 : decode cX7_feed 59 = .ok (.sipush 255, 3) := by decide +kernel
theorem dX7_feed_62 : decode cX7_feed 62 = .ok (.iand, 1) := by decide +kernel
theorem dX7_feed_63 : decode cX7_feed 63 = .ok (.invokevirtual 111, 3) := by decide +kernel
theorem dX7_feed_66 : decode cX7_feed 66 = .ok (.iinc 4 (-1), 3) := by decide +kernel
theorem dX7_feed_69 : decode cX7_feed 69 = .ok (.goto (-30), 3) := by decide +kernel
theorem dX7_feed_72 : decode cX7_feed 72 = .ok (.aload_n 0, 1) := by decide +kernel
theorem dX7_feed_73 : decode cX7_feed 73 = .ok (.getfield 26, 3) := by decide +kernel
theorem dX7_feed_76 : decode cX7_feed 76 = .ok (.getfield 103, 3) := by decide +kernel
theorem dX7_feed_79 : decode cX7_feed 79 = .ok (.getfield 107, 3) := by decide +kernel
theorem dX7_feed_82 : decode cX7_feed 82 = .ok (.ireturn, 1) := by decide +kernel
theorem dX7_table_0 : decode cX7_table 0 = .ok (.aload_n 0, 1) := by decide +kernel
theorem dX7_table_1 : decode cX7_table 1 = .ok (.getfield 26, 3) := by decide +kernel
theorem dX7_table_4 : decode cX7_table 4 = .ok (.invokevirtual 115, 3) := by decide +kernel
theorem dX7_table_7 : decode cX7_table 7 = .ok (.aload_n 0, 1) := by decide +kernel
theorem dX7_table_8 : decode cX7_table 8 = .ok (.getfield 26, 3) := by decide +kernel
theorem dX7_table_11 : decode cX7_table 11 = .ok (.getfield 103, 3) := by decide +kernel
theorem dX7_table_14 : decode cX7_table 14 = .ok (.invokevirtual 118, 3) := by decide +kernel
theorem dX7_table_17 : decode cX7_table 17 = .ok (.aload_n 0, 1) := by decide +kernel
theorem dX7_table_18 : decode cX7_table 18 = .ok (.getfield 26, 3) := by decide +kernel
theorem dX7_table_21 : decode cX7_table 21 = .ok (.getfield 121, 3) := by decide +kernel
theorem dX7_table_24 : decode cX7_table 24 = .ok (.ifCond .eq 25, 3) := by decide +kernel
theorem dX7_table_27 : decode cX7_table 27 = .ok (.aload_n 0, 1) := by decide +kernel
theorem dX7_table_28 : decode cX7_table 28 = .ok (.aload_n 0, 1) := by decide +kernel
theorem dX7_table_29 : decode cX7_table 29 = .ok (.getfield 26, 3) := by decide +kernel
theorem dX7_table_32 : decode cX7_table 32 = .ok (.getfield 121, 3) := by decide +kernel
theorem dX7_table_35 : decode cX7_table 35 = .ok (.putfield 124, 3) := by decide +kernel
theorem dX7_table_38 : decode cX7_table 38 = .ok (.ldc 127, 2) := by decide +kernel
theorem dX7_table_40 : decode cX7_table 40 = .ok (.aload_n 0, 1) := by decide +kernel
theorem dX7_table_41 : decode cX7_table 41 = .ok (.getfield 26, 3) := by decide +kernel
theorem dX7_table_44 : decode cX7_table 44 = .ok (.getfield 128, 3) := by decide +kernel
theorem dX7_table_47 : decode cX7_table 47 = .ok (.isub, 1) := by decide +kernel
theorem dX7_table_48 : decode cX7_table 48 = .ok (.ireturn, 1) := by decide +kernel
theorem dX7_table_49 : decode cX7_table 49 = .ok (.aload_n 0, 1) := by decide +kernel
theorem dX7_table_50 : decode cX7_table 50 = .ok (.getfield 30, 3) := by decide +kernel
theorem dX7_table_53 : decode cX7_table 53 = .ok (.aload_n 0, 1) := by decide +kernel
theorem dX7_table_54 : decode cX7_table 54 = .ok (.getfield 26, 3) := by decide +kernel
theorem dX7_table_57 : decode cX7_table 57 = .ok (.getfield 131, 3) := by decide +kernel
theorem dX7_table_60 : decode cX7_table 60 = .ok (.invokevirtual 134, 3) := by decide +kernel
theorem dX7_table_63 : decode cX7_table 63 = .ok (.aload_n 0, 1) := by decide +kernel
theorem dX7_table_64 : decode cX7_table 64 = .ok (.getfield 37, 3) := by decide +kernel
theorem dX7_table_67 : decode cX7_table 67 = .ok (.invokevirtual 138, 3) := by decide +kernel
theorem dX7_table_70 : decode cX7_table 70 = .ok (.aload_n 0, 1) := by decide +kernel
theorem dX7_table_71 : decode cX7_table 71 = .ok (.getfield 30, 3) := by decide +kernel
theorem dX7_table_74 : decode cX7_table 74 = .ok (.getfield 141, 3) := by decide +kernel
theorem dX7_table_77 : decode cX7_table 77 = .ok (.ireturn, 1) := by decide +kernel
theorem dX7_fault_0 : decode cX7_fault 0 = .ok (.aload_n 0, 1) := by decide +kernel
theorem dX7_fault_1 : decode cX7_fault 1 = .ok (.getfield 124, 3) := by decide +kernel
theorem dX7_fault_4 : decode cX7_fault 4 = .ok (.ireturn, 1) := by decide +kernel
theorem dX7_minutes_0 : decode cX7_minutes 0 = .ok (.aload_n 0, 1) := by decide +kernel
theorem dX7_minutes_1 : decode cX7_minutes 1 = .ok (.getfield 30, 3) := by decide +kernel
theorem dX7_minutes_4 : decode cX7_minutes 4 = .ok (.invokevirtual 144, 3) := by decide +kernel
theorem dX7_minutes_7 : decode cX7_minutes 7 = .ok (.ifCond .ne 6, 3) := by decide +kernel
theorem dX7_minutes_10 : decode cX7_minutes 10 = .ok (.ldc 147, 2) := by decide +kernel
theorem dX7_minutes_12 : decode cX7_minutes 12 = .ok (.ireturn, 1) := by decide +kernel
theorem dX7_minutes_13 : decode cX7_minutes 13 = .ok (.iload_n 1, 1) := by decide +kernel
theorem dX7_minutes_14 : decode cX7_minutes 14 = .ok (.iconst 1, 1) := by decide +kernel
theorem dX7_minutes_15 : decode cX7_minutes 15 = .ok (.bipush 24, 2) := by decide +kernel
theorem dX7_minutes_17 : decode cX7_minutes 17 = .ok (.invokestatic 59, 3) := by decide +kernel
theorem dX7_minutes_20 : decode cX7_minutes 20 = .ok (.ifCond .ne 6, 3) := by decide +kernel
theorem dX7_minutes_23 : decode cX7_minutes 23 = .ok (.ldc 63, 2) := by decide +kernel
theorem dX7_minutes_25 : decode cX7_minutes 25 = .ok (.ireturn, 1) := by decide +kernel
theorem dX7_minutes_26 : decode cX7_minutes 26 = .ok (.aload_n 0, 1) := by decide +kernel
theorem dX7_minutes_27 : decode cX7_minutes 27 = .ok (.getfield 30, 3) := by decide +kernel
theorem dX7_minutes_30 : decode cX7_minutes 30 = .ok (.getfield 148, 3) := by decide +kernel
theorem dX7_minutes_33 : decode cX7_minutes 33 = .ok (.iload_n 1, 1) := by decide +kernel
theorem dX7_minutes_34 : decode cX7_minutes 34 = .ok (.iadd, 1) := by decide +kernel
theorem dX7_minutes_35 : decode cX7_minutes 35 = .ok (.sipush 999, 3) := by decide +kernel
theorem dX7_minutes_38 : decode cX7_minutes 38 = .ok (.if_icmp .le 6, 3) := by decide +kernel
theorem dX7_minutes_41 : decode cX7_minutes 41 = .ok (.ldc 110, 2) := by decide +kernel
theorem dX7_minutes_43 : decode cX7_minutes 43 = .ok (.ireturn, 1) := by decide +kernel
theorem dX7_minutes_44 : decode cX7_minutes 44 = .ok (.iconst 0, 1) := by decide +kernel
theorem dX7_minutes_45 : decode cX7_minutes 45 = .ok (.istore_n 2, 1) := by decide +kernel
theorem dX7_minutes_46 : decode cX7_minutes 46 = .ok (.iload_n 2, 1) := by decide +kernel
theorem dX7_minutes_47 : decode cX7_minutes 47 = .ok (.iload_n 1, 1) := by decide +kernel
theorem dX7_minutes_48 : decode cX7_minutes 48 = .ok (.if_icmp .ge 27, 3) := by decide +kernel
theorem dX7_minutes_51 : decode cX7_minutes 51 = .ok (.aload_n 0, 1) := by decide +kernel
theorem dX7_minutes_52 : decode cX7_minutes 52 = .ok (.getfield 37, 3) := by decide +kernel
theorem dX7_minutes_55 : decode cX7_minutes 55 = .ok (.aload_n 0, 1) := by decide +kernel
theorem dX7_minutes_56 : decode cX7_minutes 56 = .ok (.getfield 30, 3) := by decide +kernel
theorem dX7_minutes_59 : decode cX7_minutes 59 = .ok (.invokevirtual 151, 3) := by decide +kernel
theorem dX7_minutes_62 : decode cX7_minutes 62 = .ok (.aload_n 0, 1) := by decide +kernel
theorem dX7_minutes_63 : decode cX7_minutes 63 = .ok (.getfield 30, 3) := by decide +kernel
theorem dX7_minutes_66 : decode cX7_minutes 66 = .ok (.invokevirtual 154, 3) := by decide +kernel
theorem dX7_minutes_69 : decode cX7_minutes 69 = .ok (.iinc 2 1, 3) := by decide +kernel
theorem dX7_minutes_72 : decode cX7_minutes 72 = .ok (.goto (-26), 3) := by decide +kernel
theorem dX7_minutes_75 : decode cX7_minutes 75 = .ok (.aload_n 0, 1) := by decide +kernel
theorem dX7_minutes_76 : decode cX7_minutes 76 = .ok (.getfield 30, 3) := by decide +kernel
theorem dX7_minutes_79 : decode cX7_minutes 79 = .ok (.getfield 157, 3) := by decide +kernel
theorem dX7_minutes_82 : decode cX7_minutes 82 = .ok (.ireturn, 1) := by decide +kernel
theorem dX7_turn_0 : decode cX7_turn 0 = .ok (.aload_n 0, 1) := by decide +kernel
theorem dX7_turn_1 : decode cX7_turn 1 = .ok (.getfield 30, 3) := by decide +kernel
theorem dX7_turn_4 : decode cX7_turn 4 = .ok (.invokevirtual 144, 3) := by decide +kernel
theorem dX7_turn_7 : decode cX7_turn 7 = .ok (.ifCond .ne 6, 3) := by decide +kernel
theorem dX7_turn_10 : decode cX7_turn 10 = .ok (.ldc 147, 2) := by decide +kernel
theorem dX7_turn_12 : decode cX7_turn 12 = .ok (.ireturn, 1) := by decide +kernel
theorem dX7_turn_13 : decode cX7_turn 13 = .ok (.iload_n 1, 1) := by decide +kernel
theorem dX7_turn_14 : decode cX7_turn 14 = .ok (.bipush (-9), 2) := by decide +kernel
theorem dX7_turn_16 : decode cX7_turn 16 = .ok (.bipush 9, 2) := by decide +kernel
theorem dX7_turn_18 : decode cX7_turn 18 = .ok (.invokestatic 59, 3) := by decide +kernel
theorem dX7_turn_21 : decode cX7_turn 21 = .ok (.ifCond .ne 6, 3) := by decide +kernel
theorem dX7_turn_24 : decode cX7_turn 24 = .ok (.ldc 63, 2) := by decide +kernel
theorem dX7_turn_26 : decode cX7_turn 26 = .ok (.ireturn, 1) := by decide +kernel
theorem dX7_turn_27 : decode cX7_turn 27 = .ok (.aload_n 0, 1) := by decide +kernel
theorem dX7_turn_28 : decode cX7_turn 28 = .ok (.getfield 37, 3) := by decide +kernel
theorem dX7_turn_31 : decode cX7_turn 31 = .ok (.aload_n 0, 1) := by decide +kernel
theorem dX7_turn_32 : decode cX7_turn 32 = .ok (.getfield 30, 3) := by decide +kernel
theorem dX7_turn_35 : decode cX7_turn 35 = .ok (.invokevirtual 151, 3) := by decide +kernel
theorem dX7_turn_38 : decode cX7_turn 38 = .ok (.aload_n 0, 1) := by decide +kernel
theorem dX7_turn_39 : decode cX7_turn 39 = .ok (.getfield 30, 3) := by decide +kernel
theorem dX7_turn_42 : decode cX7_turn 42 = .ok (.iload_n 1, 1) := by decide +kernel
theorem dX7_turn_43 : decode cX7_turn 43 = .ok (.invokevirtual 160, 3) := by decide +kernel
theorem dX7_turn_46 : decode cX7_turn 46 = .ok (.aload_n 0, 1) := by decide +kernel
theorem dX7_turn_47 : decode cX7_turn 47 = .ok (.getfield 30, 3) := by decide +kernel
theorem dX7_turn_50 : decode cX7_turn 50 = .ok (.getfield 157, 3) := by decide +kernel
theorem dX7_turn_53 : decode cX7_turn 53 = .ok (.ireturn, 1) := by decide +kernel
theorem dX7_fill_0 : decode cX7_fill 0 = .ok (.aload_n 0, 1) := by decide +kernel
theorem dX7_fill_1 : decode cX7_fill 1 = .ok (.getfield 30, 3) := by decide +kernel
theorem dX7_fill_4 : decode cX7_fill 4 = .ok (.iload_n 1, 1) := by decide +kernel
theorem dX7_fill_5 : decode cX7_fill 5 = .ok (.invokevirtual 163, 3) := by decide +kernel
theorem dX7_fill_8 : decode cX7_fill 8 = .ok (.ifCond .eq 13, 3) := by decide +kernel
theorem dX7_fill_11 : decode cX7_fill 11 = .ok (.iload_n 2, 1) := by decide +kernel
theorem dX7_fill_12 : decode cX7_fill 12 = .ok (.iconst 1, 1) := by decide +kernel
theorem dX7_fill_13 : decode cX7_fill 13 = .ok (.bipush 30, 2) := by decide +kernel
theorem dX7_fill_15 : decode cX7_fill 15 = .ok (.invokestatic 59, 3) := by decide +kernel
theorem dX7_fill_18 : decode cX7_fill 18 = .ok (.ifCond .ne 6, 3) := by decide +kernel
theorem dX7_fill_21 : decode cX7_fill 21 = .ok (.ldc 63, 2) := by decide +kernel
theorem dX7_fill_23 : decode cX7_fill 23 = .ok (.ireturn, 1) := by decide +kernel
theorem dX7_fill_24 : decode cX7_fill 24 = .ok (.aload_n 0, 1) := by decide +kernel
theorem dX7_fill_25 : decode cX7_fill 25 = .ok (.getfield 30, 3) := by decide +kernel
theorem dX7_fill_28 : decode cX7_fill 28 = .ok (.iconst 4, 1) := by decide +kernel
theorem dX7_fill_29 : decode cX7_fill 29 = .ok (.iload_n 1, 1) := by decide +kernel
theorem dX7_fill_30 : decode cX7_fill 30 = .ok (.invokevirtual 167, 3) := by decide +kernel
theorem dX7_fill_33 : decode cX7_fill 33 = .ok (.iload_n 2, 1) := by decide +kernel
theorem dX7_fill_34 : decode cX7_fill 34 = .ok (.iadd, 1) := by decide +kernel
theorem dX7_fill_35 : decode cX7_fill 35 = .ok (.bipush 99, 2) := by decide +kernel
theorem dX7_fill_37 : decode cX7_fill 37 = .ok (.if_icmp .le 6, 3) := by decide +kernel
theorem dX7_fill_40 : decode cX7_fill 40 = .ok (.ldc 110, 2) := by decide +kernel
theorem dX7_fill_42 : decode cX7_fill 42 = .ok (.ireturn, 1) := by decide +kernel
theorem dX7_fill_43 : decode cX7_fill 43 = .ok (.aload_n 0, 1) := by decide +kernel
theorem dX7_fill_44 : decode cX7_fill 44 = .ok (.getfield 37, 3) := by decide +kernel
theorem dX7_fill_47 : decode cX7_fill 47 = .ok (.aload_n 0, 1) := by decide +kernel
theorem dX7_fill_48 : decode cX7_fill 48 = .ok (.getfield 30, 3) := by decide +kernel
theorem dX7_fill_51 : decode cX7_fill 51 = .ok (.invokevirtual 151, 3) := by decide +kernel
theorem dX7_fill_54 : decode cX7_fill 54 = .ok (.aload_n 0, 1) := by decide +kernel
theorem dX7_fill_55 : decode cX7_fill 55 = .ok (.getfield 30, 3) := by decide +kernel
theorem dX7_fill_58 : decode cX7_fill 58 = .ok (.iconst 4, 1) := by decide +kernel
theorem dX7_fill_59 : decode cX7_fill 59 = .ok (.iload_n 1, 1) := by decide +kernel
theorem dX7_fill_60 : decode cX7_fill 60 = .ok (.iload_n 2, 1) := by decide +kernel
theorem dX7_fill_61 : decode cX7_fill 61 = .ok (.invokevirtual 171, 3) := by decide +kernel
theorem dX7_fill_64 : decode cX7_fill 64 = .ok (.aload_n 0, 1) := by decide +kernel
theorem dX7_fill_65 : decode cX7_fill 65 = .ok (.getfield 30, 3) := by decide +kernel
theorem dX7_fill_68 : decode cX7_fill 68 = .ok (.iconst 4, 1) := by decide +kernel
theorem dX7_fill_69 : decode cX7_fill 69 = .ok (.iload_n 1, 1) := by decide +kernel
theorem dX7_fill_70 : decode cX7_fill 70 = .ok (.invokevirtual 167, 3) := by decide +kernel
theorem dX7_fill_73 : decode cX7_fill 73 = .ok (.ireturn, 1) := by decide +kernel
theorem dX7_change_0 : decode cX7_change 0 = .ok (.aload_n 0, 1) := by decide +kernel
theorem dX7_change_1 : decode cX7_change 1 = .ok (.getfield 30, 3) := by decide +kernel
theorem dX7_change_4 : decode cX7_change 4 = .ok (.iload_n 1, 1) := by decide +kernel
theorem dX7_change_5 : decode cX7_change 5 = .ok (.invokevirtual 163, 3) := by decide +kernel
theorem dX7_change_8 : decode cX7_change 8 = .ok (.ifCond .eq 19, 3) := by decide +kernel
theorem dX7_change_11 : decode cX7_change 11 = .ok (.aload_n 0, 1) := by decide +kernel
theorem dX7_change_12 : decode cX7_change 12 = .ok (.getfield 30, 3) := by decide +kernel
theorem dX7_change_15 : decode cX7_change 15 = .ok (.iload_n 2, 1) := by decide +kernel
theorem dX7_change_16 : decode cX7_change 16 = .ok (.invokevirtual 163, 3) := by decide +kernel
theorem dX7_change_19 : decode cX7_change 19 = .ok (.ifCond .eq 8, 3) := by decide +kernel
theorem dX7_change_22 : decode cX7_change 22 = .ok (.iload_n 1, 1) := by decide +kernel
theorem dX7_change_23 : decode cX7_change 23 = .ok (.iload_n 2, 1) := by decide +kernel
theorem dX7_change_24 : decode cX7_change 24 = .ok (.if_icmp .ne 6, 3) := by decide +kernel
theorem dX7_change_27 : decode cX7_change 27 = .ok (.ldc 63, 2) := by decide +kernel
theorem dX7_change_29 : decode cX7_change 29 = .ok (.ireturn, 1) := by decide +kernel
theorem dX7_change_30 : decode cX7_change 30 = .ok (.aload_n 0, 1) := by decide +kernel
theorem dX7_change_31 : decode cX7_change 31 = .ok (.getfield 37, 3) := by decide +kernel
theorem dX7_change_34 : decode cX7_change 34 = .ok (.aload_n 0, 1) := by decide +kernel
theorem dX7_change_35 : decode cX7_change 35 = .ok (.getfield 30, 3) := by decide +kernel
theorem dX7_change_38 : decode cX7_change 38 = .ok (.invokevirtual 151, 3) := by decide +kernel
theorem dX7_change_41 : decode cX7_change 41 = .ok (.aload_n 0, 1) := by decide +kernel
theorem dX7_change_42 : decode cX7_change 42 = .ok (.getfield 30, 3) := by decide +kernel
theorem dX7_change_45 : decode cX7_change 45 = .ok (.iload_n 1, 1) := by decide +kernel
theorem dX7_change_46 : decode cX7_change 46 = .ok (.iload_n 2, 1) := by decide +kernel
theorem dX7_change_47 : decode cX7_change 47 = .ok (.invokevirtual 174, 3) := by decide +kernel
theorem dX7_change_50 : decode cX7_change 50 = .ok (.aload_n 0, 1) := by decide +kernel
theorem dX7_change_51 : decode cX7_change 51 = .ok (.getfield 30, 3) := by decide +kernel
theorem dX7_change_54 : decode cX7_change 54 = .ok (.iconst 2, 1) := by decide +kernel
theorem dX7_change_55 : decode cX7_change 55 = .ok (.iload_n 1, 1) := by decide +kernel
theorem dX7_change_56 : decode cX7_change 56 = .ok (.invokevirtual 167, 3) := by decide +kernel
theorem dX7_change_59 : decode cX7_change 59 = .ok (.ireturn, 1) := by decide +kernel
theorem dX7_lay_0 : decode cX7_lay 0 = .ok (.aload_n 0, 1) := by decide +kernel
theorem dX7_lay_1 : decode cX7_lay 1 = .ok (.getfield 30, 3) := by decide +kernel
theorem dX7_lay_4 : decode cX7_lay 4 = .ok (.iload_n 1, 1) := by decide +kernel
theorem dX7_lay_5 : decode cX7_lay 5 = .ok (.invokevirtual 163, 3) := by decide +kernel
theorem dX7_lay_8 : decode cX7_lay 8 = .ok (.ifCond .eq 19, 3) := by decide +kernel
theorem dX7_lay_11 : decode cX7_lay 11 = .ok (.aload_n 0, 1) := by decide +kernel
theorem dX7_lay_12 : decode cX7_lay 12 = .ok (.getfield 30, 3) := by decide +kernel
theorem dX7_lay_15 : decode cX7_lay 15 = .ok (.iload_n 2, 1) := by decide +kernel
theorem dX7_lay_16 : decode cX7_lay 16 = .ok (.invokevirtual 163, 3) := by decide +kernel
theorem dX7_lay_19 : decode cX7_lay 19 = .ok (.ifCond .eq 8, 3) := by decide +kernel
theorem dX7_lay_22 : decode cX7_lay 22 = .ok (.iload_n 1, 1) := by decide +kernel
theorem dX7_lay_23 : decode cX7_lay 23 = .ok (.iload_n 2, 1) := by decide +kernel
theorem dX7_lay_24 : decode cX7_lay 24 = .ok (.if_icmp .ne 6, 3) := by decide +kernel
theorem dX7_lay_27 : decode cX7_lay 27 = .ok (.ldc 63, 2) := by decide +kernel
theorem dX7_lay_29 : decode cX7_lay 29 = .ok (.ireturn, 1) := by decide +kernel
theorem dX7_lay_30 : decode cX7_lay 30 = .ok (.aload_n 0, 1) := by decide +kernel
theorem dX7_lay_31 : decode cX7_lay 31 = .ok (.getfield 37, 3) := by decide +kernel
theorem dX7_lay_34 : decode cX7_lay 34 = .ok (.aload_n 0, 1) := by decide +kernel
theorem dX7_lay_35 : decode cX7_lay 35 = .ok (.getfield 30, 3) := by decide +kernel
theorem dX7_lay_38 : decode cX7_lay 38 = .ok (.invokevirtual 151, 3) := by decide +kernel
theorem dX7_lay_41 : decode cX7_lay 41 = .ok (.aload_n 0, 1) := by decide +kernel
theorem dX7_lay_42 : decode cX7_lay 42 = .ok (.getfield 30, 3) := by decide +kernel
theorem dX7_lay_45 : decode cX7_lay 45 = .ok (.iload_n 1, 1) := by decide +kernel
theorem dX7_lay_46 : decode cX7_lay 46 = .ok (.iload_n 2, 1) := by decide +kernel
theorem dX7_lay_47 : decode cX7_lay 47 = .ok (.invokevirtual 177, 3) := by decide +kernel
theorem dX7_lay_50 : decode cX7_lay 50 = .ok (.aload_n 0, 1) := by decide +kernel
theorem dX7_lay_51 : decode cX7_lay 51 = .ok (.getfield 30, 3) := by decide +kernel
theorem dX7_lay_54 : decode cX7_lay 54 = .ok (.iconst 5, 1) := by decide +kernel
theorem dX7_lay_55 : decode cX7_lay 55 = .ok (.iload_n 1, 1) := by decide +kernel
theorem dX7_lay_56 : decode cX7_lay 56 = .ok (.invokevirtual 167, 3) := by decide +kernel
theorem dX7_lay_59 : decode cX7_lay 59 = .ok (.ireturn, 1) := by decide +kernel
theorem dX7_undo_0 : decode cX7_undo 0 = .ok (.aload_n 0, 1) := by decide +kernel
theorem dX7_undo_1 : decode cX7_undo 1 = .ok (.getfield 37, 3) := by decide +kernel
theorem dX7_undo_4 : decode cX7_undo 4 = .ok (.getfield 180, 3) := by decide +kernel
theorem dX7_undo_7 : decode cX7_undo 7 = .ok (.ifCond .ne 6, 3) := by decide +kernel
theorem dX7_undo_10 : decode cX7_undo 10 = .ok (.ldc 147, 2) := by decide +kernel
theorem dX7_undo_12 : decode cX7_undo 12 = .ok (.ireturn, 1) := by decide +kernel
theorem dX7_undo_13 : decode cX7_undo 13 = .ok (.aload_n 0, 1) := by decide +kernel
theorem dX7_undo_14 : decode cX7_undo 14 = .ok (.getfield 37, 3) := by decide +kernel
theorem dX7_undo_17 : decode cX7_undo 17 = .ok (.aload_n 0, 1) := by decide +kernel
theorem dX7_undo_18 : decode cX7_undo 18 = .ok (.getfield 30, 3) := by decide +kernel
theorem dX7_undo_21 : decode cX7_undo 21 = .ok (.invokevirtual 183, 3) := by decide +kernel
theorem dX7_undo_24 : decode cX7_undo 24 = .ok (.aload_n 0, 1) := by decide +kernel
theorem dX7_undo_25 : decode cX7_undo 25 = .ok (.getfield 37, 3) := by decide +kernel
theorem dX7_undo_28 : decode cX7_undo 28 = .ok (.getfield 180, 3) := by decide +kernel
theorem dX7_undo_31 : decode cX7_undo 31 = .ok (.ireturn, 1) := by decide +kernel
theorem dX7_guest_0 : decode cX7_guest 0 = .ok (.aload_n 0, 1) := by decide +kernel
theorem dX7_guest_1 : decode cX7_guest 1 = .ok (.getfield 30, 3) := by decide +kernel
theorem dX7_guest_4 : decode cX7_guest 4 = .ok (.iload_n 1, 1) := by decide +kernel
theorem dX7_guest_5 : decode cX7_guest 5 = .ok (.invokevirtual 163, 3) := by decide +kernel
theorem dX7_guest_8 : decode cX7_guest 8 = .ok (.ifCond .ne 6, 3) := by decide +kernel
theorem dX7_guest_11 : decode cX7_guest 11 = .ok (.ldc 63, 2) := by decide +kernel
theorem dX7_guest_13 : decode cX7_guest 13 = .ok (.ireturn, 1) := by decide +kernel
theorem dX7_guest_14 : decode cX7_guest 14 = .ok (.iload_n 2, 1) := by decide +kernel
theorem dX7_guest_15 : decode cX7_guest 15 = .ok (.tableswitch 68 0 3 #[29, 39, 49, 59], 29) := by decide +kernel
theorem dX7_guest_44 : decode cX7_guest 44 = .ok (.aload_n 0, 1) := by decide +kernel
theorem dX7_guest_45 : decode cX7_guest 45 = .ok (.getfield 30, 3) := by decide +kernel
theorem dX7_guest_48 : decode cX7_guest 48 = .ok (.iconst 2, 1) := by decide +kernel
theorem dX7_guest_49 : decode cX7_guest 49 = .ok (.iload_n 1, 1) := by decide +kernel
theorem dX7_guest_50 : decode cX7_guest 50 = .ok (.invokevirtual 167, 3) := by decide +kernel
theorem dX7_guest_53 : decode cX7_guest 53 = .ok (.ireturn, 1) := by decide +kernel
theorem dX7_guest_54 : decode cX7_guest 54 = .ok (.aload_n 0, 1) := by decide +kernel
theorem dX7_guest_55 : decode cX7_guest 55 = .ok (.getfield 30, 3) := by decide +kernel
theorem dX7_guest_58 : decode cX7_guest 58 = .ok (.iconst 1, 1) := by decide +kernel
theorem dX7_guest_59 : decode cX7_guest 59 = .ok (.iload_n 1, 1) := by decide +kernel
theorem dX7_guest_60 : decode cX7_guest 60 = .ok (.invokevirtual 167, 3) := by decide +kernel
theorem dX7_guest_63 : decode cX7_guest 63 = .ok (.ireturn, 1) := by decide +kernel
theorem dX7_guest_64 : decode cX7_guest 64 = .ok (.aload_n 0, 1) := by decide +kernel
theorem dX7_guest_65 : decode cX7_guest 65 = .ok (.getfield 30, 3) := by decide +kernel
theorem dX7_guest_68 : decode cX7_guest 68 = .ok (.iconst 3, 1) := by decide +kernel
theorem dX7_guest_69 : decode cX7_guest 69 = .ok (.iload_n 1, 1) := by decide +kernel
theorem dX7_guest_70 : decode cX7_guest 70 = .ok (.invokevirtual 167, 3) := by decide +kernel
theorem dX7_guest_73 : decode cX7_guest 73 = .ok (.ireturn, 1) := by decide +kernel
theorem dX7_guest_74 : decode cX7_guest 74 = .ok (.aload_n 0, 1) := by decide +kernel
theorem dX7_guest_75 : decode cX7_guest 75 = .ok (.getfield 30, 3) := by decide +kernel
theorem dX7_guest_78 : decode cX7_guest 78 = .ok (.iload_n 1, 1) := by decide +kernel
theorem dX7_guest_79 : decode cX7_guest 79 = .ok (.invokevirtual 186, 3) := by decide +kernel
theorem dX7_guest_82 : decode cX7_guest 82 = .ok (.ireturn, 1) := by decide +kernel
theorem dX7_guest_83 : decode cX7_guest 83 = .ok (.ldc 63, 2) := by decide +kernel
theorem dX7_guest_85 : decode cX7_guest 85 = .ok (.ireturn, 1) := by decide +kernel
theorem dX7_dish_0 : decode cX7_dish 0 = .ok (.aload_n 0, 1) := by decide +kernel
theorem dX7_dish_1 : decode cX7_dish 1 = .ok (.getfield 30, 3) := by decide +kernel
theorem dX7_dish_4 : decode cX7_dish 4 = .ok (.iload_n 1, 1) := by decide +kernel
theorem dX7_dish_5 : decode cX7_dish 5 = .ok (.invokevirtual 163, 3) := by decide +kernel
theorem dX7_dish_8 : decode cX7_dish 8 = .ok (.ifCond .ne 6, 3) := by decide +kernel
theorem dX7_dish_11 : decode cX7_dish 11 = .ok (.ldc 63, 2) := by decide +kernel
theorem dX7_dish_13 : decode cX7_dish 13 = .ok (.ireturn, 1) := by decide +kernel
theorem dX7_dish_14 : decode cX7_dish 14 = .ok (.iload_n 2, 1) := by decide +kernel
theorem dX7_dish_15 : decode cX7_dish 15 = .ok (.lookupswitch 45 #[(0, 25), (1, 35)], 25) := by decide +kernel
theorem dX7_dish_40 : decode cX7_dish 40 = .ok (.aload_n 0, 1) := by decide +kernel
theorem dX7_dish_41 : decode cX7_dish 41 = .ok (.getfield 30, 3) := by decide +kernel
theorem dX7_dish_44 : decode cX7_dish 44 = .ok (.iconst 4, 1) := by decide +kernel
theorem dX7_dish_45 : decode cX7_dish 45 = .ok (.iload_n 1, 1) := by decide +kernel
theorem dX7_dish_46 : decode cX7_dish 46 = .ok (.invokevirtual 167, 3) := by decide +kernel
theorem dX7_dish_49 : decode cX7_dish 49 = .ok (.ireturn, 1) := by decide +kernel
theorem dX7_dish_50 : decode cX7_dish 50 = .ok (.aload_n 0, 1) := by decide +kernel
theorem dX7_dish_51 : decode cX7_dish 51 = .ok (.getfield 30, 3) := by decide +kernel
theorem dX7_dish_54 : decode cX7_dish 54 = .ok (.iconst 5, 1) := by decide +kernel
theorem dX7_dish_55 : decode cX7_dish 55 = .ok (.iload_n 1, 1) := by decide +kernel
theorem dX7_dish_56 : decode cX7_dish 56 = .ok (.invokevirtual 167, 3) := by decide +kernel
theorem dX7_dish_59 : decode cX7_dish 59 = .ok (.ireturn, 1) := by decide +kernel
theorem dX7_dish_60 : decode cX7_dish 60 = .ok (.ldc 63, 2) := by decide +kernel
theorem dX7_dish_62 : decode cX7_dish 62 = .ok (.ireturn, 1) := by decide +kernel
theorem dX7_ahead_0 : decode cX7_ahead 0 = .ok (.aload_n 0, 1) := by decide +kernel
theorem dX7_ahead_1 : decode cX7_ahead 1 = .ok (.getfield 30, 3) := by decide +kernel
theorem dX7_ahead_4 : decode cX7_ahead 4 = .ok (.invokevirtual 144, 3) := by decide +kernel
theorem dX7_ahead_7 : decode cX7_ahead 7 = .ok (.ifCond .ne 6, 3) := by decide +kernel
theorem dX7_ahead_10 : decode cX7_ahead 10 = .ok (.ldc 147, 2) := by decide +kernel
theorem dX7_ahead_12 : decode cX7_ahead 12 = .ok (.ireturn, 1) := by decide +kernel
theorem dX7_ahead_13 : decode cX7_ahead 13 = .ok (.iload_n 1, 1) := by decide +kernel
theorem dX7_ahead_14 : decode cX7_ahead 14 = .ok (.iconst 0, 1) := by decide +kernel
theorem dX7_ahead_15 : decode cX7_ahead 15 = .ok (.bipush 99, 2) := by decide +kernel
theorem dX7_ahead_17 : decode cX7_ahead 17 = .ok (.invokestatic 59, 3) := by decide +kernel
theorem dX7_ahead_20 : decode cX7_ahead 20 = .ok (.ifCond .eq 12, 3) := by decide +kernel
theorem dX7_ahead_23 : decode cX7_ahead 23 = .ok (.iload_n 2, 1) := by decide +kernel
theorem dX7_ahead_24 : decode cX7_ahead 24 = .ok (.iconst 0, 1) := by decide +kernel
theorem dX7_ahead_25 : decode cX7_ahead 25 = .ok (.iconst 1, 1) := by decide +kernel
theorem dX7_ahead_26 : decode cX7_ahead 26 = .ok (.invokestatic 59, 3) := by decide +kernel
theorem dX7_ahead_29 : decode cX7_ahead 29 = .ok (.ifCond .ne 6, 3) := by decide +kernel
theorem dX7_ahead_32 : decode cX7_ahead 32 = .ok (.ldc 63, 2) := by decide +kernel
theorem dX7_ahead_34 : decode cX7_ahead 34 = .ok (.ireturn, 1) := by decide +kernel
theorem dX7_ahead_35 : decode cX7_ahead 35 = .ok (.aload_n 0, 1) := by decide +kernel
theorem dX7_ahead_36 : decode cX7_ahead 36 = .ok (.getfield 44, 3) := by decide +kernel
theorem dX7_ahead_39 : decode cX7_ahead 39 = .ok (.aload_n 0, 1) := by decide +kernel
theorem dX7_ahead_40 : decode cX7_ahead 40 = .ok (.getfield 30, 3) := by decide +kernel
theorem dX7_ahead_43 : decode cX7_ahead 43 = .ok (.iload_n 1, 1) := by decide +kernel
theorem dX7_ahead_44 : decode cX7_ahead 44 = .ok (.invokevirtual 189, 3) := by decide +kernel
theorem dX7_ahead_47 : decode cX7_ahead 47 = .ok (.istore_n 3, 1) := by decide +kernel
theorem dX7_ahead_48 : decode cX7_ahead 48 = .ok (.iload_n 2, 1) := by decide +kernel
theorem dX7_ahead_49 : decode cX7_ahead 49 = .ok (.ifCond .ne 16, 3) := by decide +kernel
theorem dX7_ahead_52 : decode cX7_ahead 52 = .ok (.aload_n 0, 1) := by decide +kernel
theorem dX7_ahead_53 : decode cX7_ahead 53 = .ok (.getfield 44, 3) := by decide +kernel
theorem dX7_ahead_56 : decode cX7_ahead 56 = .ok (.getfield 193, 3) := by decide +kernel
theorem dX7_ahead_59 : decode cX7_ahead 59 = .ok (.getfield 157, 3) := by decide +kernel
theorem dX7_ahead_62 : decode cX7_ahead 62 = .ok (.goto 4, 3) := by decide +kernel
theorem dX7_ahead_65 : decode cX7_ahead 65 = .ok (.iload_n 3, 1) := by decide +kernel
theorem dX7_ahead_66 : decode cX7_ahead 66 = .ok (.ireturn, 1) := by decide +kernel
theorem dX7_dishAhead_0 : decode cX7_dishAhead 0 = .ok (.aload_n 0, 1) := by decide +kernel
theorem dX7_dishAhead_1 : decode cX7_dishAhead 1 = .ok (.getfield 30, 3) := by decide +kernel
theorem dX7_dishAhead_4 : decode cX7_dishAhead 4 = .ok (.iload_n 1, 1) := by decide +kernel
theorem dX7_dishAhead_5 : decode cX7_dishAhead 5 = .ok (.invokevirtual 163, 3) := by decide +kernel
theorem dX7_dishAhead_8 : decode cX7_dishAhead 8 = .ok (.ifCond .eq 13, 3) := by decide +kernel
theorem dX7_dishAhead_11 : decode cX7_dishAhead 11 = .ok (.iload_n 2, 1) := by decide +kernel
theorem dX7_dishAhead_12 : decode cX7_dishAhead 12 = .ok (.iconst 0, 1) := by decide +kernel
theorem dX7_dishAhead_13 : decode cX7_dishAhead 13 = .ok (.bipush 99, 2) := by decide +kernel
theorem dX7_dishAhead_15 : decode cX7_dishAhead 15 = .ok (.invokestatic 59, 3) := by decide +kernel
theorem dX7_dishAhead_18 : decode cX7_dishAhead 18 = .ok (.ifCond .ne 6, 3) := by decide +kernel
theorem dX7_dishAhead_21 : decode cX7_dishAhead 21 = .ok (.ldc 63, 2) := by decide +kernel
theorem dX7_dishAhead_23 : decode cX7_dishAhead 23 = .ok (.ireturn, 1) := by decide +kernel
theorem dX7_dishAhead_24 : decode cX7_dishAhead 24 = .ok (.aload_n 0, 1) := by decide +kernel
theorem dX7_dishAhead_25 : decode cX7_dishAhead 25 = .ok (.getfield 44, 3) := by decide +kernel
theorem dX7_dishAhead_28 : decode cX7_dishAhead 28 = .ok (.aload_n 0, 1) := by decide +kernel
theorem dX7_dishAhead_29 : decode cX7_dishAhead 29 = .ok (.getfield 30, 3) := by decide +kernel
theorem dX7_dishAhead_32 : decode cX7_dishAhead 32 = .ok (.iload_n 2, 1) := by decide +kernel
theorem dX7_dishAhead_33 : decode cX7_dishAhead 33 = .ok (.invokevirtual 189, 3) := by decide +kernel
theorem dX7_dishAhead_36 : decode cX7_dishAhead 36 = .ok (.pop, 1) := by decide +kernel
theorem dX7_dishAhead_37 : decode cX7_dishAhead 37 = .ok (.aload_n 0, 1) := by decide +kernel
theorem dX7_dishAhead_38 : decode cX7_dishAhead 38 = .ok (.getfield 44, 3) := by decide +kernel
theorem dX7_dishAhead_41 : decode cX7_dishAhead 41 = .ok (.getfield 193, 3) := by decide +kernel
theorem dX7_dishAhead_44 : decode cX7_dishAhead 44 = .ok (.iconst 4, 1) := by decide +kernel
theorem dX7_dishAhead_45 : decode cX7_dishAhead 45 = .ok (.iload_n 1, 1) := by decide +kernel
theorem dX7_dishAhead_46 : decode cX7_dishAhead 46 = .ok (.invokevirtual 167, 3) := by decide +kernel
theorem dX7_dishAhead_49 : decode cX7_dishAhead 49 = .ok (.ireturn, 1) := by decide +kernel
theorem dX7_guestAhead_0 : decode cX7_guestAhead 0 = .ok (.aload_n 0, 1) := by decide +kernel
theorem dX7_guestAhead_1 : decode cX7_guestAhead 1 = .ok (.getfield 30, 3) := by decide +kernel
theorem dX7_guestAhead_4 : decode cX7_guestAhead 4 = .ok (.iload_n 1, 1) := by decide +kernel
theorem dX7_guestAhead_5 : decode cX7_guestAhead 5 = .ok (.invokevirtual 163, 3) := by decide +kernel
theorem dX7_guestAhead_8 : decode cX7_guestAhead 8 = .ok (.ifCond .eq 13, 3) := by decide +kernel
theorem dX7_guestAhead_11 : decode cX7_guestAhead 11 = .ok (.iload_n 2, 1) := by decide +kernel
theorem dX7_guestAhead_12 : decode cX7_guestAhead 12 = .ok (.iconst 0, 1) := by decide +kernel
theorem dX7_guestAhead_13 : decode cX7_guestAhead 13 = .ok (.bipush 99, 2) := by decide +kernel
theorem dX7_guestAhead_15 : decode cX7_guestAhead 15 = .ok (.invokestatic 59, 3) := by decide +kernel
theorem dX7_guestAhead_18 : decode cX7_guestAhead 18 = .ok (.ifCond .ne 6, 3) := by decide +kernel
theorem dX7_guestAhead_21 : decode cX7_guestAhead 21 = .ok (.ldc 63, 2) := by decide +kernel
theorem dX7_guestAhead_23 : decode cX7_guestAhead 23 = .ok (.ireturn, 1) := by decide +kernel
theorem dX7_guestAhead_24 : decode cX7_guestAhead 24 = .ok (.aload_n 0, 1) := by decide +kernel
theorem dX7_guestAhead_25 : decode cX7_guestAhead 25 = .ok (.getfield 44, 3) := by decide +kernel
theorem dX7_guestAhead_28 : decode cX7_guestAhead 28 = .ok (.aload_n 0, 1) := by decide +kernel
theorem dX7_guestAhead_29 : decode cX7_guestAhead 29 = .ok (.getfield 30, 3) := by decide +kernel
theorem dX7_guestAhead_32 : decode cX7_guestAhead 32 = .ok (.iload_n 1, 1) := by decide +kernel
theorem dX7_guestAhead_33 : decode cX7_guestAhead 33 = .ok (.iload_n 1, 1) := by decide +kernel
theorem dX7_guestAhead_34 : decode cX7_guestAhead 34 = .ok (.iload_n 2, 1) := by decide +kernel
theorem dX7_guestAhead_35 : decode cX7_guestAhead 35 = .ok (.invokevirtual 196, 3) := by decide +kernel
theorem dX7_guestAhead_38 : decode cX7_guestAhead 38 = .ok (.ireturn, 1) := by decide +kernel
theorem dX7_last_0 : decode cX7_last 0 = .ok (.aload_n 0, 1) := by decide +kernel
theorem dX7_last_1 : decode cX7_last 1 = .ok (.getfield 30, 3) := by decide +kernel
theorem dX7_last_4 : decode cX7_last 4 = .ok (.iload_n 1, 1) := by decide +kernel
theorem dX7_last_5 : decode cX7_last 5 = .ok (.invokevirtual 163, 3) := by decide +kernel
theorem dX7_last_8 : decode cX7_last 8 = .ok (.ifCond .eq 12, 3) := by decide +kernel
theorem dX7_last_11 : decode cX7_last 11 = .ok (.iload_n 2, 1) := by decide +kernel
theorem dX7_last_12 : decode cX7_last 12 = .ok (.iconst 0, 1) := by decide +kernel
theorem dX7_last_13 : decode cX7_last 13 = .ok (.iconst 1, 1) := by decide +kernel
theorem dX7_last_14 : decode cX7_last 14 = .ok (.invokestatic 59, 3) := by decide +kernel
theorem dX7_last_17 : decode cX7_last 17 = .ok (.ifCond .ne 6, 3) := by decide +kernel
theorem dX7_last_20 : decode cX7_last 20 = .ok (.ldc 63, 2) := by decide +kernel
theorem dX7_last_22 : decode cX7_last 22 = .ok (.ireturn, 1) := by decide +kernel
theorem dX7_last_23 : decode cX7_last 23 = .ok (.aload_n 0, 1) := by decide +kernel
theorem dX7_last_24 : decode cX7_last 24 = .ok (.getfield 44, 3) := by decide +kernel
theorem dX7_last_27 : decode cX7_last 27 = .ok (.aload_n 0, 1) := by decide +kernel
theorem dX7_last_28 : decode cX7_last 28 = .ok (.getfield 30, 3) := by decide +kernel
theorem dX7_last_31 : decode cX7_last 31 = .ok (.iload_n 1, 1) := by decide +kernel
theorem dX7_last_32 : decode cX7_last 32 = .ok (.invokevirtual 200, 3) := by decide +kernel
theorem dX7_last_35 : decode cX7_last 35 = .ok (.istore_n 3, 1) := by decide +kernel
theorem dX7_last_36 : decode cX7_last 36 = .ok (.iload_n 2, 1) := by decide +kernel
theorem dX7_last_37 : decode cX7_last 37 = .ok (.iconst 1, 1) := by decide +kernel
theorem dX7_last_38 : decode cX7_last 38 = .ok (.if_icmp .eq 9, 3) := by decide +kernel
theorem dX7_last_41 : decode cX7_last 41 = .ok (.iload_n 3, 1) := by decide +kernel
theorem dX7_last_42 : decode cX7_last 42 = .ok (.ldc 203, 2) := by decide +kernel
theorem dX7_last_44 : decode cX7_last 44 = .ok (.if_icmp .ne 7, 3) := by decide +kernel
theorem dX7_last_47 : decode cX7_last 47 = .ok (.iload_n 3, 1) := by decide +kernel
theorem dX7_last_48 : decode cX7_last 48 = .ok (.goto 13, 3) := by decide +kernel
theorem dX7_last_51 : decode cX7_last 51 = .ok (.aload_n 0, 1) := by decide +kernel
theorem dX7_last_52 : decode cX7_last 52 = .ok (.getfield 44, 3) := by decide +kernel
theorem dX7_last_55 : decode cX7_last 55 = .ok (.getfield 193, 3) := by decide +kernel
theorem dX7_last_58 : decode cX7_last 58 = .ok (.getfield 204, 3) := by decide +kernel
theorem dX7_last_61 : decode cX7_last 61 = .ok (.ireturn, 1) := by decide +kernel
theorem dX7_hungry_0 : decode cX7_hungry 0 = .ok (.aload_n 0, 1) := by decide +kernel
theorem dX7_hungry_1 : decode cX7_hungry 1 = .ok (.getfield 30, 3) := by decide +kernel
theorem dX7_hungry_4 : decode cX7_hungry 4 = .ok (.invokevirtual 144, 3) := by decide +kernel
theorem dX7_hungry_7 : decode cX7_hungry 7 = .ok (.ifCond .ne 6, 3) := by decide +kernel
theorem dX7_hungry_10 : decode cX7_hungry 10 = .ok (.ldc 147, 2) := by decide +kernel
theorem dX7_hungry_12 : decode cX7_hungry 12 = .ok (.ireturn, 1) := by decide +kernel
theorem dX7_hungry_13 : decode cX7_hungry 13 = .ok (.iload_n 1, 1) := by decide +kernel
theorem dX7_hungry_14 : decode cX7_hungry 14 = .ok (.iconst 0, 1) := by decide +kernel
theorem dX7_hungry_15 : decode cX7_hungry 15 = .ok (.bipush 99, 2) := by decide +kernel
theorem dX7_hungry_17 : decode cX7_hungry 17 = .ok (.invokestatic 59, 3) := by decide +kernel
theorem dX7_hungry_20 : decode cX7_hungry 20 = .ok (.ifCond .ne 6, 3) := by decide +kernel
theorem dX7_hungry_23 : decode cX7_hungry 23 = .ok (.ldc 63, 2) := by decide +kernel
theorem dX7_hungry_25 : decode cX7_hungry 25 = .ok (.ireturn, 1) := by decide +kernel
theorem dX7_hungry_26 : decode cX7_hungry 26 = .ok (.aload_n 0, 1) := by decide +kernel
theorem dX7_hungry_27 : decode cX7_hungry 27 = .ok (.getfield 44, 3) := by decide +kernel
theorem dX7_hungry_30 : decode cX7_hungry 30 = .ok (.aload_n 0, 1) := by decide +kernel
theorem dX7_hungry_31 : decode cX7_hungry 31 = .ok (.getfield 30, 3) := by decide +kernel
theorem dX7_hungry_34 : decode cX7_hungry 34 = .ok (.iload_n 1, 1) := by decide +kernel
theorem dX7_hungry_35 : decode cX7_hungry 35 = .ok (.invokevirtual 189, 3) := by decide +kernel
theorem dX7_hungry_38 : decode cX7_hungry 38 = .ok (.pop, 1) := by decide +kernel
theorem dX7_hungry_39 : decode cX7_hungry 39 = .ok (.aload_n 0, 1) := by decide +kernel
theorem dX7_hungry_40 : decode cX7_hungry 40 = .ok (.getfield 44, 3) := by decide +kernel
theorem dX7_hungry_43 : decode cX7_hungry 43 = .ok (.getfield 193, 3) := by decide +kernel
theorem dX7_hungry_46 : decode cX7_hungry 46 = .ok (.invokevirtual 207, 3) := by decide +kernel
theorem dX7_hungry_49 : decode cX7_hungry 49 = .ok (.ireturn, 1) := by decide +kernel
theorem dX7_rest_0 : decode cX7_rest 0 = .ok (.aload_n 0, 1) := by decide +kernel
theorem dX7_rest_1 : decode cX7_rest 1 = .ok (.getfield 30, 3) := by decide +kernel
theorem dX7_rest_4 : decode cX7_rest 4 = .ok (.invokevirtual 144, 3) := by decide +kernel
theorem dX7_rest_7 : decode cX7_rest 7 = .ok (.ifCond .eq 17, 3) := by decide +kernel
theorem dX7_rest_10 : decode cX7_rest 10 = .ok (.aload_n 0, 1) := by decide +kernel
theorem dX7_rest_11 : decode cX7_rest 11 = .ok (.getfield 44, 3) := by decide +kernel
theorem dX7_rest_14 : decode cX7_rest 14 = .ok (.aload_n 0, 1) := by decide +kernel
theorem dX7_rest_15 : decode cX7_rest 15 = .ok (.getfield 30, 3) := by decide +kernel
theorem dX7_rest_18 : decode cX7_rest 18 = .ok (.invokevirtual 211, 3) := by decide +kernel
theorem dX7_rest_21 : decode cX7_rest 21 = .ok (.goto 5, 3) := by decide +kernel
theorem dX7_rest_24 : decode cX7_rest 24 = .ok (.ldc 147, 2) := by decide +kernel
theorem dX7_rest_26 : decode cX7_rest 26 = .ok (.ireturn, 1) := by decide +kernel
theorem dX7_served_0 : decode cX7_served 0 = .ok (.aload_n 0, 1) := by decide +kernel
theorem dX7_served_1 : decode cX7_served 1 = .ok (.getfield 30, 3) := by decide +kernel
theorem dX7_served_4 : decode cX7_served 4 = .ok (.invokevirtual 144, 3) := by decide +kernel
theorem dX7_served_7 : decode cX7_served 7 = .ok (.ifCond .eq 17, 3) := by decide +kernel
theorem dX7_served_10 : decode cX7_served 10 = .ok (.aload_n 0, 1) := by decide +kernel
theorem dX7_served_11 : decode cX7_served 11 = .ok (.getfield 44, 3) := by decide +kernel
theorem dX7_served_14 : decode cX7_served 14 = .ok (.aload_n 0, 1) := by decide +kernel
theorem dX7_served_15 : decode cX7_served 15 = .ok (.getfield 30, 3) := by decide +kernel
theorem dX7_served_18 : decode cX7_served 18 = .ok (.invokevirtual 215, 3) := by decide +kernel
theorem dX7_served_21 : decode cX7_served 21 = .ok (.goto 5, 3) := by decide +kernel
theorem dX7_served_24 : decode cX7_served 24 = .ok (.ldc 147, 2) := by decide +kernel
theorem dX7_served_26 : decode cX7_served 26 = .ok (.ireturn, 1) := by decide +kernel
theorem dX7_laid_0 : decode cX7_laid 0 = .ok (.aload_n 0, 1) := by decide +kernel
theorem dX7_laid_1 : decode cX7_laid 1 = .ok (.getfield 30, 3) := by decide +kernel
theorem dX7_laid_4 : decode cX7_laid 4 = .ok (.invokevirtual 144, 3) := by decide +kernel
theorem dX7_laid_7 : decode cX7_laid 7 = .ok (.ifCond .ne 6, 3) := by decide +kernel
theorem dX7_laid_10 : decode cX7_laid 10 = .ok (.ldc 147, 2) := by decide +kernel
theorem dX7_laid_12 : decode cX7_laid 12 = .ok (.ireturn, 1) := by decide +kernel
theorem dX7_laid_13 : decode cX7_laid 13 = .ok (.iload_n 1, 1) := by decide +kernel
theorem dX7_laid_14 : decode cX7_laid 14 = .ok (.iconst 1, 1) := by decide +kernel
theorem dX7_laid_15 : decode cX7_laid 15 = .ok (.bipush 20, 2) := by decide +kernel
theorem dX7_laid_17 : decode cX7_laid 17 = .ok (.invokestatic 59, 3) := by decide +kernel
theorem dX7_laid_20 : decode cX7_laid 20 = .ok (.ifCond .eq 19, 3) := by decide +kernel
theorem dX7_laid_23 : decode cX7_laid 23 = .ok (.iload_n 2, 1) := by decide +kernel
theorem dX7_laid_24 : decode cX7_laid 24 = .ok (.iconst (-1), 1) := by decide +kernel
theorem dX7_laid_25 : decode cX7_laid 25 = .ok (.if_icmp .eq 17, 3) := by decide +kernel
theorem dX7_laid_28 : decode cX7_laid 28 = .ok (.aload_n 0, 1) := by decide +kernel
theorem dX7_laid_29 : decode cX7_laid 29 = .ok (.getfield 30, 3) := by decide +kernel
theorem dX7_laid_32 : decode cX7_laid 32 = .ok (.iload_n 2, 1) := by decide +kernel
theorem dX7_laid_33 : decode cX7_laid 33 = .ok (.invokevirtual 163, 3) := by decide +kernel
theorem dX7_laid_36 : decode cX7_laid 36 = .ok (.ifCond .ne 6, 3) := by decide +kernel
theorem dX7_laid_39 : decode cX7_laid 39 = .ok (.ldc 63, 2) := by decide +kernel
theorem dX7_laid_41 : decode cX7_laid 41 = .ok (.ireturn, 1) := by decide +kernel
theorem dX7_laid_42 : decode cX7_laid 42 = .ok (.aload_n 0, 1) := by decide +kernel
theorem dX7_laid_43 : decode cX7_laid 43 = .ok (.getfield 44, 3) := by decide +kernel
theorem dX7_laid_46 : decode cX7_laid 46 = .ok (.aload_n 0, 1) := by decide +kernel
theorem dX7_laid_47 : decode cX7_laid 47 = .ok (.getfield 30, 3) := by decide +kernel
theorem dX7_laid_50 : decode cX7_laid 50 = .ok (.iload_n 1, 1) := by decide +kernel
theorem dX7_laid_51 : decode cX7_laid 51 = .ok (.invokevirtual 218, 3) := by decide +kernel
theorem dX7_laid_54 : decode cX7_laid 54 = .ok (.istore_n 3, 1) := by decide +kernel
theorem dX7_laid_55 : decode cX7_laid 55 = .ok (.iload_n 2, 1) := by decide +kernel
theorem dX7_laid_56 : decode cX7_laid 56 = .ok (.iconst (-1), 1) := by decide +kernel
theorem dX7_laid_57 : decode cX7_laid 57 = .ok (.if_icmp .ne 7, 3) := by decide +kernel
theorem dX7_laid_60 : decode cX7_laid 60 = .ok (.iload_n 3, 1) := by decide +kernel
theorem dX7_laid_61 : decode cX7_laid 61 = .ok (.goto 11, 3) := by decide +kernel
theorem dX7_laid_64 : decode cX7_laid 64 = .ok (.aload_n 0, 1) := by decide +kernel
theorem dX7_laid_65 : decode cX7_laid 65 = .ok (.getfield 44, 3) := by decide +kernel
theorem dX7_laid_68 : decode cX7_laid 68 = .ok (.iload_n 2, 1) := by decide +kernel
theorem dX7_laid_69 : decode cX7_laid 69 = .ok (.invokevirtual 221, 3) := by decide +kernel
theorem dX7_laid_72 : decode cX7_laid 72 = .ok (.ireturn, 1) := by decide +kernel
theorem dX7_wanted_0 : decode cX7_wanted 0 = .ok (.aload_n 0, 1) := by decide +kernel
theorem dX7_wanted_1 : decode cX7_wanted 1 = .ok (.iload_n 3, 1) := by decide +kernel
theorem dX7_wanted_2 : decode cX7_wanted 2 = .ok (.invokevirtual 55, 3) := by decide +kernel
theorem dX7_wanted_5 : decode cX7_wanted 5 = .ok (.astore 5, 2) := by decide +kernel
theorem dX7_wanted_7 : decode cX7_wanted 7 = .ok (.aload 5, 2) := by decide +kernel
theorem dX7_wanted_9 : decode cX7_wanted 9 = .ok (.ifnull 24, 3) := by decide +kernel
theorem dX7_wanted_12 : decode cX7_wanted 12 = .ok (.aload_n 0, 1) := by decide +kernel
theorem dX7_wanted_13 : decode cX7_wanted 13 = .ok (.getfield 30, 3) := by decide +kernel
theorem dX7_wanted_16 : decode cX7_wanted 16 = .ok (.iload_n 1, 1) := by decide +kernel
theorem dX7_wanted_17 : decode cX7_wanted 17 = .ok (.invokevirtual 163, 3) := by decide +kernel
theorem dX7_wanted_20 : decode cX7_wanted 20 = .ok (.ifCond .eq 13, 3) := by decide +kernel
theorem dX7_wanted_23 : decode cX7_wanted 23 = .ok (.iload_n 2, 1) := by decide +kernel
theorem dX7_wanted_24 : decode cX7_wanted 24 = .ok (.iconst 0, 1) := by decide +kernel
theorem dX7_wanted_25 : decode cX7_wanted 25 = .ok (.bipush 99, 2) := by decide +kernel
theorem dX7_wanted_27 : decode cX7_wanted 27 = .ok (.invokestatic 59, 3) := by decide +kernel
theorem dX7_wanted_30 : decode cX7_wanted 30 = .ok (.ifCond .ne 6, 3) := by decide +kernel
theorem dX7_wanted_33 : decode cX7_wanted 33 = .ok (.ldc 63, 2) := by decide +kernel
theorem dX7_wanted_35 : decode cX7_wanted 35 = .ok (.ireturn, 1) := by decide +kernel
theorem dX7_wanted_36 : decode cX7_wanted 36 = .ok (.aload 5, 2) := by decide +kernel
theorem dX7_wanted_38 : decode cX7_wanted 38 = .ok (.invokevirtual 75, 3) := by decide +kernel
theorem dX7_wanted_41 : decode cX7_wanted 41 = .ok (.ifCond .eq 9, 3) := by decide +kernel
theorem dX7_wanted_44 : decode cX7_wanted 44 = .ok (.aload_n 0, 1) := by decide +kernel
theorem dX7_wanted_45 : decode cX7_wanted 45 = .ok (.iconst 1, 1) := by decide +kernel
theorem dX7_wanted_46 : decode cX7_wanted 46 = .ok (.invokevirtual 64, 3) := by decide +kernel
theorem dX7_wanted_49 : decode cX7_wanted 49 = .ok (.ireturn, 1) := by decide +kernel
theorem dX7_wanted_50 : decode cX7_wanted 50 = .ok (.aload 5, 2) := by decide +kernel
theorem dX7_wanted_52 : decode cX7_wanted 52 = .ok (.iload 4, 2) := by decide +kernel
theorem dX7_wanted_54 : decode cX7_wanted 54 = .ok (.aload_n 0, 1) := by decide +kernel
theorem dX7_wanted_55 : decode cX7_wanted 55 = .ok (.getfield 30, 3) := by decide +kernel
theorem dX7_wanted_58 : decode cX7_wanted 58 = .ok (.getfield 141, 3) := by decide +kernel
theorem dX7_wanted_61 : decode cX7_wanted 61 = .ok (.invokevirtual 79, 3) := by decide +kernel
theorem dX7_wanted_64 : decode cX7_wanted 64 = .ok (.ifCond .ne 9, 3) := by decide +kernel
theorem dX7_wanted_67 : decode cX7_wanted 67 = .ok (.aload_n 0, 1) := by decide +kernel
theorem dX7_wanted_68 : decode cX7_wanted 68 = .ok (.iconst 2, 1) := by decide +kernel
theorem dX7_wanted_69 : decode cX7_wanted 69 = .ok (.invokevirtual 64, 3) := by decide +kernel
theorem dX7_wanted_72 : decode cX7_wanted 72 = .ok (.ireturn, 1) := by decide +kernel
theorem dX7_wanted_73 : decode cX7_wanted 73 = .ok (.aload_n 0, 1) := by decide +kernel
theorem dX7_wanted_74 : decode cX7_wanted 74 = .ok (.aload_n 0, 1) := by decide +kernel
theorem dX7_wanted_75 : decode cX7_wanted 75 = .ok (.getfield 44, 3) := by decide +kernel
theorem dX7_wanted_78 : decode cX7_wanted 78 = .ok (.aload_n 0, 1) := by decide +kernel
theorem dX7_wanted_79 : decode cX7_wanted 79 = .ok (.getfield 30, 3) := by decide +kernel
theorem dX7_wanted_82 : decode cX7_wanted 82 = .ok (.iload_n 1, 1) := by decide +kernel
theorem dX7_wanted_83 : decode cX7_wanted 83 = .ok (.iload_n 2, 1) := by decide +kernel
theorem dX7_wanted_84 : decode cX7_wanted 84 = .ok (.aload 5, 2) := by decide +kernel
theorem dX7_wanted_86 : decode cX7_wanted 86 = .ok (.iload 4, 2) := by decide +kernel
theorem dX7_wanted_88 : decode cX7_wanted 88 = .ok (.invokevirtual 224, 3) := by decide +kernel
theorem dX7_wanted_91 : decode cX7_wanted 91 = .ok (.invokevirtual 72, 3) := by decide +kernel
theorem dX7_wanted_94 : decode cX7_wanted 94 = .ok (.ireturn, 1) := by decide +kernel
theorem dX7_seated_0 : decode cX7_seated 0 = .ok (.aload_n 0, 1) := by decide +kernel
theorem dX7_seated_1 : decode cX7_seated 1 = .ok (.getfield 30, 3) := by decide +kernel
theorem dX7_seated_4 : decode cX7_seated 4 = .ok (.iload_n 1, 1) := by decide +kernel
theorem dX7_seated_5 : decode cX7_seated 5 = .ok (.invokevirtual 163, 3) := by decide +kernel
theorem dX7_seated_8 : decode cX7_seated 8 = .ok (.ifCond .eq 22, 3) := by decide +kernel
theorem dX7_seated_11 : decode cX7_seated 11 = .ok (.iload_n 2, 1) := by decide +kernel
theorem dX7_seated_12 : decode cX7_seated 12 = .ok (.iconst 0, 1) := by decide +kernel
theorem dX7_seated_13 : decode cX7_seated 13 = .ok (.bipush 99, 2) := by decide +kernel
theorem dX7_seated_15 : decode cX7_seated 15 = .ok (.invokestatic 59, 3) := by decide +kernel
theorem dX7_seated_18 : decode cX7_seated 18 = .ok (.ifCond .eq 12, 3) := by decide +kernel
theorem dX7_seated_21 : decode cX7_seated 21 = .ok (.iload_n 3, 1) := by decide +kernel
theorem dX7_seated_22 : decode cX7_seated 22 = .ok (.iconst 0, 1) := by decide +kernel
theorem dX7_seated_23 : decode cX7_seated 23 = .ok (.iconst 1, 1) := by decide +kernel
theorem dX7_seated_24 : decode cX7_seated 24 = .ok (.invokestatic 59, 3) := by decide +kernel
theorem dX7_seated_27 : decode cX7_seated 27 = .ok (.ifCond .ne 6, 3) := by decide +kernel
theorem dX7_seated_30 : decode cX7_seated 30 = .ok (.ldc 63, 2) := by decide +kernel
theorem dX7_seated_32 : decode cX7_seated 32 = .ok (.ireturn, 1) := by decide +kernel
theorem dX7_seated_33 : decode cX7_seated 33 = .ok (.aload_n 0, 1) := by decide +kernel
theorem dX7_seated_34 : decode cX7_seated 34 = .ok (.getfield 44, 3) := by decide +kernel
theorem dX7_seated_37 : decode cX7_seated 37 = .ok (.aload_n 0, 1) := by decide +kernel
theorem dX7_seated_38 : decode cX7_seated 38 = .ok (.getfield 30, 3) := by decide +kernel
theorem dX7_seated_41 : decode cX7_seated 41 = .ok (.iload_n 1, 1) := by decide +kernel
theorem dX7_seated_42 : decode cX7_seated 42 = .ok (.iload_n 2, 1) := by decide +kernel
theorem dX7_seated_43 : decode cX7_seated 43 = .ok (.invokevirtual 228, 3) := by decide +kernel
theorem dX7_seated_46 : decode cX7_seated 46 = .ok (.istore 4, 2) := by decide +kernel
theorem dX7_seated_48 : decode cX7_seated 48 = .ok (.iload_n 3, 1) := by decide +kernel
theorem dX7_seated_49 : decode cX7_seated 49 = .ok (.ifCond .ne 8, 3) := by decide +kernel
theorem dX7_seated_52 : decode cX7_seated 52 = .ok (.iload 4, 2) := by decide +kernel
theorem dX7_seated_54 : decode cX7_seated 54 = .ok (.goto 18, 3) := by decide +kernel
theorem dX7_seated_57 : decode cX7_seated 57 = .ok (.aload_n 0, 1) := by decide +kernel
theorem dX7_seated_58 : decode cX7_seated 58 = .ok (.getfield 44, 3) := by decide +kernel
theorem dX7_seated_61 : decode cX7_seated 61 = .ok (.aload_n 0, 1) := by decide +kernel
theorem dX7_seated_62 : decode cX7_seated 62 = .ok (.getfield 30, 3) := by decide +kernel
theorem dX7_seated_65 : decode cX7_seated 65 = .ok (.iload_n 1, 1) := by decide +kernel
theorem dX7_seated_66 : decode cX7_seated 66 = .ok (.iload 4, 2) := by decide +kernel
theorem dX7_seated_68 : decode cX7_seated 68 = .ok (.iload_n 2, 1) := by decide +kernel
theorem dX7_seated_69 : decode cX7_seated 69 = .ok (.invokevirtual 196, 3) := by decide +kernel
theorem dX7_seated_72 : decode cX7_seated 72 = .ok (.ireturn, 1) := by decide +kernel
theorem dX7_image_0 : decode cX7_image 0 = .ok (.aload_n 0, 1) := by decide +kernel
theorem dX7_image_1 : decode cX7_image 1 = .ok (.iload_n 1, 1) := by decide +kernel
theorem dX7_image_2 : decode cX7_image 2 = .ok (.invokevirtual 232, 3) := by decide +kernel
theorem dX7_image_5 : decode cX7_image 5 = .ok (.astore_n 2, 1) := by decide +kernel
theorem dX7_image_6 : decode cX7_image 6 = .ok (.aload_n 2, 1) := by decide +kernel
theorem dX7_image_7 : decode cX7_image 7 = .ok (.ifnonnull 6, 3) := by decide +kernel
theorem dX7_image_10 : decode cX7_image 10 = .ok (.ldc 63, 2) := by decide +kernel
theorem dX7_image_12 : decode cX7_image 12 = .ok (.ireturn, 1) := by decide +kernel
theorem dX7_image_13 : decode cX7_image 13 = .ok (.aload_n 0, 1) := by decide +kernel
theorem dX7_image_14 : decode cX7_image 14 = .ok (.getfield 30, 3) := by decide +kernel
theorem dX7_image_17 : decode cX7_image 17 = .ok (.invokevirtual 144, 3) := by decide +kernel
theorem dX7_image_20 : decode cX7_image 20 = .ok (.ifCond .ne 6, 3) := by decide +kernel
theorem dX7_image_23 : decode cX7_image 23 = .ok (.ldc 147, 2) := by decide +kernel
theorem dX7_image_25 : decode cX7_image 25 = .ok (.ireturn, 1) := by decide +kernel
theorem dX7_image_26 : decode cX7_image 26 = .ok (.aload_n 2, 1) := by decide +kernel
theorem dX7_image_27 : decode cX7_image 27 = .ok (.aload_n 0, 1) := by decide +kernel
theorem dX7_image_28 : decode cX7_image 28 = .ok (.getfield 30, 3) := by decide +kernel
theorem dX7_image_31 : decode cX7_image 31 = .ok (.invokevirtual 134, 3) := by decide +kernel
theorem dX7_image_34 : decode cX7_image 34 = .ok (.iconst 1, 1) := by decide +kernel
theorem dX7_image_35 : decode cX7_image 35 = .ok (.ireturn, 1) := by decide +kernel
theorem dX7_restore_0 : decode cX7_restore 0 = .ok (.aload_n 0, 1) := by decide +kernel
theorem dX7_restore_1 : decode cX7_restore 1 = .ok (.iload_n 1, 1) := by decide +kernel
theorem dX7_restore_2 : decode cX7_restore 2 = .ok (.invokevirtual 232, 3) := by decide +kernel
theorem dX7_restore_5 : decode cX7_restore 5 = .ok (.astore_n 2, 1) := by decide +kernel
theorem dX7_restore_6 : decode cX7_restore 6 = .ok (.aload_n 2, 1) := by decide +kernel
theorem dX7_restore_7 : decode cX7_restore 7 = .ok (.ifnonnull 6, 3) := by decide +kernel
theorem dX7_restore_10 : decode cX7_restore 10 = .ok (.ldc 63, 2) := by decide +kernel
theorem dX7_restore_12 : decode cX7_restore 12 = .ok (.ireturn, 1) := by decide +kernel
theorem dX7_restore_13 : decode cX7_restore 13 = .ok (.aload_n 2, 1) := by decide +kernel
theorem dX7_restore_14 : decode cX7_restore 14 = .ok (.invokevirtual 144, 3) := by decide +kernel
theorem dX7_restore_17 : decode cX7_restore 17 = .ok (.ifCond .ne 6, 3) := by decide +kernel
theorem dX7_restore_20 : decode cX7_restore 20 = .ok (.ldc 147, 2) := by decide +kernel
theorem dX7_restore_22 : decode cX7_restore 22 = .ok (.ireturn, 1) := by decide +kernel
theorem dX7_restore_23 : decode cX7_restore 23 = .ok (.aload_n 0, 1) := by decide +kernel
theorem dX7_restore_24 : decode cX7_restore 24 = .ok (.getfield 30, 3) := by decide +kernel
theorem dX7_restore_27 : decode cX7_restore 27 = .ok (.aload_n 2, 1) := by decide +kernel
theorem dX7_restore_28 : decode cX7_restore 28 = .ok (.invokevirtual 134, 3) := by decide +kernel
theorem dX7_restore_31 : decode cX7_restore 31 = .ok (.aload_n 0, 1) := by decide +kernel
theorem dX7_restore_32 : decode cX7_restore 32 = .ok (.getfield 37, 3) := by decide +kernel
theorem dX7_restore_35 : decode cX7_restore 35 = .ok (.invokevirtual 138, 3) := by decide +kernel
theorem dX7_restore_38 : decode cX7_restore 38 = .ok (.iconst 1, 1) := by decide +kernel
theorem dX7_restore_39 : decode cX7_restore 39 = .ok (.ireturn, 1) := by decide +kernel
theorem dX7_kind_0 : decode cX7_kind 0 = .ok (.aload_n 0, 1) := by decide +kernel
theorem dX7_kind_1 : decode cX7_kind 1 = .ok (.getfield 30, 3) := by decide +kernel
theorem dX7_kind_4 : decode cX7_kind 4 = .ok (.iload_n 1, 1) := by decide +kernel
theorem dX7_kind_5 : decode cX7_kind 5 = .ok (.invokevirtual 163, 3) := by decide +kernel
theorem dX7_kind_8 : decode cX7_kind 8 = .ok (.ifCond .eq 15, 3) := by decide +kernel
theorem dX7_kind_11 : decode cX7_kind 11 = .ok (.aload_n 0, 1) := by decide +kernel
theorem dX7_kind_12 : decode cX7_kind 12 = .ok (.getfield 30, 3) := by decide +kernel
theorem dX7_kind_15 : decode cX7_kind 15 = .ok (.iconst 0, 1) := by decide +kernel
theorem dX7_kind_16 : decode cX7_kind 16 = .ok (.iload_n 1, 1) := by decide +kernel
theorem dX7_kind_17 : decode cX7_kind 17 = .ok (.invokevirtual 167, 3) := by decide +kernel
theorem dX7_kind_20 : decode cX7_kind 20 = .ok (.goto 5, 3) := by decide +kernel
theorem dX7_kind_23 : decode cX7_kind 23 = .ok (.ldc 63, 2) := by decide +kernel
theorem dX7_kind_25 : decode cX7_kind 25 = .ok (.ireturn, 1) := by decide +kernel
theorem dX7_as_0 : decode cX7_as 0 = .ok (.aload_n 0, 1) := by decide +kernel
theorem dX7_as_1 : decode cX7_as 1 = .ok (.getfield 30, 3) := by decide +kernel
theorem dX7_as_4 : decode cX7_as 4 = .ok (.iload_n 1, 1) := by decide +kernel
theorem dX7_as_5 : decode cX7_as 5 = .ok (.invokevirtual 163, 3) := by decide +kernel
theorem dX7_as_8 : decode cX7_as 8 = .ok (.ifCond .eq 12, 3) := by decide +kernel
theorem dX7_as_11 : decode cX7_as 11 = .ok (.iload_n 2, 1) := by decide +kernel
theorem dX7_as_12 : decode cX7_as 12 = .ok (.iconst 0, 1) := by decide +kernel
theorem dX7_as_13 : decode cX7_as 13 = .ok (.iconst 5, 1) := by decide +kernel
theorem dX7_as_14 : decode cX7_as 14 = .ok (.invokestatic 59, 3) := by decide +kernel
theorem dX7_as_17 : decode cX7_as 17 = .ok (.ifCond .ne 6, 3) := by decide +kernel
theorem dX7_as_20 : decode cX7_as 20 = .ok (.ldc 63, 2) := by decide +kernel
theorem dX7_as_22 : decode cX7_as 22 = .ok (.ireturn, 1) := by decide +kernel
theorem dX7_as_23 : decode cX7_as 23 = .ok (.aload_n 0, 1) := by decide +kernel
theorem dX7_as_24 : decode cX7_as 24 = .ok (.getfield 30, 3) := by decide +kernel
theorem dX7_as_27 : decode cX7_as 27 = .ok (.iconst 0, 1) := by decide +kernel
theorem dX7_as_28 : decode cX7_as 28 = .ok (.iload_n 1, 1) := by decide +kernel
theorem dX7_as_29 : decode cX7_as 29 = .ok (.invokevirtual 167, 3) := by decide +kernel
theorem dX7_as_32 : decode cX7_as 32 = .ok (.iload_n 2, 1) := by decide +kernel
theorem dX7_as_33 : decode cX7_as 33 = .ok (.invokestatic 236, 3) := by decide +kernel
theorem dX7_as_36 : decode cX7_as 36 = .ok (.ifCond .eq 11, 3) := by decide +kernel
theorem dX7_as_39 : decode cX7_as 39 = .ok (.aload_n 0, 1) := by decide +kernel
theorem dX7_as_40 : decode cX7_as 40 = .ok (.iload_n 1, 1) := by decide +kernel
theorem dX7_as_41 : decode cX7_as 41 = .ok (.invokevirtual 72, 3) := by decide +kernel
theorem dX7_as_44 : decode cX7_as 44 = .ok (.goto 8, 3) := by decide +kernel
theorem dX7_as_47 : decode cX7_as 47 = .ok (.aload_n 0, 1) := by decide +kernel
theorem dX7_as_48 : decode cX7_as 48 = .ok (.iconst 3, 1) := by decide +kernel
theorem dX7_as_49 : decode cX7_as 49 = .ok (.invokevirtual 64, 3) := by decide +kernel
theorem dX7_as_52 : decode cX7_as 52 = .ok (.ireturn, 1) := by decide +kernel
theorem dX7_ask_0 : decode cX7_ask 0 = .ok (.aload_n 0, 1) := by decide +kernel
theorem dX7_ask_1 : decode cX7_ask 1 = .ok (.getfield 30, 3) := by decide +kernel
theorem dX7_ask_4 : decode cX7_ask 4 = .ok (.iload_n 1, 1) := by decide +kernel
theorem dX7_ask_5 : decode cX7_ask 5 = .ok (.invokevirtual 163, 3) := by decide +kernel
theorem dX7_ask_8 : decode cX7_ask 8 = .ok (.ifCond .eq 12, 3) := by decide +kernel
theorem dX7_ask_11 : decode cX7_ask 11 = .ok (.iload_n 2, 1) := by decide +kernel
theorem dX7_ask_12 : decode cX7_ask 12 = .ok (.iconst 0, 1) := by decide +kernel
theorem dX7_ask_13 : decode cX7_ask 13 = .ok (.iconst 1, 1) := by decide +kernel
theorem dX7_ask_14 : decode cX7_ask 14 = .ok (.invokestatic 59, 3) := by decide +kernel
theorem dX7_ask_17 : decode cX7_ask 17 = .ok (.ifCond .ne 6, 3) := by decide +kernel
theorem dX7_ask_20 : decode cX7_ask 20 = .ok (.ldc 63, 2) := by decide +kernel
theorem dX7_ask_22 : decode cX7_ask 22 = .ok (.ireturn, 1) := by decide +kernel
theorem dX7_ask_23 : decode cX7_ask 23 = .ok (.aload_n 0, 1) := by decide +kernel
theorem dX7_ask_24 : decode cX7_ask 24 = .ok (.getfield 51, 3) := by decide +kernel
theorem dX7_ask_27 : decode cX7_ask 27 = .ok (.aload_n 0, 1) := by decide +kernel
theorem dX7_ask_28 : decode cX7_ask 28 = .ok (.getfield 30, 3) := by decide +kernel
theorem dX7_ask_31 : decode cX7_ask 31 = .ok (.iload_n 1, 1) := by decide +kernel
theorem dX7_ask_32 : decode cX7_ask 32 = .ok (.invokevirtual 239, 3) := by decide +kernel
theorem dX7_ask_35 : decode cX7_ask 35 = .ok (.iload_n 2, 1) := by decide +kernel
theorem dX7_ask_36 : decode cX7_ask 36 = .ok (.ifCond .ne 13, 3) := by decide +kernel
theorem dX7_ask_39 : decode cX7_ask 39 = .ok (.aload_n 0, 1) := by decide +kernel
theorem dX7_ask_40 : decode cX7_ask 40 = .ok (.getfield 51, 3) := by decide +kernel
theorem dX7_ask_43 : decode cX7_ask 43 = .ok (.invokevirtual 242, 3) := by decide +kernel
theorem dX7_ask_46 : decode cX7_ask 46 = .ok (.goto 10, 3) := by decide +kernel
theorem dX7_ask_49 : decode cX7_ask 49 = .ok (.aload_n 0, 1) := by decide +kernel
theorem dX7_ask_50 : decode cX7_ask 50 = .ok (.getfield 51, 3) := by decide +kernel
theorem dX7_ask_53 : decode cX7_ask 53 = .ok (.invokevirtual 245, 3) := by decide +kernel
theorem dX7_ask_56 : decode cX7_ask 56 = .ok (.ireturn, 1) := by decide +kernel
theorem dX7_trace_0 : decode cX7_trace 0 = .ok (.aload_n 0, 1) := by decide +kernel
theorem dX7_trace_1 : decode cX7_trace 1 = .ok (.getfield 51, 3) := by decide +kernel
theorem dX7_trace_4 : decode cX7_trace 4 = .ok (.iload_n 1, 1) := by decide +kernel
theorem dX7_trace_5 : decode cX7_trace 5 = .ok (.invokevirtual 248, 3) := by decide +kernel
theorem dX7_trace_8 : decode cX7_trace 8 = .ok (.ireturn, 1) := by decide +kernel
theorem dX7_count_0 : decode cX7_count 0 = .ok (.iload_n 1, 1) := by decide +kernel
theorem dX7_count_1 : decode cX7_count 1 = .ok (.tableswitch 99 0 6 #[43, 48, 56, 64, 72, 80, 88], 43) := by decide +kernel
theorem dX7_count_44 : decode cX7_count 44 = .ok (.aload_n 0, 1) := by decide +kernel
theorem dX7_count_45 : decode cX7_count 45 = .ok (.invokevirtual 251, 3) := by decide +kernel
theorem dX7_count_48 : decode cX7_count 48 = .ok (.ireturn, 1) := by decide +kernel
theorem dX7_count_49 : decode cX7_count 49 = .ok (.aload_n 0, 1) := by decide +kernel
theorem dX7_count_50 : decode cX7_count 50 = .ok (.getfield 30, 3) := by decide +kernel
theorem dX7_count_53 : decode cX7_count 53 = .ok (.getfield 141, 3) := by decide +kernel
theorem dX7_count_56 : decode cX7_count 56 = .ok (.ireturn, 1) := by decide +kernel
theorem dX7_count_57 : decode cX7_count 57 = .ok (.aload_n 0, 1) := by decide +kernel
theorem dX7_count_58 : decode cX7_count 58 = .ok (.getfield 30, 3) := by decide +kernel
theorem dX7_count_61 : decode cX7_count 61 = .ok (.getfield 148, 3) := by decide +kernel
theorem dX7_count_64 : decode cX7_count 64 = .ok (.ireturn, 1) := by decide +kernel
theorem dX7_count_65 : decode cX7_count 65 = .ok (.aload_n 0, 1) := by decide +kernel
theorem dX7_count_66 : decode cX7_count 66 = .ok (.getfield 30, 3) := by decide +kernel
theorem dX7_count_69 : decode cX7_count 69 = .ok (.getfield 157, 3) := by decide +kernel
theorem dX7_count_72 : decode cX7_count 72 = .ok (.ireturn, 1) := by decide +kernel
theorem dX7_count_73 : decode cX7_count 73 = .ok (.aload_n 0, 1) := by decide +kernel
theorem dX7_count_74 : decode cX7_count 74 = .ok (.getfield 30, 3) := by decide +kernel
theorem dX7_count_77 : decode cX7_count 77 = .ok (.invokevirtual 254, 3) := by decide +kernel
theorem dX7_count_80 : decode cX7_count 80 = .ok (.ireturn, 1) := by decide +kernel
theorem dX7_count_81 : decode cX7_count 81 = .ok (.aload_n 0, 1) := by decide +kernel
theorem dX7_count_82 : decode cX7_count 82 = .ok (.getfield 37, 3) := by decide +kernel
theorem dX7_count_85 : decode cX7_count 85 = .ok (.getfield 180, 3) := by decide +kernel
theorem dX7_count_88 : decode cX7_count 88 = .ok (.ireturn, 1) := by decide +kernel
theorem dX7_count_89 : decode cX7_count 89 = .ok (.aload_n 0, 1) := by decide +kernel
theorem dX7_count_90 : decode cX7_count 90 = .ok (.getfield 26, 3) := by decide +kernel
theorem dX7_count_93 : decode cX7_count 93 = .ok (.getfield 103, 3) := by decide +kernel
theorem dX7_count_96 : decode cX7_count 96 = .ok (.getfield 107, 3) := by decide +kernel
theorem dX7_count_99 : decode cX7_count 99 = .ok (.ireturn, 1) := by decide +kernel
theorem dX7_count_100 : decode cX7_count 100 = .ok (.ldc 63, 2) := by decide +kernel
theorem dX7_count_102 : decode cX7_count 102 = .ok (.ireturn, 1) := by decide +kernel
theorem dX7_status_0 : decode cX7_status 0 = .ok (.aload_n 0, 1) := by decide +kernel
theorem dX7_status_1 : decode cX7_status 1 = .ok (.getfield 257, 3) := by decide +kernel
theorem dX7_status_4 : decode cX7_status 4 = .ok (.ireturn, 1) := by decide +kernel
theorem dX7_rowAt_0 : decode cX7_rowAt 0 = .ok (.iload_n 1, 1) := by decide +kernel
theorem dX7_rowAt_1 : decode cX7_rowAt 1 = .ok (.ifCond .lt 21, 3) := by decide +kernel
theorem dX7_rowAt_4 : decode cX7_rowAt 4 = .ok (.iload_n 1, 1) := by decide +kernel
theorem dX7_rowAt_5 : decode cX7_rowAt 5 = .ok (.aload_n 0, 1) := by decide +kernel
theorem dX7_rowAt_6 : decode cX7_rowAt 6 = .ok (.getfield 11, 3) := by decide +kernel
theorem dX7_rowAt_9 : decode cX7_rowAt 9 = .ok (.arraylength, 1) := by decide +kernel
theorem dX7_rowAt_10 : decode cX7_rowAt 10 = .ok (.if_icmp .ge 12, 3) := by decide +kernel
theorem dX7_rowAt_13 : decode cX7_rowAt 13 = .ok (.aload_n 0, 1) := by decide +kernel
theorem dX7_rowAt_14 : decode cX7_rowAt 14 = .ok (.getfield 11, 3) := by decide +kernel
theorem dX7_rowAt_17 : decode cX7_rowAt 17 = .ok (.iload_n 1, 1) := by decide +kernel
theorem dX7_rowAt_18 : decode cX7_rowAt 18 = .ok (.aaload, 1) := by decide +kernel
theorem dX7_rowAt_19 : decode cX7_rowAt 19 = .ok (.goto 4, 3) := by decide +kernel
theorem dX7_rowAt_22 : decode cX7_rowAt 22 = .ok (.aconst_null, 1) := by decide +kernel
theorem dX7_rowAt_23 : decode cX7_rowAt 23 = .ok (.areturn, 1) := by decide +kernel
theorem dX7_imageAt_0 : decode cX7_imageAt 0 = .ok (.iload_n 1, 1) := by decide +kernel
theorem dX7_imageAt_1 : decode cX7_imageAt 1 = .ok (.ifCond .lt 21, 3) := by decide +kernel
theorem dX7_imageAt_4 : decode cX7_imageAt 4 = .ok (.iload_n 1, 1) := by decide +kernel
theorem dX7_imageAt_5 : decode cX7_imageAt 5 = .ok (.aload_n 0, 1) := by decide +kernel
theorem dX7_imageAt_6 : decode cX7_imageAt 6 = .ok (.getfield 18, 3) := by decide +kernel
theorem dX7_imageAt_9 : decode cX7_imageAt 9 = .ok (.arraylength, 1) := by decide +kernel
theorem dX7_imageAt_10 : decode cX7_imageAt 10 = .ok (.if_icmp .ge 12, 3) := by decide +kernel
theorem dX7_imageAt_13 : decode cX7_imageAt 13 = .ok (.aload_n 0, 1) := by decide +kernel
theorem dX7_imageAt_14 : decode cX7_imageAt 14 = .ok (.getfield 18, 3) := by decide +kernel
theorem dX7_imageAt_17 : decode cX7_imageAt 17 = .ok (.iload_n 1, 1) := by decide +kernel
theorem dX7_imageAt_18 : decode cX7_imageAt 18 = .ok (.aaload, 1) := by decide +kernel
theorem dX7_imageAt_19 : decode cX7_imageAt 19 = .ok (.goto 4, 3) := by decide +kernel
theorem dX7_imageAt_22 : decode cX7_imageAt 22 = .ok (.aconst_null, 1) := by decide +kernel
theorem dX7_imageAt_23 : decode cX7_imageAt 23 = .ok (.areturn, 1) := by decide +kernel
theorem dX7_rowsThere_0 : decode cX7_rowsThere 0 = .ok (.iconst 0, 1) := by decide +kernel
theorem dX7_rowsThere_1 : decode cX7_rowsThere 1 = .ok (.istore_n 1, 1) := by decide +kernel
theorem dX7_rowsThere_2 : decode cX7_rowsThere 2 = .ok (.iconst 0, 1) := by decide +kernel
theorem dX7_rowsThere_3 : decode cX7_rowsThere 3 = .ok (.istore_n 2, 1) := by decide +kernel
theorem dX7_rowsThere_4 : decode cX7_rowsThere 4 = .ok (.iload_n 2, 1) := by decide +kernel
theorem dX7_rowsThere_5 : decode cX7_rowsThere 5 = .ok (.aload_n 0, 1) := by decide +kernel
theorem dX7_rowsThere_6 : decode cX7_rowsThere 6 = .ok (.getfield 11, 3) := by decide +kernel
theorem dX7_rowsThere_9 : decode cX7_rowsThere 9 = .ok (.arraylength, 1) := by decide +kernel
theorem dX7_rowsThere_10 : decode cX7_rowsThere 10 = .ok (.if_icmp .ge 30, 3) := by decide +kernel
theorem dX7_rowsThere_13 : decode cX7_rowsThere 13 = .ok (.aload_n 0, 1) := by decide +kernel
theorem dX7_rowsThere_14 : decode cX7_rowsThere 14 = .ok (.getfield 11, 3) := by decide +kernel
theorem dX7_rowsThere_17 : decode cX7_rowsThere 17 = .ok (.iload_n 2, 1) := by decide +kernel
theorem dX7_rowsThere_18 : decode cX7_rowsThere 18 = .ok (.aaload, 1) := by decide +kernel
theorem dX7_rowsThere_19 : decode cX7_rowsThere 19 = .ok (.astore_n 3, 1) := by decide +kernel
theorem dX7_rowsThere_20 : decode cX7_rowsThere 20 = .ok (.aload_n 3, 1) := by decide +kernel
theorem dX7_rowsThere_21 : decode cX7_rowsThere 21 = .ok (.ifnull 13, 3) := by decide +kernel
theorem dX7_rowsThere_24 : decode cX7_rowsThere 24 = .ok (.aload_n 3, 1) := by decide +kernel
theorem dX7_rowsThere_25 : decode cX7_rowsThere 25 = .ok (.invokevirtual 75, 3) := by decide +kernel
theorem dX7_rowsThere_28 : decode cX7_rowsThere 28 = .ok (.ifCond .ne 6, 3) := by decide +kernel
theorem dX7_rowsThere_31 : decode cX7_rowsThere 31 = .ok (.iinc 1 1, 3) := by decide +kernel
theorem dX7_rowsThere_34 : decode cX7_rowsThere 34 = .ok (.iinc 2 1, 3) := by decide +kernel
theorem dX7_rowsThere_37 : decode cX7_rowsThere 37 = .ok (.goto (-33), 3) := by decide +kernel
theorem dX7_rowsThere_40 : decode cX7_rowsThere 40 = .ok (.iload_n 1, 1) := by decide +kernel
theorem dX7_rowsThere_41 : decode cX7_rowsThere 41 = .ok (.ireturn, 1) := by decide +kernel
theorem dX7_found_0 : decode cX7_found 0 = .ok (.aload_n 0, 1) := by decide +kernel
theorem dX7_found_1 : decode cX7_found 1 = .ok (.iload_n 1, 1) := by decide +kernel
theorem dX7_found_2 : decode cX7_found 2 = .ok (.putfield 257, 3) := by decide +kernel
theorem dX7_found_5 : decode cX7_found 5 = .ok (.ldc_w 260, 3) := by decide +kernel
theorem dX7_found_8 : decode cX7_found 8 = .ok (.iload_n 1, 1) := by decide +kernel
theorem dX7_found_9 : decode cX7_found 9 = .ok (.isub, 1) := by decide +kernel
theorem dX7_found_10 : decode cX7_found 10 = .ok (.ireturn, 1) := by decide +kernel
theorem dX7_fine_0 : decode cX7_fine 0 = .ok (.aload_n 0, 1) := by decide +kernel
theorem dX7_fine_1 : decode cX7_fine 1 = .ok (.iconst 0, 1) := by decide +kernel
theorem dX7_fine_2 : decode cX7_fine 2 = .ok (.putfield 257, 3) := by decide +kernel
theorem dX7_fine_5 : decode cX7_fine 5 = .ok (.iload_n 1, 1) := by decide +kernel
theorem dX7_fine_6 : decode cX7_fine 6 = .ok (.ireturn, 1) := by decide +kernel
theorem dX7_within_0 : decode cX7_within 0 = .ok (.iload_n 0, 1) := by decide +kernel
theorem dX7_within_1 : decode cX7_within 1 = .ok (.iload_n 1, 1) := by decide +kernel
theorem dX7_within_2 : decode cX7_within 2 = .ok (.if_icmp .lt 12, 3) := by decide +kernel
theorem dX7_within_5 : decode cX7_within 5 = .ok (.iload_n 0, 1) := by decide +kernel
theorem dX7_within_6 : decode cX7_within 6 = .ok (.iload_n 2, 1) := by decide +kernel
theorem dX7_within_7 : decode cX7_within 7 = .ok (.if_icmp .gt 7, 3) := by decide +kernel
theorem dX7_within_10 : decode cX7_within 10 = .ok (.iconst 1, 1) := by decide +kernel
theorem dX7_within_11 : decode cX7_within 11 = .ok (.goto 4, 3) := by decide +kernel
theorem dX7_within_14 : decode cX7_within 14 = .ok (.iconst 0, 1) := by decide +kernel
theorem dX7_within_15 : decode cX7_within 15 = .ok (.ireturn, 1) := by decide +kernel
theorem dX7_leftOver_0 : decode cX7_leftOver 0 = .ok (.iload_n 1, 1) := by decide +kernel
theorem dX7_leftOver_1 : decode cX7_leftOver 1 = .ok (.ifCond .gt 5, 3) := by decide +kernel
theorem dX7_leftOver_4 : decode cX7_leftOver 4 = .ok (.iconst 0, 1) := by decide +kernel
theorem dX7_leftOver_5 : decode cX7_leftOver 5 = .ok (.ireturn, 1) := by decide +kernel
theorem dX7_leftOver_6 : decode cX7_leftOver 6 = .ok (.iload_n 0, 1) := by decide +kernel
theorem dX7_leftOver_7 : decode cX7_leftOver 7 = .ok (.iload_n 1, 1) := by decide +kernel
theorem dX7_leftOver_8 : decode cX7_leftOver 8 = .ok (.irem, 1) := by decide +kernel
theorem dX7_leftOver_9 : decode cX7_leftOver 9 = .ok (.istore_n 2, 1) := by decide +kernel
theorem dX7_leftOver_10 : decode cX7_leftOver 10 = .ok (.iload_n 2, 1) := by decide +kernel
theorem dX7_leftOver_11 : decode cX7_leftOver 11 = .ok (.ifCond .ge 9, 3) := by decide +kernel
theorem dX7_leftOver_14 : decode cX7_leftOver 14 = .ok (.iload_n 2, 1) := by decide +kernel
theorem dX7_leftOver_15 : decode cX7_leftOver 15 = .ok (.iload_n 1, 1) := by decide +kernel
theorem dX7_leftOver_16 : decode cX7_leftOver 16 = .ok (.iadd, 1) := by decide +kernel
theorem dX7_leftOver_17 : decode cX7_leftOver 17 = .ok (.goto 4, 3) := by decide +kernel
theorem dX7_leftOver_20 : decode cX7_leftOver 20 = .ok (.iload_n 2, 1) := by decide +kernel
theorem dX7_leftOver_21 : decode cX7_leftOver 21 = .ok (.ireturn, 1) := by decide +kernel
theorem dX7_isOne_0 : decode cX7_isOne 0 = .ok (.iload_n 1, 1) := by decide +kernel
theorem dX7_isOne_1 : decode cX7_isOne 1 = .ok (.tableswitch 74 0 4 #[35, 37, 74, 74, 58], 35) := by decide +kernel
theorem dX7_isOne_36 : decode cX7_isOne 36 = .ok (.iconst 1, 1) := by decide +kernel
theorem dX7_isOne_37 : decode cX7_isOne 37 = .ok (.ireturn, 1) := by decide +kernel
theorem dX7_isOne_38 : decode cX7_isOne 38 = .ok (.iload_n 0, 1) := by decide +kernel
theorem dX7_isOne_39 : decode cX7_isOne 39 = .ok (.iconst 1, 1) := by decide +kernel
theorem dX7_isOne_40 : decode cX7_isOne 40 = .ok (.if_icmp .eq 13, 3) := by decide +kernel
theorem dX7_isOne_43 : decode cX7_isOne 43 = .ok (.iload_n 0, 1) := by decide +kernel
theorem dX7_isOne_44 : decode cX7_isOne 44 = .ok (.iconst 2, 1) := by decide +kernel
theorem dX7_isOne_45 : decode cX7_isOne 45 = .ok (.if_icmp .eq 8, 3) := by decide +kernel
theorem dX7_isOne_48 : decode cX7_isOne 48 = .ok (.iload_n 0, 1) := by decide +kernel
theorem dX7_isOne_49 : decode cX7_isOne 49 = .ok (.iconst 3, 1) := by decide +kernel
theorem dX7_isOne_50 : decode cX7_isOne 50 = .ok (.if_icmp .ne 7, 3) := by decide +kernel
theorem dX7_isOne_53 : decode cX7_isOne 53 = .ok (.iconst 1, 1) := by decide +kernel
theorem dX7_isOne_54 : decode cX7_isOne 54 = .ok (.goto 4, 3) := by decide +kernel
theorem dX7_isOne_57 : decode cX7_isOne 57 = .ok (.iconst 0, 1) := by decide +kernel
theorem dX7_isOne_58 : decode cX7_isOne 58 = .ok (.ireturn, 1) := by decide +kernel
theorem dX7_isOne_59 : decode cX7_isOne 59 = .ok (.iload_n 0, 1) := by decide +kernel
theorem dX7_isOne_60 : decode cX7_isOne 60 = .ok (.iconst 4, 1) := by decide +kernel
theorem dX7_isOne_61 : decode cX7_isOne 61 = .ok (.if_icmp .eq 8, 3) := by decide +kernel
theorem dX7_isOne_64 : decode cX7_isOne 64 = .ok (.iload_n 0, 1) := by decide +kernel
theorem dX7_isOne_65 : decode cX7_isOne 65 = .ok (.iconst 5, 1) := by decide +kernel
theorem dX7_isOne_66 : decode cX7_isOne 66 = .ok (.if_icmp .ne 7, 3) := by decide +kernel
theorem dX7_isOne_69 : decode cX7_isOne 69 = .ok (.iconst 1, 1) := by decide +kernel
theorem dX7_isOne_70 : decode cX7_isOne 70 = .ok (.goto 4, 3) := by decide +kernel
theorem dX7_isOne_73 : decode cX7_isOne 73 = .ok (.iconst 0, 1) := by decide +kernel
theorem dX7_isOne_74 : decode cX7_isOne 74 = .ok (.ireturn, 1) := by decide +kernel
theorem dX7_isOne_75 : decode cX7_isOne 75 = .ok (.iload_n 0, 1) := by decide +kernel
theorem dX7_isOne_76 : decode cX7_isOne 76 = .ok (.iload_n 1, 1) := by decide +kernel
theorem dX7_isOne_77 : decode cX7_isOne 77 = .ok (.if_icmp .ne 7, 3) := by decide +kernel
theorem dX7_isOne_80 : decode cX7_isOne 80 = .ok (.iconst 1, 1) := by decide +kernel
theorem dX7_isOne_81 : decode cX7_isOne 81 = .ok (.goto 4, 3) := by decide +kernel
theorem dX7_isOne_84 : decode cX7_isOne 84 = .ok (.iconst 0, 1) := by decide +kernel
theorem dX7_isOne_85 : decode cX7_isOne 85 = .ok (.ireturn, 1) := by decide +kernel
