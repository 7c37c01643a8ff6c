theorem dX8_init_0 : decode cX8_init 0 = .ok (.aload_n 0, 1) := by decide +kernel
theorem dX8_init_1 : decode cX8_init 1 = .ok (.invokespecial 1, 3) := by decide +kernel
theorem dX8_init_4 : decode cX8_init 4 = .ok (.aload_n 0, 1) := by decide +kernel
theorem dX8_init_5 : decode cX8_init 5 = .ok (.sipush 1131, 3) := by decide +kernel
theorem dX8_init_8 : decode cX8_init 8 = .ok (.newarray .int, 2) := by decide +kernel
theorem dX8_init_10 : decode cX8_init 10 = .ok (.putfield 7, 3) := by decide +kernel
theorem dX8_init_13 : decode cX8_init 13 = .ok (.aload_n 0, 1) := by decide +kernel
theorem dX8_init_14 : decode cX8_init 14 = .ok (.sipush 300, 3) := by decide +kernel
theorem dX8_init_17 : decode cX8_init 17 = .ok (.newarray .int, 2) := by decide +kernel
theorem dX8_init_19 : decode cX8_init 19 = .ok (.putfield 13, 3) := by decide +kernel
theorem dX8_init_22 : decode cX8_init 22 = .ok (.aload_n 0, 1) := by decide +kernel
theorem dX8_init_23 : decode cX8_init 23 = .ok (.bipush 8, 2) := by decide +kernel
theorem dX8_init_25 : decode cX8_init 25 = .ok (.newarray .int, 2) := by decide +kernel
theorem dX8_init_27 : decode cX8_init 27 = .ok (.putfield 16, 3) := by decide +kernel
theorem dX8_init_30 : decode cX8_init 30 = .ok (.aload_n 0, 1) := by decide +kernel
theorem dX8_init_31 : decode cX8_init 31 = .ok (.bipush 8, 2) := by decide +kernel
theorem dX8_init_33 : decode cX8_init 33 = .ok (.newarray .int, 2) := by decide +kernel
theorem dX8_init_35 : decode cX8_init 35 = .ok (.putfield 19, 3) := by decide +kernel
theorem dX8_init_38 : decode cX8_init 38 = .ok (.aload_n 0, 1) := by decide +kernel
theorem dX8_init_39 : decode cX8_init 39 = .ok (.sipush 320, 3) := by decide +kernel
theorem dX8_init_42 : decode cX8_init 42 = .ok (.newarray .int, 2) := by decide +kernel
theorem dX8_init_44 : decode cX8_init 44 = .ok (.putfield 22, 3) := by decide +kernel
theorem dX8_init_47 : decode cX8_init 47 = .ok (.aload_n 0, 1) := by decide +kernel
theorem dX8_init_48 : decode cX8_init 48 = .ok (.bipush 40, 2) := by decide +kernel
theorem dX8_init_50 : decode cX8_init 50 = .ok (.newarray .int, 2) := by decide +kernel
theorem dX8_init_52 : decode cX8_init 52 = .ok (.putfield 25, 3) := by decide +kernel
theorem dX8_init_55 : decode cX8_init 55 = .ok (.aload_n 0, 1) := by decide +kernel
theorem dX8_init_56 : decode cX8_init 56 = .ok (.iconst 2, 1) := by decide +kernel
theorem dX8_init_57 : decode cX8_init 57 = .ok (.newarray .boolean, 2) := by decide +kernel
theorem dX8_init_59 : decode cX8_init 59 = .ok (.putfield 28, 3) := by decide +kernel
theorem dX8_init_62 : decode cX8_init 62 = .ok (.aload_n 0, 1) := by decide +kernel
theorem dX8_init_63 : decode cX8_init 63 = .ok (.bipush 16, 2) := by decide +kernel
theorem dX8_init_65 : decode cX8_init 65 = .ok (.newarray .int, 2) := by decide +kernel
theorem dX8_init_67 : decode cX8_init 67 = .ok (.putfield 32, 3) := by decide +kernel
theorem dX8_init_70 : decode cX8_init 70 = .ok (.iconst 0, 1) := by decide +kernel
theorem dX8_init_71 : decode cX8_init 71 = .ok (.istore_n 1, 1) := by decide +kernel
theorem dX8_init_72 : decode cX8_init 72 = .ok (.iload_n 1, 1) := by decide +kernel
theorem dX8_init_73 : decode cX8_init 73 = .ok (.bipush 8, 2) := by decide +kernel
theorem dX8_init_75 : decode cX8_init 75 = .ok (.if_icmp .ge 16, 3) := by decide +kernel
theorem dX8_init_78 : decode cX8_init 78 = .ok (.aload_n 0, 1) := by decide +kernel
theorem dX8_init_79 : decode cX8_init 79 = .ok (.getfield 16, 3) := by decide +kernel
theorem dX8_init_82 : decode cX8_init 82 = .ok (.iload_n 1, 1) := by decide +kernel
theorem dX8_init_83 : decode cX8_init 83 = .ok (.iconst (-1), 1) := by decide +kernel
theorem dX8_init_84 : decode cX8_init 84 = .ok (.iastore, 1) := by decide +kernel
theorem dX8_init_85 : decode cX8_init 85 = .ok (.iinc 1 1, 3) := by decide +kernel
theorem dX8_init_88 : decode cX8_init 88 = .ok (.goto (-16), 3) := by decide +kernel
theorem dX8_init_91 : decode cX8_init 91 = .ok (.return_, 1) := by decide +kernel
theorem dX8_in_0 : decode cX8_in 0 = .ok (.lload_n 0, 1) := by decide +kernel
theorem dX8_in_1 : decode cX8_in 1 = .ok (.lload_n 2, 1) := by decide +kernel
theorem dX8_in_2 : decode cX8_in 2 = .ok (.lcmp, 1) := by decide +kernel
theorem dX8_in_3 : decode cX8_in 3 = .ok (.ifCond .lt 14, 3) := by decide +kernel
theorem dX8_in_6 : decode cX8_in 6 = .ok (.lload_n 0, 1) := by decide +kernel
theorem dX8_in_7 : decode cX8_in 7 = .ok (.lload 4, 2) := by decide +kernel
theorem dX8_in_9 : decode cX8_in 9 = .ok (.lcmp, 1) := by decide +kernel
theorem dX8_in_10 : decode cX8_in 10 = .ok (.ifCond .gt 7, 3) := by decide +kernel
theorem dX8_in_13 : decode cX8_in 13 = .ok (.iconst 1, 1) := by decide +kernel
theorem dX8_in_14 : decode cX8_in 14 = .ok (.goto 4, 3) := by decide +kernel
theorem dX8_in_17 : decode cX8_in 17 = .ok (.iconst 0, 1) := by decide +kernel
theorem dX8_in_18 : decode cX8_in 18 = .ok (.ireturn, 1) := by decide +kernel
theorem dX8_copyRow_0 : decode cX8_copyRow 0 = .ok (.iconst 0, 1) := by decide +kernel
theorem dX8_copyRow_1 : decode cX8_copyRow 1 = .ok (.istore_n 3, 1) := by decide +kernel
theorem dX8_copyRow_2 : decode cX8_copyRow 2 = .ok (.iload_n 3, 1) := by decide +kernel
theorem dX8_copyRow_3 : decode cX8_copyRow 3 = .ok (.bipush 39, 2) := by decide +kernel
theorem dX8_copyRow_5 : decode cX8_copyRow 5 = .ok (.if_icmp .ge 25, 3) := by decide +kernel
theorem dX8_copyRow_8 : decode cX8_copyRow 8 = .ok (.aload_n 0, 1) := by decide +kernel
theorem dX8_copyRow_9 : decode cX8_copyRow 9 = .ok (.getfield 7, 3) := by decide +kernel
theorem dX8_copyRow_12 : decode cX8_copyRow 12 = .ok (.iload_n 2, 1) := by decide +kernel
theorem dX8_copyRow_13 : decode cX8_copyRow 13 = .ok (.iload_n 3, 1) := by decide +kernel
theorem dX8_copyRow_14 : decode cX8_copyRow 14 = .ok (.iadd, 1) := by decide +kernel
theorem dX8_copyRow_15 : decode cX8_copyRow 15 = .ok (.aload_n 0, 1) := by decide +kernel
theorem dX8_copyRow_16 : decode cX8_copyRow 16 = .ok (.getfield 7, 3) := by decide +kernel
theorem dX8_copyRow_19 : decode cX8_copyRow 19 = .ok (.iload_n 1, 1) := by decide +kernel
theorem dX8_copyRow_20 : decode cX8_copyRow 20 = .ok (.iload_n 3, 1) := by decide +kernel
theorem dX8_copyRow_21 : decode cX8_copyRow 21 = .ok (.iadd, 1) := by decide +kernel
theorem dX8_copyRow_22 : decode cX8_copyRow 22 = .ok (.iaload, 1) := by decide +kernel
theorem dX8_copyRow_23 : decode cX8_copyRow 23 = .ok (.iastore, 1) := by decide +kernel
theorem dX8_copyRow_24 : decode cX8_copyRow 24 = .ok (.iinc 3 1, 3) := by decide +kernel
theorem dX8_copyRow_27 : decode cX8_copyRow 27 = .ok (.goto (-25), 3) := by decide +kernel
theorem dX8_copyRow_30 : decode cX8_copyRow 30 = .ok (.return_, 1) := by decide +kernel
theorem dX8_isRow_0 : decode cX8_isRow 0 = .ok (.iload_n 0, 1) := by decide +kernel
theorem dX8_isRow_1 : decode cX8_isRow 1 = .ok (.i2l, 1) := by decide +kernel
theorem dX8_isRow_2 : decode cX8_isRow 2 = .ok (.lconst 0, 1) := by decide +kernel
theorem dX8_isRow_3 : decode cX8_isRow 3 = .ok (.ldc2_w 35, 3) := by decide +kernel
theorem dX8_isRow_6 : decode cX8_isRow 6 = .ok (.invokestatic 37, 3) := by decide +kernel
theorem dX8_isRow_9 : decode cX8_isRow 9 = .ok (.ireturn, 1) := by decide +kernel
theorem dX8_found_0 : decode cX8_found 0 = .ok (.aload_n 0, 1) := by decide +kernel
theorem dX8_found_1 : decode cX8_found 1 = .ok (.iload_n 1, 1) := by decide +kernel
theorem dX8_found_2 : decode cX8_found 2 = .ok (.putfield 41, 3) := by decide +kernel
theorem dX8_found_5 : decode cX8_found 5 = .ok (.ldc 45, 2) := by decide +kernel
theorem dX8_found_7 : decode cX8_found 7 = .ok (.iload_n 1, 1) := by decide +kernel
theorem dX8_found_8 : decode cX8_found 8 = .ok (.isub, 1) := by decide +kernel
theorem dX8_found_9 : decode cX8_found 9 = .ok (.ireturn, 1) := by decide +kernel
theorem dX8_well_0 : decode cX8_well 0 = .ok (.aload_n 0, 1) := by decide +kernel
theorem dX8_well_1 : decode cX8_well 1 = .ok (.iconst 0, 1) := by decide +kernel
theorem dX8_well_2 : decode cX8_well 2 = .ok (.putfield 41, 3) := by decide +kernel
theorem dX8_well_5 : decode cX8_well 5 = .ok (.iload_n 1, 1) := by decide +kernel
theorem dX8_well_6 : decode cX8_well 6 = .ok (.ireturn, 1) := by decide +kernel
theorem dX8_row_0 : decode cX8_row 0 = .ok (.iload_n 1, 1) := by decide +kernel
theorem dX8_row_1 : decode cX8_row 1 = .ok (.invokestatic 46, 3) := by decide +kernel
theorem dX8_row_4 : decode cX8_row 4 = .ok (.ifCond .eq 21, 3) := by decide +kernel
theorem dX8_row_7 : decode cX8_row 7 = .ok (.iload_n 2, 1) := by decide +kernel
theorem dX8_row_8 : decode cX8_row 8 = .ok (.i2l, 1) := by decide +kernel
theorem dX8_row_9 : decode cX8_row 9 = .ok (.lconst 0, 1) := by decide +kernel
theorem dX8_row_10 : decode cX8_row 10 = .ok (.ldc2_w 50, 3) := by decide +kernel
theorem dX8_row_13 : decode cX8_row 13 = .ok (.invokestatic 37, 3) := by decide +kernel
theorem dX8_row_16 : decode cX8_row 16 = .ok (.ifCond .eq 9, 3) := by decide +kernel
theorem dX8_row_19 : decode cX8_row 19 = .ok (.iload_n 3, 1) := by decide +kernel
theorem dX8_row_20 : decode cX8_row 20 = .ok (.bipush 40, 2) := by decide +kernel
theorem dX8_row_22 : decode cX8_row 22 = .ok (.if_icmp .le 6, 3) := by decide +kernel
theorem dX8_row_25 : decode cX8_row 25 = .ok (.ldc 52, 2) := by decide +kernel
theorem dX8_row_27 : decode cX8_row 27 = .ok (.ireturn, 1) := by decide +kernel
theorem dX8_row_28 : decode cX8_row 28 = .ok (.iload_n 3, 1) := by decide +kernel
theorem dX8_row_29 : decode cX8_row 29 = .ok (.ifCond .ge 9, 3) := by decide +kernel
theorem dX8_row_32 : decode cX8_row 32 = .ok (.aload_n 0, 1) := by decide +kernel
theorem dX8_row_33 : decode cX8_row 33 = .ok (.iconst 4, 1) := by decide +kernel
theorem dX8_row_34 : decode cX8_row 34 = .ok (.invokevirtual 53, 3) := by decide +kernel
theorem dX8_row_37 : decode cX8_row 37 = .ok (.ireturn, 1) := by decide +kernel
theorem dX8_row_38 : decode cX8_row 38 = .ok (.aload_n 0, 1) := by decide +kernel
theorem dX8_row_39 : decode cX8_row 39 = .ok (.getfield 16, 3) := by decide +kernel
theorem dX8_row_42 : decode cX8_row 42 = .ok (.iload_n 1, 1) := by decide +kernel
theorem dX8_row_43 : decode cX8_row 43 = .ok (.iload_n 2, 1) := by decide +kernel
theorem dX8_row_44 : decode cX8_row 44 = .ok (.iastore, 1) := by decide +kernel
theorem dX8_row_45 : decode cX8_row 45 = .ok (.aload_n 0, 1) := by decide +kernel
theorem dX8_row_46 : decode cX8_row 46 = .ok (.getfield 19, 3) := by decide +kernel
theorem dX8_row_49 : decode cX8_row 49 = .ok (.iload_n 1, 1) := by decide +kernel
theorem dX8_row_50 : decode cX8_row 50 = .ok (.iload_n 3, 1) := by decide +kernel
theorem dX8_row_51 : decode cX8_row 51 = .ok (.iastore, 1) := by decide +kernel
theorem dX8_row_52 : decode cX8_row 52 = .ok (.iconst 0, 1) := by decide +kernel
theorem dX8_row_53 : decode cX8_row 53 = .ok (.istore 4, 2) := by decide +kernel
theorem dX8_row_55 : decode cX8_row 55 = .ok (.iload 4, 2) := by decide +kernel
theorem dX8_row_57 : decode cX8_row 57 = .ok (.bipush 40, 2) := by decide +kernel
theorem dX8_row_59 : decode cX8_row 59 = .ok (.if_icmp .ge 22, 3) := by decide +kernel
theorem dX8_row_62 : decode cX8_row 62 = .ok (.aload_n 0, 1) := by decide +kernel
theorem dX8_row_63 : decode cX8_row 63 = .ok (.getfield 22, 3) := by decide +kernel
theorem dX8_row_66 : decode cX8_row 66 = .ok (.bipush 40, 2) := by decide +kernel
theorem dX8_row_68 : decode cX8_row 68 = .ok (.iload_n 1, 1) := by decide +kernel
theorem dX8_row_69 : decode cX8_row 69 = .ok (.imul, 1) := by decide +kernel
theorem dX8_row_70 : decode cX8_row 70 = .ok (.iload 4, 2) := by decide +kernel
theorem dX8_row_72 : decode cX8_row 72 = .ok (.iadd, 1) := by decide +kernel
theorem dX8_row_73 : decode cX8_row 73 = .ok (.iconst 0, 1) := by decide +kernel
theorem dX8_row_74 : decode cX8_row 74 = .ok (.iastore, 1) := by decide +kernel
theorem dX8_row_75 : decode cX8_row 75 = .ok (.iinc 4 1, 3) := by decide +kernel
theorem dX8_row_78 : decode cX8_row 78 = .ok (.goto (-23), 3) := by decide +kernel
theorem dX8_row_81 : decode cX8_row 81 = .ok (.aload_n 0, 1) := by decide +kernel
theorem dX8_row_82 : decode cX8_row 82 = .ok (.iload_n 3, 1) := by decide +kernel
theorem dX8_row_83 : decode cX8_row 83 = .ok (.invokevirtual 57, 3) := by decide +kernel
theorem dX8_row_86 : decode cX8_row 86 = .ok (.ireturn, 1) := by decide +kernel
theorem dX8_set_0 : decode cX8_set 0 = .ok (.iload_n 1, 1) := by decide +kernel
theorem dX8_set_1 : decode cX8_set 1 = .ok (.invokestatic 46, 3) := by decide +kernel
theorem dX8_set_4 : decode cX8_set 4 = .ok (.ifCond .ne 6, 3) := by decide +kernel
theorem dX8_set_7 : decode cX8_set 7 = .ok (.ldc 52, 2) := by decide +kernel
theorem dX8_set_9 : decode cX8_set 9 = .ok (.ireturn, 1) := by decide +kernel
theorem dX8_set_10 : decode cX8_set 10 = .ok (.aload_n 0, 1) := by decide +kernel
theorem dX8_set_11 : decode cX8_set 11 = .ok (.getfield 16, 3) := by decide +kernel
theorem dX8_set_14 : decode cX8_set 14 = .ok (.iload_n 1, 1) := by decide +kernel
theorem dX8_set_15 : decode cX8_set 15 = .ok (.iaload, 1) := by decide +kernel
theorem dX8_set_16 : decode cX8_set 16 = .ok (.ifCond .ge 9, 3) := by decide +kernel
theorem dX8_set_19 : decode cX8_set 19 = .ok (.aload_n 0, 1) := by decide +kernel
theorem dX8_set_20 : decode cX8_set 20 = .ok (.iconst 1, 1) := by decide +kernel
theorem dX8_set_21 : decode cX8_set 21 = .ok (.invokevirtual 53, 3) := by decide +kernel
theorem dX8_set_24 : decode cX8_set 24 = .ok (.ireturn, 1) := by decide +kernel
theorem dX8_set_25 : decode cX8_set 25 = .ok (.iload_n 2, 1) := by decide +kernel
theorem dX8_set_26 : decode cX8_set 26 = .ok (.i2l, 1) := by decide +kernel
theorem dX8_set_27 : decode cX8_set 27 = .ok (.lconst 0, 1) := by decide +kernel
theorem dX8_set_28 : decode cX8_set 28 = .ok (.aload_n 0, 1) := by decide +kernel
theorem dX8_set_29 : decode cX8_set 29 = .ok (.getfield 19, 3) := by decide +kernel
theorem dX8_set_32 : decode cX8_set 32 = .ok (.iload_n 1, 1) := by decide +kernel
theorem dX8_set_33 : decode cX8_set 33 = .ok (.iaload, 1) := by decide +kernel
theorem dX8_set_34 : decode cX8_set 34 = .ok (.iconst 1, 1) := by decide +kernel
theorem dX8_set_35 : decode cX8_set 35 = .ok (.isub, 1) := by decide +kernel
theorem dX8_set_36 : decode cX8_set 36 = .ok (.i2l, 1) := by decide +kernel
theorem dX8_set_37 : decode cX8_set 37 = .ok (.invokestatic 37, 3) := by decide +kernel
theorem dX8_set_40 : decode cX8_set 40 = .ok (.ifCond .ne 9, 3) := by decide +kernel
theorem dX8_set_43 : decode cX8_set 43 = .ok (.aload_n 0, 1) := by decide +kernel
theorem dX8_set_44 : decode cX8_set 44 = .ok (.iconst 2, 1) := by decide +kernel
theorem dX8_set_45 : decode cX8_set 45 = .ok (.invokevirtual 53, 3) := by decide +kernel
theorem dX8_set_48 : decode cX8_set 48 = .ok (.ireturn, 1) := by decide +kernel
theorem dX8_set_49 : decode cX8_set 49 = .ok (.aload_n 0, 1) := by decide +kernel
theorem dX8_set_50 : decode cX8_set 50 = .ok (.getfield 22, 3) := by decide +kernel
theorem dX8_set_53 : decode cX8_set 53 = .ok (.bipush 40, 2) := by decide +kernel
theorem dX8_set_55 : decode cX8_set 55 = .ok (.iload_n 1, 1) := by decide +kernel
theorem dX8_set_56 : decode cX8_set 56 = .ok (.imul, 1) := by decide +kernel
theorem dX8_set_57 : decode cX8_set 57 = .ok (.iload_n 2, 1) := by decide +kernel
theorem dX8_set_58 : decode cX8_set 58 = .ok (.iadd, 1) := by decide +kernel
theorem dX8_set_59 : decode cX8_set 59 = .ok (.aload_n 0, 1) := by decide +kernel
theorem dX8_set_60 : decode cX8_set 60 = .ok (.getfield 16, 3) := by decide +kernel
theorem dX8_set_63 : decode cX8_set 63 = .ok (.iload_n 1, 1) := by decide +kernel
theorem dX8_set_64 : decode cX8_set 64 = .ok (.iaload, 1) := by decide +kernel
theorem dX8_set_65 : decode cX8_set 65 = .ok (.ifCond .ne 8, 3) := by decide +kernel
theorem dX8_set_68 : decode cX8_set 68 = .ok (.iload_n 3, 1) := by decide +kernel
theorem dX8_set_69 : decode cX8_set 69 = .ok (.i2b, 1) := by decide +kernel
theorem dX8_set_70 : decode cX8_set 70 = .ok (.goto 19, 3) := by decide +kernel
theorem dX8_set_73 : decode cX8_set 73 = .ok (.aload_n 0, 1) := by decide +kernel
theorem dX8_set_74 : decode cX8_set 74 = .ok (.getfield 16, 3) := by decide +kernel
theorem dX8_set_77 : decode cX8_set 77 = .ok (.iload_n 1, 1) := by decide +kernel
theorem dX8_set_78 : decode cX8_set 78 = .ok (.iaload, 1) := by decide +kernel
theorem dX8_set_79 : decode cX8_set 79 = .ok (.iconst 1, 1) := by decide +kernel
theorem dX8_set_80 : decode cX8_set 80 = .ok (.if_icmp .ne 8, 3) := by decide +kernel
theorem dX8_set_83 : decode cX8_set 83 = .ok (.iload_n 3, 1) := by decide +kernel
theorem dX8_set_84 : decode cX8_set 84 = .ok (.i2s, 1) := by decide +kernel
theorem dX8_set_85 : decode cX8_set 85 = .ok (.goto 4, 3) := by decide +kernel
theorem dX8_set_88 : decode cX8_set 88 = .ok (.iload_n 3, 1) := by decide +kernel
theorem dX8_set_89 : decode cX8_set 89 = .ok (.iastore, 1) := by decide +kernel
theorem dX8_set_90 : decode cX8_set 90 = .ok (.aload_n 0, 1) := by decide +kernel
theorem dX8_set_91 : decode cX8_set 91 = .ok (.aload_n 0, 1) := by decide +kernel
theorem dX8_set_92 : decode cX8_set 92 = .ok (.getfield 22, 3) := by decide +kernel
theorem dX8_set_95 : decode cX8_set 95 = .ok (.bipush 40, 2) := by decide +kernel
theorem dX8_set_97 : decode cX8_set 97 = .ok (.iload_n 1, 1) := by decide +kernel
theorem dX8_set_98 : decode cX8_set 98 = .ok (.imul, 1) := by decide +kernel
theorem dX8_set_99 : decode cX8_set 99 = .ok (.iload_n 2, 1) := by decide +kernel
theorem dX8_set_100 : decode cX8_set 100 = .ok (.iadd, 1) := by decide +kernel
theorem dX8_set_101 : decode cX8_set 101 = .ok (.iaload, 1) := by decide +kernel
theorem dX8_set_102 : decode cX8_set 102 = .ok (.invokevirtual 57, 3) := by decide +kernel
theorem dX8_set_105 : decode cX8_set 105 = .ok (.ireturn, 1) := by decide +kernel
theorem dX8_isPart_0 : decode cX8_isPart 0 = .ok (.iload_n 0, 1) := by decide +kernel
theorem dX8_isPart_1 : decode cX8_isPart 1 = .ok (.ifCond .lt 22, 3) := by decide +kernel
theorem dX8_isPart_4 : decode cX8_isPart 4 = .ok (.iload_n 1, 1) := by decide +kernel
theorem dX8_isPart_5 : decode cX8_isPart 5 = .ok (.ifCond .lt 18, 3) := by decide +kernel
theorem dX8_isPart_8 : decode cX8_isPart 8 = .ok (.iload_n 0, 1) := by decide +kernel
theorem dX8_isPart_9 : decode cX8_isPart 9 = .ok (.i2l, 1) := by decide +kernel
theorem dX8_isPart_10 : decode cX8_isPart 10 = .ok (.iload_n 1, 1) := by decide +kernel
theorem dX8_isPart_11 : decode cX8_isPart 11 = .ok (.i2l, 1) := by decide +kernel
theorem dX8_isPart_12 : decode cX8_isPart 12 = .ok (.ladd, 1) := by decide +kernel
theorem dX8_isPart_13 : decode cX8_isPart 13 = .ok (.iload_n 2, 1) := by decide +kernel
theorem dX8_isPart_14 : decode cX8_isPart 14 = .ok (.i2l, 1) := by decide +kernel
theorem dX8_isPart_15 : decode cX8_isPart 15 = .ok (.lcmp, 1) := by decide +kernel
theorem dX8_isPart_16 : decode cX8_isPart 16 = .ok (.ifCond .gt 7, 3) := by decide +kernel
theorem dX8_isPart_19 : decode cX8_isPart 19 = .ok (.iconst 1, 1) := by decide +kernel
theorem dX8_isPart_20 : decode cX8_isPart 20 = .ok (.goto 4, 3) := by decide +kernel
theorem dX8_isPart_23 : decode cX8_isPart 23 = .ok (.iconst 0, 1) := by decide +kernel
theorem dX8_isPart_24 : decode cX8_isPart 24 = .ok (.ireturn, 1) := by decide +kernel
theorem dX8_copy_0 : decode cX8_copy 0 = .ok (.iload_n 1, 1) := by decide +kernel
theorem dX8_copy_1 : decode cX8_copy 1 = .ok (.invokestatic 46, 3) := by decide +kernel
theorem dX8_copy_4 : decode cX8_copy 4 = .ok (.ifCond .eq 10, 3) := by decide +kernel
theorem dX8_copy_7 : decode cX8_copy 7 = .ok (.iload_n 3, 1) := by decide +kernel
theorem dX8_copy_8 : decode cX8_copy 8 = .ok (.invokestatic 46, 3) := by decide +kernel
theorem dX8_copy_11 : decode cX8_copy 11 = .ok (.ifCond .ne 6, 3) := by decide +kernel
theorem dX8_copy_14 : decode cX8_copy 14 = .ok (.ldc 52, 2) := by decide +kernel
theorem dX8_copy_16 : decode cX8_copy 16 = .ok (.ireturn, 1) := by decide +kernel
theorem dX8_copy_17 : decode cX8_copy 17 = .ok (.aload_n 0, 1) := by decide +kernel
theorem dX8_copy_18 : decode cX8_copy 18 = .ok (.getfield 16, 3) := by decide +kernel
theorem dX8_copy_21 : decode cX8_copy 21 = .ok (.iload_n 1, 1) := by decide +kernel
theorem dX8_copy_22 : decode cX8_copy 22 = .ok (.iaload, 1) := by decide +kernel
theorem dX8_copy_23 : decode cX8_copy 23 = .ok (.ifCond .lt 12, 3) := by decide +kernel
theorem dX8_copy_26 : decode cX8_copy 26 = .ok (.aload_n 0, 1) := by decide +kernel
theorem dX8_copy_27 : decode cX8_copy 27 = .ok (.getfield 16, 3) := by decide +kernel
theorem dX8_copy_30 : decode cX8_copy 30 = .ok (.iload_n 3, 1) := by decide +kernel
theorem dX8_copy_31 : decode cX8_copy 31 = .ok (.iaload, 1) := by decide +kernel
theorem dX8_copy_32 : decode cX8_copy 32 = .ok (.ifCond .ge 9, 3) := by decide +kernel
theorem dX8_copy_35 : decode cX8_copy 35 = .ok (.aload_n 0, 1) := by decide +kernel
theorem dX8_copy_36 : decode cX8_copy 36 = .ok (.iconst 1, 1) := by decide +kernel
theorem dX8_copy_37 : decode cX8_copy 37 = .ok (.invokevirtual 53, 3) := by decide +kernel
theorem dX8_copy_40 : decode cX8_copy 40 = .ok (.ireturn, 1) := by decide +kernel
theorem dX8_copy_41 : decode cX8_copy 41 = .ok (.aload_n 0, 1) := by decide +kernel
theorem dX8_copy_42 : decode cX8_copy 42 = .ok (.getfield 16, 3) := by decide +kernel
theorem dX8_copy_45 : decode cX8_copy 45 = .ok (.iload_n 1, 1) := by decide +kernel
theorem dX8_copy_46 : decode cX8_copy 46 = .ok (.iaload, 1) := by decide +kernel
theorem dX8_copy_47 : decode cX8_copy 47 = .ok (.aload_n 0, 1) := by decide +kernel
theorem dX8_copy_48 : decode cX8_copy 48 = .ok (.getfield 16, 3) := by decide +kernel
theorem dX8_copy_51 : decode cX8_copy 51 = .ok (.iload_n 3, 1) := by decide +kernel
theorem dX8_copy_52 : decode cX8_copy 52 = .ok (.iaload, 1) := by decide +kernel
theorem dX8_copy_53 : decode cX8_copy 53 = .ok (.if_icmp .eq 9, 3) := by decide +kernel
theorem dX8_copy_56 : decode cX8_copy 56 = .ok (.aload_n 0, 1) := by decide +kernel
theorem dX8_copy_57 : decode cX8_copy 57 = .ok (.iconst 5, 1) := by decide +kernel
theorem dX8_copy_58 : decode cX8_copy 58 = .ok (.invokevirtual 53, 3) := by decide +kernel
theorem dX8_copy_61 : decode cX8_copy 61 = .ok (.ireturn, 1) := by decide +kernel
theorem dX8_copy_62 : decode cX8_copy 62 = .ok (.iload_n 2, 1) := by decide +kernel
theorem dX8_copy_63 : decode cX8_copy 63 = .ok (.iload 5, 2) := by decide +kernel
theorem dX8_copy_65 : decode cX8_copy 65 = .ok (.aload_n 0, 1) := by decide +kernel
theorem dX8_copy_66 : decode cX8_copy 66 = .ok (.getfield 19, 3) := by decide +kernel
theorem dX8_copy_69 : decode cX8_copy 69 = .ok (.iload_n 1, 1) := by decide +kernel
theorem dX8_copy_70 : decode cX8_copy 70 = .ok (.iaload, 1) := by decide +kernel
theorem dX8_copy_71 : decode cX8_copy 71 = .ok (.invokestatic 60, 3) := by decide +kernel
theorem dX8_copy_74 : decode cX8_copy 74 = .ok (.ifCond .eq 19, 3) := by decide +kernel
theorem dX8_copy_77 : decode cX8_copy 77 = .ok (.iload 4, 2) := by decide +kernel
theorem dX8_copy_79 : decode cX8_copy 79 = .ok (.iload 5, 2) := by decide +kernel
theorem dX8_copy_81 : decode cX8_copy 81 = .ok (.aload_n 0, 1) := by decide +kernel
theorem dX8_copy_82 : decode cX8_copy 82 = .ok (.getfield 19, 3) := by decide +kernel
theorem dX8_copy_85 : decode cX8_copy 85 = .ok (.iload_n 3, 1) := by decide +kernel
theorem dX8_copy_86 : decode cX8_copy 86 = .ok (.iaload, 1) := by decide +kernel
theorem dX8_copy_87 : decode cX8_copy 87 = .ok (.invokestatic 60, 3) := by decide +kernel
theorem dX8_copy_90 : decode cX8_copy 90 = .ok (.ifCond .ne 9, 3) := by decide +kernel
theorem dX8_copy_93 : decode cX8_copy 93 = .ok (.aload_n 0, 1) := by decide +kernel
theorem dX8_copy_94 : decode cX8_copy 94 = .ok (.iconst 2, 1) := by decide +kernel
theorem dX8_copy_95 : decode cX8_copy 95 = .ok (.invokevirtual 53, 3) := by decide +kernel
theorem dX8_copy_98 : decode cX8_copy 98 = .ok (.ireturn, 1) := by decide +kernel
theorem dX8_copy_99 : decode cX8_copy 99 = .ok (.iconst 0, 1) := by decide +kernel
theorem dX8_copy_100 : decode cX8_copy 100 = .ok (.istore 6, 2) := by decide +kernel
theorem dX8_copy_102 : decode cX8_copy 102 = .ok (.iload 6, 2) := by decide +kernel
theorem dX8_copy_104 : decode cX8_copy 104 = .ok (.iload 5, 2) := by decide +kernel
theorem dX8_copy_106 : decode cX8_copy 106 = .ok (.if_icmp .ge 30, 3) := by decide +kernel
theorem dX8_copy_109 : decode cX8_copy 109 = .ok (.aload_n 0, 1) := by decide +kernel
theorem dX8_copy_110 : decode cX8_copy 110 = .ok (.getfield 25, 3) := by decide +kernel
theorem dX8_copy_113 : decode cX8_copy 113 = .ok (.iload 6, 2) := by decide +kernel
theorem dX8_copy_115 : decode cX8_copy 115 = .ok (.aload_n 0, 1) := by decide +kernel
theorem dX8_copy_116 : decode cX8_copy 116 = .ok (.getfield 22, 3) := by decide +kernel
theorem dX8_copy_119 : decode cX8_copy 119 = .ok (.bipush 40, 2) := by decide +kernel
theorem dX8_copy_121 : decode cX8_copy 121 = .ok (.iload_n 1, 1) := by decide +kernel
theorem dX8_copy_122 : decode cX8_copy 122 = .ok (.imul, 1) := by decide +kernel
theorem dX8_copy_123 : decode cX8_copy 123 = .ok (.iload_n 2, 1) := by decide +kernel
theorem dX8_copy_124 : decode cX8_copy 124 = .ok (.iadd, 1) := by decide +kernel
theorem dX8_copy_125 : decode cX8_copy 125 = .ok (.iload 6, 2) := by decide +kernel
theorem dX8_copy_127 : decode cX8_copy 127 = .ok (.iadd, 1) := by decide +kernel
theorem dX8_copy_128 : decode cX8_copy 128 = .ok (.iaload, 1) := by decide +kernel
theorem dX8_copy_129 : decode cX8_copy 129 = .ok (.iastore, 1) := by decide +kernel
theorem dX8_copy_130 : decode cX8_copy 130 = .ok (.iinc 6 1, 3) := by decide +kernel
theorem dX8_copy_133 : decode cX8_copy 133 = .ok (.goto (-31), 3) := by decide +kernel
theorem dX8_copy_136 : decode cX8_copy 136 = .ok (.iconst 0, 1) := by decide +kernel
theorem dX8_copy_137 : decode cX8_copy 137 = .ok (.istore 6, 2) := by decide +kernel
theorem dX8_copy_139 : decode cX8_copy 139 = .ok (.iload 6, 2) := by decide +kernel
theorem dX8_copy_141 : decode cX8_copy 141 = .ok (.iload 5, 2) := by decide +kernel
theorem dX8_copy_143 : decode cX8_copy 143 = .ok (.if_icmp .ge 31, 3) := by decide +kernel
theorem dX8_copy_146 : decode cX8_copy 146 = .ok (.aload_n 0, 1) := by decide +kernel
theorem dX8_copy_147 : decode cX8_copy 147 = .ok (.getfield 22, 3) := by decide +kernel
theorem dX8_copy_150 : decode cX8_copy 150 = .ok (.bipush 40, 2) := by decide +kernel
theorem dX8_copy_152 : decode cX8_copy 152 = .ok (.iload_n 3, 1) := by decide +kernel
theorem dX8_copy_153 : decode cX8_copy 153 = .ok (.imul, 1) := by decide +kernel
theorem dX8_copy_154 : decode cX8_copy 154 = .ok (.iload 4, 2) := by decide +kernel
theorem dX8_copy_156 : decode cX8_copy 156 = .ok (.iadd, 1) := by decide +kernel
theorem dX8_copy_157 : decode cX8_copy 157 = .ok (.iload 6, 2) := by decide +kernel
theorem dX8_copy_159 : decode cX8_copy 159 = .ok (.iadd, 1) := by decide +kernel
theorem dX8_copy_160 : decode cX8_copy 160 = .ok (.aload_n 0, 1) := by decide +kernel
theorem dX8_copy_161 : decode cX8_copy 161 = .ok (.getfield 25, 3) := by decide +kernel
theorem dX8_copy_164 : decode cX8_copy 164 = .ok (.iload 6, 2) := by decide +kernel
theorem dX8_copy_166 : decode cX8_copy 166 = .ok (.iaload, 1) := by decide +kernel
theorem dX8_copy_167 : decode cX8_copy 167 = .ok (.iastore, 1) := by decide +kernel
theorem dX8_copy_168 : decode cX8_copy 168 = .ok (.iinc 6 1, 3) := by decide +kernel
theorem dX8_copy_171 : decode cX8_copy 171 = .ok (.goto (-32), 3) := by decide +kernel
theorem dX8_copy_174 : decode cX8_copy 174 = .ok (.aload_n 0, 1) := by decide +kernel
theorem dX8_copy_175 : decode cX8_copy 175 = .ok (.iload 5, 2) := by decide +kernel
theorem dX8_copy_177 : decode cX8_copy 177 = .ok (.invokevirtual 57, 3) := by decide +kernel
theorem dX8_copy_180 : decode cX8_copy 180 = .ok (.ireturn, 1) := by decide +kernel
theorem dX8_drop_0 : decode cX8_drop 0 = .ok (.iload_n 1, 1) := by decide +kernel
theorem dX8_drop_1 : decode cX8_drop 1 = .ok (.invokestatic 46, 3) := by decide +kernel
theorem dX8_drop_4 : decode cX8_drop 4 = .ok (.ifCond .ne 6, 3) := by decide +kernel
theorem dX8_drop_7 : decode cX8_drop 7 = .ok (.ldc 52, 2) := by decide +kernel
theorem dX8_drop_9 : decode cX8_drop 9 = .ok (.ireturn, 1) := by decide +kernel
theorem dX8_drop_10 : decode cX8_drop 10 = .ok (.aload_n 0, 1) := by decide +kernel
theorem dX8_drop_11 : decode cX8_drop 11 = .ok (.getfield 16, 3) := by decide +kernel
theorem dX8_drop_14 : decode cX8_drop 14 = .ok (.iload_n 1, 1) := by decide +kernel
theorem dX8_drop_15 : decode cX8_drop 15 = .ok (.iaload, 1) := by decide +kernel
theorem dX8_drop_16 : decode cX8_drop 16 = .ok (.ifCond .ge 9, 3) := by decide +kernel
theorem dX8_drop_19 : decode cX8_drop 19 = .ok (.aload_n 0, 1) := by decide +kernel
theorem dX8_drop_20 : decode cX8_drop 20 = .ok (.iconst 1, 1) := by decide +kernel
theorem dX8_drop_21 : decode cX8_drop 21 = .ok (.invokevirtual 53, 3) := by decide +kernel
theorem dX8_drop_24 : decode cX8_drop 24 = .ok (.ireturn, 1) := by decide +kernel
theorem dX8_drop_25 : decode cX8_drop 25 = .ok (.aload_n 0, 1) := by decide +kernel
theorem dX8_drop_26 : decode cX8_drop 26 = .ok (.getfield 16, 3) := by decide +kernel
theorem dX8_drop_29 : decode cX8_drop 29 = .ok (.iload_n 1, 1) := by decide +kernel
theorem dX8_drop_30 : decode cX8_drop 30 = .ok (.iconst (-1), 1) := by decide +kernel
theorem dX8_drop_31 : decode cX8_drop 31 = .ok (.iastore, 1) := by decide +kernel
theorem dX8_drop_32 : decode cX8_drop 32 = .ok (.aload_n 0, 1) := by decide +kernel
theorem dX8_drop_33 : decode cX8_drop 33 = .ok (.aload_n 0, 1) := by decide +kernel
theorem dX8_drop_34 : decode cX8_drop 34 = .ok (.getfield 19, 3) := by decide +kernel
theorem dX8_drop_37 : decode cX8_drop 37 = .ok (.iload_n 1, 1) := by decide +kernel
theorem dX8_drop_38 : decode cX8_drop 38 = .ok (.iaload, 1) := by decide +kernel
theorem dX8_drop_39 : decode cX8_drop 39 = .ok (.invokevirtual 57, 3) := by decide +kernel
theorem dX8_drop_42 : decode cX8_drop 42 = .ok (.ireturn, 1) := by decide +kernel
theorem dX8_feed_0 : decode cX8_feed 0 = .ok (.iload_n 3, 1) := by decide +kernel
theorem dX8_feed_1 : decode cX8_feed 1 = .ok (.i2l, 1) := by decide +kernel
theorem dX8_feed_2 : decode cX8_feed 2 = .ok (.lconst 1, 1) := by decide +kernel
theorem dX8_feed_3 : decode cX8_feed 3 = .ok (.ldc2_w 64, 3) := by decide +kernel
theorem dX8_feed_6 : decode cX8_feed 6 = .ok (.invokestatic 37, 3) := by decide +kernel
theorem dX8_feed_9 : decode cX8_feed 9 = .ok (.ifCond .ne 6, 3) := by decide +kernel
theorem dX8_feed_12 : decode cX8_feed 12 = .ok (.ldc 52, 2) := by decide +kernel
theorem dX8_feed_14 : decode cX8_feed 14 = .ok (.ireturn, 1) := by decide +kernel
theorem dX8_feed_15 : decode cX8_feed 15 = .ok (.aload_n 0, 1) := by decide +kernel
theorem dX8_feed_16 : decode cX8_feed 16 = .ok (.getfield 66, 3) := by decide +kernel
theorem dX8_feed_19 : decode cX8_feed 19 = .ok (.iload_n 3, 1) := by decide +kernel
theorem dX8_feed_20 : decode cX8_feed 20 = .ok (.iadd, 1) := by decide +kernel
theorem dX8_feed_21 : decode cX8_feed 21 = .ok (.sipush 300, 3) := by decide +kernel
theorem dX8_feed_24 : decode cX8_feed 24 = .ok (.if_icmp .le 6, 3) := by decide +kernel
theorem dX8_feed_27 : decode cX8_feed 27 = .ok (.ldc 69, 2) := by decide +kernel
theorem dX8_feed_29 : decode cX8_feed 29 = .ok (.ireturn, 1) := by decide +kernel
theorem dX8_feed_30 : decode cX8_feed 30 = .ok (.iload_n 3, 1) := by decide +kernel
theorem dX8_feed_31 : decode cX8_feed 31 = .ok (.iconst 1, 1) := by decide +kernel
theorem dX8_feed_32 : decode cX8_feed 32 = .ok (.isub, 1) := by decide +kernel
theorem dX8_feed_33 : decode cX8_feed 33 = .ok (.istore 4, 2) := by decide +kernel
theorem dX8_feed_35 : decode cX8_feed 35 = .ok (.iload 4, 2) := by decide +kernel
theorem dX8_feed_37 : decode cX8_feed 37 = .ok (.ifCond .lt 40, 3) := by decide +kernel
theorem dX8_feed_40 : decode cX8_feed 40 = .ok (.aload_n 0, 1) := by decide +kernel
theorem dX8_feed_41 : decode cX8_feed 41 = .ok (.getfield 13, 3) := by decide +kernel
theorem dX8_feed_44 : decode cX8_feed 44 = .ok (.aload_n 0, 1) := by decide +kernel
theorem dX8_feed_45 : decode cX8_feed 45 = .ok (.getfield 66, 3) := by decide +kernel
theorem dX8_feed_48 : decode cX8_feed 48 = .ok (.lload_n 1, 1) := by decide +kernel
theorem dX8_feed_49 : decode cX8_feed 49 = .ok (.bipush 8, 2) := by decide +kernel
theorem dX8_feed_51 : decode cX8_feed 51 = .ok (.iload 4, 2) := by decide +kernel
theorem dX8_feed_53 : decode cX8_feed 53 = .ok (.imul, 1) := by decide +kernel
theorem dX8_feed_54 : decode cX8_feed 54 = .ok (.lshr, 1) := by decide +kernel
theorem dX8_feed_55 : decode cX8_feed 55 = .ok (.ldc2_w 70, 3) := by decide +kernel
theorem dX8_feed_58 : decode cX8_feed 58 = .ok (.land, 1) := by decide +kernel
theorem dX8_feed_59 : decode cX8_feed 59 = .ok (.l2i, 1) := by decide +kernel
theorem dX8_feed_60 : decode cX8_feed 60 = .ok (.iastore, 1) := by decide +kernel
theorem dX8_feed_61 : decode cX8_feed 61 = .ok (.aload_n 0, 1) := by decide +kernel
theorem dX8_feed_62 : decode cX8_feed 62 = .ok (.dup, 1) := by decide +kernel
theorem dX8_feed_63 : decode cX8_feed 63 = .ok (.getfield 66, 3) := by decide +kernel
theorem dX8_feed_66 : decode cX8_feed 66 = .ok (.iconst 1, 1) := by decide +kernel
theorem dX8_feed_67 : decode cX8_feed 67 = .ok (.iadd, 1) := by decide +kernel
theorem dX8_feed_68 : decode cX8_feed 68 = .ok (.putfield 66, 3) := by decide +kernel
theorem dX8_feed_71 : decode cX8_feed 71 = .ok (.iinc 4 (-1), 3) := by decide +kernel
theorem dX8_feed_74 : decode cX8_feed 74 = .ok (.goto (-39), 3) := by decide +kernel
theorem dX8_feed_77 : decode cX8_feed 77 = .ok (.aload_n 0, 1) := by decide +kernel
theorem dX8_feed_78 : decode cX8_feed 78 = .ok (.getfield 66, 3) := by decide +kernel
theorem dX8_feed_81 : decode cX8_feed 81 = .ok (.ireturn, 1) := by decide +kernel
theorem dX8_byteAt_0 : decode cX8_byteAt 0 = .ok (.iload_n 1, 1) := by decide +kernel
theorem dX8_byteAt_1 : decode cX8_byteAt 1 = .ok (.aload_n 0, 1) := by decide +kernel
theorem dX8_byteAt_2 : decode cX8_byteAt 2 = .ok (.getfield 66, 3) := by decide +kernel
theorem dX8_byteAt_5 : decode cX8_byteAt 5 = .ok (.if_icmp .ge 12, 3) := by decide +kernel
theorem dX8_byteAt_8 : decode cX8_byteAt 8 = .ok (.aload_n 0, 1) := by decide +kernel
theorem dX8_byteAt_9 : decode cX8_byteAt 9 = .ok (.getfield 13, 3) := by decide +kernel
theorem dX8_byteAt_12 : decode cX8_byteAt 12 = .ok (.iload_n 1, 1) := by decide +kernel
theorem dX8_byteAt_13 : decode cX8_byteAt 13 = .ok (.iaload, 1) := by decide +kernel
theorem dX8_byteAt_14 : decode cX8_byteAt 14 = .ok (.goto 4, 3) := by decide +kernel
theorem dX8_byteAt_17 : decode cX8_byteAt 17 = .ok (.iconst (-1), 1) := by decide +kernel
theorem dX8_byteAt_18 : decode cX8_byteAt 18 = .ok (.ireturn, 1) := by decide +kernel
theorem dX8_sortOf_0 : decode cX8_sortOf 0 = .ok (.iload_n 0, 1) := by decide +kernel
theorem dX8_sortOf_1 : decode cX8_sortOf 1 = .ok (.ifCond .ge 7, 3) := by decide +kernel
theorem dX8_sortOf_4 : decode cX8_sortOf 4 = .ok (.iconst 0, 1) := by decide +kernel
theorem dX8_sortOf_5 : decode cX8_sortOf 5 = .ok (.goto 50, 3) := by decide +kernel
theorem dX8_sortOf_8 : decode cX8_sortOf 8 = .ok (.iload_n 0, 1) := by decide +kernel
theorem dX8_sortOf_9 : decode cX8_sortOf 9 = .ok (.i2l, 1) := by decide +kernel
theorem dX8_sortOf_10 : decode cX8_sortOf 10 = .ok (.ldc2_w 72, 3) := by decide +kernel
theorem dX8_sortOf_13 : decode cX8_sortOf 13 = .ok (.ldc2_w 74, 3) := by decide +kernel
theorem dX8_sortOf_16 : decode cX8_sortOf 16 = .ok (.invokestatic 37, 3) := by decide +kernel
theorem dX8_sortOf_19 : decode cX8_sortOf 19 = .ok (.ifCond .eq 7, 3) := by decide +kernel
theorem dX8_sortOf_22 : decode cX8_sortOf 22 = .ok (.iconst 1, 1) := by decide +kernel
theorem dX8_sortOf_23 : decode cX8_sortOf 23 = .ok (.goto 32, 3) := by decide +kernel
theorem dX8_sortOf_26 : decode cX8_sortOf 26 = .ok (.iload_n 0, 1) := by decide +kernel
theorem dX8_sortOf_27 : decode cX8_sortOf 27 = .ok (.i2l, 1) := by decide +kernel
theorem dX8_sortOf_28 : decode cX8_sortOf 28 = .ok (.ldc2_w 76, 3) := by decide +kernel
theorem dX8_sortOf_31 : decode cX8_sortOf 31 = .ok (.ldc2_w 78, 3) := by decide +kernel
theorem dX8_sortOf_34 : decode cX8_sortOf 34 = .ok (.invokestatic 37, 3) := by decide +kernel
theorem dX8_sortOf_37 : decode cX8_sortOf 37 = .ok (.ifCond .eq 7, 3) := by decide +kernel
theorem dX8_sortOf_40 : decode cX8_sortOf 40 = .ok (.iconst 2, 1) := by decide +kernel
theorem dX8_sortOf_41 : decode cX8_sortOf 41 = .ok (.goto 14, 3) := by decide +kernel
theorem dX8_sortOf_44 : decode cX8_sortOf 44 = .ok (.iload_n 0, 1) := by decide +kernel
theorem dX8_sortOf_45 : decode cX8_sortOf 45 = .ok (.bipush 59, 2) := by decide +kernel
theorem dX8_sortOf_47 : decode cX8_sortOf 47 = .ok (.if_icmp .ne 7, 3) := by decide +kernel
theorem dX8_sortOf_50 : decode cX8_sortOf 50 = .ok (.iconst 3, 1) := by decide +kernel
theorem dX8_sortOf_51 : decode cX8_sortOf 51 = .ok (.goto 4, 3) := by decide +kernel
theorem dX8_sortOf_54 : decode cX8_sortOf 54 = .ok (.iconst 4, 1) := by decide +kernel
theorem dX8_sortOf_55 : decode cX8_sortOf 55 = .ok (.ireturn, 1) := by decide +kernel
theorem dX8_token_0 : decode cX8_token 0 = .ok (.aload_n 0, 1) := by decide +kernel
theorem dX8_token_1 : decode cX8_token 1 = .ok (.aload_n 0, 1) := by decide +kernel
theorem dX8_token_2 : decode cX8_token 2 = .ok (.getfield 80, 3) := by decide +kernel
theorem dX8_token_5 : decode cX8_token 5 = .ok (.putfield 83, 3) := by decide +kernel
theorem dX8_token_8 : decode cX8_token 8 = .ok (.aload_n 0, 1) := by decide +kernel
theorem dX8_token_9 : decode cX8_token 9 = .ok (.aload_n 0, 1) := by decide +kernel
theorem dX8_token_10 : decode cX8_token 10 = .ok (.getfield 83, 3) := by decide +kernel
theorem dX8_token_13 : decode cX8_token 13 = .ok (.invokevirtual 86, 3) := by decide +kernel
theorem dX8_token_16 : decode cX8_token 16 = .ok (.bipush 32, 2) := by decide +kernel
theorem dX8_token_18 : decode cX8_token 18 = .ok (.if_icmp .eq 16, 3) := by decide +kernel
theorem dX8_token_21 : decode cX8_token 21 = .ok (.aload_n 0, 1) := by decide +kernel
theorem dX8_token_22 : decode cX8_token 22 = .ok (.aload_n 0, 1) := by decide +kernel
theorem dX8_token_23 : decode cX8_token 23 = .ok (.getfield 83, 3) := by decide +kernel
theorem dX8_token_26 : decode cX8_token 26 = .ok (.invokevirtual 86, 3) := by decide +kernel
theorem dX8_token_29 : decode cX8_token 29 = .ok (.bipush 10, 2) := by decide +kernel
theorem dX8_token_31 : decode cX8_token 31 = .ok (.if_icmp .ne 16, 3) := by decide +kernel
theorem dX8_token_34 : decode cX8_token 34 = .ok (.aload_n 0, 1) := by decide +kernel
theorem dX8_token_35 : decode cX8_token 35 = .ok (.dup, 1) := by decide +kernel
theorem dX8_token_36 : decode cX8_token 36 = .ok (.getfield 83, 3) := by decide +kernel
theorem dX8_token_39 : decode cX8_token 39 = .ok (.iconst 1, 1) := by decide +kernel
theorem dX8_token_40 : decode cX8_token 40 = .ok (.iadd, 1) := by decide +kernel
theorem dX8_token_41 : decode cX8_token 41 = .ok (.putfield 83, 3) := by decide +kernel
theorem dX8_token_44 : decode cX8_token 44 = .ok (.goto (-36), 3) := by decide +kernel
theorem dX8_token_47 : decode cX8_token 47 = .ok (.aload_n 0, 1) := by decide +kernel
theorem dX8_token_48 : decode cX8_token 48 = .ok (.aload_n 0, 1) := by decide +kernel
theorem dX8_token_49 : decode cX8_token 49 = .ok (.aload_n 0, 1) := by decide +kernel
theorem dX8_token_50 : decode cX8_token 50 = .ok (.getfield 83, 3) := by decide +kernel
theorem dX8_token_53 : decode cX8_token 53 = .ok (.invokevirtual 86, 3) := by decide +kernel
theorem dX8_token_56 : decode cX8_token 56 = .ok (.invokestatic 89, 3) := by decide +kernel
theorem dX8_token_59 : decode cX8_token 59 = .ok (.putfield 92, 3) := by decide +kernel
theorem dX8_token_62 : decode cX8_token 62 = .ok (.aload_n 0, 1) := by decide +kernel
theorem dX8_token_63 : decode cX8_token 63 = .ok (.aload_n 0, 1) := by decide +kernel
theorem dX8_token_64 : decode cX8_token 64 = .ok (.getfield 92, 3) := by decide +kernel
theorem dX8_token_67 : decode cX8_token 67 = .ok (.ifCond .ne 10, 3) := by decide +kernel
theorem dX8_token_70 : decode cX8_token 70 = .ok (.aload_n 0, 1) := by decide +kernel
theorem dX8_token_71 : decode cX8_token 71 = .ok (.getfield 83, 3) := by decide +kernel
theorem dX8_token_74 : decode cX8_token 74 = .ok (.goto 9, 3) := by decide +kernel
theorem dX8_token_77 : decode cX8_token 77 = .ok (.aload_n 0, 1) := by decide +kernel
theorem dX8_token_78 : decode cX8_token 78 = .ok (.getfield 83, 3) := by decide +kernel
theorem dX8_token_81 : decode cX8_token 81 = .ok (.iconst 1, 1) := by decide +kernel
theorem dX8_token_82 : decode cX8_token 82 = .ok (.iadd, 1) := by decide +kernel
theorem dX8_token_83 : decode cX8_token 83 = .ok (.putfield 80, 3) := by decide +kernel
theorem dX8_token_86 : decode cX8_token 86 = .ok (.aload_n 0, 1) := by decide +kernel
theorem dX8_token_87 : decode cX8_token 87 = .ok (.getfield 92, 3) := by decide +kernel
theorem dX8_token_90 : decode cX8_token 90 = .ok (.iconst 1, 1) := by decide +kernel
theorem dX8_token_91 : decode cX8_token 91 = .ok (.if_icmp .eq 11, 3) := by decide +kernel
theorem dX8_token_94 : decode cX8_token 94 = .ok (.aload_n 0, 1) := by decide +kernel
theorem dX8_token_95 : decode cX8_token 95 = .ok (.getfield 92, 3) := by decide +kernel
theorem dX8_token_98 : decode cX8_token 98 = .ok (.iconst 2, 1) := by decide +kernel
theorem dX8_token_99 : decode cX8_token 99 = .ok (.if_icmp .ne 34, 3) := by decide +kernel
theorem dX8_token_102 : decode cX8_token 102 = .ok (.aload_n 0, 1) := by decide +kernel
theorem dX8_token_103 : decode cX8_token 103 = .ok (.aload_n 0, 1) := by decide +kernel
theorem dX8_token_104 : decode cX8_token 104 = .ok (.getfield 80, 3) := by decide +kernel
theorem dX8_token_107 : decode cX8_token 107 = .ok (.invokevirtual 86, 3) := by decide +kernel
theorem dX8_token_110 : decode cX8_token 110 = .ok (.invokestatic 89, 3) := by decide +kernel
theorem dX8_token_113 : decode cX8_token 113 = .ok (.aload_n 0, 1) := by decide +kernel
theorem dX8_token_114 : decode cX8_token 114 = .ok (.getfield 92, 3) := by decide +kernel
theorem dX8_token_117 : decode cX8_token 117 = .ok (.if_icmp .ne 16, 3) := by decide +kernel
theorem dX8_token_120 : decode cX8_token 120 = .ok (.aload_n 0, 1) := by decide +kernel
theorem dX8_token_121 : decode cX8_token 121 = .ok (.dup, 1) := by decide +kernel
theorem dX8_token_122 : decode cX8_token 122 = .ok (.getfield 80, 3) := by decide +kernel
theorem dX8_token_125 : decode cX8_token 125 = .ok (.iconst 1, 1) := by decide +kernel
theorem dX8_token_126 : decode cX8_token 126 = .ok (.iadd, 1) := by decide +kernel
theorem dX8_token_127 : decode cX8_token 127 = .ok (.putfield 80, 3) := by decide +kernel
theorem dX8_token_130 : decode cX8_token 130 = .ok (.goto (-44), 3) := by decide +kernel
theorem dX8_token_133 : decode cX8_token 133 = .ok (.return_, 1) := by decide +kernel
theorem dX8_wrong_0 : decode cX8_wrong 0 = .ok (.aload_n 0, 1) := by decide +kernel
theorem dX8_wrong_1 : decode cX8_wrong 1 = .ok (.iload_n 1, 1) := by decide +kernel
theorem dX8_wrong_2 : decode cX8_wrong 2 = .ok (.putfield 95, 3) := by decide +kernel
theorem dX8_wrong_5 : decode cX8_wrong 5 = .ok (.iconst 0, 1) := by decide +kernel
theorem dX8_wrong_6 : decode cX8_wrong 6 = .ok (.ireturn, 1) := by decide +kernel
theorem dX8_isWord_0 : decode cX8_isWord 0 = .ok (.aload_n 0, 1) := by decide +kernel
theorem dX8_isWord_1 : decode cX8_isWord 1 = .ok (.getfield 92, 3) := by decide +kernel
theorem dX8_isWord_4 : decode cX8_isWord 4 = .ok (.iconst 1, 1) := by decide +kernel
theorem dX8_isWord_5 : decode cX8_isWord 5 = .ok (.if_icmp .ne 76, 3) := by decide +kernel
theorem dX8_isWord_8 : decode cX8_isWord 8 = .ok (.aload_n 0, 1) := by decide +kernel
theorem dX8_isWord_9 : decode cX8_isWord 9 = .ok (.getfield 80, 3) := by decide +kernel
theorem dX8_isWord_12 : decode cX8_isWord 12 = .ok (.aload_n 0, 1) := by decide +kernel
theorem dX8_isWord_13 : decode cX8_isWord 13 = .ok (.getfield 83, 3) := by decide +kernel
theorem dX8_isWord_16 : decode cX8_isWord 16 = .ok (.isub, 1) := by decide +kernel
theorem dX8_isWord_17 : decode cX8_isWord 17 = .ok (.iload_n 1, 1) := by decide +kernel
theorem dX8_isWord_18 : decode cX8_isWord 18 = .ok (.if_icmp .ne 63, 3) := by decide +kernel
theorem dX8_isWord_21 : decode cX8_isWord 21 = .ok (.aload_n 0, 1) := by decide +kernel
theorem dX8_isWord_22 : decode cX8_isWord 22 = .ok (.aload_n 0, 1) := by decide +kernel
theorem dX8_isWord_23 : decode cX8_isWord 23 = .ok (.getfield 83, 3) := by decide +kernel
theorem dX8_isWord_26 : decode cX8_isWord 26 = .ok (.invokevirtual 86, 3) := by decide +kernel
theorem dX8_isWord_29 : decode cX8_isWord 29 = .ok (.iload_n 2, 1) := by decide +kernel
theorem dX8_isWord_30 : decode cX8_isWord 30 = .ok (.if_icmp .ne 51, 3) := by decide +kernel
theorem dX8_isWord_33 : decode cX8_isWord 33 = .ok (.aload_n 0, 1) := by decide +kernel
theorem dX8_isWord_34 : decode cX8_isWord 34 = .ok (.aload_n 0, 1) := by decide +kernel
theorem dX8_isWord_35 : decode cX8_isWord 35 = .ok (.getfield 83, 3) := by decide +kernel
theorem dX8_isWord_38 : decode cX8_isWord 38 = .ok (.iconst 1, 1) := by decide +kernel
theorem dX8_isWord_39 : decode cX8_isWord 39 = .ok (.iadd, 1) := by decide +kernel
theorem dX8_isWord_40 : decode cX8_isWord 40 = .ok (.invokevirtual 86, 3) := by decide +kernel
theorem dX8_isWord_43 : decode cX8_isWord 43 = .ok (.iload_n 3, 1) := by decide +kernel
theorem dX8_isWord_44 : decode cX8_isWord 44 = .ok (.if_icmp .ne 37, 3) := by decide +kernel
theorem dX8_isWord_47 : decode cX8_isWord 47 = .ok (.aload_n 0, 1) := by decide +kernel
theorem dX8_isWord_48 : decode cX8_isWord 48 = .ok (.aload_n 0, 1) := by decide +kernel
theorem dX8_isWord_49 : decode cX8_isWord 49 = .ok (.getfield 83, 3) := by decide +kernel
theorem dX8_isWord_52 : decode cX8_isWord 52 = .ok (.iconst 2, 1) := by decide +kernel
theorem dX8_isWord_53 : decode cX8_isWord 53 = .ok (.iadd, 1) := by decide +kernel
theorem dX8_isWord_54 : decode cX8_isWord 54 = .ok (.invokevirtual 86, 3) := by decide +kernel
theorem dX8_isWord_57 : decode cX8_isWord 57 = .ok (.iload 4, 2) := by decide +kernel
theorem dX8_isWord_59 : decode cX8_isWord 59 = .ok (.if_icmp .ne 22, 3) := by decide +kernel
theorem dX8_isWord_62 : decode cX8_isWord 62 = .ok (.aload_n 0, 1) := by decide +kernel
theorem dX8_isWord_63 : decode cX8_isWord 63 = .ok (.aload_n 0, 1) := by decide +kernel
theorem dX8_isWord_64 : decode cX8_isWord 64 = .ok (.getfield 80, 3) := by decide +kernel
theorem dX8_isWord_67 : decode cX8_isWord 67 = .ok (.iconst 1, 1) := by decide +kernel
theorem dX8_isWord_68 : decode cX8_isWord 68 = .ok (.isub, 1) := by decide +kernel
theorem dX8_isWord_69 : decode cX8_isWord 69 = .ok (.invokevirtual 86, 3) := by decide +kernel
theorem dX8_isWord_72 : decode cX8_isWord 72 = .ok (.iload 5, 2) := by decide +kernel
theorem dX8_isWord_74 : decode cX8_isWord 74 = .ok (.if_icmp .ne 7, 3) := by decide +kernel
theorem dX8_isWord_77 : decode cX8_isWord 77 = .ok (.iconst 1, 1) := by decide +kernel
theorem dX8_isWord_78 : decode cX8_isWord 78 = .ok (.goto 4, 3) := by decide +kernel
theorem dX8_isWord_81 : decode cX8_isWord 81 = .ok (.iconst 0, 1) := by decide +kernel
theorem dX8_isWord_82 : decode cX8_isWord 82 = .ok (.ireturn, 1) := by decide +kernel
theorem dX8_isFourth_0 : decode cX8_isFourth 0 = .ok (.aload_n 0, 1) := by decide +kernel
theorem dX8_isFourth_1 : decode cX8_isFourth 1 = .ok (.aload_n 0, 1) := by decide +kernel
theorem dX8_isFourth_2 : decode cX8_isFourth 2 = .ok (.getfield 83, 3) := by decide +kernel
theorem dX8_isFourth_5 : decode cX8_isFourth 5 = .ok (.iconst 3, 1) := by decide +kernel
theorem dX8_isFourth_6 : decode cX8_isFourth 6 = .ok (.iadd, 1) := by decide +kernel
theorem dX8_isFourth_7 : decode cX8_isFourth 7 = .ok (.invokevirtual 86, 3) := by decide +kernel
theorem dX8_isFourth_10 : decode cX8_isFourth 10 = .ok (.iload_n 1, 1) := by decide +kernel
theorem dX8_isFourth_11 : decode cX8_isFourth 11 = .ok (.if_icmp .ne 7, 3) := by decide +kernel
theorem dX8_isFourth_14 : decode cX8_isFourth 14 = .ok (.iconst 1, 1) := by decide +kernel
theorem dX8_isFourth_15 : decode cX8_isFourth 15 = .ok (.goto 4, 3) := by decide +kernel
theorem dX8_isFourth_18 : decode cX8_isFourth 18 = .ok (.iconst 0, 1) := by decide +kernel
theorem dX8_isFourth_19 : decode cX8_isFourth 19 = .ok (.ireturn, 1) := by decide +kernel
theorem dX8_isGuestWord_0 : decode cX8_isGuestWord 0 = .ok (.aload_n 0, 1) := by decide +kernel
theorem dX8_isGuestWord_1 : decode cX8_isGuestWord 1 = .ok (.iconst 5, 1) := by decide +kernel
theorem dX8_isGuestWord_2 : decode cX8_isGuestWord 2 = .ok (.bipush 103, 2) := by decide +kernel
theorem dX8_isGuestWord_4 : decode cX8_isGuestWord 4 = .ok (.bipush 117, 2) := by decide +kernel
theorem dX8_isGuestWord_6 : decode cX8_isGuestWord 6 = .ok (.bipush 101, 2) := by decide +kernel
theorem dX8_isGuestWord_8 : decode cX8_isGuestWord 8 = .ok (.bipush 116, 2) := by decide +kernel
theorem dX8_isGuestWord_10 : decode cX8_isGuestWord 10 = .ok (.invokevirtual 98, 3) := by decide +kernel
theorem dX8_isGuestWord_13 : decode cX8_isGuestWord 13 = .ok (.ifCond .eq 16, 3) := by decide +kernel
theorem dX8_isGuestWord_16 : decode cX8_isGuestWord 16 = .ok (.aload_n 0, 1) := by decide +kernel
theorem dX8_isGuestWord_17 : decode cX8_isGuestWord 17 = .ok (.bipush 115, 2) := by decide +kernel
theorem dX8_isGuestWord_19 : decode cX8_isGuestWord 19 = .ok (.invokevirtual 102, 3) := by decide +kernel
theorem dX8_isGuestWord_22 : decode cX8_isGuestWord 22 = .ok (.ifCond .eq 7, 3) := by decide +kernel
theorem dX8_isGuestWord_25 : decode cX8_isGuestWord 25 = .ok (.iconst 1, 1) := by decide +kernel
theorem dX8_isGuestWord_26 : decode cX8_isGuestWord 26 = .ok (.goto 4, 3) := by decide +kernel
theorem dX8_isGuestWord_29 : decode cX8_isGuestWord 29 = .ok (.iconst 0, 1) := by decide +kernel
theorem dX8_isGuestWord_30 : decode cX8_isGuestWord 30 = .ok (.ireturn, 1) := by decide +kernel
theorem dX8_isDishWord_0 : decode cX8_isDishWord 0 = .ok (.aload_n 0, 1) := by decide +kernel
theorem dX8_isDishWord_1 : decode cX8_isDishWord 1 = .ok (.iconst 4, 1) := by decide +kernel
theorem dX8_isDishWord_2 : decode cX8_isDishWord 2 = .ok (.bipush 100, 2) := by decide +kernel
theorem dX8_isDishWord_4 : decode cX8_isDishWord 4 = .ok (.bipush 105, 2) := by decide +kernel
theorem dX8_isDishWord_6 : decode cX8_isDishWord 6 = .ok (.bipush 115, 2) := by decide +kernel
theorem dX8_isDishWord_8 : decode cX8_isDishWord 8 = .ok (.bipush 104, 2) := by decide +kernel
theorem dX8_isDishWord_10 : decode cX8_isDishWord 10 = .ok (.invokevirtual 98, 3) := by decide +kernel
theorem dX8_isDishWord_13 : decode cX8_isDishWord 13 = .ok (.ireturn, 1) := by decide +kernel
theorem dX8_sortNow_0 : decode cX8_sortNow 0 = .ok (.aload_n 0, 1) := by decide +kernel
theorem dX8_sortNow_1 : decode cX8_sortNow 1 = .ok (.iconst 5, 1) := by decide +kernel
theorem dX8_sortNow_2 : decode cX8_sortNow 2 = .ok (.bipush 101, 2) := by decide +kernel
theorem dX8_sortNow_4 : decode cX8_sortNow 4 = .ok (.bipush 97, 2) := by decide +kernel
theorem dX8_sortNow_6 : decode cX8_sortNow 6 = .ok (.bipush 116, 2) := by decide +kernel
theorem dX8_sortNow_8 : decode cX8_sortNow 8 = .ok (.bipush 114, 2) := by decide +kernel
theorem dX8_sortNow_10 : decode cX8_sortNow 10 = .ok (.invokevirtual 98, 3) := by decide +kernel
theorem dX8_sortNow_13 : decode cX8_sortNow 13 = .ok (.ifCond .eq 14, 3) := by decide +kernel
theorem dX8_sortNow_16 : decode cX8_sortNow 16 = .ok (.aload_n 0, 1) := by decide +kernel
theorem dX8_sortNow_17 : decode cX8_sortNow 17 = .ok (.bipush 101, 2) := by decide +kernel
theorem dX8_sortNow_19 : decode cX8_sortNow 19 = .ok (.invokevirtual 102, 3) := by decide +kernel
theorem dX8_sortNow_22 : decode cX8_sortNow 22 = .ok (.ifCond .eq 5, 3) := by decide +kernel
theorem dX8_sortNow_25 : decode cX8_sortNow 25 = .ok (.iconst 1, 1) := by decide +kernel
theorem dX8_sortNow_26 : decode cX8_sortNow 26 = .ok (.ireturn, 1) := by decide +kernel
theorem dX8_sortNow_27 : decode cX8_sortNow 27 = .ok (.aload_n 0, 1) := by decide +kernel
theorem dX8_sortNow_28 : decode cX8_sortNow 28 = .ok (.iconst 4, 1) := by decide +kernel
theorem dX8_sortNow_29 : decode cX8_sortNow 29 = .ok (.bipush 102, 2) := by decide +kernel
theorem dX8_sortNow_31 : decode cX8_sortNow 31 = .ok (.bipush 97, 2) := by decide +kernel
theorem dX8_sortNow_33 : decode cX8_sortNow 33 = .ok (.bipush 115, 2) := by decide +kernel
theorem dX8_sortNow_35 : decode cX8_sortNow 35 = .ok (.bipush 116, 2) := by decide +kernel
theorem dX8_sortNow_37 : decode cX8_sortNow 37 = .ok (.invokevirtual 98, 3) := by decide +kernel
theorem dX8_sortNow_40 : decode cX8_sortNow 40 = .ok (.ifCond .eq 5, 3) := by decide +kernel
theorem dX8_sortNow_43 : decode cX8_sortNow 43 = .ok (.iconst 2, 1) := by decide +kernel
theorem dX8_sortNow_44 : decode cX8_sortNow 44 = .ok (.ireturn, 1) := by decide +kernel
theorem dX8_sortNow_45 : decode cX8_sortNow 45 = .ok (.aload_n 0, 1) := by decide +kernel
theorem dX8_sortNow_46 : decode cX8_sortNow 46 = .ok (.bipush 6, 2) := by decide +kernel
theorem dX8_sortNow_48 : decode cX8_sortNow 48 = .ok (.bipush 103, 2) := by decide +kernel
theorem dX8_sortNow_50 : decode cX8_sortNow 50 = .ok (.bipush 114, 2) := by decide +kernel
theorem dX8_sortNow_52 : decode cX8_sortNow 52 = .ok (.bipush 101, 2) := by decide +kernel
theorem dX8_sortNow_54 : decode cX8_sortNow 54 = .ok (.bipush 121, 2) := by decide +kernel
theorem dX8_sortNow_56 : decode cX8_sortNow 56 = .ok (.invokevirtual 98, 3) := by decide +kernel
theorem dX8_sortNow_59 : decode cX8_sortNow 59 = .ok (.ifCond .eq 29, 3) := by decide +kernel
theorem dX8_sortNow_62 : decode cX8_sortNow 62 = .ok (.aload_n 0, 1) := by decide +kernel
theorem dX8_sortNow_63 : decode cX8_sortNow 63 = .ok (.bipush 101, 2) := by decide +kernel
theorem dX8_sortNow_65 : decode cX8_sortNow 65 = .ok (.invokevirtual 102, 3) := by decide +kernel
theorem dX8_sortNow_68 : decode cX8_sortNow 68 = .ok (.ifCond .eq 20, 3) := by decide +kernel
theorem dX8_sortNow_71 : decode cX8_sortNow 71 = .ok (.aload_n 0, 1) := by decide +kernel
theorem dX8_sortNow_72 : decode cX8_sortNow 72 = .ok (.aload_n 0, 1) := by decide +kernel
theorem dX8_sortNow_73 : decode cX8_sortNow 73 = .ok (.getfield 83, 3) := by decide +kernel
theorem dX8_sortNow_76 : decode cX8_sortNow 76 = .ok (.iconst 4, 1) := by decide +kernel
theorem dX8_sortNow_77 : decode cX8_sortNow 77 = .ok (.iadd, 1) := by decide +kernel
theorem dX8_sortNow_78 : decode cX8_sortNow 78 = .ok (.invokevirtual 86, 3) := by decide +kernel
theorem dX8_sortNow_81 : decode cX8_sortNow 81 = .ok (.bipush 100, 2) := by decide +kernel
theorem dX8_sortNow_83 : decode cX8_sortNow 83 = .ok (.if_icmp .ne 5, 3) := by decide +kernel
theorem dX8_sortNow_86 : decode cX8_sortNow 86 = .ok (.iconst 3, 1) := by decide +kernel
theorem dX8_sortNow_87 : decode cX8_sortNow 87 = .ok (.ireturn, 1) := by decide +kernel
theorem dX8_sortNow_88 : decode cX8_sortNow 88 = .ok (.aload_n 0, 1) := by decide +kernel
theorem dX8_sortNow_89 : decode cX8_sortNow 89 = .ok (.iconst 4, 1) := by decide +kernel
theorem dX8_sortNow_90 : decode cX8_sortNow 90 = .ok (.bipush 100, 2) := by decide +kernel
theorem dX8_sortNow_92 : decode cX8_sortNow 92 = .ok (.bipush 101, 2) := by decide +kernel
theorem dX8_sortNow_94 : decode cX8_sortNow 94 = .ok (.bipush 97, 2) := by decide +kernel
theorem dX8_sortNow_96 : decode cX8_sortNow 96 = .ok (.bipush 102, 2) := by decide +kernel
theorem dX8_sortNow_98 : decode cX8_sortNow 98 = .ok (.invokevirtual 98, 3) := by decide +kernel
theorem dX8_sortNow_101 : decode cX8_sortNow 101 = .ok (.ifCond .eq 5, 3) := by decide +kernel
theorem dX8_sortNow_104 : decode cX8_sortNow 104 = .ok (.iconst 4, 1) := by decide +kernel
theorem dX8_sortNow_105 : decode cX8_sortNow 105 = .ok (.ireturn, 1) := by decide +kernel
theorem dX8_sortNow_106 : decode cX8_sortNow 106 = .ok (.aload_n 0, 1) := by decide +kernel
theorem dX8_sortNow_107 : decode cX8_sortNow 107 = .ok (.iconst 5, 1) := by decide +kernel
theorem dX8_sortNow_108 : decode cX8_sortNow 108 = .ok (.bipush 100, 2) := by decide +kernel
theorem dX8_sortNow_110 : decode cX8_sortNow 110 = .ok (.bipush 114, 2) := by decide +kernel
theorem dX8_sortNow_112 : decode cX8_sortNow 112 = .ok (.bipush 117, 2) := by decide +kernel
theorem dX8_sortNow_114 : decode cX8_sortNow 114 = .ok (.bipush 107, 2) := by decide +kernel
theorem dX8_sortNow_116 : decode cX8_sortNow 116 = .ok (.invokevirtual 98, 3) := by decide +kernel
theorem dX8_sortNow_119 : decode cX8_sortNow 119 = .ok (.ifCond .eq 16, 3) := by decide +kernel
theorem dX8_sortNow_122 : decode cX8_sortNow 122 = .ok (.aload_n 0, 1) := by decide +kernel
theorem dX8_sortNow_123 : decode cX8_sortNow 123 = .ok (.bipush 110, 2) := by decide +kernel
theorem dX8_sortNow_125 : decode cX8_sortNow 125 = .ok (.invokevirtual 102, 3) := by decide +kernel
theorem dX8_sortNow_128 : decode cX8_sortNow 128 = .ok (.ifCond .eq 7, 3) := by decide +kernel
theorem dX8_sortNow_131 : decode cX8_sortNow 131 = .ok (.iconst 5, 1) := by decide +kernel
theorem dX8_sortNow_132 : decode cX8_sortNow 132 = .ok (.goto 4, 3) := by decide +kernel
theorem dX8_sortNow_135 : decode cX8_sortNow 135 = .ok (.iconst 0, 1) := by decide +kernel
theorem dX8_sortNow_136 : decode cX8_sortNow 136 = .ok (.ireturn, 1) := by decide +kernel
theorem dX8_takesNumber_0 : decode cX8_takesNumber 0 = .ok (.aload_n 0, 1) := by decide +kernel
theorem dX8_takesNumber_1 : decode cX8_takesNumber 1 = .ok (.invokevirtual 105, 3) := by decide +kernel
theorem dX8_takesNumber_4 : decode cX8_takesNumber 4 = .ok (.aload_n 0, 1) := by decide +kernel
theorem dX8_takesNumber_5 : decode cX8_takesNumber 5 = .ok (.getfield 92, 3) := by decide +kernel
theorem dX8_takesNumber_8 : decode cX8_takesNumber 8 = .ok (.iconst 2, 1) := by decide +kernel
theorem dX8_takesNumber_9 : decode cX8_takesNumber 9 = .ok (.if_icmp .ne 16, 3) := by decide +kernel
theorem dX8_takesNumber_12 : decode cX8_takesNumber 12 = .ok (.aload_n 0, 1) := by decide +kernel
theorem dX8_takesNumber_13 : decode cX8_takesNumber 13 = .ok (.getfield 80, 3) := by decide +kernel
theorem dX8_takesNumber_16 : decode cX8_takesNumber 16 = .ok (.aload_n 0, 1) := by decide +kernel
theorem dX8_takesNumber_17 : decode cX8_takesNumber 17 = .ok (.getfield 83, 3) := by decide +kernel
theorem dX8_takesNumber_20 : decode cX8_takesNumber 20 = .ok (.isub, 1) := by decide +kernel
theorem dX8_takesNumber_21 : decode cX8_takesNumber 21 = .ok (.iconst 3, 1) := by decide +kernel
theorem dX8_takesNumber_22 : decode cX8_takesNumber 22 = .ok (.if_icmp .le 9, 3) := by decide +kernel
theorem dX8_takesNumber_25 : decode cX8_takesNumber 25 = .ok (.aload_n 0, 1) := by decide +kernel
theorem dX8_takesNumber_26 : decode cX8_takesNumber 26 = .ok (.iconst 1, 1) := by decide +kernel
theorem dX8_takesNumber_27 : decode cX8_takesNumber 27 = .ok (.invokevirtual 108, 3) := by decide +kernel
theorem dX8_takesNumber_30 : decode cX8_takesNumber 30 = .ok (.ireturn, 1) := by decide +kernel
theorem dX8_takesNumber_31 : decode cX8_takesNumber 31 = .ok (.iconst 0, 1) := by decide +kernel
theorem dX8_takesNumber_32 : decode cX8_takesNumber 32 = .ok (.istore_n 3, 1) := by decide +kernel
theorem dX8_takesNumber_33 : decode cX8_takesNumber 33 = .ok (.aload_n 0, 1) := by decide +kernel
theorem dX8_takesNumber_34 : decode cX8_takesNumber 34 = .ok (.getfield 83, 3) := by decide +kernel
theorem dX8_takesNumber_37 : decode cX8_takesNumber 37 = .ok (.istore 4, 2) := by decide +kernel
theorem dX8_takesNumber_39 : decode cX8_takesNumber 39 = .ok (.iload 4, 2) := by decide +kernel
theorem dX8_takesNumber_41 : decode cX8_takesNumber 41 = .ok (.aload_n 0, 1) := by decide +kernel
theorem dX8_takesNumber_42 : decode cX8_takesNumber 42 = .ok (.getfield 80, 3) := by decide +kernel
theorem dX8_takesNumber_45 : decode cX8_takesNumber 45 = .ok (.if_icmp .ge 24, 3) := by decide +kernel
theorem dX8_takesNumber_48 : decode cX8_takesNumber 48 = .ok (.bipush 10, 2) := by decide +kernel
theorem dX8_takesNumber_50 : decode cX8_takesNumber 50 = .ok (.iload_n 3, 1) := by decide +kernel
theorem dX8_takesNumber_51 : decode cX8_takesNumber 51 = .ok (.imul, 1) := by decide +kernel
theorem dX8_takesNumber_52 : decode cX8_takesNumber 52 = .ok (.aload_n 0, 1) := by decide +kernel
theorem dX8_takesNumber_53 : decode cX8_takesNumber 53 = .ok (.iload 4, 2) := by decide +kernel
theorem dX8_takesNumber_55 : decode cX8_takesNumber 55 = .ok (.invokevirtual 86, 3) := by decide +kernel
theorem dX8_takesNumber_58 : decode cX8_takesNumber 58 = .ok (.iadd, 1) := by decide +kernel
theorem dX8_takesNumber_59 : decode cX8_takesNumber 59 = .ok (.bipush 48, 2) := by decide +kernel
theorem dX8_takesNumber_61 : decode cX8_takesNumber 61 = .ok (.isub, 1) := by decide +kernel
theorem dX8_takesNumber_62 : decode cX8_takesNumber 62 = .ok (.istore_n 3, 1) := by decide +kernel
theorem dX8_takesNumber_63 : decode cX8_takesNumber 63 = .ok (.iinc 4 1, 3) := by decide +kernel
theorem dX8_takesNumber_66 : decode cX8_takesNumber 66 = .ok (.goto (-27), 3) := by decide +kernel
theorem dX8_takesNumber_69 : decode cX8_takesNumber 69 = .ok (.aload_n 0, 1) := by decide +kernel
theorem dX8_takesNumber_70 : decode cX8_takesNumber 70 = .ok (.getfield 7, 3) := by decide +kernel
theorem dX8_takesNumber_73 : decode cX8_takesNumber 73 = .ok (.iload_n 1, 1) := by decide +kernel
theorem dX8_takesNumber_74 : decode cX8_takesNumber 74 = .ok (.iload_n 3, 1) := by decide +kernel
theorem dX8_takesNumber_75 : decode cX8_takesNumber 75 = .ok (.iastore, 1) := by decide +kernel
theorem dX8_takesNumber_76 : decode cX8_takesNumber 76 = .ok (.iload_n 3, 1) := by decide +kernel
theorem dX8_takesNumber_77 : decode cX8_takesNumber 77 = .ok (.iload_n 2, 1) := by decide +kernel
theorem dX8_takesNumber_78 : decode cX8_takesNumber 78 = .ok (.if_icmp .le 11, 3) := by decide +kernel
theorem dX8_takesNumber_81 : decode cX8_takesNumber 81 = .ok (.aload_n 0, 1) := by decide +kernel
theorem dX8_takesNumber_82 : decode cX8_takesNumber 82 = .ok (.iconst 2, 1) := by decide +kernel
theorem dX8_takesNumber_83 : decode cX8_takesNumber 83 = .ok (.invokevirtual 108, 3) := by decide +kernel
theorem dX8_takesNumber_86 : decode cX8_takesNumber 86 = .ok (.ifCond .eq 7, 3) := by decide +kernel
theorem dX8_takesNumber_89 : decode cX8_takesNumber 89 = .ok (.iconst 1, 1) := by decide +kernel
theorem dX8_takesNumber_90 : decode cX8_takesNumber 90 = .ok (.goto 4, 3) := by decide +kernel
theorem dX8_takesNumber_93 : decode cX8_takesNumber 93 = .ok (.iconst 0, 1) := by decide +kernel
theorem dX8_takesNumber_94 : decode cX8_takesNumber 94 = .ok (.ireturn, 1) := by decide +kernel
theorem dX8_stops_0 : decode cX8_stops 0 = .ok (.aload_n 0, 1) := by decide +kernel
theorem dX8_stops_1 : decode cX8_stops 1 = .ok (.invokevirtual 105, 3) := by decide +kernel
theorem dX8_stops_4 : decode cX8_stops 4 = .ok (.aload_n 0, 1) := by decide +kernel
theorem dX8_stops_5 : decode cX8_stops 5 = .ok (.getfield 92, 3) := by decide +kernel
theorem dX8_stops_8 : decode cX8_stops 8 = .ok (.iconst 3, 1) := by decide +kernel
theorem dX8_stops_9 : decode cX8_stops 9 = .ok (.if_icmp .eq 11, 3) := by decide +kernel
theorem dX8_stops_12 : decode cX8_stops 12 = .ok (.aload_n 0, 1) := by decide +kernel
theorem dX8_stops_13 : decode cX8_stops 13 = .ok (.iconst 1, 1) := by decide +kernel
theorem dX8_stops_14 : decode cX8_stops 14 = .ok (.invokevirtual 108, 3) := by decide +kernel
theorem dX8_stops_17 : decode cX8_stops 17 = .ok (.ifCond .eq 7, 3) := by decide +kernel
theorem dX8_stops_20 : decode cX8_stops 20 = .ok (.iconst 1, 1) := by decide +kernel
theorem dX8_stops_21 : decode cX8_stops 21 = .ok (.goto 4, 3) := by decide +kernel
theorem dX8_stops_24 : decode cX8_stops 24 = .ok (.iconst 0, 1) := by decide +kernel
theorem dX8_stops_25 : decode cX8_stops 25 = .ok (.ireturn, 1) := by decide +kernel
theorem dX8_readsGuest_0 : decode cX8_readsGuest 0 = .ok (.aload_n 0, 1) := by decide +kernel
theorem dX8_readsGuest_1 : decode cX8_readsGuest 1 = .ok (.getfield 7, 3) := by decide +kernel
theorem dX8_readsGuest_4 : decode cX8_readsGuest 4 = .ok (.sipush 1092, 3) := by decide +kernel
theorem dX8_readsGuest_7 : decode cX8_readsGuest 7 = .ok (.iaload, 1) := by decide +kernel
theorem dX8_readsGuest_8 : decode cX8_readsGuest 8 = .ok (.istore_n 1, 1) := by decide +kernel
theorem dX8_readsGuest_9 : decode cX8_readsGuest 9 = .ok (.iload_n 1, 1) := by decide +kernel
theorem dX8_readsGuest_10 : decode cX8_readsGuest 10 = .ok (.bipush 6, 2) := by decide +kernel
theorem dX8_readsGuest_12 : decode cX8_readsGuest 12 = .ok (.if_icmp .ne 9, 3) := by decide +kernel
theorem dX8_readsGuest_15 : decode cX8_readsGuest 15 = .ok (.aload_n 0, 1) := by decide +kernel
theorem dX8_readsGuest_16 : decode cX8_readsGuest 16 = .ok (.iconst 3, 1) := by decide +kernel
theorem dX8_readsGuest_17 : decode cX8_readsGuest 17 = .ok (.invokevirtual 108, 3) := by decide +kernel
theorem dX8_readsGuest_20 : decode cX8_readsGuest 20 = .ok (.ireturn, 1) := by decide +kernel
theorem dX8_readsGuest_21 : decode cX8_readsGuest 21 = .ok (.aload_n 0, 1) := by decide +kernel
theorem dX8_readsGuest_22 : decode cX8_readsGuest 22 = .ok (.getfield 7, 3) := by decide +kernel
theorem dX8_readsGuest_25 : decode cX8_readsGuest 25 = .ok (.sipush 1092, 3) := by decide +kernel
theorem dX8_readsGuest_28 : decode cX8_readsGuest 28 = .ok (.dup2, 1) := by decide +kernel
theorem dX8_readsGuest_29 : decode cX8_readsGuest 29 = .ok (.iaload, 1) := by decide +kernel
theorem dX8_readsGuest_30 : decode cX8_readsGuest 30 = .ok (.iconst 1, 1) := by decide +kernel
theorem dX8_readsGuest_31 : decode cX8_readsGuest 31 = .ok (.iadd, 1) := by decide +kernel
theorem dX8_readsGuest_32 : decode cX8_readsGuest 32 = .ok (.iastore, 1) := by decide +kernel
theorem dX8_readsGuest_33 : decode cX8_readsGuest 33 = .ok (.aload_n 0, 1) := by decide +kernel
theorem dX8_readsGuest_34 : decode cX8_readsGuest 34 = .ok (.invokevirtual 105, 3) := by decide +kernel
theorem dX8_readsGuest_37 : decode cX8_readsGuest 37 = .ok (.aload_n 0, 1) := by decide +kernel
theorem dX8_readsGuest_38 : decode cX8_readsGuest 38 = .ok (.getfield 7, 3) := by decide +kernel
theorem dX8_readsGuest_41 : decode cX8_readsGuest 41 = .ok (.sipush 1095, 3) := by decide +kernel
theorem dX8_readsGuest_44 : decode cX8_readsGuest 44 = .ok (.iload_n 1, 1) := by decide +kernel
theorem dX8_readsGuest_45 : decode cX8_readsGuest 45 = .ok (.iadd, 1) := by decide +kernel
theorem dX8_readsGuest_46 : decode cX8_readsGuest 46 = .ok (.aload_n 0, 1) := by decide +kernel
theorem dX8_readsGuest_47 : decode cX8_readsGuest 47 = .ok (.invokevirtual 111, 3) := by decide +kernel
theorem dX8_readsGuest_50 : decode cX8_readsGuest 50 = .ok (.iastore, 1) := by decide +kernel
theorem dX8_readsGuest_51 : decode cX8_readsGuest 51 = .ok (.aload_n 0, 1) := by decide +kernel
theorem dX8_readsGuest_52 : decode cX8_readsGuest 52 = .ok (.getfield 7, 3) := by decide +kernel
theorem dX8_readsGuest_55 : decode cX8_readsGuest 55 = .ok (.sipush 1095, 3) := by decide +kernel
theorem dX8_readsGuest_58 : decode cX8_readsGuest 58 = .ok (.iload_n 1, 1) := by decide +kernel
theorem dX8_readsGuest_59 : decode cX8_readsGuest 59 = .ok (.iadd, 1) := by decide +kernel
theorem dX8_readsGuest_60 : decode cX8_readsGuest 60 = .ok (.iaload, 1) := by decide +kernel
theorem dX8_readsGuest_61 : decode cX8_readsGuest 61 = .ok (.ifCond .ne 9, 3) := by decide +kernel
theorem dX8_readsGuest_64 : decode cX8_readsGuest 64 = .ok (.aload_n 0, 1) := by decide +kernel
theorem dX8_readsGuest_65 : decode cX8_readsGuest 65 = .ok (.iconst 1, 1) := by decide +kernel
theorem dX8_readsGuest_66 : decode cX8_readsGuest 66 = .ok (.invokevirtual 108, 3) := by decide +kernel
theorem dX8_readsGuest_69 : decode cX8_readsGuest 69 = .ok (.ireturn, 1) := by decide +kernel
theorem dX8_readsGuest_70 : decode cX8_readsGuest 70 = .ok (.aload_n 0, 1) := by decide +kernel
theorem dX8_readsGuest_71 : decode cX8_readsGuest 71 = .ok (.getfield 7, 3) := by decide +kernel
theorem dX8_readsGuest_74 : decode cX8_readsGuest 74 = .ok (.sipush 1113, 3) := by decide +kernel
theorem dX8_readsGuest_77 : decode cX8_readsGuest 77 = .ok (.iload_n 1, 1) := by decide +kernel
theorem dX8_readsGuest_78 : decode cX8_readsGuest 78 = .ok (.iadd, 1) := by decide +kernel
theorem dX8_readsGuest_79 : decode cX8_readsGuest 79 = .ok (.iload_n 1, 1) := by decide +kernel
theorem dX8_readsGuest_80 : decode cX8_readsGuest 80 = .ok (.iastore, 1) := by decide +kernel
theorem dX8_readsGuest_81 : decode cX8_readsGuest 81 = .ok (.aload_n 0, 1) := by decide +kernel
theorem dX8_readsGuest_82 : decode cX8_readsGuest 82 = .ok (.getfield 7, 3) := by decide +kernel
theorem dX8_readsGuest_85 : decode cX8_readsGuest 85 = .ok (.sipush 1125, 3) := by decide +kernel
theorem dX8_readsGuest_88 : decode cX8_readsGuest 88 = .ok (.iload_n 1, 1) := by decide +kernel
theorem dX8_readsGuest_89 : decode cX8_readsGuest 89 = .ok (.iadd, 1) := by decide +kernel
theorem dX8_readsGuest_90 : decode cX8_readsGuest 90 = .ok (.iload_n 1, 1) := by decide +kernel
theorem dX8_readsGuest_91 : decode cX8_readsGuest 91 = .ok (.iastore, 1) := by decide +kernel
theorem dX8_readsGuest_92 : decode cX8_readsGuest 92 = .ok (.aload_n 0, 1) := by decide +kernel
theorem dX8_readsGuest_93 : decode cX8_readsGuest 93 = .ok (.sipush 1101, 3) := by decide +kernel
theorem dX8_readsGuest_96 : decode cX8_readsGuest 96 = .ok (.iload_n 1, 1) := by decide +kernel
theorem dX8_readsGuest_97 : decode cX8_readsGuest 97 = .ok (.iadd, 1) := by decide +kernel
theorem dX8_readsGuest_98 : decode cX8_readsGuest 98 = .ok (.iconst 5, 1) := by decide +kernel
theorem dX8_readsGuest_99 : decode cX8_readsGuest 99 = .ok (.invokevirtual 115, 3) := by decide +kernel
theorem dX8_readsGuest_102 : decode cX8_readsGuest 102 = .ok (.ifCond .eq 14, 3) := by decide +kernel
theorem dX8_readsGuest_105 : decode cX8_readsGuest 105 = .ok (.aload_n 0, 1) := by decide +kernel
theorem dX8_readsGuest_106 : decode cX8_readsGuest 106 = .ok (.invokevirtual 119, 3) := by decide +kernel
theorem dX8_readsGuest_109 : decode cX8_readsGuest 109 = .ok (.ifCond .eq 7, 3) := by decide +kernel
theorem dX8_readsGuest_112 : decode cX8_readsGuest 112 = .ok (.iconst 1, 1) := by decide +kernel
theorem dX8_readsGuest_113 : decode cX8_readsGuest 113 = .ok (.goto 4, 3) := by decide +kernel
theorem dX8_readsGuest_116 : decode cX8_readsGuest 116 = .ok (.iconst 0, 1) := by decide +kernel
theorem dX8_readsGuest_117 : decode cX8_readsGuest 117 = .ok (.ireturn, 1) := by decide +kernel
theorem dX8_readsDish_0 : decode cX8_readsDish 0 = .ok (.aload_n 0, 1) := by decide +kernel
theorem dX8_readsDish_1 : decode cX8_readsDish 1 = .ok (.getfield 123, 3) := by decide +kernel
theorem dX8_readsDish_4 : decode cX8_readsDish 4 = .ok (.aload_n 0, 1) := by decide +kernel
theorem dX8_readsDish_5 : decode cX8_readsDish 5 = .ok (.getfield 7, 3) := by decide +kernel
theorem dX8_readsDish_8 : decode cX8_readsDish 8 = .ok (.sipush 1092, 3) := by decide +kernel
theorem dX8_readsDish_11 : decode cX8_readsDish 11 = .ok (.iaload, 1) := by decide +kernel
theorem dX8_readsDish_12 : decode cX8_readsDish 12 = .ok (.if_icmp .ne 9, 3) := by decide +kernel
theorem dX8_readsDish_15 : decode cX8_readsDish 15 = .ok (.aload_n 0, 1) := by decide +kernel
theorem dX8_readsDish_16 : decode cX8_readsDish 16 = .ok (.iconst 3, 1) := by decide +kernel
theorem dX8_readsDish_17 : decode cX8_readsDish 17 = .ok (.invokevirtual 108, 3) := by decide +kernel
theorem dX8_readsDish_20 : decode cX8_readsDish 20 = .ok (.ireturn, 1) := by decide +kernel
theorem dX8_readsDish_21 : decode cX8_readsDish 21 = .ok (.aload_n 0, 1) := by decide +kernel
theorem dX8_readsDish_22 : decode cX8_readsDish 22 = .ok (.dup, 1) := by decide +kernel
theorem dX8_readsDish_23 : decode cX8_readsDish 23 = .ok (.getfield 123, 3) := by decide +kernel
theorem dX8_readsDish_26 : decode cX8_readsDish 26 = .ok (.iconst 1, 1) := by decide +kernel
theorem dX8_readsDish_27 : decode cX8_readsDish 27 = .ok (.iadd, 1) := by decide +kernel
theorem dX8_readsDish_28 : decode cX8_readsDish 28 = .ok (.putfield 123, 3) := by decide +kernel
theorem dX8_readsDish_31 : decode cX8_readsDish 31 = .ok (.aload_n 0, 1) := by decide +kernel
theorem dX8_readsDish_32 : decode cX8_readsDish 32 = .ok (.sipush 1119, 3) := by decide +kernel
theorem dX8_readsDish_35 : decode cX8_readsDish 35 = .ok (.aload_n 0, 1) := by decide +kernel
theorem dX8_readsDish_36 : decode cX8_readsDish 36 = .ok (.getfield 123, 3) := by decide +kernel
theorem dX8_readsDish_39 : decode cX8_readsDish 39 = .ok (.iadd, 1) := by decide +kernel
theorem dX8_readsDish_40 : decode cX8_readsDish 40 = .ok (.iconst 1, 1) := by decide +kernel
theorem dX8_readsDish_41 : decode cX8_readsDish 41 = .ok (.isub, 1) := by decide +kernel
theorem dX8_readsDish_42 : decode cX8_readsDish 42 = .ok (.bipush 30, 2) := by decide +kernel
theorem dX8_readsDish_44 : decode cX8_readsDish 44 = .ok (.invokevirtual 115, 3) := by decide +kernel
theorem dX8_readsDish_47 : decode cX8_readsDish 47 = .ok (.ifCond .eq 14, 3) := by decide +kernel
theorem dX8_readsDish_50 : decode cX8_readsDish 50 = .ok (.aload_n 0, 1) := by decide +kernel
theorem dX8_readsDish_51 : decode cX8_readsDish 51 = .ok (.invokevirtual 119, 3) := by decide +kernel
theorem dX8_readsDish_54 : decode cX8_readsDish 54 = .ok (.ifCond .eq 7, 3) := by decide +kernel
theorem dX8_readsDish_57 : decode cX8_readsDish 57 = .ok (.iconst 1, 1) := by decide +kernel
theorem dX8_readsDish_58 : decode cX8_readsDish 58 = .ok (.goto 4, 3) := by decide +kernel
theorem dX8_readsDish_61 : decode cX8_readsDish 61 = .ok (.iconst 0, 1) := by decide +kernel
theorem dX8_readsDish_62 : decode cX8_readsDish 62 = .ok (.ireturn, 1) := by decide +kernel
theorem dX8_reads_0 : decode cX8_reads 0 = .ok (.iconst 0, 1) := by decide +kernel
theorem dX8_reads_1 : decode cX8_reads 1 = .ok (.istore_n 1, 1) := by decide +kernel
theorem dX8_reads_2 : decode cX8_reads 2 = .ok (.iload_n 1, 1) := by decide +kernel
theorem dX8_reads_3 : decode cX8_reads 3 = .ok (.bipush 39, 2) := by decide +kernel
theorem dX8_reads_5 : decode cX8_reads 5 = .ok (.if_icmp .ge 20, 3) := by decide +kernel
theorem dX8_reads_8 : decode cX8_reads 8 = .ok (.aload_n 0, 1) := by decide +kernel
theorem dX8_reads_9 : decode cX8_reads 9 = .ok (.getfield 7, 3) := by decide +kernel
theorem dX8_reads_12 : decode cX8_reads 12 = .ok (.sipush 1092, 3) := by decide +kernel
theorem dX8_reads_15 : decode cX8_reads 15 = .ok (.iload_n 1, 1) := by decide +kernel
theorem dX8_reads_16 : decode cX8_reads 16 = .ok (.iadd, 1) := by decide +kernel
theorem dX8_reads_17 : decode cX8_reads 17 = .ok (.iconst 0, 1) := by decide +kernel
theorem dX8_reads_18 : decode cX8_reads 18 = .ok (.iastore, 1) := by decide +kernel
theorem dX8_reads_19 : decode cX8_reads 19 = .ok (.iinc 1 1, 3) := by decide +kernel
theorem dX8_reads_22 : decode cX8_reads 22 = .ok (.goto (-20), 3) := by decide +kernel
theorem dX8_reads_25 : decode cX8_reads 25 = .ok (.aload_n 0, 1) := by decide +kernel
theorem dX8_reads_26 : decode cX8_reads 26 = .ok (.iconst 0, 1) := by decide +kernel
theorem dX8_reads_27 : decode cX8_reads 27 = .ok (.putfield 123, 3) := by decide +kernel
theorem dX8_reads_30 : decode cX8_reads 30 = .ok (.aload_n 0, 1) := by decide +kernel
theorem dX8_reads_31 : decode cX8_reads 31 = .ok (.iconst 0, 1) := by decide +kernel
theorem dX8_reads_32 : decode cX8_reads 32 = .ok (.putfield 80, 3) := by decide +kernel
theorem dX8_reads_35 : decode cX8_reads 35 = .ok (.aload_n 0, 1) := by decide +kernel
theorem dX8_reads_36 : decode cX8_reads 36 = .ok (.invokevirtual 105, 3) := by decide +kernel
theorem dX8_reads_39 : decode cX8_reads 39 = .ok (.aload_n 0, 1) := by decide +kernel
theorem dX8_reads_40 : decode cX8_reads 40 = .ok (.getfield 92, 3) := by decide +kernel
theorem dX8_reads_43 : decode cX8_reads 43 = .ok (.ifCond .ne 9, 3) := by decide +kernel
theorem dX8_reads_46 : decode cX8_reads 46 = .ok (.aload_n 0, 1) := by decide +kernel
theorem dX8_reads_47 : decode cX8_reads 47 = .ok (.iconst 1, 1) := by decide +kernel
theorem dX8_reads_48 : decode cX8_reads 48 = .ok (.invokevirtual 108, 3) := by decide +kernel
theorem dX8_reads_51 : decode cX8_reads 51 = .ok (.ireturn, 1) := by decide +kernel
theorem dX8_reads_52 : decode cX8_reads 52 = .ok (.iconst 1, 1) := by decide +kernel
theorem dX8_reads_53 : decode cX8_reads 53 = .ok (.istore_n 1, 1) := by decide +kernel
theorem dX8_reads_54 : decode cX8_reads 54 = .ok (.iload_n 1, 1) := by decide +kernel
theorem dX8_reads_55 : decode cX8_reads 55 = .ok (.ifCond .eq 93, 3) := by decide +kernel
theorem dX8_reads_58 : decode cX8_reads 58 = .ok (.aload_n 0, 1) := by decide +kernel
theorem dX8_reads_59 : decode cX8_reads 59 = .ok (.getfield 92, 3) := by decide +kernel
theorem dX8_reads_62 : decode cX8_reads 62 = .ok (.ifCond .eq 86, 3) := by decide +kernel
theorem dX8_reads_65 : decode cX8_reads 65 = .ok (.aload_n 0, 1) := by decide +kernel
theorem dX8_reads_66 : decode cX8_reads 66 = .ok (.invokevirtual 126, 3) := by decide +kernel
theorem dX8_reads_69 : decode cX8_reads 69 = .ok (.ifCond .eq 14, 3) := by decide +kernel
theorem dX8_reads_72 : decode cX8_reads 72 = .ok (.aload_n 0, 1) := by decide +kernel
theorem dX8_reads_73 : decode cX8_reads 73 = .ok (.getfield 123, 3) := by decide +kernel
theorem dX8_reads_76 : decode cX8_reads 76 = .ok (.ifCond .ne 7, 3) := by decide +kernel
theorem dX8_reads_79 : decode cX8_reads 79 = .ok (.iconst 1, 1) := by decide +kernel
theorem dX8_reads_80 : decode cX8_reads 80 = .ok (.goto 4, 3) := by decide +kernel
theorem dX8_reads_83 : decode cX8_reads 83 = .ok (.iconst 0, 1) := by decide +kernel
theorem dX8_reads_84 : decode cX8_reads 84 = .ok (.istore_n 2, 1) := by decide +kernel
theorem dX8_reads_85 : decode cX8_reads 85 = .ok (.aload_n 0, 1) := by decide +kernel
theorem dX8_reads_86 : decode cX8_reads 86 = .ok (.invokevirtual 129, 3) := by decide +kernel
theorem dX8_reads_89 : decode cX8_reads 89 = .ok (.ifCond .eq 18, 3) := by decide +kernel
theorem dX8_reads_92 : decode cX8_reads 92 = .ok (.aload_n 0, 1) := by decide +kernel
theorem dX8_reads_93 : decode cX8_reads 93 = .ok (.getfield 7, 3) := by decide +kernel
theorem dX8_reads_96 : decode cX8_reads 96 = .ok (.sipush 1092, 3) := by decide +kernel
theorem dX8_reads_99 : decode cX8_reads 99 = .ok (.iaload, 1) := by decide +kernel
theorem dX8_reads_100 : decode cX8_reads 100 = .ok (.ifCond .le 7, 3) := by decide +kernel
theorem dX8_reads_103 : decode cX8_reads 103 = .ok (.iconst 1, 1) := by decide +kernel
theorem dX8_reads_104 : decode cX8_reads 104 = .ok (.goto 4, 3) := by decide +kernel
theorem dX8_reads_107 : decode cX8_reads 107 = .ok (.iconst 0, 1) := by decide +kernel
theorem dX8_reads_108 : decode cX8_reads 108 = .ok (.istore_n 3, 1) := by decide +kernel
theorem dX8_reads_109 : decode cX8_reads 109 = .ok (.iload_n 2, 1) := by decide +kernel
theorem dX8_reads_110 : decode cX8_reads 110 = .ok (.ifCond .eq 10, 3) := by decide +kernel
theorem dX8_reads_113 : decode cX8_reads 113 = .ok (.aload_n 0, 1) := by decide +kernel
theorem dX8_reads_114 : decode cX8_reads 114 = .ok (.invokevirtual 132, 3) := by decide +kernel
theorem dX8_reads_117 : decode cX8_reads 117 = .ok (.goto 19, 3) := by decide +kernel
theorem dX8_reads_120 : decode cX8_reads 120 = .ok (.iload_n 3, 1) := by decide +kernel
theorem dX8_reads_121 : decode cX8_reads 121 = .ok (.ifCond .eq 10, 3) := by decide +kernel
theorem dX8_reads_124 : decode cX8_reads 124 = .ok (.aload_n 0, 1) := by decide +kernel
theorem dX8_reads_125 : decode cX8_reads 125 = .ok (.invokevirtual 135, 3) := by decide +kernel
theorem dX8_reads_128 : decode cX8_reads 128 = .ok (.goto 8, 3) := by decide +kernel
theorem dX8_reads_131 : decode cX8_reads 131 = .ok (.aload_n 0, 1) := by decide +kernel
theorem dX8_reads_132 : decode cX8_reads 132 = .ok (.iconst 1, 1) := by decide +kernel
theorem dX8_reads_133 : decode cX8_reads 133 = .ok (.invokevirtual 108, 3) := by decide +kernel
theorem dX8_reads_136 : decode cX8_reads 136 = .ok (.istore_n 1, 1) := by decide +kernel
theorem dX8_reads_137 : decode cX8_reads 137 = .ok (.iload_n 1, 1) := by decide +kernel
theorem dX8_reads_138 : decode cX8_reads 138 = .ok (.ifCond .eq 7, 3) := by decide +kernel
theorem dX8_reads_141 : decode cX8_reads 141 = .ok (.aload_n 0, 1) := by decide +kernel
theorem dX8_reads_142 : decode cX8_reads 142 = .ok (.invokevirtual 105, 3) := by decide +kernel
theorem dX8_reads_145 : decode cX8_reads 145 = .ok (.goto (-91), 3) := by decide +kernel
theorem dX8_reads_148 : decode cX8_reads 148 = .ok (.iload_n 1, 1) := by decide +kernel
theorem dX8_reads_149 : decode cX8_reads 149 = .ok (.ireturn, 1) := by decide +kernel
theorem dX8_table_0 : decode cX8_table 0 = .ok (.aload_n 0, 1) := by decide +kernel
theorem dX8_table_1 : decode cX8_table 1 = .ok (.invokevirtual 138, 3) := by decide +kernel
theorem dX8_table_4 : decode cX8_table 4 = .ok (.istore_n 1, 1) := by decide +kernel
theorem dX8_table_5 : decode cX8_table 5 = .ok (.aload_n 0, 1) := by decide +kernel
theorem dX8_table_6 : decode cX8_table 6 = .ok (.iconst 0, 1) := by decide +kernel
theorem dX8_table_7 : decode cX8_table 7 = .ok (.putfield 66, 3) := by decide +kernel
theorem dX8_table_10 : decode cX8_table 10 = .ok (.iload_n 1, 1) := by decide +kernel
theorem dX8_table_11 : decode cX8_table 11 = .ok (.ifCond .ne 11, 3) := by decide +kernel
theorem dX8_table_14 : decode cX8_table 14 = .ok (.ldc 141, 2) := by decide +kernel
theorem dX8_table_16 : decode cX8_table 16 = .ok (.aload_n 0, 1) := by decide +kernel
theorem dX8_table_17 : decode cX8_table 17 = .ok (.getfield 83, 3) := by decide +kernel
theorem dX8_table_20 : decode cX8_table 20 = .ok (.isub, 1) := by decide +kernel
theorem dX8_table_21 : decode cX8_table 21 = .ok (.ireturn, 1) := by decide +kernel
theorem dX8_table_22 : decode cX8_table 22 = .ok (.aload_n 0, 1) := by decide +kernel
theorem dX8_table_23 : decode cX8_table 23 = .ok (.sipush 1092, 3) := by decide +kernel
theorem dX8_table_26 : decode cX8_table 26 = .ok (.iconst 0, 1) := by decide +kernel
theorem dX8_table_27 : decode cX8_table 27 = .ok (.invokevirtual 142, 3) := by decide +kernel
theorem dX8_table_30 : decode cX8_table 30 = .ok (.aload_n 0, 1) := by decide +kernel
theorem dX8_table_31 : decode cX8_table 31 = .ok (.iconst 0, 1) := by decide +kernel
theorem dX8_table_32 : decode cX8_table 32 = .ok (.putfield 146, 3) := by decide +kernel
theorem dX8_table_35 : decode cX8_table 35 = .ok (.aload_n 0, 1) := by decide +kernel
theorem dX8_table_36 : decode cX8_table 36 = .ok (.getfield 7, 3) := by decide +kernel
theorem dX8_table_39 : decode cX8_table 39 = .ok (.iconst 0, 1) := by decide +kernel
theorem dX8_table_40 : decode cX8_table 40 = .ok (.iaload, 1) := by decide +kernel
theorem dX8_table_41 : decode cX8_table 41 = .ok (.ireturn, 1) := by decide +kernel
theorem dX8_fault_0 : decode cX8_fault 0 = .ok (.aload_n 0, 1) := by decide +kernel
theorem dX8_fault_1 : decode cX8_fault 1 = .ok (.getfield 95, 3) := by decide +kernel
theorem dX8_fault_4 : decode cX8_fault 4 = .ok (.ireturn, 1) := by decide +kernel
theorem dX8_guestAt_0 : decode cX8_guestAt 0 = .ok (.iconst 0, 1) := by decide +kernel
theorem dX8_guestAt_1 : decode cX8_guestAt 1 = .ok (.istore_n 3, 1) := by decide +kernel
theorem dX8_guestAt_2 : decode cX8_guestAt 2 = .ok (.aload_n 0, 1) := by decide +kernel
theorem dX8_guestAt_3 : decode cX8_guestAt 3 = .ok (.getfield 7, 3) := by decide +kernel
theorem dX8_guestAt_6 : decode cX8_guestAt 6 = .ok (.iload_n 1, 1) := by decide +kernel
theorem dX8_guestAt_7 : decode cX8_guestAt 7 = .ok (.bipush 21, 2) := by decide +kernel
theorem dX8_guestAt_9 : decode cX8_guestAt 9 = .ok (.iadd, 1) := by decide +kernel
theorem dX8_guestAt_10 : decode cX8_guestAt 10 = .ok (.iload_n 3, 1) := by decide +kernel
theorem dX8_guestAt_11 : decode cX8_guestAt 11 = .ok (.iadd, 1) := by decide +kernel
theorem dX8_guestAt_12 : decode cX8_guestAt 12 = .ok (.iaload, 1) := by decide +kernel
theorem dX8_guestAt_13 : decode cX8_guestAt 13 = .ok (.iload_n 2, 1) := by decide +kernel
theorem dX8_guestAt_14 : decode cX8_guestAt 14 = .ok (.if_icmp .eq 9, 3) := by decide +kernel
theorem dX8_guestAt_17 : decode cX8_guestAt 17 = .ok (.iinc 3 1, 3) := by decide +kernel
theorem dX8_guestAt_20 : decode cX8_guestAt 20 = .ok (.goto (-18), 3) := by decide +kernel
theorem dX8_guestAt_23 : decode cX8_guestAt 23 = .ok (.iload_n 3, 1) := by decide +kernel
theorem dX8_guestAt_24 : decode cX8_guestAt 24 = .ok (.ireturn, 1) := by decide +kernel
theorem dX8_dishBefore_0 : decode cX8_dishBefore 0 = .ok (.aload_n 0, 1) := by decide +kernel
theorem dX8_dishBefore_1 : decode cX8_dishBefore 1 = .ok (.getfield 7, 3) := by decide +kernel
theorem dX8_dishBefore_4 : decode cX8_dishBefore 4 = .ok (.iload_n 1, 1) := by decide +kernel
theorem dX8_dishBefore_5 : decode cX8_dishBefore 5 = .ok (.bipush 21, 2) := by decide +kernel
theorem dX8_dishBefore_7 : decode cX8_dishBefore 7 = .ok (.iadd, 1) := by decide +kernel
theorem dX8_dishBefore_8 : decode cX8_dishBefore 8 = .ok (.iload_n 2, 1) := by decide +kernel
theorem dX8_dishBefore_9 : decode cX8_dishBefore 9 = .ok (.iadd, 1) := by decide +kernel
theorem dX8_dishBefore_10 : decode cX8_dishBefore 10 = .ok (.iaload, 1) := by decide +kernel
theorem dX8_dishBefore_11 : decode cX8_dishBefore 11 = .ok (.aload_n 0, 1) := by decide +kernel
theorem dX8_dishBefore_12 : decode cX8_dishBefore 12 = .ok (.getfield 7, 3) := by decide +kernel
theorem dX8_dishBefore_15 : decode cX8_dishBefore 15 = .ok (.iload_n 1, 1) := by decide +kernel
theorem dX8_dishBefore_16 : decode cX8_dishBefore 16 = .ok (.iconst 1, 1) := by decide +kernel
theorem dX8_dishBefore_17 : decode cX8_dishBefore 17 = .ok (.iadd, 1) := by decide +kernel
theorem dX8_dishBefore_18 : decode cX8_dishBefore 18 = .ok (.iaload, 1) := by decide +kernel
theorem dX8_dishBefore_19 : decode cX8_dishBefore 19 = .ok (.iadd, 1) := by decide +kernel
theorem dX8_dishBefore_20 : decode cX8_dishBefore 20 = .ok (.aload_n 0, 1) := by decide +kernel
theorem dX8_dishBefore_21 : decode cX8_dishBefore 21 = .ok (.getfield 7, 3) := by decide +kernel
theorem dX8_dishBefore_24 : decode cX8_dishBefore 24 = .ok (.iload_n 1, 1) := by decide +kernel
theorem dX8_dishBefore_25 : decode cX8_dishBefore 25 = .ok (.iconst 0, 1) := by decide +kernel
theorem dX8_dishBefore_26 : decode cX8_dishBefore 26 = .ok (.iadd, 1) := by decide +kernel
theorem dX8_dishBefore_27 : decode cX8_dishBefore 27 = .ok (.iaload, 1) := by decide +kernel
theorem dX8_dishBefore_28 : decode cX8_dishBefore 28 = .ok (.irem, 1) := by decide +kernel
theorem dX8_dishBefore_29 : decode cX8_dishBefore 29 = .ok (.istore_n 3, 1) := by decide +kernel
theorem dX8_dishBefore_30 : decode cX8_dishBefore 30 = .ok (.iconst 0, 1) := by decide +kernel
theorem dX8_dishBefore_31 : decode cX8_dishBefore 31 = .ok (.istore 4, 2) := by decide +kernel
theorem dX8_dishBefore_33 : decode cX8_dishBefore 33 = .ok (.aload_n 0, 1) := by decide +kernel
theorem dX8_dishBefore_34 : decode cX8_dishBefore 34 = .ok (.getfield 7, 3) := by decide +kernel
theorem dX8_dishBefore_37 : decode cX8_dishBefore 37 = .ok (.iload_n 1, 1) := by decide +kernel
theorem dX8_dishBefore_38 : decode cX8_dishBefore 38 = .ok (.bipush 33, 2) := by decide +kernel
theorem dX8_dishBefore_40 : decode cX8_dishBefore 40 = .ok (.iadd, 1) := by decide +kernel
theorem dX8_dishBefore_41 : decode cX8_dishBefore 41 = .ok (.iload 4, 2) := by decide +kernel
theorem dX8_dishBefore_43 : decode cX8_dishBefore 43 = .ok (.iadd, 1) := by decide +kernel
theorem dX8_dishBefore_44 : decode cX8_dishBefore 44 = .ok (.iaload, 1) := by decide +kernel
theorem dX8_dishBefore_45 : decode cX8_dishBefore 45 = .ok (.iload_n 3, 1) := by decide +kernel
theorem dX8_dishBefore_46 : decode cX8_dishBefore 46 = .ok (.if_icmp .eq 9, 3) := by decide +kernel
theorem dX8_dishBefore_49 : decode cX8_dishBefore 49 = .ok (.iinc 4 1, 3) := by decide +kernel
theorem dX8_dishBefore_52 : decode cX8_dishBefore 52 = .ok (.goto (-19), 3) := by decide +kernel
theorem dX8_dishBefore_55 : decode cX8_dishBefore 55 = .ok (.iload 4, 2) := by decide +kernel
theorem dX8_dishBefore_57 : decode cX8_dishBefore 57 = .ok (.ireturn, 1) := by decide +kernel
theorem dX8_turnBy_0 : decode cX8_turnBy 0 = .ok (.aload_n 0, 1) := by decide +kernel
theorem dX8_turnBy_1 : decode cX8_turnBy 1 = .ok (.getfield 7, 3) := by decide +kernel
theorem dX8_turnBy_4 : decode cX8_turnBy 4 = .ok (.iload_n 1, 1) := by decide +kernel
theorem dX8_turnBy_5 : decode cX8_turnBy 5 = .ok (.iconst 0, 1) := by decide +kernel
theorem dX8_turnBy_6 : decode cX8_turnBy 6 = .ok (.iadd, 1) := by decide +kernel
theorem dX8_turnBy_7 : decode cX8_turnBy 7 = .ok (.iaload, 1) := by decide +kernel
theorem dX8_turnBy_8 : decode cX8_turnBy 8 = .ok (.istore_n 3, 1) := by decide +kernel
theorem dX8_turnBy_9 : decode cX8_turnBy 9 = .ok (.aload_n 0, 1) := by decide +kernel
theorem dX8_turnBy_10 : decode cX8_turnBy 10 = .ok (.getfield 7, 3) := by decide +kernel
theorem dX8_turnBy_13 : decode cX8_turnBy 13 = .ok (.iload_n 1, 1) := by decide +kernel
theorem dX8_turnBy_14 : decode cX8_turnBy 14 = .ok (.iconst 1, 1) := by decide +kernel
theorem dX8_turnBy_15 : decode cX8_turnBy 15 = .ok (.iadd, 1) := by decide +kernel
theorem dX8_turnBy_16 : decode cX8_turnBy 16 = .ok (.aload_n 0, 1) := by decide +kernel
theorem dX8_turnBy_17 : decode cX8_turnBy 17 = .ok (.getfield 7, 3) := by decide +kernel
theorem dX8_turnBy_20 : decode cX8_turnBy 20 = .ok (.iload_n 1, 1) := by decide +kernel
theorem dX8_turnBy_21 : decode cX8_turnBy 21 = .ok (.iconst 1, 1) := by decide +kernel
theorem dX8_turnBy_22 : decode cX8_turnBy 22 = .ok (.iadd, 1) := by decide +kernel
theorem dX8_turnBy_23 : decode cX8_turnBy 23 = .ok (.iaload, 1) := by decide +kernel
theorem dX8_turnBy_24 : decode cX8_turnBy 24 = .ok (.iload_n 2, 1) := by decide +kernel
theorem dX8_turnBy_25 : decode cX8_turnBy 25 = .ok (.iadd, 1) := by decide +kernel
theorem dX8_turnBy_26 : decode cX8_turnBy 26 = .ok (.iload_n 3, 1) := by decide +kernel
theorem dX8_turnBy_27 : decode cX8_turnBy 27 = .ok (.irem, 1) := by decide +kernel
theorem dX8_turnBy_28 : decode cX8_turnBy 28 = .ok (.iload_n 3, 1) := by decide +kernel
theorem dX8_turnBy_29 : decode cX8_turnBy 29 = .ok (.iadd, 1) := by decide +kernel
theorem dX8_turnBy_30 : decode cX8_turnBy 30 = .ok (.iload_n 3, 1) := by decide +kernel
theorem dX8_turnBy_31 : decode cX8_turnBy 31 = .ok (.irem, 1) := by decide +kernel
theorem dX8_turnBy_32 : decode cX8_turnBy 32 = .ok (.iastore, 1) := by decide +kernel
theorem dX8_turnBy_33 : decode cX8_turnBy 33 = .ok (.return_, 1) := by decide +kernel
theorem dX8_leftTo_0 : decode cX8_leftTo 0 = .ok (.aload_n 0, 1) := by decide +kernel
theorem dX8_leftTo_1 : decode cX8_leftTo 1 = .ok (.getfield 7, 3) := by decide +kernel
theorem dX8_leftTo_4 : decode cX8_leftTo 4 = .ok (.iload_n 1, 1) := by decide +kernel
theorem dX8_leftTo_5 : decode cX8_leftTo 5 = .ok (.iconst 0, 1) := by decide +kernel
theorem dX8_leftTo_6 : decode cX8_leftTo 6 = .ok (.iadd, 1) := by decide +kernel
theorem dX8_leftTo_7 : decode cX8_leftTo 7 = .ok (.iaload, 1) := by decide +kernel
theorem dX8_leftTo_8 : decode cX8_leftTo 8 = .ok (.istore_n 3, 1) := by decide +kernel
theorem dX8_leftTo_9 : decode cX8_leftTo 9 = .ok (.aload_n 0, 1) := by decide +kernel
theorem dX8_leftTo_10 : decode cX8_leftTo 10 = .ok (.getfield 7, 3) := by decide +kernel
theorem dX8_leftTo_13 : decode cX8_leftTo 13 = .ok (.iload_n 1, 1) := by decide +kernel
theorem dX8_leftTo_14 : decode cX8_leftTo 14 = .ok (.bipush 33, 2) := by decide +kernel
theorem dX8_leftTo_16 : decode cX8_leftTo 16 = .ok (.iadd, 1) := by decide +kernel
theorem dX8_leftTo_17 : decode cX8_leftTo 17 = .ok (.aload_n 0, 1) := by decide +kernel
theorem dX8_leftTo_18 : decode cX8_leftTo 18 = .ok (.getfield 7, 3) := by decide +kernel
theorem dX8_leftTo_21 : decode cX8_leftTo 21 = .ok (.iload_n 1, 1) := by decide +kernel
theorem dX8_leftTo_22 : decode cX8_leftTo 22 = .ok (.bipush 9, 2) := by decide +kernel
theorem dX8_leftTo_24 : decode cX8_leftTo 24 = .ok (.iadd, 1) := by decide +kernel
theorem dX8_leftTo_25 : decode cX8_leftTo 25 = .ok (.iload_n 2, 1) := by decide +kernel
theorem dX8_leftTo_26 : decode cX8_leftTo 26 = .ok (.iadd, 1) := by decide +kernel
theorem dX8_leftTo_27 : decode cX8_leftTo 27 = .ok (.iaload, 1) := by decide +kernel
theorem dX8_leftTo_28 : decode cX8_leftTo 28 = .ok (.iadd, 1) := by decide +kernel
theorem dX8_leftTo_29 : decode cX8_leftTo 29 = .ok (.iaload, 1) := by decide +kernel
theorem dX8_leftTo_30 : decode cX8_leftTo 30 = .ok (.iconst 2, 1) := by decide +kernel
theorem dX8_leftTo_31 : decode cX8_leftTo 31 = .ok (.iload_n 3, 1) := by decide +kernel
theorem dX8_leftTo_32 : decode cX8_leftTo 32 = .ok (.imul, 1) := by decide +kernel
theorem dX8_leftTo_33 : decode cX8_leftTo 33 = .ok (.iadd, 1) := by decide +kernel
theorem dX8_leftTo_34 : decode cX8_leftTo 34 = .ok (.aload_n 0, 1) := by decide +kernel
theorem dX8_leftTo_35 : decode cX8_leftTo 35 = .ok (.getfield 7, 3) := by decide +kernel
theorem dX8_leftTo_38 : decode cX8_leftTo 38 = .ok (.iload_n 1, 1) := by decide +kernel
theorem dX8_leftTo_39 : decode cX8_leftTo 39 = .ok (.bipush 21, 2) := by decide +kernel
theorem dX8_leftTo_41 : decode cX8_leftTo 41 = .ok (.iadd, 1) := by decide +kernel
theorem dX8_leftTo_42 : decode cX8_leftTo 42 = .ok (.iload_n 2, 1) := by decide +kernel
theorem dX8_leftTo_43 : decode cX8_leftTo 43 = .ok (.iadd, 1) := by decide +kernel
theorem dX8_leftTo_44 : decode cX8_leftTo 44 = .ok (.iaload, 1) := by decide +kernel
theorem dX8_leftTo_45 : decode cX8_leftTo 45 = .ok (.isub, 1) := by decide +kernel
theorem dX8_leftTo_46 : decode cX8_leftTo 46 = .ok (.aload_n 0, 1) := by decide +kernel
theorem dX8_leftTo_47 : decode cX8_leftTo 47 = .ok (.getfield 7, 3) := by decide +kernel
theorem dX8_leftTo_50 : decode cX8_leftTo 50 = .ok (.iload_n 1, 1) := by decide +kernel
theorem dX8_leftTo_51 : decode cX8_leftTo 51 = .ok (.iconst 1, 1) := by decide +kernel
theorem dX8_leftTo_52 : decode cX8_leftTo 52 = .ok (.iadd, 1) := by decide +kernel
theorem dX8_leftTo_53 : decode cX8_leftTo 53 = .ok (.iaload, 1) := by decide +kernel
theorem dX8_leftTo_54 : decode cX8_leftTo 54 = .ok (.isub, 1) := by decide +kernel
theorem dX8_leftTo_55 : decode cX8_leftTo 55 = .ok (.iload_n 3, 1) := by decide +kernel
theorem dX8_leftTo_56 : decode cX8_leftTo 56 = .ok (.irem, 1) := by decide +kernel
theorem dX8_leftTo_57 : decode cX8_leftTo 57 = .ok (.ireturn, 1) := by decide +kernel
theorem dX8_pushes_0 : decode cX8_pushes 0 = .ok (.aload_n 0, 1) := by decide +kernel
theorem dX8_pushes_1 : decode cX8_pushes 1 = .ok (.getfield 7, 3) := by decide +kernel
theorem dX8_pushes_4 : decode cX8_pushes 4 = .ok (.iload_n 1, 1) := by decide +kernel
theorem dX8_pushes_5 : decode cX8_pushes 5 = .ok (.iconst 0, 1) := by decide +kernel
theorem dX8_pushes_6 : decode cX8_pushes 6 = .ok (.iadd, 1) := by decide +kernel
theorem dX8_pushes_7 : decode cX8_pushes 7 = .ok (.iaload, 1) := by decide +kernel
theorem dX8_pushes_8 : decode cX8_pushes 8 = .ok (.istore_n 3, 1) := by decide +kernel
theorem dX8_pushes_9 : decode cX8_pushes 9 = .ok (.aload_n 0, 1) := by decide +kernel
theorem dX8_pushes_10 : decode cX8_pushes 10 = .ok (.getfield 7, 3) := by decide +kernel
theorem dX8_pushes_13 : decode cX8_pushes 13 = .ok (.iload_n 1, 1) := by decide +kernel
theorem dX8_pushes_14 : decode cX8_pushes 14 = .ok (.iconst 3, 1) := by decide +kernel
theorem dX8_pushes_15 : decode cX8_pushes 15 = .ok (.iadd, 1) := by decide +kernel
theorem dX8_pushes_16 : decode cX8_pushes 16 = .ok (.iload_n 2, 1) := by decide +kernel
theorem dX8_pushes_17 : decode cX8_pushes 17 = .ok (.iadd, 1) := by decide +kernel
theorem dX8_pushes_18 : decode cX8_pushes 18 = .ok (.iaload, 1) := by decide +kernel
theorem dX8_pushes_19 : decode cX8_pushes 19 = .ok (.istore 4, 2) := by decide +kernel
theorem dX8_pushes_21 : decode cX8_pushes 21 = .ok (.aload_n 0, 1) := by decide +kernel
theorem dX8_pushes_22 : decode cX8_pushes 22 = .ok (.iconst 0, 1) := by decide +kernel
theorem dX8_pushes_23 : decode cX8_pushes 23 = .ok (.putfield 149, 3) := by decide +kernel
theorem dX8_pushes_26 : decode cX8_pushes 26 = .ok (.iload 4, 2) := by decide +kernel
theorem dX8_pushes_28 : decode cX8_pushes 28 = .ok (.iconst 5, 1) := by decide +kernel
theorem dX8_pushes_29 : decode cX8_pushes 29 = .ok (.if_icmp .ne 15, 3) := by decide +kernel
theorem dX8_pushes_32 : decode cX8_pushes 32 = .ok (.aload_n 0, 1) := by decide +kernel
theorem dX8_pushes_33 : decode cX8_pushes 33 = .ok (.iconst 1, 1) := by decide +kernel
theorem dX8_pushes_34 : decode cX8_pushes 34 = .ok (.putfield 149, 3) := by decide +kernel
theorem dX8_pushes_37 : decode cX8_pushes 37 = .ok (.aload_n 0, 1) := by decide +kernel
theorem dX8_pushes_38 : decode cX8_pushes 38 = .ok (.iload_n 1, 1) := by decide +kernel
theorem dX8_pushes_39 : decode cX8_pushes 39 = .ok (.iconst 1, 1) := by decide +kernel
theorem dX8_pushes_40 : decode cX8_pushes 40 = .ok (.invokevirtual 152, 3) := by decide +kernel
theorem dX8_pushes_43 : decode cX8_pushes 43 = .ok (.return_, 1) := by decide +kernel
theorem dX8_pushes_44 : decode cX8_pushes 44 = .ok (.aload_n 0, 1) := by decide +kernel
theorem dX8_pushes_45 : decode cX8_pushes 45 = .ok (.getfield 7, 3) := by decide +kernel
theorem dX8_pushes_48 : decode cX8_pushes 48 = .ok (.iload_n 1, 1) := by decide +kernel
theorem dX8_pushes_49 : decode cX8_pushes 49 = .ok (.bipush 9, 2) := by decide +kernel
theorem dX8_pushes_51 : decode cX8_pushes 51 = .ok (.iadd, 1) := by decide +kernel
theorem dX8_pushes_52 : decode cX8_pushes 52 = .ok (.iload_n 2, 1) := by decide +kernel
theorem dX8_pushes_53 : decode cX8_pushes 53 = .ok (.iadd, 1) := by decide +kernel
theorem dX8_pushes_54 : decode cX8_pushes 54 = .ok (.iaload, 1) := by decide +kernel
theorem dX8_pushes_55 : decode cX8_pushes 55 = .ok (.istore 5, 2) := by decide +kernel
theorem dX8_pushes_57 : decode cX8_pushes 57 = .ok (.iload 4, 2) := by decide +kernel
theorem dX8_pushes_59 : decode cX8_pushes 59 = .ok (.iconst 4, 1) := by decide +kernel
theorem dX8_pushes_60 : decode cX8_pushes 60 = .ok (.if_icmp .eq 24, 3) := by decide +kernel
theorem dX8_pushes_63 : decode cX8_pushes 63 = .ok (.iload 5, 2) := by decide +kernel
theorem dX8_pushes_65 : decode cX8_pushes 65 = .ok (.iload_n 3, 1) := by decide +kernel
theorem dX8_pushes_66 : decode cX8_pushes 66 = .ok (.if_icmp .ge 18, 3) := by decide +kernel
theorem dX8_pushes_69 : decode cX8_pushes 69 = .ok (.aload_n 0, 1) := by decide +kernel
theorem dX8_pushes_70 : decode cX8_pushes 70 = .ok (.getfield 7, 3) := by decide +kernel
theorem dX8_pushes_73 : decode cX8_pushes 73 = .ok (.iload_n 1, 1) := by decide +kernel
theorem dX8_pushes_74 : decode cX8_pushes 74 = .ok (.bipush 27, 2) := by decide +kernel
theorem dX8_pushes_76 : decode cX8_pushes 76 = .ok (.iadd, 1) := by decide +kernel
theorem dX8_pushes_77 : decode cX8_pushes 77 = .ok (.iload 5, 2) := by decide +kernel
theorem dX8_pushes_79 : decode cX8_pushes 79 = .ok (.iadd, 1) := by decide +kernel
theorem dX8_pushes_80 : decode cX8_pushes 80 = .ok (.iaload, 1) := by decide +kernel
theorem dX8_pushes_81 : decode cX8_pushes 81 = .ok (.ifCond .ne 4, 3) := by decide +kernel
theorem dX8_pushes_84 : decode cX8_pushes 84 = .ok (.return_, 1) := by decide +kernel
theorem dX8_pushes_85 : decode cX8_pushes 85 = .ok (.aload_n 0, 1) := by decide +kernel
theorem dX8_pushes_86 : decode cX8_pushes 86 = .ok (.iload_n 1, 1) := by decide +kernel
theorem dX8_pushes_87 : decode cX8_pushes 87 = .ok (.iload_n 2, 1) := by decide +kernel
theorem dX8_pushes_88 : decode cX8_pushes 88 = .ok (.invokevirtual 155, 3) := by decide +kernel
theorem dX8_pushes_91 : decode cX8_pushes 91 = .ok (.istore 6, 2) := by decide +kernel
theorem dX8_pushes_93 : decode cX8_pushes 93 = .ok (.iload_n 3, 1) := by decide +kernel
theorem dX8_pushes_94 : decode cX8_pushes 94 = .ok (.iconst 4, 1) := by decide +kernel
theorem dX8_pushes_95 : decode cX8_pushes 95 = .ok (.idiv, 1) := by decide +kernel
theorem dX8_pushes_96 : decode cX8_pushes 96 = .ok (.iconst 1, 1) := by decide +kernel
theorem dX8_pushes_97 : decode cX8_pushes 97 = .ok (.if_icmp .le 9, 3) := by decide +kernel
theorem dX8_pushes_100 : decode cX8_pushes 100 = .ok (.iload_n 3, 1) := by decide +kernel
theorem dX8_pushes_101 : decode cX8_pushes 101 = .ok (.iconst 4, 1) := by decide +kernel
theorem dX8_pushes_102 : decode cX8_pushes 102 = .ok (.idiv, 1) := by decide +kernel
theorem dX8_pushes_103 : decode cX8_pushes 103 = .ok (.goto 4, 3) := by decide +kernel
theorem dX8_pushes_106 : decode cX8_pushes 106 = .ok (.iconst 1, 1) := by decide +kernel
theorem dX8_pushes_107 : decode cX8_pushes 107 = .ok (.istore 7, 2) := by decide +kernel
theorem dX8_pushes_109 : decode cX8_pushes 109 = .ok (.iload 6, 2) := by decide +kernel
theorem dX8_pushes_111 : decode cX8_pushes 111 = .ok (.iload_n 3, 1) := by decide +kernel
theorem dX8_pushes_112 : decode cX8_pushes 112 = .ok (.iload 6, 2) := by decide +kernel
theorem dX8_pushes_114 : decode cX8_pushes 114 = .ok (.isub, 1) := by decide +kernel
theorem dX8_pushes_115 : decode cX8_pushes 115 = .ok (.if_icmp .gt 8, 3) := by decide +kernel
theorem dX8_pushes_118 : decode cX8_pushes 118 = .ok (.iload 6, 2) := by decide +kernel
theorem dX8_pushes_120 : decode cX8_pushes 120 = .ok (.goto 7, 3) := by decide +kernel
theorem dX8_pushes_123 : decode cX8_pushes 123 = .ok (.iload_n 3, 1) := by decide +kernel
theorem dX8_pushes_124 : decode cX8_pushes 124 = .ok (.iload 6, 2) := by decide +kernel
theorem dX8_pushes_126 : decode cX8_pushes 126 = .ok (.isub, 1) := by decide +kernel
theorem dX8_pushes_127 : decode cX8_pushes 127 = .ok (.istore 8, 2) := by decide +kernel
theorem dX8_pushes_129 : decode cX8_pushes 129 = .ok (.aload_n 0, 1) := by decide +kernel
theorem dX8_pushes_130 : decode cX8_pushes 130 = .ok (.iload 8, 2) := by decide +kernel
theorem dX8_pushes_132 : decode cX8_pushes 132 = .ok (.iload 7, 2) := by decide +kernel
theorem dX8_pushes_134 : decode cX8_pushes 134 = .ok (.if_icmp .ge 8, 3) := by decide +kernel
theorem dX8_pushes_137 : decode cX8_pushes 137 = .ok (.iload 8, 2) := by decide +kernel
theorem dX8_pushes_139 : decode cX8_pushes 139 = .ok (.goto 5, 3) := by decide +kernel
theorem dX8_pushes_142 : decode cX8_pushes 142 = .ok (.iload 7, 2) := by decide +kernel
theorem dX8_pushes_144 : decode cX8_pushes 144 = .ok (.putfield 149, 3) := by decide +kernel
theorem dX8_pushes_147 : decode cX8_pushes 147 = .ok (.aload_n 0, 1) := by decide +kernel
theorem dX8_pushes_148 : decode cX8_pushes 148 = .ok (.iload_n 1, 1) := by decide +kernel
theorem dX8_pushes_149 : decode cX8_pushes 149 = .ok (.iload 6, 2) := by decide +kernel
theorem dX8_pushes_151 : decode cX8_pushes 151 = .ok (.iload_n 3, 1) := by decide +kernel
theorem dX8_pushes_152 : decode cX8_pushes 152 = .ok (.iload 6, 2) := by decide +kernel
theorem dX8_pushes_154 : decode cX8_pushes 154 = .ok (.isub, 1) := by decide +kernel
theorem dX8_pushes_155 : decode cX8_pushes 155 = .ok (.if_icmp .gt 10, 3) := by decide +kernel
theorem dX8_pushes_158 : decode cX8_pushes 158 = .ok (.aload_n 0, 1) := by decide +kernel
theorem dX8_pushes_159 : decode cX8_pushes 159 = .ok (.getfield 149, 3) := by decide +kernel
theorem dX8_pushes_162 : decode cX8_pushes 162 = .ok (.goto 8, 3) := by decide +kernel
theorem dX8_pushes_165 : decode cX8_pushes 165 = .ok (.aload_n 0, 1) := by decide +kernel
theorem dX8_pushes_166 : decode cX8_pushes 166 = .ok (.getfield 149, 3) := by decide +kernel
theorem dX8_pushes_169 : decode cX8_pushes 169 = .ok (.ineg, 1) := by decide +kernel
theorem dX8_pushes_170 : decode cX8_pushes 170 = .ok (.invokevirtual 152, 3) := by decide +kernel
theorem dX8_pushes_173 : decode cX8_pushes 173 = .ok (.return_, 1) := by decide +kernel
theorem dX8_goMinute_0 : decode cX8_goMinute 0 = .ok (.aload_n 0, 1) := by decide +kernel
theorem dX8_goMinute_1 : decode cX8_goMinute 1 = .ok (.iload_n 1, 1) := by decide +kernel
theorem dX8_goMinute_2 : decode cX8_goMinute 2 = .ok (.aload_n 0, 1) := by decide +kernel
theorem dX8_goMinute_3 : decode cX8_goMinute 3 = .ok (.getfield 7, 3) := by decide +kernel
theorem dX8_goMinute_6 : decode cX8_goMinute 6 = .ok (.iload_n 1, 1) := by decide +kernel
theorem dX8_goMinute_7 : decode cX8_goMinute 7 = .ok (.iconst 2, 1) := by decide +kernel
theorem dX8_goMinute_8 : decode cX8_goMinute 8 = .ok (.iadd, 1) := by decide +kernel
theorem dX8_goMinute_9 : decode cX8_goMinute 9 = .ok (.iaload, 1) := by decide +kernel
theorem dX8_goMinute_10 : decode cX8_goMinute 10 = .ok (.aload_n 0, 1) := by decide +kernel
theorem dX8_goMinute_11 : decode cX8_goMinute 11 = .ok (.getfield 7, 3) := by decide +kernel
theorem dX8_goMinute_14 : decode cX8_goMinute 14 = .ok (.iload_n 1, 1) := by decide +kernel
theorem dX8_goMinute_15 : decode cX8_goMinute 15 = .ok (.iconst 0, 1) := by decide +kernel
theorem dX8_goMinute_16 : decode cX8_goMinute 16 = .ok (.iadd, 1) := by decide +kernel
theorem dX8_goMinute_17 : decode cX8_goMinute 17 = .ok (.iaload, 1) := by decide +kernel
theorem dX8_goMinute_18 : decode cX8_goMinute 18 = .ok (.irem, 1) := by decide +kernel
theorem dX8_goMinute_19 : decode cX8_goMinute 19 = .ok (.invokevirtual 159, 3) := by decide +kernel
theorem dX8_goMinute_22 : decode cX8_goMinute 22 = .ok (.istore_n 2, 1) := by decide +kernel
theorem dX8_goMinute_23 : decode cX8_goMinute 23 = .ok (.aload_n 0, 1) := by decide +kernel
theorem dX8_goMinute_24 : decode cX8_goMinute 24 = .ok (.iload_n 1, 1) := by decide +kernel
theorem dX8_goMinute_25 : decode cX8_goMinute 25 = .ok (.iload_n 2, 1) := by decide +kernel
theorem dX8_goMinute_26 : decode cX8_goMinute 26 = .ok (.invokevirtual 162, 3) := by decide +kernel
theorem dX8_goMinute_29 : decode cX8_goMinute 29 = .ok (.aload_n 0, 1) := by decide +kernel
theorem dX8_goMinute_30 : decode cX8_goMinute 30 = .ok (.iload_n 1, 1) := by decide +kernel
theorem dX8_goMinute_31 : decode cX8_goMinute 31 = .ok (.iload_n 2, 1) := by decide +kernel
theorem dX8_goMinute_32 : decode cX8_goMinute 32 = .ok (.invokevirtual 165, 3) := by decide +kernel
theorem dX8_goMinute_35 : decode cX8_goMinute 35 = .ok (.istore_n 3, 1) := by decide +kernel
theorem dX8_goMinute_36 : decode cX8_goMinute 36 = .ok (.aload_n 0, 1) := by decide +kernel
theorem dX8_goMinute_37 : decode cX8_goMinute 37 = .ok (.getfield 7, 3) := by decide +kernel
theorem dX8_goMinute_40 : decode cX8_goMinute 40 = .ok (.iload_n 1, 1) := by decide +kernel
theorem dX8_goMinute_41 : decode cX8_goMinute 41 = .ok (.iconst 3, 1) := by decide +kernel
theorem dX8_goMinute_42 : decode cX8_goMinute 42 = .ok (.iadd, 1) := by decide +kernel
theorem dX8_goMinute_43 : decode cX8_goMinute 43 = .ok (.iload_n 2, 1) := by decide +kernel
theorem dX8_goMinute_44 : decode cX8_goMinute 44 = .ok (.iadd, 1) := by decide +kernel
theorem dX8_goMinute_45 : decode cX8_goMinute 45 = .ok (.iaload, 1) := by decide +kernel
theorem dX8_goMinute_46 : decode cX8_goMinute 46 = .ok (.istore 4, 2) := by decide +kernel
theorem dX8_goMinute_48 : decode cX8_goMinute 48 = .ok (.iload 4, 2) := by decide +kernel
theorem dX8_goMinute_50 : decode cX8_goMinute 50 = .ok (.iconst 3, 1) := by decide +kernel
theorem dX8_goMinute_51 : decode cX8_goMinute 51 = .ok (.if_icmp .eq 24, 3) := by decide +kernel
theorem dX8_goMinute_54 : decode cX8_goMinute 54 = .ok (.iload 4, 2) := by decide +kernel
theorem dX8_goMinute_56 : decode cX8_goMinute 56 = .ok (.iconst 5, 1) := by decide +kernel
theorem dX8_goMinute_57 : decode cX8_goMinute 57 = .ok (.if_icmp .eq 18, 3) := by decide +kernel
theorem dX8_goMinute_60 : decode cX8_goMinute 60 = .ok (.aload_n 0, 1) := by decide +kernel
theorem dX8_goMinute_61 : decode cX8_goMinute 61 = .ok (.getfield 7, 3) := by decide +kernel
theorem dX8_goMinute_64 : decode cX8_goMinute 64 = .ok (.iload_n 1, 1) := by decide +kernel
theorem dX8_goMinute_65 : decode cX8_goMinute 65 = .ok (.bipush 9, 2) := by decide +kernel
theorem dX8_goMinute_67 : decode cX8_goMinute 67 = .ok (.iadd, 1) := by decide +kernel
theorem dX8_goMinute_68 : decode cX8_goMinute 68 = .ok (.iload_n 2, 1) := by decide +kernel
theorem dX8_goMinute_69 : decode cX8_goMinute 69 = .ok (.iadd, 1) := by decide +kernel
theorem dX8_goMinute_70 : decode cX8_goMinute 70 = .ok (.iaload, 1) := by decide +kernel
theorem dX8_goMinute_71 : decode cX8_goMinute 71 = .ok (.iload_n 3, 1) := by decide +kernel
theorem dX8_goMinute_72 : decode cX8_goMinute 72 = .ok (.if_icmp .ne 7, 3) := by decide +kernel
theorem dX8_goMinute_75 : decode cX8_goMinute 75 = .ok (.iconst 1, 1) := by decide +kernel
theorem dX8_goMinute_76 : decode cX8_goMinute 76 = .ok (.goto 4, 3) := by decide +kernel
theorem dX8_goMinute_79 : decode cX8_goMinute 79 = .ok (.iconst 0, 1) := by decide +kernel
theorem dX8_goMinute_80 : decode cX8_goMinute 80 = .ok (.istore 5, 2) := by decide +kernel
theorem dX8_goMinute_82 : decode cX8_goMinute 82 = .ok (.iload 5, 2) := by decide +kernel
theorem dX8_goMinute_84 : decode cX8_goMinute 84 = .ok (.ifCond .ne 7, 3) := by decide +kernel
theorem dX8_goMinute_87 : decode cX8_goMinute 87 = .ok (.iconst 0, 1) := by decide +kernel
theorem dX8_goMinute_88 : decode cX8_goMinute 88 = .ok (.goto 14, 3) := by decide +kernel
theorem dX8_goMinute_91 : decode cX8_goMinute 91 = .ok (.iload 4, 2) := by decide +kernel
theorem dX8_goMinute_93 : decode cX8_goMinute 93 = .ok (.iconst 2, 1) := by decide +kernel
theorem dX8_goMinute_94 : decode cX8_goMinute 94 = .ok (.if_icmp .ne 7, 3) := by decide +kernel
theorem dX8_goMinute_97 : decode cX8_goMinute 97 = .ok (.iconst 2, 1) := by decide +kernel
theorem dX8_goMinute_98 : decode cX8_goMinute 98 = .ok (.goto 4, 3) := by decide +kernel
theorem dX8_goMinute_101 : decode cX8_goMinute 101 = .ok (.iconst 1, 1) := by decide +kernel
theorem dX8_goMinute_102 : decode cX8_goMinute 102 = .ok (.istore 6, 2) := by decide +kernel
theorem dX8_goMinute_104 : decode cX8_goMinute 104 = .ok (.aload_n 0, 1) := by decide +kernel
theorem dX8_goMinute_105 : decode cX8_goMinute 105 = .ok (.aload_n 0, 1) := by decide +kernel
theorem dX8_goMinute_106 : decode cX8_goMinute 106 = .ok (.getfield 7, 3) := by decide +kernel
theorem dX8_goMinute_109 : decode cX8_goMinute 109 = .ok (.iload_n 1, 1) := by decide +kernel
theorem dX8_goMinute_110 : decode cX8_goMinute 110 = .ok (.bipush 27, 2) := by decide +kernel
theorem dX8_goMinute_112 : decode cX8_goMinute 112 = .ok (.iadd, 1) := by decide +kernel
theorem dX8_goMinute_113 : decode cX8_goMinute 113 = .ok (.iload_n 3, 1) := by decide +kernel
theorem dX8_goMinute_114 : decode cX8_goMinute 114 = .ok (.iadd, 1) := by decide +kernel
theorem dX8_goMinute_115 : decode cX8_goMinute 115 = .ok (.iaload, 1) := by decide +kernel
theorem dX8_goMinute_116 : decode cX8_goMinute 116 = .ok (.iload 6, 2) := by decide +kernel
theorem dX8_goMinute_118 : decode cX8_goMinute 118 = .ok (.if_icmp .ge 17, 3) := by decide +kernel
theorem dX8_goMinute_121 : decode cX8_goMinute 121 = .ok (.aload_n 0, 1) := by decide +kernel
theorem dX8_goMinute_122 : decode cX8_goMinute 122 = .ok (.getfield 7, 3) := by decide +kernel
theorem dX8_goMinute_125 : decode cX8_goMinute 125 = .ok (.iload_n 1, 1) := by decide +kernel
theorem dX8_goMinute_126 : decode cX8_goMinute 126 = .ok (.bipush 27, 2) := by decide +kernel
theorem dX8_goMinute_128 : decode cX8_goMinute 128 = .ok (.iadd, 1) := by decide +kernel
theorem dX8_goMinute_129 : decode cX8_goMinute 129 = .ok (.iload_n 3, 1) := by decide +kernel
theorem dX8_goMinute_130 : decode cX8_goMinute 130 = .ok (.iadd, 1) := by decide +kernel
theorem dX8_goMinute_131 : decode cX8_goMinute 131 = .ok (.iaload, 1) := by decide +kernel
theorem dX8_goMinute_132 : decode cX8_goMinute 132 = .ok (.goto 5, 3) := by decide +kernel
theorem dX8_goMinute_135 : decode cX8_goMinute 135 = .ok (.iload 6, 2) := by decide +kernel
theorem dX8_goMinute_137 : decode cX8_goMinute 137 = .ok (.putfield 168, 3) := by decide +kernel
theorem dX8_goMinute_140 : decode cX8_goMinute 140 = .ok (.aload_n 0, 1) := by decide +kernel
theorem dX8_goMinute_141 : decode cX8_goMinute 141 = .ok (.getfield 7, 3) := by decide +kernel
theorem dX8_goMinute_144 : decode cX8_goMinute 144 = .ok (.iload_n 1, 1) := by decide +kernel
theorem dX8_goMinute_145 : decode cX8_goMinute 145 = .ok (.bipush 27, 2) := by decide +kernel
theorem dX8_goMinute_147 : decode cX8_goMinute 147 = .ok (.iadd, 1) := by decide +kernel
theorem dX8_goMinute_148 : decode cX8_goMinute 148 = .ok (.iload_n 3, 1) := by decide +kernel
theorem dX8_goMinute_149 : decode cX8_goMinute 149 = .ok (.iadd, 1) := by decide +kernel
theorem dX8_goMinute_150 : decode cX8_goMinute 150 = .ok (.dup2, 1) := by decide +kernel
theorem dX8_goMinute_151 : decode cX8_goMinute 151 = .ok (.iaload, 1) := by decide +kernel
theorem dX8_goMinute_152 : decode cX8_goMinute 152 = .ok (.aload_n 0, 1) := by decide +kernel
theorem dX8_goMinute_153 : decode cX8_goMinute 153 = .ok (.getfield 168, 3) := by decide +kernel
theorem dX8_goMinute_156 : decode cX8_goMinute 156 = .ok (.isub, 1) := by decide +kernel
theorem dX8_goMinute_157 : decode cX8_goMinute 157 = .ok (.iastore, 1) := by decide +kernel
theorem dX8_goMinute_158 : decode cX8_goMinute 158 = .ok (.aload_n 0, 1) := by decide +kernel
theorem dX8_goMinute_159 : decode cX8_goMinute 159 = .ok (.getfield 7, 3) := by decide +kernel
theorem dX8_goMinute_162 : decode cX8_goMinute 162 = .ok (.iload_n 1, 1) := by decide +kernel
theorem dX8_goMinute_163 : decode cX8_goMinute 163 = .ok (.bipush 15, 2) := by decide +kernel
theorem dX8_goMinute_165 : decode cX8_goMinute 165 = .ok (.iadd, 1) := by decide +kernel
theorem dX8_goMinute_166 : decode cX8_goMinute 166 = .ok (.iload_n 2, 1) := by decide +kernel
theorem dX8_goMinute_167 : decode cX8_goMinute 167 = .ok (.iadd, 1) := by decide +kernel
theorem dX8_goMinute_168 : decode cX8_goMinute 168 = .ok (.dup2, 1) := by decide +kernel
theorem dX8_goMinute_169 : decode cX8_goMinute 169 = .ok (.iaload, 1) := by decide +kernel
theorem dX8_goMinute_170 : decode cX8_goMinute 170 = .ok (.aload_n 0, 1) := by decide +kernel
theorem dX8_goMinute_171 : decode cX8_goMinute 171 = .ok (.getfield 168, 3) := by decide +kernel
theorem dX8_goMinute_174 : decode cX8_goMinute 174 = .ok (.iadd, 1) := by decide +kernel
theorem dX8_goMinute_175 : decode cX8_goMinute 175 = .ok (.iastore, 1) := by decide +kernel
theorem dX8_goMinute_176 : decode cX8_goMinute 176 = .ok (.aload_n 0, 1) := by decide +kernel
theorem dX8_goMinute_177 : decode cX8_goMinute 177 = .ok (.getfield 7, 3) := by decide +kernel
theorem dX8_goMinute_180 : decode cX8_goMinute 180 = .ok (.iload_n 1, 1) := by decide +kernel
theorem dX8_goMinute_181 : decode cX8_goMinute 181 = .ok (.iconst 2, 1) := by decide +kernel
theorem dX8_goMinute_182 : decode cX8_goMinute 182 = .ok (.iadd, 1) := by decide +kernel
theorem dX8_goMinute_183 : decode cX8_goMinute 183 = .ok (.dup2, 1) := by decide +kernel
theorem dX8_goMinute_184 : decode cX8_goMinute 184 = .ok (.iaload, 1) := by decide +kernel
theorem dX8_goMinute_185 : decode cX8_goMinute 185 = .ok (.iconst 1, 1) := by decide +kernel
theorem dX8_goMinute_186 : decode cX8_goMinute 186 = .ok (.iadd, 1) := by decide +kernel
theorem dX8_goMinute_187 : decode cX8_goMinute 187 = .ok (.iastore, 1) := by decide +kernel
theorem dX8_goMinute_188 : decode cX8_goMinute 188 = .ok (.aload_n 0, 1) := by decide +kernel
theorem dX8_goMinute_189 : decode cX8_goMinute 189 = .ok (.iload_n 2, 1) := by decide +kernel
theorem dX8_goMinute_190 : decode cX8_goMinute 190 = .ok (.putfield 171, 3) := by decide +kernel
theorem dX8_goMinute_193 : decode cX8_goMinute 193 = .ok (.aload_n 0, 1) := by decide +kernel
theorem dX8_goMinute_194 : decode cX8_goMinute 194 = .ok (.iload_n 3, 1) := by decide +kernel
theorem dX8_goMinute_195 : decode cX8_goMinute 195 = .ok (.putfield 174, 3) := by decide +kernel
theorem dX8_goMinute_198 : decode cX8_goMinute 198 = .ok (.return_, 1) := by decide +kernel
theorem dX8_minds_0 : decode cX8_minds 0 = .ok (.aload_n 0, 1) := by decide +kernel
theorem dX8_minds_1 : decode cX8_minds 1 = .ok (.getfield 146, 3) := by decide +kernel
theorem dX8_minds_4 : decode cX8_minds 4 = .ok (.bipush 24, 2) := by decide +kernel
theorem dX8_minds_6 : decode cX8_minds 6 = .ok (.if_icmp .ne 49, 3) := by decide +kernel
theorem dX8_minds_9 : decode cX8_minds 9 = .ok (.iconst 0, 1) := by decide +kernel
theorem dX8_minds_10 : decode cX8_minds 10 = .ok (.istore_n 1, 1) := by decide +kernel
theorem dX8_minds_11 : decode cX8_minds 11 = .ok (.iload_n 1, 1) := by decide +kernel
theorem dX8_minds_12 : decode cX8_minds 12 = .ok (.sipush 897, 3) := by decide +kernel
theorem dX8_minds_15 : decode cX8_minds 15 = .ok (.if_icmp .ge 30, 3) := by decide +kernel
theorem dX8_minds_18 : decode cX8_minds 18 = .ok (.aload_n 0, 1) := by decide +kernel
theorem dX8_minds_19 : decode cX8_minds 19 = .ok (.getfield 7, 3) := by decide +kernel
theorem dX8_minds_22 : decode cX8_minds 22 = .ok (.bipush 117, 2) := by decide +kernel
theorem dX8_minds_24 : decode cX8_minds 24 = .ok (.iload_n 1, 1) := by decide +kernel
theorem dX8_minds_25 : decode cX8_minds 25 = .ok (.iadd, 1) := by decide +kernel
theorem dX8_minds_26 : decode cX8_minds 26 = .ok (.aload_n 0, 1) := by decide +kernel
theorem dX8_minds_27 : decode cX8_minds 27 = .ok (.getfield 7, 3) := by decide +kernel
theorem dX8_minds_30 : decode cX8_minds 30 = .ok (.bipush 117, 2) := by decide +kernel
theorem dX8_minds_32 : decode cX8_minds 32 = .ok (.iload_n 1, 1) := by decide +kernel
theorem dX8_minds_33 : decode cX8_minds 33 = .ok (.iadd, 1) := by decide +kernel
theorem dX8_minds_34 : decode cX8_minds 34 = .ok (.bipush 39, 2) := by decide +kernel
theorem dX8_minds_36 : decode cX8_minds 36 = .ok (.iadd, 1) := by decide +kernel
theorem dX8_minds_37 : decode cX8_minds 37 = .ok (.iaload, 1) := by decide +kernel
theorem dX8_minds_38 : decode cX8_minds 38 = .ok (.iastore, 1) := by decide +kernel
theorem dX8_minds_39 : decode cX8_minds 39 = .ok (.iinc 1 1, 3) := by decide +kernel
theorem dX8_minds_42 : decode cX8_minds 42 = .ok (.goto (-31), 3) := by decide +kernel
theorem dX8_minds_45 : decode cX8_minds 45 = .ok (.aload_n 0, 1) := by decide +kernel
theorem dX8_minds_46 : decode cX8_minds 46 = .ok (.dup, 1) := by decide +kernel
theorem dX8_minds_47 : decode cX8_minds 47 = .ok (.getfield 146, 3) := by decide +kernel
theorem dX8_minds_50 : decode cX8_minds 50 = .ok (.iconst 1, 1) := by decide +kernel
theorem dX8_minds_51 : decode cX8_minds 51 = .ok (.isub, 1) := by decide +kernel
theorem dX8_minds_52 : decode cX8_minds 52 = .ok (.putfield 146, 3) := by decide +kernel
theorem dX8_minds_55 : decode cX8_minds 55 = .ok (.aload_n 0, 1) := by decide +kernel
theorem dX8_minds_56 : decode cX8_minds 56 = .ok (.iconst 0, 1) := by decide +kernel
theorem dX8_minds_57 : decode cX8_minds 57 = .ok (.bipush 117, 2) := by decide +kernel
theorem dX8_minds_59 : decode cX8_minds 59 = .ok (.bipush 39, 2) := by decide +kernel
theorem dX8_minds_61 : decode cX8_minds 61 = .ok (.aload_n 0, 1) := by decide +kernel
theorem dX8_minds_62 : decode cX8_minds 62 = .ok (.getfield 146, 3) := by decide +kernel
theorem dX8_minds_65 : decode cX8_minds 65 = .ok (.imul, 1) := by decide +kernel
theorem dX8_minds_66 : decode cX8_minds 66 = .ok (.iadd, 1) := by decide +kernel
theorem dX8_minds_67 : decode cX8_minds 67 = .ok (.invokevirtual 142, 3) := by decide +kernel
theorem dX8_minds_70 : decode cX8_minds 70 = .ok (.aload_n 0, 1) := by decide +kernel
theorem dX8_minds_71 : decode cX8_minds 71 = .ok (.dup, 1) := by decide +kernel
theorem dX8_minds_72 : decode cX8_minds 72 = .ok (.getfield 146, 3) := by decide +kernel
theorem dX8_minds_75 : decode cX8_minds 75 = .ok (.iconst 1, 1) := by decide +kernel
theorem dX8_minds_76 : decode cX8_minds 76 = .ok (.iadd, 1) := by decide +kernel
theorem dX8_minds_77 : decode cX8_minds 77 = .ok (.putfield 146, 3) := by decide +kernel
theorem dX8_minds_80 : decode cX8_minds 80 = .ok (.return_, 1) := by decide +kernel
theorem dX8_isNone_0 : decode cX8_isNone 0 = .ok (.aload_n 0, 1) := by decide +kernel
theorem dX8_isNone_1 : decode cX8_isNone 1 = .ok (.getfield 7, 3) := by decide +kernel
theorem dX8_isNone_4 : decode cX8_isNone 4 = .ok (.iconst 0, 1) := by decide +kernel
theorem dX8_isNone_5 : decode cX8_isNone 5 = .ok (.iaload, 1) := by decide +kernel
theorem dX8_isNone_6 : decode cX8_isNone 6 = .ok (.ifCond .ne 7, 3) := by decide +kernel
theorem dX8_isNone_9 : decode cX8_isNone 9 = .ok (.iconst 1, 1) := by decide +kernel
theorem dX8_isNone_10 : decode cX8_isNone 10 = .ok (.goto 4, 3) := by decide +kernel
theorem dX8_isNone_13 : decode cX8_isNone 13 = .ok (.iconst 0, 1) := by decide +kernel
theorem dX8_isNone_14 : decode cX8_isNone 14 = .ok (.ireturn, 1) := by decide +kernel
theorem dX8_isOne_0 : decode cX8_isOne 0 = .ok (.iload_n 1, 1) := by decide +kernel
theorem dX8_isOne_1 : decode cX8_isOne 1 = .ok (.i2l, 1) := by decide +kernel
theorem dX8_isOne_2 : decode cX8_isOne 2 = .ok (.lconst 0, 1) := by decide +kernel
theorem dX8_isOne_3 : decode cX8_isOne 3 = .ok (.aload_n 0, 1) := by decide +kernel
theorem dX8_isOne_4 : decode cX8_isOne 4 = .ok (.getfield 7, 3) := by decide +kernel
theorem dX8_isOne_7 : decode cX8_isOne 7 = .ok (.iconst 0, 1) := by decide +kernel
theorem dX8_isOne_8 : decode cX8_isOne 8 = .ok (.iaload, 1) := by decide +kernel
theorem dX8_isOne_9 : decode cX8_isOne 9 = .ok (.iconst 1, 1) := by decide +kernel
theorem dX8_isOne_10 : decode cX8_isOne 10 = .ok (.isub, 1) := by decide +kernel
theorem dX8_isOne_11 : decode cX8_isOne 11 = .ok (.i2l, 1) := by decide +kernel
theorem dX8_isOne_12 : decode cX8_isOne 12 = .ok (.invokestatic 37, 3) := by decide +kernel
theorem dX8_isOne_15 : decode cX8_isOne 15 = .ok (.ireturn, 1) := by decide +kernel
theorem dX8_minutes_0 : decode cX8_minutes 0 = .ok (.aload_n 0, 1) := by decide +kernel
theorem dX8_minutes_1 : decode cX8_minutes 1 = .ok (.invokevirtual 177, 3) := by decide +kernel
theorem dX8_minutes_4 : decode cX8_minutes 4 = .ok (.ifCond .eq 6, 3) := by decide +kernel
theorem dX8_minutes_7 : decode cX8_minutes 7 = .ok (.ldc 180, 2) := by decide +kernel
theorem dX8_minutes_9 : decode cX8_minutes 9 = .ok (.ireturn, 1) := by decide +kernel
theorem dX8_minutes_10 : decode cX8_minutes 10 = .ok (.iload_n 1, 1) := by decide +kernel
theorem dX8_minutes_11 : decode cX8_minutes 11 = .ok (.i2l, 1) := by decide +kernel
theorem dX8_minutes_12 : decode cX8_minutes 12 = .ok (.lconst 1, 1) := by decide +kernel
theorem dX8_minutes_13 : decode cX8_minutes 13 = .ok (.ldc2_w 181, 3) := by decide +kernel
theorem dX8_minutes_16 : decode cX8_minutes 16 = .ok (.invokestatic 37, 3) := by decide +kernel
theorem dX8_minutes_19 : decode cX8_minutes 19 = .ok (.ifCond .ne 6, 3) := by decide +kernel
theorem dX8_minutes_22 : decode cX8_minutes 22 = .ok (.ldc 52, 2) := by decide +kernel
theorem dX8_minutes_24 : decode cX8_minutes 24 = .ok (.ireturn, 1) := by decide +kernel
theorem dX8_minutes_25 : decode cX8_minutes 25 = .ok (.aload_n 0, 1) := by decide +kernel
theorem dX8_minutes_26 : decode cX8_minutes 26 = .ok (.getfield 7, 3) := by decide +kernel
theorem dX8_minutes_29 : decode cX8_minutes 29 = .ok (.iconst 2, 1) := by decide +kernel
theorem dX8_minutes_30 : decode cX8_minutes 30 = .ok (.iaload, 1) := by decide +kernel
theorem dX8_minutes_31 : decode cX8_minutes 31 = .ok (.iload_n 1, 1) := by decide +kernel
theorem dX8_minutes_32 : decode cX8_minutes 32 = .ok (.iadd, 1) := by decide +kernel
theorem dX8_minutes_33 : decode cX8_minutes 33 = .ok (.sipush 999, 3) := by decide +kernel
theorem dX8_minutes_36 : decode cX8_minutes 36 = .ok (.if_icmp .le 6, 3) := by decide +kernel
theorem dX8_minutes_39 : decode cX8_minutes 39 = .ok (.ldc 69, 2) := by decide +kernel
theorem dX8_minutes_41 : decode cX8_minutes 41 = .ok (.ireturn, 1) := by decide +kernel
theorem dX8_minutes_42 : decode cX8_minutes 42 = .ok (.iconst 0, 1) := by decide +kernel
