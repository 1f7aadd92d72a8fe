theorem dX6_in_0 : decode cX6_in 0 = .ok (.iload_n 0, 1) := by decide +kernel
theorem dX6_in_1 : decode cX6_in 1 = .ok (.iload_n 1, 1) := by decide +kernel
theorem dX6_in_2 : decode cX6_in 2 = .ok (.if_icmp .lt 12, 3) := by decide +kernel
theorem dX6_in_5 : decode cX6_in 5 = .ok (.iload_n 0, 1) := by decide +kernel
theorem dX6_in_6 : decode cX6_in 6 = .ok (.iload_n 2, 1) := by decide +kernel
theorem dX6_in_7 : decode cX6_in 7 = .ok (.if_icmp .gt 7, 3) := by decide +kernel
theorem dX6_in_10 : decode cX6_in 10 = .ok (.iconst 1, 1) := by decide +kernel
theorem dX6_in_11 : decode cX6_in 11 = .ok (.goto 4, 3) := by decide +kernel
theorem dX6_in_14 : decode cX6_in 14 = .ok (.iconst 0, 1) := by decide +kernel
theorem dX6_in_15 : decode cX6_in 15 = .ok (.ireturn, 1) := by decide +kernel
theorem dX6_isWriter_0 : decode cX6_isWriter 0 = .ok (.iload_n 1, 1) := by decide +kernel
theorem dX6_isWriter_1 : decode cX6_isWriter 1 = .ok (.ifCond .lt 15, 3) := by decide +kernel
theorem dX6_isWriter_4 : decode cX6_isWriter 4 = .ok (.iload_n 1, 1) := by decide +kernel
theorem dX6_isWriter_5 : decode cX6_isWriter 5 = .ok (.aload_n 0, 1) := by decide +kernel
theorem dX6_isWriter_6 : decode cX6_isWriter 6 = .ok (.getfield 76, 3) := by decide +kernel
theorem dX6_isWriter_9 : decode cX6_isWriter 9 = .ok (.if_icmp .ge 7, 3) := by decide +kernel
theorem dX6_isWriter_12 : decode cX6_isWriter 12 = .ok (.iconst 1, 1) := by decide +kernel
theorem dX6_isWriter_13 : decode cX6_isWriter 13 = .ok (.goto 4, 3) := by decide +kernel
theorem dX6_isWriter_16 : decode cX6_isWriter 16 = .ok (.iconst 0, 1) := by decide +kernel
theorem dX6_isWriter_17 : decode cX6_isWriter 17 = .ok (.ireturn, 1) := by decide +kernel
theorem dX6_writer_0 : decode cX6_writer 0 = .ok (.aload_n 0, 1) := by decide +kernel
theorem dX6_writer_1 : decode cX6_writer 1 = .ok (.iconst 0, 1) := by decide +kernel
theorem dX6_writer_2 : decode cX6_writer 2 = .ok (.putfield 73, 3) := by decide +kernel
theorem dX6_writer_5 : decode cX6_writer 5 = .ok (.aload_n 0, 1) := by decide +kernel
theorem dX6_writer_6 : decode cX6_writer 6 = .ok (.getfield 76, 3) := by decide +kernel
theorem dX6_writer_9 : decode cX6_writer 9 = .ok (.bipush 12, 2) := by decide +kernel
theorem dX6_writer_11 : decode cX6_writer 11 = .ok (.if_icmp .eq 12, 3) := by decide +kernel
theorem dX6_writer_14 : decode cX6_writer 14 = .ok (.iload_n 1, 1) := by decide +kernel
theorem dX6_writer_15 : decode cX6_writer 15 = .ok (.iconst 0, 1) := by decide +kernel
theorem dX6_writer_16 : decode cX6_writer 16 = .ok (.iconst 2, 1) := by decide +kernel
theorem dX6_writer_17 : decode cX6_writer 17 = .ok (.invokestatic 79, 3) := by decide +kernel
theorem dX6_writer_20 : decode cX6_writer 20 = .ok (.ifCond .ne 5, 3) := by decide +kernel
theorem dX6_writer_23 : decode cX6_writer 23 = .ok (.iconst (-1), 1) := by decide +kernel
theorem dX6_writer_24 : decode cX6_writer 24 = .ok (.ireturn, 1) := by decide +kernel
theorem dX6_writer_25 : decode cX6_writer 25 = .ok (.aload_n 0, 1) := by decide +kernel
theorem dX6_writer_26 : decode cX6_writer 26 = .ok (.getfield 7, 3) := by decide +kernel
theorem dX6_writer_29 : decode cX6_writer 29 = .ok (.aload_n 0, 1) := by decide +kernel
theorem dX6_writer_30 : decode cX6_writer 30 = .ok (.getfield 76, 3) := by decide +kernel
theorem dX6_writer_33 : decode cX6_writer 33 = .ok (.iload_n 1, 1) := by decide +kernel
theorem dX6_writer_34 : decode cX6_writer 34 = .ok (.iastore, 1) := by decide +kernel
theorem dX6_writer_35 : decode cX6_writer 35 = .ok (.aload_n 0, 1) := by decide +kernel
theorem dX6_writer_36 : decode cX6_writer 36 = .ok (.dup, 1) := by decide +kernel
theorem dX6_writer_37 : decode cX6_writer 37 = .ok (.getfield 76, 3) := by decide +kernel
theorem dX6_writer_40 : decode cX6_writer 40 = .ok (.iconst 1, 1) := by decide +kernel
theorem dX6_writer_41 : decode cX6_writer 41 = .ok (.iadd, 1) := by decide +kernel
theorem dX6_writer_42 : decode cX6_writer 42 = .ok (.putfield 76, 3) := by decide +kernel
theorem dX6_writer_45 : decode cX6_writer 45 = .ok (.aload_n 0, 1) := by decide +kernel
theorem dX6_writer_46 : decode cX6_writer 46 = .ok (.getfield 76, 3) := by decide +kernel
theorem dX6_writer_49 : decode cX6_writer 49 = .ok (.iconst 1, 1) := by decide +kernel
theorem dX6_writer_50 : decode cX6_writer 50 = .ok (.isub, 1) := by decide +kernel
theorem dX6_writer_51 : decode cX6_writer 51 = .ok (.ireturn, 1) := by decide +kernel
theorem dX6_key_0 : decode cX6_key 0 = .ok (.aload_n 0, 1) := by decide +kernel
theorem dX6_key_1 : decode cX6_key 1 = .ok (.iconst 0, 1) := by decide +kernel
theorem dX6_key_2 : decode cX6_key 2 = .ok (.putfield 73, 3) := by decide +kernel
theorem dX6_key_5 : decode cX6_key 5 = .ok (.aload_n 0, 1) := by decide +kernel
theorem dX6_key_6 : decode cX6_key 6 = .ok (.iload_n 1, 1) := by decide +kernel
theorem dX6_key_7 : decode cX6_key 7 = .ok (.invokevirtual 83, 3) := by decide +kernel
theorem dX6_key_10 : decode cX6_key 10 = .ok (.ifCond .eq 37, 3) := by decide +kernel
theorem dX6_key_13 : decode cX6_key 13 = .ok (.aload_n 0, 1) := by decide +kernel
theorem dX6_key_14 : decode cX6_key 14 = .ok (.getfield 13, 3) := by decide +kernel
theorem dX6_key_17 : decode cX6_key 17 = .ok (.iload_n 1, 1) := by decide +kernel
theorem dX6_key_18 : decode cX6_key 18 = .ok (.baload, 1) := by decide +kernel
theorem dX6_key_19 : decode cX6_key 19 = .ok (.ifCond .ne 28, 3) := by decide +kernel
theorem dX6_key_22 : decode cX6_key 22 = .ok (.aload_n 0, 1) := by decide +kernel
theorem dX6_key_23 : decode cX6_key 23 = .ok (.getfield 17, 3) := by decide +kernel
theorem dX6_key_26 : decode cX6_key 26 = .ok (.iload_n 1, 1) := by decide +kernel
theorem dX6_key_27 : decode cX6_key 27 = .ok (.iaload, 1) := by decide +kernel
theorem dX6_key_28 : decode cX6_key 28 = .ok (.iconst 4, 1) := by decide +kernel
theorem dX6_key_29 : decode cX6_key 29 = .ok (.if_icmp .eq 18, 3) := by decide +kernel
theorem dX6_key_32 : decode cX6_key 32 = .ok (.lload 4, 2) := by decide +kernel
theorem dX6_key_34 : decode cX6_key 34 = .ok (.lconst 0, 1) := by decide +kernel
theorem dX6_key_35 : decode cX6_key 35 = .ok (.lcmp, 1) := by decide +kernel
theorem dX6_key_36 : decode cX6_key 36 = .ok (.ifCond .lt 11, 3) := by decide +kernel
theorem dX6_key_39 : decode cX6_key 39 = .ok (.lload 6, 2) := by decide +kernel
theorem dX6_key_41 : decode cX6_key 41 = .ok (.lload 4, 2) := by decide +kernel
theorem dX6_key_43 : decode cX6_key 43 = .ok (.lcmp, 1) := by decide +kernel
theorem dX6_key_44 : decode cX6_key 44 = .ok (.ifCond .gt 5, 3) := by decide +kernel
theorem dX6_key_47 : decode cX6_key 47 = .ok (.iconst (-1), 1) := by decide +kernel
theorem dX6_key_48 : decode cX6_key 48 = .ok (.ireturn, 1) := by decide +kernel
theorem dX6_key_49 : decode cX6_key 49 = .ok (.iconst 4, 1) := by decide +kernel
theorem dX6_key_50 : decode cX6_key 50 = .ok (.iload_n 1, 1) := by decide +kernel
theorem dX6_key_51 : decode cX6_key 51 = .ok (.imul, 1) := by decide +kernel
theorem dX6_key_52 : decode cX6_key 52 = .ok (.aload_n 0, 1) := by decide +kernel
theorem dX6_key_53 : decode cX6_key 53 = .ok (.getfield 17, 3) := by decide +kernel
theorem dX6_key_56 : decode cX6_key 56 = .ok (.iload_n 1, 1) := by decide +kernel
theorem dX6_key_57 : decode cX6_key 57 = .ok (.iaload, 1) := by decide +kernel
theorem dX6_key_58 : decode cX6_key 58 = .ok (.iadd, 1) := by decide +kernel
theorem dX6_key_59 : decode cX6_key 59 = .ok (.istore 8, 2) := by decide +kernel
theorem dX6_key_61 : decode cX6_key 61 = .ok (.aload_n 0, 1) := by decide +kernel
theorem dX6_key_62 : decode cX6_key 62 = .ok (.getfield 20, 3) := by decide +kernel
theorem dX6_key_65 : decode cX6_key 65 = .ok (.iload 8, 2) := by decide +kernel
theorem dX6_key_67 : decode cX6_key 67 = .ok (.lload_n 2, 1) := by decide +kernel
theorem dX6_key_68 : decode cX6_key 68 = .ok (.lastore, 1) := by decide +kernel
theorem dX6_key_69 : decode cX6_key 69 = .ok (.aload_n 0, 1) := by decide +kernel
theorem dX6_key_70 : decode cX6_key 70 = .ok (.getfield 24, 3) := by decide +kernel
theorem dX6_key_73 : decode cX6_key 73 = .ok (.iload 8, 2) := by decide +kernel
theorem dX6_key_75 : decode cX6_key 75 = .ok (.lload 4, 2) := by decide +kernel
theorem dX6_key_77 : decode cX6_key 77 = .ok (.lastore, 1) := by decide +kernel
theorem dX6_key_78 : decode cX6_key 78 = .ok (.aload_n 0, 1) := by decide +kernel
theorem dX6_key_79 : decode cX6_key 79 = .ok (.getfield 27, 3) := by decide +kernel
theorem dX6_key_82 : decode cX6_key 82 = .ok (.iload 8, 2) := by decide +kernel
theorem dX6_key_84 : decode cX6_key 84 = .ok (.lload 6, 2) := by decide +kernel
theorem dX6_key_86 : decode cX6_key 86 = .ok (.lastore, 1) := by decide +kernel
theorem dX6_key_87 : decode cX6_key 87 = .ok (.aload_n 0, 1) := by decide +kernel
theorem dX6_key_88 : decode cX6_key 88 = .ok (.getfield 17, 3) := by decide +kernel
theorem dX6_key_91 : decode cX6_key 91 = .ok (.iload_n 1, 1) := by decide +kernel
theorem dX6_key_92 : decode cX6_key 92 = .ok (.dup2, 1) := by decide +kernel
theorem dX6_key_93 : decode cX6_key 93 = .ok (.iaload, 1) := by decide +kernel
theorem dX6_key_94 : decode cX6_key 94 = .ok (.iconst 1, 1) := by decide +kernel
theorem dX6_key_95 : decode cX6_key 95 = .ok (.iadd, 1) := by decide +kernel
theorem dX6_key_96 : decode cX6_key 96 = .ok (.iastore, 1) := by decide +kernel
theorem dX6_key_97 : decode cX6_key 97 = .ok (.aload_n 0, 1) := by decide +kernel
theorem dX6_key_98 : decode cX6_key 98 = .ok (.getfield 17, 3) := by decide +kernel
theorem dX6_key_101 : decode cX6_key 101 = .ok (.iload_n 1, 1) := by decide +kernel
theorem dX6_key_102 : decode cX6_key 102 = .ok (.iaload, 1) := by decide +kernel
theorem dX6_key_103 : decode cX6_key 103 = .ok (.iconst 1, 1) := by decide +kernel
theorem dX6_key_104 : decode cX6_key 104 = .ok (.isub, 1) := by decide +kernel
theorem dX6_key_105 : decode cX6_key 105 = .ok (.ireturn, 1) := by decide +kernel
theorem dX6_turned_0 : decode cX6_turned 0 = .ok (.lload_n 0, 1) := by decide +kernel
theorem dX6_turned_1 : decode cX6_turned 1 = .ok (.iload_n 2, 1) := by decide +kernel
theorem dX6_turned_2 : decode cX6_turned 2 = .ok (.i2l, 1) := by decide +kernel
theorem dX6_turned_3 : decode cX6_turned 3 = .ok (.lxor, 1) := by decide +kernel
theorem dX6_turned_4 : decode cX6_turned 4 = .ok (.lstore_n 3, 1) := by decide +kernel
theorem dX6_turned_5 : decode cX6_turned 5 = .ok (.lload_n 3, 1) := by decide +kernel
theorem dX6_turned_6 : decode cX6_turned 6 = .ok (.bipush 11, 2) := by decide +kernel
theorem dX6_turned_8 : decode cX6_turned 8 = .ok (.lshl, 1) := by decide +kernel
theorem dX6_turned_9 : decode cX6_turned 9 = .ok (.lload_n 3, 1) := by decide +kernel
theorem dX6_turned_10 : decode cX6_turned 10 = .ok (.bipush 53, 2) := by decide +kernel
theorem dX6_turned_12 : decode cX6_turned 12 = .ok (.lushr, 1) := by decide +kernel
theorem dX6_turned_13 : decode cX6_turned 13 = .ok (.lor, 1) := by decide +kernel
theorem dX6_turned_14 : decode cX6_turned 14 = .ok (.ldc2_w 87, 3) := by decide +kernel
theorem dX6_turned_17 : decode cX6_turned 17 = .ok (.lmul, 1) := by decide +kernel
theorem dX6_turned_18 : decode cX6_turned 18 = .ok (.lreturn, 1) := by decide +kernel
theorem dX6_sumOf_0 : decode cX6_sumOf 0 = .ok (.lload_n 0, 1) := by decide +kernel
theorem dX6_sumOf_1 : decode cX6_sumOf 1 = .ok (.lstore 6, 2) := by decide +kernel
theorem dX6_sumOf_3 : decode cX6_sumOf 3 = .ok (.bipush 56, 2) := by decide +kernel
theorem dX6_sumOf_5 : decode cX6_sumOf 5 = .ok (.istore 8, 2) := by decide +kernel
theorem dX6_sumOf_7 : decode cX6_sumOf 7 = .ok (.iload 8, 2) := by decide +kernel
theorem dX6_sumOf_9 : decode cX6_sumOf 9 = .ok (.ifCond .lt 25, 3) := by decide +kernel
theorem dX6_sumOf_12 : decode cX6_sumOf 12 = .ok (.lload 6, 2) := by decide +kernel
theorem dX6_sumOf_14 : decode cX6_sumOf 14 = .ok (.lload_n 2, 1) := by decide +kernel
theorem dX6_sumOf_15 : decode cX6_sumOf 15 = .ok (.iload 8, 2) := by decide +kernel
theorem dX6_sumOf_17 : decode cX6_sumOf 17 = .ok (.lushr, 1) := by decide +kernel
theorem dX6_sumOf_18 : decode cX6_sumOf 18 = .ok (.ldc2_w 89, 3) := by decide +kernel
theorem dX6_sumOf_21 : decode cX6_sumOf 21 = .ok (.land, 1) := by decide +kernel
theorem dX6_sumOf_22 : decode cX6_sumOf 22 = .ok (.l2i, 1) := by decide +kernel
theorem dX6_sumOf_23 : decode cX6_sumOf 23 = .ok (.invokestatic 91, 3) := by decide +kernel
theorem dX6_sumOf_26 : decode cX6_sumOf 26 = .ok (.lstore 6, 2) := by decide +kernel
theorem dX6_sumOf_28 : decode cX6_sumOf 28 = .ok (.iinc 8 (-8), 3) := by decide +kernel
theorem dX6_sumOf_31 : decode cX6_sumOf 31 = .ok (.goto (-24), 3) := by decide +kernel
theorem dX6_sumOf_34 : decode cX6_sumOf 34 = .ok (.bipush 56, 2) := by decide +kernel
theorem dX6_sumOf_36 : decode cX6_sumOf 36 = .ok (.istore 8, 2) := by decide +kernel
theorem dX6_sumOf_38 : decode cX6_sumOf 38 = .ok (.iload 8, 2) := by decide +kernel
theorem dX6_sumOf_40 : decode cX6_sumOf 40 = .ok (.ifCond .lt 26, 3) := by decide +kernel
theorem dX6_sumOf_43 : decode cX6_sumOf 43 = .ok (.lload 6, 2) := by decide +kernel
theorem dX6_sumOf_45 : decode cX6_sumOf 45 = .ok (.lload 4, 2) := by decide +kernel
theorem dX6_sumOf_47 : decode cX6_sumOf 47 = .ok (.iload 8, 2) := by decide +kernel
theorem dX6_sumOf_49 : decode cX6_sumOf 49 = .ok (.lushr, 1) := by decide +kernel
theorem dX6_sumOf_50 : decode cX6_sumOf 50 = .ok (.ldc2_w 89, 3) := by decide +kernel
theorem dX6_sumOf_53 : decode cX6_sumOf 53 = .ok (.land, 1) := by decide +kernel
theorem dX6_sumOf_54 : decode cX6_sumOf 54 = .ok (.l2i, 1) := by decide +kernel
theorem dX6_sumOf_55 : decode cX6_sumOf 55 = .ok (.invokestatic 91, 3) := by decide +kernel
theorem dX6_sumOf_58 : decode cX6_sumOf 58 = .ok (.lstore 6, 2) := by decide +kernel
theorem dX6_sumOf_60 : decode cX6_sumOf 60 = .ok (.iinc 8 (-8), 3) := by decide +kernel
theorem dX6_sumOf_63 : decode cX6_sumOf 63 = .ok (.goto (-25), 3) := by decide +kernel
theorem dX6_sumOf_66 : decode cX6_sumOf 66 = .ok (.lload 6, 2) := by decide +kernel
theorem dX6_sumOf_68 : decode cX6_sumOf 68 = .ok (.lreturn, 1) := by decide +kernel
theorem dX6_sum_0 : decode cX6_sum 0 = .ok (.aload_n 0, 1) := by decide +kernel
theorem dX6_sum_1 : decode cX6_sum 1 = .ok (.iconst 0, 1) := by decide +kernel
theorem dX6_sum_2 : decode cX6_sum 2 = .ok (.putfield 73, 3) := by decide +kernel
theorem dX6_sum_5 : decode cX6_sum 5 = .ok (.lload_n 1, 1) := by decide +kernel
theorem dX6_sum_6 : decode cX6_sum 6 = .ok (.lload_n 3, 1) := by decide +kernel
theorem dX6_sum_7 : decode cX6_sum 7 = .ok (.lload 5, 2) := by decide +kernel
theorem dX6_sum_9 : decode cX6_sum 9 = .ok (.invokestatic 95, 3) := by decide +kernel
theorem dX6_sum_12 : decode cX6_sum 12 = .ok (.lreturn, 1) := by decide +kernel
theorem dX6_fits_0 : decode cX6_fits 0 = .ok (.iconst 0, 1) := by decide +kernel
theorem dX6_fits_1 : decode cX6_fits 1 = .ok (.istore 10, 2) := by decide +kernel
theorem dX6_fits_3 : decode cX6_fits 3 = .ok (.iconst 4, 1) := by decide +kernel
theorem dX6_fits_4 : decode cX6_fits 4 = .ok (.iload_n 1, 1) := by decide +kernel
theorem dX6_fits_5 : decode cX6_fits 5 = .ok (.imul, 1) := by decide +kernel
theorem dX6_fits_6 : decode cX6_fits 6 = .ok (.istore 11, 2) := by decide +kernel
theorem dX6_fits_8 : decode cX6_fits 8 = .ok (.iload 11, 2) := by decide +kernel
theorem dX6_fits_10 : decode cX6_fits 10 = .ok (.iconst 4, 1) := by decide +kernel
theorem dX6_fits_11 : decode cX6_fits 11 = .ok (.iload_n 1, 1) := by decide +kernel
theorem dX6_fits_12 : decode cX6_fits 12 = .ok (.imul, 1) := by decide +kernel
theorem dX6_fits_13 : decode cX6_fits 13 = .ok (.aload_n 0, 1) := by decide +kernel
theorem dX6_fits_14 : decode cX6_fits 14 = .ok (.getfield 17, 3) := by decide +kernel
theorem dX6_fits_17 : decode cX6_fits 17 = .ok (.iload_n 1, 1) := by decide +kernel
theorem dX6_fits_18 : decode cX6_fits 18 = .ok (.iaload, 1) := by decide +kernel
theorem dX6_fits_19 : decode cX6_fits 19 = .ok (.iadd, 1) := by decide +kernel
theorem dX6_fits_20 : decode cX6_fits 20 = .ok (.if_icmp .ge 78, 3) := by decide +kernel
theorem dX6_fits_23 : decode cX6_fits 23 = .ok (.aload_n 0, 1) := by decide +kernel
theorem dX6_fits_24 : decode cX6_fits 24 = .ok (.getfield 24, 3) := by decide +kernel
theorem dX6_fits_27 : decode cX6_fits 27 = .ok (.iload 11, 2) := by decide +kernel
theorem dX6_fits_29 : decode cX6_fits 29 = .ok (.laload, 1) := by decide +kernel
theorem dX6_fits_30 : decode cX6_fits 30 = .ok (.lload 8, 2) := by decide +kernel
theorem dX6_fits_32 : decode cX6_fits 32 = .ok (.lcmp, 1) := by decide +kernel
theorem dX6_fits_33 : decode cX6_fits 33 = .ok (.ifCond .gt 20, 3) := by decide +kernel
theorem dX6_fits_36 : decode cX6_fits 36 = .ok (.lload 8, 2) := by decide +kernel
theorem dX6_fits_38 : decode cX6_fits 38 = .ok (.aload_n 0, 1) := by decide +kernel
theorem dX6_fits_39 : decode cX6_fits 39 = .ok (.getfield 27, 3) := by decide +kernel
theorem dX6_fits_42 : decode cX6_fits 42 = .ok (.iload 11, 2) := by decide +kernel
theorem dX6_fits_44 : decode cX6_fits 44 = .ok (.laload, 1) := by decide +kernel
theorem dX6_fits_45 : decode cX6_fits 45 = .ok (.lcmp, 1) := by decide +kernel
theorem dX6_fits_46 : decode cX6_fits 46 = .ok (.ifCond .ge 7, 3) := by decide +kernel
theorem dX6_fits_49 : decode cX6_fits 49 = .ok (.iconst 1, 1) := by decide +kernel
theorem dX6_fits_50 : decode cX6_fits 50 = .ok (.goto 4, 3) := by decide +kernel
theorem dX6_fits_53 : decode cX6_fits 53 = .ok (.iconst 0, 1) := by decide +kernel
theorem dX6_fits_54 : decode cX6_fits 54 = .ok (.istore 12, 2) := by decide +kernel
theorem dX6_fits_56 : decode cX6_fits 56 = .ok (.iload 10, 2) := by decide +kernel
theorem dX6_fits_58 : decode cX6_fits 58 = .ok (.ifCond .ne 27, 3) := by decide +kernel
theorem dX6_fits_61 : decode cX6_fits 61 = .ok (.iload 12, 2) := by decide +kernel
theorem dX6_fits_63 : decode cX6_fits 63 = .ok (.ifCond .eq 26, 3) := by decide +kernel
theorem dX6_fits_66 : decode cX6_fits 66 = .ok (.aload_n 0, 1) := by decide +kernel
theorem dX6_fits_67 : decode cX6_fits 67 = .ok (.getfield 20, 3) := by decide +kernel
theorem dX6_fits_70 : decode cX6_fits 70 = .ok (.iload 11, 2) := by decide +kernel
theorem dX6_fits_72 : decode cX6_fits 72 = .ok (.laload, 1) := by decide +kernel
theorem dX6_fits_73 : decode cX6_fits 73 = .ok (.lload_n 2, 1) := by decide +kernel
theorem dX6_fits_74 : decode cX6_fits 74 = .ok (.lload 4, 2) := by decide +kernel
theorem dX6_fits_76 : decode cX6_fits 76 = .ok (.invokestatic 95, 3) := by decide +kernel
theorem dX6_fits_79 : decode cX6_fits 79 = .ok (.lload 6, 2) := by decide +kernel
theorem dX6_fits_81 : decode cX6_fits 81 = .ok (.lcmp, 1) := by decide +kernel
theorem dX6_fits_82 : decode cX6_fits 82 = .ok (.ifCond .ne 7, 3) := by decide +kernel
theorem dX6_fits_85 : decode cX6_fits 85 = .ok (.iconst 1, 1) := by decide +kernel
theorem dX6_fits_86 : decode cX6_fits 86 = .ok (.goto 4, 3) := by decide +kernel
theorem dX6_fits_89 : decode cX6_fits 89 = .ok (.iconst 0, 1) := by decide +kernel
theorem dX6_fits_90 : decode cX6_fits 90 = .ok (.istore 10, 2) := by decide +kernel
theorem dX6_fits_92 : decode cX6_fits 92 = .ok (.iinc 11 1, 3) := by decide +kernel
theorem dX6_fits_95 : decode cX6_fits 95 = .ok (.goto (-87), 3) := by decide +kernel
theorem dX6_fits_98 : decode cX6_fits 98 = .ok (.iload 10, 2) := by decide +kernel
theorem dX6_fits_100 : decode cX6_fits 100 = .ok (.ireturn, 1) := by decide +kernel
def p_M_in (x : Int32) (lo : Int32) (hi : Int32) : Int32 → Unit → Prop := fun r u => xb r (¬ x < lo ∧ ¬ hi < x)
set_option maxHeartbeats 4000000 in
set_option maxRecDepth 100000 in
theorem c_M_in (l : Launch) (D : va_G) (k : Nat → ClassId) (x : Int32) (lo : Int32) (hi : Int32) : xx_Ci l yX6_in (.code yX6_in cX6_in 3 (some .boolean) :: xall) ({ frames := 0, cells := 0, slots := 0, locals := 0 } : Room) D vwCl (xT k) [.int x, .int lo, .int hi] ([]) (p_M_in x lo hi) (fun (u : Unit) => []) 0 0 := by
  intro sz
  refine xx_met (Qf := fun A => va_Qi (p_M_in x lo hi) (xx_B D vwCl (xT k) A (fun (u : Unit) => [])) A) (cc := cX6_in) (maxL := 3) (ret := (some .boolean)) (by decide) rfl (Nat.le_of_ble_eq_true rfl) ?_
  intro p e s m below meth c A ls hx hb hr hts hown hlocks hin hml hA hS hP hD hK hN hl
  have hl : lv_has ls 3 [(0, .int x), (1, .int lo), (2, .int hi)] := hl
  have hown : s.vm.findClass RX6 = some m.cls := hown
  refine lv_iload_n hx hb dX6_in_0 rfl (lv_at hl 0 rfl) ?_
  refine lv_iload_n hx hb dX6_in_1 rfl (lv_at hl 1 rfl) ?_
  refine lv_icmp_lt (tgt := 14) hx hb dX6_in_2 (by decide) (fun c2 => ?_) (fun c2 => ?_)
  · refine lv_iconst (v := (nI 0)) hx hb dX6_in_14 (by decide) ?_
    refine xx_zret () hx hb hr hlocks rfl hS hK hP hD dX6_in_15 ?_
    first | exact xb_f (fun h => h.1 c2) | exact xb_f (fun h => h.2 c7) | exact xb_t ⟨c2, c7⟩
  · refine lv_iload_n hx hb dX6_in_5 rfl (lv_at hl 0 rfl) ?_
    refine lv_iload_n hx hb dX6_in_6 rfl (lv_at hl 2 rfl) ?_
    refine lv_icmp_gt (tgt := 14) hx hb dX6_in_7 (by decide) (fun c7 => ?_) (fun c7 => ?_)
    · refine lv_iconst (v := (nI 0)) hx hb dX6_in_14 (by decide) ?_
      refine xx_zret () hx hb hr hlocks rfl hS hK hP hD dX6_in_15 ?_
      first | exact xb_f (fun h => h.1 c2) | exact xb_f (fun h => h.2 c7) | exact xb_t ⟨c2, c7⟩
    · refine lv_iconst (v := (nI 1)) hx hb dX6_in_10 (by decide) ?_
      refine lv_goto (tgt := 15) hx hb dX6_in_11 (by decide) ?_
      refine xx_zret () hx hb hr hlocks rfl hS hK hP hD dX6_in_15 ?_
      first | exact xb_f (fun h => h.1 c2) | exact xb_f (fun h => h.2 c7) | exact xb_t ⟨c2, c7⟩
def p_M_isW (om : Nat → Nat) (mth : Int32) (tq : Int32) (to : Bool) (wc : Nat) (wl : Nat → Int32) (wb : Nat → Bool) (wk : Nat → Nat) (kk : Nat → Int64) (kf : Nat → Int64) (ku : Nat → Int64) (ec : Nat) (ew : Nat → Nat) (ea : Nat → Int64) (ed : Nat → Int64) (et : Nat → Int64) (ex : Nat → Bool) (cc : Nat) (ca : Nat → Int64) (cl : Nat → Int32) (ch : Nat → Int32) (uc : Nat) (ut : Nat → Int32) (ub : Nat → Int32) (ul : Nat → Int32) (uw : Nat → Int32) (tt : Int64) (ac : Nat) (as : Nat → Int32) (x : Int32) : Int32 → Unit → Prop := fun r u => xb r (ixN wc x)
set_option maxHeartbeats 4000000 in
set_option maxRecDepth 100000 in
theorem c_M_isW (l : Launch) (D : va_G) (k : Nat → ClassId) (om : Nat → Nat) (mth : Int32) (tq : Int32) (to : Bool) (wc : Nat) (wl : Nat → Int32) (wb : Nat → Bool) (wk : Nat → Nat) (kk : Nat → Int64) (kf : Nat → Int64) (ku : Nat → Int64) (ec : Nat) (ew : Nat → Nat) (ea : Nat → Int64) (ed : Nat → Int64) (et : Nat → Int64) (ex : Nat → Bool) (cc : Nat) (ca : Nat → Int64) (cl : Nat → Int32) (ch : Nat → Int32) (uc : Nat) (ut : Nat → Int32) (ub : Nat → Int32) (ul : Nat → Int32) (uw : Nat → Int32) (tt : Int64) (ac : Nat) (as : Nat → Int32) (x : Int32) (hwc : wc ≤ 12) : xx_Ci l yX6_isWriter (.code yX6_isWriter cX6_isWriter 2 (some .boolean) :: xall) ({ frames := 0, cells := 0, slots := 0, locals := 0 } : Room) D vwCl (xT k) [.ref (om 0), .int x] (bM k om mth tq to wc wl wb wk kk kf ku ec ew ea ed et ex cc ca cl ch uc ut ub ul uw tt ac as) (p_M_isW om mth tq to wc wl wb wk kk kf ku ec ew ea ed et ex cc ca cl ch uc ut ub ul uw tt ac as x) (fun (u : Unit) => bM k om mth tq to wc wl wb wk kk kf ku ec ew ea ed et ex cc ca cl ch uc ut ub ul uw tt ac as) 0 0 := by
  intro sz
  refine xx_met (Qf := fun A => va_Qi (p_M_isW om mth tq to wc wl wb wk kk kf ku ec ew ea ed et ex cc ca cl ch uc ut ub ul uw tt ac as x) (xx_B D vwCl (xT k) A (fun (u : Unit) => bM k om mth tq to wc wl wb wk kk kf ku ec ew ea ed et ex cc ca cl ch uc ut ub ul uw tt ac as)) A) (cc := cX6_isWriter) (maxL := 2) (ret := (some .boolean)) (by decide) rfl (Nat.le_of_ble_eq_true rfl) ?_
  intro p e s m below meth c A ls hx hb hr hts hown hlocks hin hml hA hS hP hD hK hN hl
  have hl : lv_has ls 2 [(0, .ref (om 0)), (1, .int x)] := hl
  have hown : s.vm.findClass RX6 = some m.cls := hown
  have hinW := inX6
  refine lv_iload_n hx hb dX6_isWriter_0 rfl (lv_at hl 1 rfl) ?_
  refine lv_if_lt (tgt := 16) hx hb dX6_isWriter_1 (by decide) (fun c1 => ?_) (fun c1 => ?_)
  · refine lv_iconst (v := (nI 0)) hx hb dX6_isWriter_16 (by decide) ?_
    refine xx_zret () hx hb hr hlocks rfl hS hK hP hD dX6_isWriter_17 ?_
    first | exact xb_f (xx_nix (by omega) (Or.inl c1)) | exact xb_f (xx_nix (by omega) (Or.inr c9)) | exact xb_t (xx_ix (by omega) c1 c9)
  · refine lv_iload_n hx hb dX6_isWriter_4 rfl (lv_at hl 1 rfl) ?_
    refine lv_aload_n hx hb dX6_isWriter_5 rfl (lv_at hl 0 rfl) ?_
    refine va_get (D := D) (ci := 6) (v := .int (nI wc)) (C := RX6) (T := TX6) (N := 28) hx hb hts hinW hown hK hP 0 rfl rfl 3 (by decide) (hts _ tw_379) (fun _ h9 => h9) rfl dX6_isWriter_6 ?_
    refine lv_icmp_ge (tgt := 16) hx hb dX6_isWriter_9 (by decide) (fun c9 => ?_) (fun c9 => ?_)
    · refine lv_iconst (v := (nI 0)) hx hb dX6_isWriter_16 (by decide) ?_
      refine xx_zret () hx hb hr hlocks rfl hS hK hP hD dX6_isWriter_17 ?_
      first | exact xb_f (xx_nix (by omega) (Or.inl c1)) | exact xb_f (xx_nix (by omega) (Or.inr c9)) | exact xb_t (xx_ix (by omega) c1 c9)
    · refine lv_iconst (v := (nI 1)) hx hb dX6_isWriter_12 (by decide) ?_
      refine lv_goto (tgt := 17) hx hb dX6_isWriter_13 (by decide) ?_
      refine xx_zret () hx hb hr hlocks rfl hS hK hP hD dX6_isWriter_17 ?_
      first | exact xb_f (xx_nix (by omega) (Or.inl c1)) | exact xb_f (xx_nix (by omega) (Or.inr c9)) | exact xb_t (xx_ix (by omega) c1 c9)
def p_M_writer (om : Nat → Nat) (mth : Int32) (tq : Int32) (to : Bool) (wc : Nat) (wl : Nat → Int32) (wb : Nat → Bool) (wk : Nat → Nat) (kk : Nat → Int64) (kf : Nat → Int64) (ku : Nat → Int64) (ec : Nat) (ew : Nat → Nat) (ea : Nat → Int64) (ed : Nat → Int64) (et : Nat → Int64) (ex : Nat → Bool) (cc : Nat) (ca : Nat → Int64) (cl : Nat → Int32) (ch : Nat → Int32) (uc : Nat) (ut : Nat → Int32) (ub : Nat → Int32) (ul : Nat → Int32) (uw : Nat → Int32) (tt : Int64) (ac : Nat) (as : Nat → Int32) (x : Int32) : Int32 → (Nat × (Nat → Int32)) → Prop := fun r u => (r = (-1) ∧ ¬ (wc < 12 ∧ ixN 3 x) ∧ u = (wc, wl)) ∨ (r = nI wc ∧ (wc < 12 ∧ ixN 3 x) ∧ u = (wc + 1, upd wl wc x))
set_option maxHeartbeats 4000000 in
set_option maxRecDepth 100000 in
theorem c_M_writer (l : Launch) (D : va_G) (k : Nat → ClassId) (om : Nat → Nat) (mth : Int32) (tq : Int32) (to : Bool) (wc : Nat) (wl : Nat → Int32) (wb : Nat → Bool) (wk : Nat → Nat) (kk : Nat → Int64) (kf : Nat → Int64) (ku : Nat → Int64) (ec : Nat) (ew : Nat → Nat) (ea : Nat → Int64) (ed : Nat → Int64) (et : Nat → Int64) (ex : Nat → Bool) (cc : Nat) (ca : Nat → Int64) (cl : Nat → Int32) (ch : Nat → Int32) (uc : Nat) (ut : Nat → Int32) (ub : Nat → Int32) (ul : Nat → Int32) (uw : Nat → Int32) (tt : Int64) (ac : Nat) (as : Nat → Int32) (x : Int32) (hwc : wc ≤ 12) : xx_Ci l yX6_writer (.code yX6_writer cX6_writer 2 (some .int) :: xall) ({ frames := 1, cells := 0, slots := 0, locals := 22 } : Room) D vwCl (xT k) [.ref (om 0), .int x] (bM k om mth tq to wc wl wb wk kk kf ku ec ew ea ed et ex cc ca cl ch uc ut ub ul uw tt ac as) (p_M_writer om mth tq to wc wl wb wk kk kf ku ec ew ea ed et ex cc ca cl ch uc ut ub ul uw tt ac as x) (fun (u : Nat × (Nat → Int32)) => bM k om (nI 0) tq to u.1 u.2 wb wk kk kf ku ec ew ea ed et ex cc ca cl ch uc ut ub ul uw tt ac as) 0 0 := by
  intro sz
  refine xx_met (Qf := fun A => va_Qi (p_M_writer om mth tq to wc wl wb wk kk kf ku ec ew ea ed et ex cc ca cl ch uc ut ub ul uw tt ac as x) (xx_B D vwCl (xT k) A (fun (u : Nat × (Nat → Int32)) => bM k om (nI 0) tq to u.1 u.2 wb wk kk kf ku ec ew ea ed et ex cc ca cl ch uc ut ub ul uw tt ac as)) A) (cc := cX6_writer) (maxL := 2) (ret := (some .int)) (by decide) rfl (Nat.le_of_ble_eq_true rfl) ?_
  intro p e s m below meth c A ls hx hb hr hts hown hlocks hin hml hA hS hP hD hK hN hl
  have hl : lv_has ls 2 [(0, .ref (om 0)), (1, .int x)] := hl
  have hown : s.vm.findClass RX6 = some m.cls := hown
  have hinW := inX6
  refine lv_aload_n hx hb dX6_writer_0 rfl (lv_at hl 0 rfl) ?_
  refine lv_iconst (v := (nI 0)) hx hb dX6_writer_1 (by decide) ?_
  refine va_put (D := D) (ci := 6) (v := .int (nI 0)) (ty := .int) (C := RX6) (T := TX6) (N := 28) hx hb hts hinW tyX6 tyX6_ok nmX6 hown hK hP hD hS 0 rfl rfl 0 (by decide) (hts _ tw_376) (fun _ h9 => h9) rfl (by decide +kernel) rfl rfl (Nat.le_of_ble_eq_true rfl) dX6_writer_2 (fun H locs hP hD hS => ?_)
  have hP : va_P D vwCl (bM k om (nI 0) tq to wc wl wb wk kk kf ku ec ew ea ed et ex cc ca cl ch uc ut ub ul uw tt ac as) H := hP
  have hD : va_D A (bM k om (nI 0) tq to wc wl wb wk kk kf ku ec ew ea ed et ex cc ca cl ch uc ut ub ul uw tt ac as) := hD
  refine lv_aload_n hx hb dX6_writer_5 rfl (lv_at hl 0 rfl) ?_
  refine va_get (D := D) (ci := 6) (v := .int (nI wc)) (C := RX6) (T := TX6) (N := 28) hx hb hts hinW hown hK hP 0 rfl rfl 3 (by decide) (hts _ tw_379) (fun _ h9 => h9) rfl dX6_writer_6 ?_
  refine lv_bipush (v := (nI 12)) hx hb dX6_writer_9 (by decide) ?_
  refine lv_icmp_eq (tgt := 23) hx hb dX6_writer_11 (by decide) (fun c11 => ?_) (fun c11 => ?_)
  · have c11 : wc = 12 := (nI_eq (by omega) (by omega)).mp c11
    refine lv_iconst (v := (-1)) hx hb dX6_writer_23 (by decide) ?_
    refine xx_iret (wc, wl) hx hb hr hlocks hS hK hP hD dX6_writer_24 ?_
    first | exact Or.inl ⟨rfl, fun h => absurd h.1 (by omega), rfl⟩ | exact Or.inl ⟨rfl, fun h => hq17 ((xx_inN (by decide)).mpr h.2), rfl⟩
  · have c11 : ¬ wc = 12 := fun h => c11 ((nI_eq (by omega) (by omega)).mpr h)
    refine lv_iload_n hx hb dX6_writer_14 rfl (lv_at hl 1 rfl) ?_
    refine lv_iconst (v := (nI 0)) hx hb dX6_writer_15 (by decide) ?_
    refine lv_iconst (v := (nI 2)) hx hb dX6_writer_16 (by decide) ?_
    refine xx_calli (bM k om (nI 0) tq to wc wl wb wk kk kf ku ec ew ea ed et ex cc ca cl ch uc ut ub ul uw tt ac as) [] [0, 1, 2, 3, 4, 5, 6, 7, 8, 9, 10, 11, 12, 13, 14, 15, 16, 17, 18, 19] (va_runS (As := [.int x, .int (nI 0), .int (nI 2)]) (rest := []) ⟨hx, hb, hml, hown, hts⟩ (c_M_in l D k x (nI 0) (nI 2) H.size) (va_cwS 3 hts (xx_gS tw_465 tw_466 tw_8 tw_467) rfl rfl rfl (by decide +kernel) ⟨Nat.le_of_ble_eq_true rfl, Nat.le_of_ble_eq_true rfl⟩) (xx_preS hK hN hP hD [] (by decide) rfl) rfl rfl hl.1 rfl (lv_room (Nat.le_of_ble_eq_true rfl)) dX6_writer_17 ⟨Nat.le_of_ble_eq_true rfl, Nat.le_of_ble_eq_true rfl⟩) hP hD hS hA rfl rfl (by decide) (by decide) (fun r17 u17 H locs hw17 hP hD hS => ?_)
    rcases hw17 with ⟨rfl, hq17⟩ | ⟨rfl, hq17⟩
    · have hP : va_P D vwCl (bM k om (nI 0) tq to wc wl wb wk kk kf ku ec ew ea ed et ex cc ca cl ch uc ut ub ul uw tt ac as) H := hP
      have hD : va_D A (bM k om (nI 0) tq to wc wl wb wk kk kf ku ec ew ea ed et ex cc ca cl ch uc ut ub ul uw tt ac as) := hD
      refine lv_if_ne (tgt := 25) hx hb dX6_writer_20 (by decide) (fun _ => ?_) (fun c => absurd c (by decide))
      refine lv_aload_n hx hb dX6_writer_25 rfl (lv_at hl 0 rfl) ?_
      refine va_get (D := D) (ci := 6) (v := .ref (om 1)) (C := RX6) (T := TX6) (N := 28) hx hb hts hinW hown hK hP 0 rfl rfl 4 (by decide) (hts _ tw_380) (fun _ h9 => h9) rfl dX6_writer_26 ?_
      refine lv_aload_n hx hb dX6_writer_29 rfl (lv_at hl 0 rfl) ?_
      refine va_get (D := D) (ci := 6) (v := .int (nI wc)) (C := RX6) (T := TX6) (N := 28) hx hb hts hinW hown hK hP 0 rfl rfl 3 (by decide) (hts _ tw_379) (fun _ h9 => h9) rfl dX6_writer_30 ?_
      refine lv_iload_n hx hb dX6_writer_33 rfl (lv_at hl 1 rfl) ?_
      refine xx_iast (g := (upd wl wc x)) hx hb hK hP hD hS 1 0 rfl rfl (show wc < 12 by omega) (by decide) rfl dX6_writer_34 (fun H locs hP hD hS => ?_)
      have hP : va_P D vwCl (bM k om (nI 0) tq to wc (upd wl wc x) wb wk kk kf ku ec ew ea ed et ex cc ca cl ch uc ut ub ul uw tt ac as) H := hP
      have hD : va_D A (bM k om (nI 0) tq to wc (upd wl wc x) wb wk kk kf ku ec ew ea ed et ex cc ca cl ch uc ut ub ul uw tt ac as) := hD
      refine lv_aload_n hx hb dX6_writer_35 rfl (lv_at hl 0 rfl) ?_
      refine lv_dup hx hb dX6_writer_36 rfl ?_
      refine va_get (D := D) (ci := 6) (v := .int (nI wc)) (C := RX6) (T := TX6) (N := 28) hx hb hts hinW hown hK hP 0 rfl rfl 3 (by decide) (hts _ tw_379) (fun _ h9 => h9) rfl dX6_writer_37 ?_
      refine lv_iconst (v := (nI 1)) hx hb dX6_writer_40 (by decide) ?_
      refine lv_iadd hx hb dX6_writer_41 ?_
      refine xx_topi (nI_add wc 1) ?_
      refine va_put (D := D) (ci := 6) (v := .int (nI (wc + 1))) (ty := .int) (C := RX6) (T := TX6) (N := 28) hx hb hts hinW tyX6 tyX6_ok nmX6 hown hK hP hD hS 0 rfl rfl 3 (by decide) (hts _ tw_379) (fun _ h9 => h9) rfl (by decide +kernel) rfl rfl (Nat.le_of_ble_eq_true rfl) dX6_writer_42 (fun H locs hP hD hS => ?_)
      have hP : va_P D vwCl (bM k om (nI 0) tq to (wc + 1) (upd wl wc x) wb wk kk kf ku ec ew ea ed et ex cc ca cl ch uc ut ub ul uw tt ac as) H := hP
      have hD : va_D A (bM k om (nI 0) tq to (wc + 1) (upd wl wc x) wb wk kk kf ku ec ew ea ed et ex cc ca cl ch uc ut ub ul uw tt ac as) := hD
      refine lv_aload_n hx hb dX6_writer_45 rfl (lv_at hl 0 rfl) ?_
      refine va_get (D := D) (ci := 6) (v := .int (nI (wc + 1))) (C := RX6) (T := TX6) (N := 28) hx hb hts hinW hown hK hP 0 rfl rfl 3 (by decide) (hts _ tw_379) (fun _ h9 => h9) rfl dX6_writer_46 ?_
      refine lv_iconst (v := (nI 1)) hx hb dX6_writer_49 (by decide) ?_
      refine lv_isub hx hb dX6_writer_50 ?_
      refine xx_topi (nI_pred wc) ?_
      refine xx_iret (wc + 1, (upd wl wc x)) hx hb hr hlocks hS hK hP hD dX6_writer_51 ?_
      exact Or.inr ⟨rfl, ⟨(by omega), (xx_inN (by decide)).mp hq17⟩, rfl⟩
    · have hP : va_P D vwCl (bM k om (nI 0) tq to wc wl wb wk kk kf ku ec ew ea ed et ex cc ca cl ch uc ut ub ul uw tt ac as) H := hP
      have hD : va_D A (bM k om (nI 0) tq to wc wl wb wk kk kf ku ec ew ea ed et ex cc ca cl ch uc ut ub ul uw tt ac as) := hD
      refine lv_if_ne (tgt := 25) hx hb dX6_writer_20 (by decide) (fun c => absurd c (by decide)) (fun _ => ?_)
      refine lv_iconst (v := (-1)) hx hb dX6_writer_23 (by decide) ?_
      refine xx_iret (wc, wl) hx hb hr hlocks hS hK hP hD dX6_writer_24 ?_
      first | exact Or.inl ⟨rfl, fun h => absurd h.1 (by omega), rfl⟩ | exact Or.inl ⟨rfl, fun h => hq17 ((xx_inN (by decide)).mpr h.2), rfl⟩
def p_M_key (om : Nat → Nat) (mth : Int32) (tq : Int32) (to : Bool) (wc : Nat) (wl : Nat → Int32) (wb : Nat → Bool) (wk : Nat → Nat) (kk : Nat → Int64) (kf : Nat → Int64) (ku : Nat → Int64) (ec : Nat) (ew : Nat → Nat) (ea : Nat → Int64) (ed : Nat → Int64) (et : Nat → Int64) (ex : Nat → Bool) (cc : Nat) (ca : Nat → Int64) (cl : Nat → Int32) (ch : Nat → Int32) (uc : Nat) (ut : Nat → Int32) (ub : Nat → Int32) (ul : Nat → Int32) (uw : Nat → Int32) (tt : Int64) (ac : Nat) (as : Nat → Int32) (x : Int32) (key : Int64) (f : Int64) (g : Int64) : Int32 → ((Nat → Nat) × (Nat → Int64) × (Nat → Int64) × (Nat → Int64)) → Prop := fun r u => (r = (-1) ∧ ¬ (∃ j, j < wc ∧ x = nI j ∧ (wb j = false ∧ wk j < 4 ∧ ¬ (f < 0) ∧ f < g)) ∧ u = (wk, kk, kf, ku)) ∨ (∃ j, j < wc ∧ x = nI j ∧ (wb j = false ∧ wk j < 4 ∧ ¬ (f < 0) ∧ f < g) ∧ r = nI (wk j) ∧ u = (xu_N wk j (wk j + 1), vp_updL kk (j * 4 + wk j) key, vp_updL kf (j * 4 + wk j) f, vp_updL ku (j * 4 + wk j) g))
set_option maxHeartbeats 4000000 in
set_option maxRecDepth 100000 in
theorem c_M_key (l : Launch) (D : va_G) (k : Nat → ClassId) (om : Nat → Nat) (mth : Int32) (tq : Int32) (to : Bool) (wc : Nat) (wl : Nat → Int32) (wb : Nat → Bool) (wk : Nat → Nat) (kk : Nat → Int64) (kf : Nat → Int64) (ku : Nat → Int64) (ec : Nat) (ew : Nat → Nat) (ea : Nat → Int64) (ed : Nat → Int64) (et : Nat → Int64) (ex : Nat → Bool) (cc : Nat) (ca : Nat → Int64) (cl : Nat → Int32) (ch : Nat → Int32) (uc : Nat) (ut : Nat → Int32) (ub : Nat → Int32) (ul : Nat → Int32) (uw : Nat → Int32) (tt : Int64) (ac : Nat) (as : Nat → Int32) (x : Int32) (key : Int64) (f : Int64) (g : Int64) (hwc : wc ≤ 12) (hwk : ∀ i, wk i ≤ 4) : xx_Ci l yX6_key (.code yX6_key cX6_key 9 (some .int) :: xall) ({ frames := 1, cells := 0, slots := 0, locals := 21 } : Room) D vwCl (xT k) [.ref (om 0), .int x, .long key, .long f, .long g] (bM k om mth tq to wc wl wb wk kk kf ku ec ew ea ed et ex cc ca cl ch uc ut ub ul uw tt ac as) (p_M_key om mth tq to wc wl wb wk kk kf ku ec ew ea ed et ex cc ca cl ch uc ut ub ul uw tt ac as x key f g) (fun (u : (Nat → Nat) × (Nat → Int64) × (Nat → Int64) × (Nat → Int64)) => bM k om (nI 0) tq to wc wl wb u.1 u.2.1 u.2.2.1 u.2.2.2 ec ew ea ed et ex cc ca cl ch uc ut ub ul uw tt ac as) 0 0 := by
  intro sz
  refine xx_met (Qf := fun A => va_Qi (p_M_key om mth tq to wc wl wb wk kk kf ku ec ew ea ed et ex cc ca cl ch uc ut ub ul uw tt ac as x key f g) (xx_B D vwCl (xT k) A (fun (u : (Nat → Nat) × (Nat → Int64) × (Nat → Int64) × (Nat → Int64)) => bM k om (nI 0) tq to wc wl wb u.1 u.2.1 u.2.2.1 u.2.2.2 ec ew ea ed et ex cc ca cl ch uc ut ub ul uw tt ac as)) A) (cc := cX6_key) (maxL := 9) (ret := (some .int)) (by decide) rfl (Nat.le_of_ble_eq_true rfl) ?_
  intro p e s m below meth c A ls hx hb hr hts hown hlocks hin hml hA hS hP hD hK hN hl
  have hl : lv_has ls 9 [(0, .ref (om 0)), (1, .int x), (2, .long key), (4, .long f), (6, .long g)] := hl
  have hown : s.vm.findClass RX6 = some m.cls := hown
  have hinW := inX6
  refine lv_aload_n hx hb dX6_key_0 rfl (lv_at hl 0 rfl) ?_
  refine lv_iconst (v := (nI 0)) hx hb dX6_key_1 (by decide) ?_
  refine va_put (D := D) (ci := 6) (v := .int (nI 0)) (ty := .int) (C := RX6) (T := TX6) (N := 28) hx hb hts hinW tyX6 tyX6_ok nmX6 hown hK hP hD hS 0 rfl rfl 0 (by decide) (hts _ tw_376) (fun _ h9 => h9) rfl (by decide +kernel) rfl rfl (Nat.le_of_ble_eq_true rfl) dX6_key_2 (fun H locs hP hD hS => ?_)
  have hP : va_P D vwCl (bM k om (nI 0) tq to wc wl wb wk kk kf ku ec ew ea ed et ex cc ca cl ch uc ut ub ul uw tt ac as) H := hP
  have hD : va_D A (bM k om (nI 0) tq to wc wl wb wk kk kf ku ec ew ea ed et ex cc ca cl ch uc ut ub ul uw tt ac as) := hD
  refine lv_aload_n hx hb dX6_key_5 rfl (lv_at hl 0 rfl) ?_
  refine lv_iload_n hx hb dX6_key_6 rfl (lv_at hl 1 rfl) ?_
  refine xx_calli ([]) [0, 1, 2, 3, 4, 5, 6, 7, 8, 9, 10, 11, 12, 13, 14, 15, 16, 17, 18, 19] [] (va_runV (As := [.int x]) (rest := []) ⟨hx, hb, hml, hown, hts⟩ (c_M_isW l D k om (nI 0) tq to wc wl wb wk kk kf ku ec ew ea ed et ex cc ca cl ch uc ut ub ul uw tt ac as x (by omega) H.size) (cwV 1 hts (xx_gV tw_472 tw_474 ts_4 tw_8 tw_475) rfl rfl rfl (by decide +kernel) ⟨Nat.le_of_ble_eq_true rfl, Nat.le_of_ble_eq_true rfl⟩) (xx_preV hK hN hP hD [0, 1, 2, 3, 4, 5, 6, 7, 8, 9, 10, 11, 12, 13, 14, 15, 16, 17, 18, 19] (by decide) rfl 6 0 rfl rfl) rfl rfl hl.1 rfl (lv_room (Nat.le_of_ble_eq_true rfl)) dX6_key_7 ⟨Nat.le_of_ble_eq_true rfl, Nat.le_of_ble_eq_true rfl⟩) hP hD hS hA rfl rfl (by decide) (by decide) (fun r7 u7 H locs hw7 hP hD hS => ?_)
  rcases hw7 with ⟨rfl, j7, hj7, hx7⟩ | ⟨rfl, hq7⟩
  · subst hx7
    have hP : va_P D vwCl (bM k om (nI 0) tq to wc wl wb wk kk kf ku ec ew ea ed et ex cc ca cl ch uc ut ub ul uw tt ac as) H := hP
    have hD : va_D A (bM k om (nI 0) tq to wc wl wb wk kk kf ku ec ew ea ed et ex cc ca cl ch uc ut ub ul uw tt ac as) := hD
    refine lv_if_eq (tgt := 47) hx hb dX6_key_10 (by decide) (fun c => absurd c (by decide)) (fun _ => ?_)
    refine lv_aload_n hx hb dX6_key_13 rfl (lv_at hl 0 rfl) ?_
    refine va_get (D := D) (ci := 6) (v := .ref (om 2)) (C := RX6) (T := TX6) (N := 28) hx hb hts hinW hown hK hP 0 rfl rfl 5 (by decide) (hts _ tw_381) (fun _ h9 => h9) rfl dX6_key_14 ?_
    refine lv_iload_n hx hb dX6_key_17 rfl (lv_at hl 1 rfl) ?_
    refine xx_zald hx hb hK hP 2 1 rfl rfl (show j7 < 12 by omega) (by decide) dX6_key_18 ?_
    refine lv_if_ne (tgt := 47) hx hb dX6_key_19 (by decide) (fun c19 => ?_) (fun c19 => ?_)
    · have c19 : wb j7 = true := bI_ne c19
      refine lv_iconst (v := (-1)) hx hb dX6_key_47 (by decide) ?_
      refine xx_iret (wk, kk, kf, ku) hx hb hr hlocks hS hK hP hD dX6_key_48 ?_
      first | exact Or.inl ⟨rfl, xx_none hq7, rfl⟩ | exact Or.inl ⟨rfl, xx_one (P := fun j => wb j = false ∧ wk j < 4 ∧ ¬ (f < 0) ∧ f < g) (by omega) hj7 (fun h => xx_tf c19 h.1), rfl⟩ | exact Or.inl ⟨rfl, xx_one (P := fun j => wb j = false ∧ wk j < 4 ∧ ¬ (f < 0) ∧ f < g) (by omega) hj7 (fun h => h.2.2.1 c36), rfl⟩ | exact Or.inl ⟨rfl, xx_one (P := fun j => wb j = false ∧ wk j < 4 ∧ ¬ (f < 0) ∧ f < g) (by omega) hj7 (fun h => c44 h.2.2.2), rfl⟩ | exact Or.inl ⟨rfl, xx_one (P := fun j => wb j = false ∧ wk j < 4 ∧ ¬ (f < 0) ∧ f < g) (by omega) hj7 (fun h => absurd h.2.1 (by omega)), rfl⟩
    · have c19 : wb j7 = false := bI_eq c19
      refine lv_aload_n hx hb dX6_key_22 rfl (lv_at hl 0 rfl) ?_
      refine va_get (D := D) (ci := 6) (v := .ref (om 3)) (C := RX6) (T := TX6) (N := 28) hx hb hts hinW hown hK hP 0 rfl rfl 6 (by decide) (hts _ tw_382) (fun _ h9 => h9) rfl dX6_key_23 ?_
      refine lv_iload_n hx hb dX6_key_26 rfl (lv_at hl 1 rfl) ?_
      refine xx_iald hx hb hK hP 3 0 rfl rfl (show j7 < 12 by omega) (by decide) dX6_key_27 ?_
      refine lv_iconst (v := (nI 4)) hx hb dX6_key_28 (by decide) ?_
      have hk := hwk j7
      refine lv_icmp_eq (tgt := 47) hx hb dX6_key_29 (by decide) (fun c29 => ?_) (fun c29 => ?_)
      · have c29 : wk j7 = 4 := (nI_eq (by omega) (by omega)).mp c29
        refine lv_iconst (v := (-1)) hx hb dX6_key_47 (by decide) ?_
        refine xx_iret (wk, kk, kf, ku) hx hb hr hlocks hS hK hP hD dX6_key_48 ?_
        first | exact Or.inl ⟨rfl, xx_none hq7, rfl⟩ | exact Or.inl ⟨rfl, xx_one (P := fun j => wb j = false ∧ wk j < 4 ∧ ¬ (f < 0) ∧ f < g) (by omega) hj7 (fun h => xx_tf c19 h.1), rfl⟩ | exact Or.inl ⟨rfl, xx_one (P := fun j => wb j = false ∧ wk j < 4 ∧ ¬ (f < 0) ∧ f < g) (by omega) hj7 (fun h => h.2.2.1 c36), rfl⟩ | exact Or.inl ⟨rfl, xx_one (P := fun j => wb j = false ∧ wk j < 4 ∧ ¬ (f < 0) ∧ f < g) (by omega) hj7 (fun h => c44 h.2.2.2), rfl⟩ | exact Or.inl ⟨rfl, xx_one (P := fun j => wb j = false ∧ wk j < 4 ∧ ¬ (f < 0) ∧ f < g) (by omega) hj7 (fun h => absurd h.2.1 (by omega)), rfl⟩
      · have c29 : ¬ wk j7 = 4 := fun h => c29 ((nI_eq (by omega) (by omega)).mpr h)
        refine lv_lload hx hb dX6_key_32 (lv_at hl 3 rfl) ?_
        refine lv_lconst (v := 0) hx hb dX6_key_34 (by decide) ?_
        refine W.lcmp hx hb dX6_key_35 ?_
        refine lv_if_lt (tgt := 47) hx hb dX6_key_36 (by decide) (fun c36 => ?_) (fun c36 => ?_)
        · have c36 : f < 0 := (lg_cmp_lt f 0).mp c36
          refine lv_iconst (v := (-1)) hx hb dX6_key_47 (by decide) ?_
          refine xx_iret (wk, kk, kf, ku) hx hb hr hlocks hS hK hP hD dX6_key_48 ?_
          first | exact Or.inl ⟨rfl, xx_none hq7, rfl⟩ | exact Or.inl ⟨rfl, xx_one (P := fun j => wb j = false ∧ wk j < 4 ∧ ¬ (f < 0) ∧ f < g) (by omega) hj7 (fun h => xx_tf c19 h.1), rfl⟩ | exact Or.inl ⟨rfl, xx_one (P := fun j => wb j = false ∧ wk j < 4 ∧ ¬ (f < 0) ∧ f < g) (by omega) hj7 (fun h => h.2.2.1 c36), rfl⟩ | exact Or.inl ⟨rfl, xx_one (P := fun j => wb j = false ∧ wk j < 4 ∧ ¬ (f < 0) ∧ f < g) (by omega) hj7 (fun h => c44 h.2.2.2), rfl⟩ | exact Or.inl ⟨rfl, xx_one (P := fun j => wb j = false ∧ wk j < 4 ∧ ¬ (f < 0) ∧ f < g) (by omega) hj7 (fun h => absurd h.2.1 (by omega)), rfl⟩
        · have c36 : ¬ (f < 0) := fun h => c36 ((lg_cmp_lt f 0).mpr h)
          refine lv_lload hx hb dX6_key_39 (lv_at hl 4 rfl) ?_
          refine lv_lload hx hb dX6_key_41 (lv_at hl 3 rfl) ?_
          refine W.lcmp hx hb dX6_key_43 ?_
          refine lv_if_gt (tgt := 49) hx hb dX6_key_44 (by decide) (fun c44 => ?_) (fun c44 => ?_)
          · have c44 : f < g := (lg_cmp_gt g f).mp c44
            refine lv_iconst (v := (nI 4)) hx hb dX6_key_49 (by decide) ?_
            refine lv_iload_n hx hb dX6_key_50 rfl (lv_at hl 1 rfl) ?_
            refine lv_imul hx hb dX6_key_51 ?_
            refine xx_topi (xx_mulc 4 j7) ?_
            refine lv_aload_n hx hb dX6_key_52 rfl (lv_at hl 0 rfl) ?_
            refine va_get (D := D) (ci := 6) (v := .ref (om 3)) (C := RX6) (T := TX6) (N := 28) hx hb hts hinW hown hK hP 0 rfl rfl 6 (by decide) (hts _ tw_382) (fun _ h9 => h9) rfl dX6_key_53 ?_
            refine lv_iload_n hx hb dX6_key_56 rfl (lv_at hl 1 rfl) ?_
            refine xx_iald hx hb hK hP 3 0 rfl rfl (show j7 < 12 by omega) (by decide) dX6_key_57 ?_
            refine lv_iadd hx hb dX6_key_58 ?_
            refine xx_topi (nI_add (j7 * 4) (wk j7)) ?_
            refine lv_istore (lv' := [(8, .int (nI ((j7 * 4) + (wk j7)))), (0, .ref (om 0)), (1, .int (nI j7)), (2, .long key), (4, .long f), (6, .long g)]) hx hb dX6_key_59 hl (by decide) rfl (fun ls hl => ?_)
            refine lv_aload_n hx hb dX6_key_61 rfl (lv_at hl 1 rfl) ?_
            refine va_get (D := D) (ci := 6) (v := .ref (om 4)) (C := RX6) (T := TX6) (N := 28) hx hb hts hinW hown hK hP 0 rfl rfl 7 (by decide) (hts _ tw_383) (fun _ h9 => h9) rfl dX6_key_62 ?_
            refine lv_iload hx hb dX6_key_65 (lv_at hl 0 rfl) ?_
            refine lv_lload_n hx hb dX6_key_67 rfl (lv_at hl 3 rfl) ?_
            refine xx_last (g := (vp_updL kk ((j7 * 4) + (wk j7)) key)) hx hb hK hP hD hS 4 2 rfl rfl (show (j7 * 4) + (wk j7) < 48 by omega) (by decide) rfl dX6_key_68 (fun H locs hP hD hS => ?_)
            have hP : va_P D vwCl (bM k om (nI 0) tq to wc wl wb wk (vp_updL kk ((j7 * 4) + (wk j7)) key) kf ku ec ew ea ed et ex cc ca cl ch uc ut ub ul uw tt ac as) H := hP
            have hD : va_D A (bM k om (nI 0) tq to wc wl wb wk (vp_updL kk ((j7 * 4) + (wk j7)) key) kf ku ec ew ea ed et ex cc ca cl ch uc ut ub ul uw tt ac as) := hD
            refine lv_aload_n hx hb dX6_key_69 rfl (lv_at hl 1 rfl) ?_
            refine va_get (D := D) (ci := 6) (v := .ref (om 5)) (C := RX6) (T := TX6) (N := 28) hx hb hts hinW hown hK hP 0 rfl rfl 8 (by decide) (hts _ tw_384) (fun _ h9 => h9) rfl dX6_key_70 ?_
            refine lv_iload hx hb dX6_key_73 (lv_at hl 0 rfl) ?_
            refine lv_lload hx hb dX6_key_75 (lv_at hl 4 rfl) ?_
            refine xx_last (g := (vp_updL kf ((j7 * 4) + (wk j7)) f)) hx hb hK hP hD hS 5 2 rfl rfl (show (j7 * 4) + (wk j7) < 48 by omega) (by decide) rfl dX6_key_77 (fun H locs hP hD hS => ?_)
            have hP : va_P D vwCl (bM k om (nI 0) tq to wc wl wb wk (vp_updL kk ((j7 * 4) + (wk j7)) key) (vp_updL kf ((j7 * 4) + (wk j7)) f) ku ec ew ea ed et ex cc ca cl ch uc ut ub ul uw tt ac as) H := hP
            have hD : va_D A (bM k om (nI 0) tq to wc wl wb wk (vp_updL kk ((j7 * 4) + (wk j7)) key) (vp_updL kf ((j7 * 4) + (wk j7)) f) ku ec ew ea ed et ex cc ca cl ch uc ut ub ul uw tt ac as) := hD
            refine lv_aload_n hx hb dX6_key_78 rfl (lv_at hl 1 rfl) ?_
            refine va_get (D := D) (ci := 6) (v := .ref (om 6)) (C := RX6) (T := TX6) (N := 28) hx hb hts hinW hown hK hP 0 rfl rfl 9 (by decide) (hts _ tw_385) (fun _ h9 => h9) rfl dX6_key_79 ?_
            refine lv_iload hx hb dX6_key_82 (lv_at hl 0 rfl) ?_
            refine lv_lload hx hb dX6_key_84 (lv_at hl 5 rfl) ?_
            refine xx_last (g := (vp_updL ku ((j7 * 4) + (wk j7)) g)) hx hb hK hP hD hS 6 2 rfl rfl (show (j7 * 4) + (wk j7) < 48 by omega) (by decide) rfl dX6_key_86 (fun H locs hP hD hS => ?_)
            have hP : va_P D vwCl (bM k om (nI 0) tq to wc wl wb wk (vp_updL kk ((j7 * 4) + (wk j7)) key) (vp_updL kf ((j7 * 4) + (wk j7)) f) (vp_updL ku ((j7 * 4) + (wk j7)) g) ec ew ea ed et ex cc ca cl ch uc ut ub ul uw tt ac as) H := hP
            have hD : va_D A (bM k om (nI 0) tq to wc wl wb wk (vp_updL kk ((j7 * 4) + (wk j7)) key) (vp_updL kf ((j7 * 4) + (wk j7)) f) (vp_updL ku ((j7 * 4) + (wk j7)) g) ec ew ea ed et ex cc ca cl ch uc ut ub ul uw tt ac as) := hD
            refine lv_aload_n hx hb dX6_key_87 rfl (lv_at hl 1 rfl) ?_
            refine va_get (D := D) (ci := 6) (v := .ref (om 3)) (C := RX6) (T := TX6) (N := 28) hx hb hts hinW hown hK hP 0 rfl rfl 6 (by decide) (hts _ tw_382) (fun _ h9 => h9) rfl dX6_key_88 ?_
            refine lv_iload_n hx hb dX6_key_91 rfl (lv_at hl 2 rfl) ?_
            refine lv_dup2_11 hx hb dX6_key_92 rfl rfl ?_
            refine xx_iald hx hb hK hP 3 0 rfl rfl (show j7 < 12 by omega) (by decide) dX6_key_93 ?_
            refine lv_iconst (v := (nI 1)) hx hb dX6_key_94 (by decide) ?_
            refine lv_iadd hx hb dX6_key_95 ?_
            refine xx_topi (nI_add (wk j7) 1) ?_
            refine xx_iast (g := (fun z9 => nI ((xu_N wk j7 ((wk j7) + 1)) z9))) hx hb hK hP hD hS 3 0 rfl rfl (show j7 < 12 by omega) (by decide) (xx_updN wk j7 ((wk j7) + 1)) dX6_key_96 (fun H locs hP hD hS => ?_)
            have hP : va_P D vwCl (bM k om (nI 0) tq to wc wl wb (xu_N wk j7 ((wk j7) + 1)) (vp_updL kk ((j7 * 4) + (wk j7)) key) (vp_updL kf ((j7 * 4) + (wk j7)) f) (vp_updL ku ((j7 * 4) + (wk j7)) g) ec ew ea ed et ex cc ca cl ch uc ut ub ul uw tt ac as) H := hP
            have hD : va_D A (bM k om (nI 0) tq to wc wl wb (xu_N wk j7 ((wk j7) + 1)) (vp_updL kk ((j7 * 4) + (wk j7)) key) (vp_updL kf ((j7 * 4) + (wk j7)) f) (vp_updL ku ((j7 * 4) + (wk j7)) g) ec ew ea ed et ex cc ca cl ch uc ut ub ul uw tt ac as) := hD
            refine lv_aload_n hx hb dX6_key_97 rfl (lv_at hl 1 rfl) ?_
            refine va_get (D := D) (ci := 6) (v := .ref (om 3)) (C := RX6) (T := TX6) (N := 28) hx hb hts hinW hown hK hP 0 rfl rfl 6 (by decide) (hts _ tw_382) (fun _ h9 => h9) rfl dX6_key_98 ?_
            refine lv_iload_n hx hb dX6_key_101 rfl (lv_at hl 2 rfl) ?_
            refine xx_iald hx hb hK hP 3 0 rfl rfl (show j7 < 12 by omega) (by decide) dX6_key_102 ?_
            refine xx_topi (congrArg nI (xu_N_same wk j7 ((wk j7) + 1))) ?_
            refine lv_iconst (v := (nI 1)) hx hb dX6_key_103 (by decide) ?_
            refine lv_isub hx hb dX6_key_104 ?_
            refine xx_topi (nI_pred (wk j7)) ?_
            refine xx_iret ((xu_N wk j7 ((wk j7) + 1)), (vp_updL kk ((j7 * 4) + (wk j7)) key), (vp_updL kf ((j7 * 4) + (wk j7)) f), (vp_updL ku ((j7 * 4) + (wk j7)) g)) hx hb hr hlocks hS hK hP hD dX6_key_105 ?_
            exact Or.inr ⟨j7, hj7, rfl, ⟨c19, (by omega), c36, c44⟩, rfl, rfl⟩
          · have c44 : ¬ (f < g) := fun h => c44 ((lg_cmp_gt g f).mpr h)
            refine lv_iconst (v := (-1)) hx hb dX6_key_47 (by decide) ?_
            refine xx_iret (wk, kk, kf, ku) hx hb hr hlocks hS hK hP hD dX6_key_48 ?_
            first | exact Or.inl ⟨rfl, xx_none hq7, rfl⟩ | exact Or.inl ⟨rfl, xx_one (P := fun j => wb j = false ∧ wk j < 4 ∧ ¬ (f < 0) ∧ f < g) (by omega) hj7 (fun h => xx_tf c19 h.1), rfl⟩ | exact Or.inl ⟨rfl, xx_one (P := fun j => wb j = false ∧ wk j < 4 ∧ ¬ (f < 0) ∧ f < g) (by omega) hj7 (fun h => h.2.2.1 c36), rfl⟩ | exact Or.inl ⟨rfl, xx_one (P := fun j => wb j = false ∧ wk j < 4 ∧ ¬ (f < 0) ∧ f < g) (by omega) hj7 (fun h => c44 h.2.2.2), rfl⟩ | exact Or.inl ⟨rfl, xx_one (P := fun j => wb j = false ∧ wk j < 4 ∧ ¬ (f < 0) ∧ f < g) (by omega) hj7 (fun h => absurd h.2.1 (by omega)), rfl⟩
  · have hP : va_P D vwCl (bM k om (nI 0) tq to wc wl wb wk kk kf ku ec ew ea ed et ex cc ca cl ch uc ut ub ul uw tt ac as) H := hP
    have hD : va_D A (bM k om (nI 0) tq to wc wl wb wk kk kf ku ec ew ea ed et ex cc ca cl ch uc ut ub ul uw tt ac as) := hD
    refine lv_if_eq (tgt := 47) hx hb dX6_key_10 (by decide) (fun _ => ?_) (fun c => absurd c (by decide))
    refine lv_iconst (v := (-1)) hx hb dX6_key_47 (by decide) ?_
    refine xx_iret (wk, kk, kf, ku) hx hb hr hlocks hS hK hP hD dX6_key_48 ?_
    first | exact Or.inl ⟨rfl, xx_none hq7, rfl⟩ | exact Or.inl ⟨rfl, xx_one (P := fun j => wb j = false ∧ wk j < 4 ∧ ¬ (f < 0) ∧ f < g) (by omega) hj7 (fun h => xx_tf c19 h.1), rfl⟩ | exact Or.inl ⟨rfl, xx_one (P := fun j => wb j = false ∧ wk j < 4 ∧ ¬ (f < 0) ∧ f < g) (by omega) hj7 (fun h => h.2.2.1 c36), rfl⟩ | exact Or.inl ⟨rfl, xx_one (P := fun j => wb j = false ∧ wk j < 4 ∧ ¬ (f < 0) ∧ f < g) (by omega) hj7 (fun h => c44 h.2.2.2), rfl⟩ | exact Or.inl ⟨rfl, xx_one (P := fun j => wb j = false ∧ wk j < 4 ∧ ¬ (f < 0) ∧ f < g) (by omega) hj7 (fun h => absurd h.2.1 (by omega)), rfl⟩
def p_M_turned (x : Int64) (b : Int32) : Int64 → Unit → Prop := fun r u => r = xs_turn x b
set_option maxHeartbeats 4000000 in
set_option maxRecDepth 100000 in
theorem c_M_turned (l : Launch) (D : va_G) (k : Nat → ClassId) (x : Int64) (b : Int32) : xx_Cl l yX6_turned (.code yX6_turned cX6_turned 5 (some .long) :: xall) ({ frames := 0, cells := 0, slots := 0, locals := 0 } : Room) D vwCl (xT k) [.long x, .int b] ([]) (p_M_turned x b) (fun (u : Unit) => []) 0 0 := by
  intro sz
  refine xx_met (Qf := fun A => va_Ql (p_M_turned x b) (xx_B D vwCl (xT k) A (fun (u : Unit) => [])) A) (cc := cX6_turned) (maxL := 5) (ret := (some .long)) (by decide) rfl (Nat.le_of_ble_eq_true rfl) ?_
  intro p e s m below meth c A ls hx hb hr hts hown hlocks hin hml hA hS hP hD hK hN hl
  have hl : lv_has ls 5 [(0, .long x), (2, .int b)] := hl
  have hown : s.vm.findClass RX6 = some m.cls := hown
  refine lv_lload_n hx hb dX6_turned_0 rfl (lv_at hl 0 rfl) ?_
  refine lv_iload_n hx hb dX6_turned_1 rfl (lv_at hl 1 rfl) ?_
  refine lv_i2l (v := b.toInt64) hx hb dX6_turned_2 rfl ?_
  refine lv_lxor hx hb dX6_turned_3 ?_
  refine lv_lstore_n (lv' := [(3, .long (x ^^^ b.toInt64)), (0, .long x), (2, .int b)]) hx hb dX6_turned_4 rfl hl (by decide) rfl (fun ls hl => ?_)
  refine lv_lload_n hx hb dX6_turned_5 rfl (lv_at hl 0 rfl) ?_
  refine lv_bipush (v := (nI 11)) hx hb dX6_turned_6 (by decide) ?_
  refine lv_lshl (v := (x ^^^ b.toInt64) <<< ((nI 11).toInt64 &&& 63)) hx hb dX6_turned_8 rfl ?_
  refine lv_lload_n hx hb dX6_turned_9 rfl (lv_at hl 0 rfl) ?_
  refine lv_bipush (v := (nI 53)) hx hb dX6_turned_10 (by decide) ?_
  refine lv_lushr (v := ((x ^^^ b.toInt64).toUInt64 >>> ((nI 53).toInt64.toUInt64 &&& Int64.toUInt64 63)).toInt64) hx hb dX6_turned_12 rfl ?_
  refine lv_lor hx hb dX6_turned_13 ?_
  refine lv_ldc2 (v := (-7046029254386353131)) hx hb hown (hts _ tw_487) dX6_turned_14 ?_
  refine lv_lmul hx hb dX6_turned_17 ?_
  refine xx_lret () hx hb hr hlocks hS hK hP hD dX6_turned_18 ?_
  exact rfl
def p_M_sumOf (x : Int64) (a : Int64) (d : Int64) : Int64 → Unit → Prop := fun r u => r = xs_sum x a d
set_option maxHeartbeats 4000000 in
set_option maxRecDepth 100000 in
theorem c_M_sumOf (l : Launch) (D : va_G) (k : Nat → ClassId) (x : Int64) (a : Int64) (d : Int64) : xx_Cl l yX6_sumOf (.code yX6_sumOf cX6_sumOf 9 (some .long) :: xall) ({ frames := 1, cells := 0, slots := 0, locals := 24 } : Room) D vwCl (xT k) [.long x, .long a, .long d] ([]) (p_M_sumOf x a d) (fun (u : Unit) => []) 0 0 := by
  intro sz
  refine xx_met (Qf := fun A => va_Ql (p_M_sumOf x a d) (xx_B D vwCl (xT k) A (fun (u : Unit) => [])) A) (cc := cX6_sumOf) (maxL := 9) (ret := (some .long)) (by decide) rfl (Nat.le_of_ble_eq_true rfl) ?_
  intro p e s m below meth c A ls hx hb hr hts hown hlocks hin hml hA hS hP hD hK hN hl
  have hl : lv_has ls 9 [(0, .long x), (2, .long a), (4, .long d)] := hl
  have hown : s.vm.findClass RX6 = some m.cls := hown
  refine lv_lload_n hx hb dX6_sumOf_0 rfl (lv_at hl 0 rfl) ?_
  refine lv_lstore (lv' := [(6, .long x), (0, .long x), (2, .long a), (4, .long d)]) hx hb dX6_sumOf_1 hl (by decide) rfl (fun ls hl => ?_)
  refine lv_bipush (v := (nI 56)) hx hb dX6_sumOf_3 (by decide) ?_
  refine lv_istore (lv' := [(8, .int (nI 56)), (6, .long x), (0, .long x), (2, .long a), (4, .long d)]) hx hb dX6_sumOf_5 hl (by decide) rfl (fun ls hl => ?_)
  refine lv_iload hx hb dX6_sumOf_7 (lv_at hl 0 rfl) ?_
  refine lv_if_lt (tgt := 34) hx hb dX6_sumOf_9 (by decide) (fun c => absurd c (by decide)) (fun _ => ?_)
  refine lv_lload hx hb dX6_sumOf_12 (lv_at hl 1 rfl) ?_
  refine lv_lload_n hx hb dX6_sumOf_14 rfl (lv_at hl 3 rfl) ?_
  refine lv_iload hx hb dX6_sumOf_15 (lv_at hl 0 rfl) ?_
  refine lv_lushr (v := (a.toUInt64 >>> ((nI 56).toInt64.toUInt64 &&& Int64.toUInt64 63)).toInt64) hx hb dX6_sumOf_17 rfl ?_
  refine lv_ldc2 (v := 255) hx hb hown (hts _ tw_483) dX6_sumOf_18 ?_
  refine lv_land hx hb dX6_sumOf_21 ?_
  refine lv_l2i (v := (((a.toUInt64 >>> ((nI 56).toInt64.toUInt64 &&& Int64.toUInt64 63)).toInt64) &&& 255).toInt32) hx hb dX6_sumOf_22 rfl ?_
  refine xx_calll ([]) [] [] (va_runS (As := [.long x, .int (((a.toUInt64 >>> ((nI 56).toInt64.toUInt64 &&& Int64.toUInt64 63)).toInt64) &&& 255).toInt32]) (rest := []) ⟨hx, hb, hml, hown, hts⟩ (c_M_turned l D k x ((((a.toUInt64 >>> ((nI 56).toInt64.toUInt64 &&& Int64.toUInt64 63)).toInt64) &&& 255).toInt32) s.heap.size) (va_cwS 2 hts (xx_gS tw_484 tw_485 tw_8 tw_486) rfl rfl rfl (by decide +kernel) ⟨Nat.le_of_ble_eq_true rfl, Nat.le_of_ble_eq_true rfl⟩) (xx_preS hK hN hP hD [] (by decide) rfl) rfl rfl hl.1 rfl (lv_room (Nat.le_of_ble_eq_true rfl)) dX6_sumOf_23 ⟨Nat.le_of_ble_eq_true rfl, Nat.le_of_ble_eq_true rfl⟩) hP hD hS hA rfl rfl (by decide) (by decide) (fun r23 u23 H locs hw23 hP hD hS => ?_)
  obtain rfl := hw23
  have hP : va_P D vwCl ([]) H := hP
  have hD : va_D A ([]) := hD
  refine xx_topl (xs_turn_mix x a 56) ?_
  refine lv_topl (fun z56 ez56 => ?_)
  refine lv_lstore (lv' := [(6, .long z56), (8, .int (nI 56)), (0, .long x), (2, .long a), (4, .long d)]) hx hb dX6_sumOf_26 hl (by decide) rfl (fun ls hl => ?_)
  refine lv_iinc (v := (nI 48)) (lv' := [(8, .int (nI 48)), (6, .long z56), (0, .long x), (2, .long a), (4, .long d)]) hx hb dX6_sumOf_28 hl (k := 1) rfl (by decide) (by decide) rfl (fun ls hl => ?_)
  refine lv_goto (tgt := 7) hx hb dX6_sumOf_31 (by decide) ?_
  refine lv_iload hx hb dX6_sumOf_7 (lv_at hl 0 rfl) ?_
  refine lv_if_lt (tgt := 34) hx hb dX6_sumOf_9 (by decide) (fun c => absurd c (by decide)) (fun _ => ?_)
  refine lv_lload hx hb dX6_sumOf_12 (lv_at hl 1 rfl) ?_
  refine lv_lload_n hx hb dX6_sumOf_14 rfl (lv_at hl 3 rfl) ?_
  refine lv_iload hx hb dX6_sumOf_15 (lv_at hl 0 rfl) ?_
  refine lv_lushr (v := (a.toUInt64 >>> ((nI 48).toInt64.toUInt64 &&& Int64.toUInt64 63)).toInt64) hx hb dX6_sumOf_17 rfl ?_
  refine lv_ldc2 (v := 255) hx hb hown (hts _ tw_483) dX6_sumOf_18 ?_
  refine lv_land hx hb dX6_sumOf_21 ?_
  refine lv_l2i (v := (((a.toUInt64 >>> ((nI 48).toInt64.toUInt64 &&& Int64.toUInt64 63)).toInt64) &&& 255).toInt32) hx hb dX6_sumOf_22 rfl ?_
  refine xx_calll ([]) [] [] (va_runS (As := [.long z56, .int (((a.toUInt64 >>> ((nI 48).toInt64.toUInt64 &&& Int64.toUInt64 63)).toInt64) &&& 255).toInt32]) (rest := []) ⟨hx, hb, hml, hown, hts⟩ (c_M_turned l D k z56 ((((a.toUInt64 >>> ((nI 48).toInt64.toUInt64 &&& Int64.toUInt64 63)).toInt64) &&& 255).toInt32) H.size) (va_cwS 2 hts (xx_gS tw_484 tw_485 tw_8 tw_486) rfl rfl rfl (by decide +kernel) ⟨Nat.le_of_ble_eq_true rfl, Nat.le_of_ble_eq_true rfl⟩) (xx_preS hK hN hP hD [] (by decide) rfl) rfl rfl hl.1 rfl (lv_room (Nat.le_of_ble_eq_true rfl)) dX6_sumOf_23 ⟨Nat.le_of_ble_eq_true rfl, Nat.le_of_ble_eq_true rfl⟩) hP hD hS hA rfl rfl (by decide) (by decide) (fun r23 u23 H locs hw23 hP hD hS => ?_)
  obtain rfl := hw23
  have hP : va_P D vwCl ([]) H := hP
  have hD : va_D A ([]) := hD
  refine xx_topl (xs_turn_mix z56 a 48) ?_
  refine lv_topl (fun z48 ez48 => ?_)
  refine lv_lstore (lv' := [(6, .long z48), (8, .int (nI 48)), (0, .long x), (2, .long a), (4, .long d)]) hx hb dX6_sumOf_26 hl (by decide) rfl (fun ls hl => ?_)
  refine lv_iinc (v := (nI 40)) (lv' := [(8, .int (nI 40)), (6, .long z48), (0, .long x), (2, .long a), (4, .long d)]) hx hb dX6_sumOf_28 hl (k := 1) rfl (by decide) (by decide) rfl (fun ls hl => ?_)
  refine lv_goto (tgt := 7) hx hb dX6_sumOf_31 (by decide) ?_
  refine lv_iload hx hb dX6_sumOf_7 (lv_at hl 0 rfl) ?_
  refine lv_if_lt (tgt := 34) hx hb dX6_sumOf_9 (by decide) (fun c => absurd c (by decide)) (fun _ => ?_)
  refine lv_lload hx hb dX6_sumOf_12 (lv_at hl 1 rfl) ?_
  refine lv_lload_n hx hb dX6_sumOf_14 rfl (lv_at hl 3 rfl) ?_
  refine lv_iload hx hb dX6_sumOf_15 (lv_at hl 0 rfl) ?_
  refine lv_lushr (v := (a.toUInt64 >>> ((nI 40).toInt64.toUInt64 &&& Int64.toUInt64 63)).toInt64) hx hb dX6_sumOf_17 rfl ?_
  refine lv_ldc2 (v := 255) hx hb hown (hts _ tw_483) dX6_sumOf_18 ?_
  refine lv_land hx hb dX6_sumOf_21 ?_
  refine lv_l2i (v := (((a.toUInt64 >>> ((nI 40).toInt64.toUInt64 &&& Int64.toUInt64 63)).toInt64) &&& 255).toInt32) hx hb dX6_sumOf_22 rfl ?_
  refine xx_calll ([]) [] [] (va_runS (As := [.long z48, .int (((a.toUInt64 >>> ((nI 40).toInt64.toUInt64 &&& Int64.toUInt64 63)).toInt64) &&& 255).toInt32]) (rest := []) ⟨hx, hb, hml, hown, hts⟩ (c_M_turned l D k z48 ((((a.toUInt64 >>> ((nI 40).toInt64.toUInt64 &&& Int64.toUInt64 63)).toInt64) &&& 255).toInt32) H.size) (va_cwS 2 hts (xx_gS tw_484 tw_485 tw_8 tw_486) rfl rfl rfl (by decide +kernel) ⟨Nat.le_of_ble_eq_true rfl, Nat.le_of_ble_eq_true rfl⟩) (xx_preS hK hN hP hD [] (by decide) rfl) rfl rfl hl.1 rfl (lv_room (Nat.le_of_ble_eq_true rfl)) dX6_sumOf_23 ⟨Nat.le_of_ble_eq_true rfl, Nat.le_of_ble_eq_true rfl⟩) hP hD hS hA rfl rfl (by decide) (by decide) (fun r23 u23 H locs hw23 hP hD hS => ?_)
  obtain rfl := hw23
  have hP : va_P D vwCl ([]) H := hP
  have hD : va_D A ([]) := hD
  refine xx_topl (xs_turn_mix z48 a 40) ?_
  refine lv_topl (fun z40 ez40 => ?_)
  refine lv_lstore (lv' := [(6, .long z40), (8, .int (nI 40)), (0, .long x), (2, .long a), (4, .long d)]) hx hb dX6_sumOf_26 hl (by decide) rfl (fun ls hl => ?_)
  refine lv_iinc (v := (nI 32)) (lv' := [(8, .int (nI 32)), (6, .long z40), (0, .long x), (2, .long a), (4, .long d)]) hx hb dX6_sumOf_28 hl (k := 1) rfl (by decide) (by decide) rfl (fun ls hl => ?_)
  refine lv_goto (tgt := 7) hx hb dX6_sumOf_31 (by decide) ?_
  refine lv_iload hx hb dX6_sumOf_7 (lv_at hl 0 rfl) ?_
  refine lv_if_lt (tgt := 34) hx hb dX6_sumOf_9 (by decide) (fun c => absurd c (by decide)) (fun _ => ?_)
  refine lv_lload hx hb dX6_sumOf_12 (lv_at hl 1 rfl) ?_
  refine lv_lload_n hx hb dX6_sumOf_14 rfl (lv_at hl 3 rfl) ?_
  refine lv_iload hx hb dX6_sumOf_15 (lv_at hl 0 rfl) ?_
  refine lv_lushr (v := (a.toUInt64 >>> ((nI 32).toInt64.toUInt64 &&& Int64.toUInt64 63)).toInt64) hx hb dX6_sumOf_17 rfl ?_
  refine lv_ldc2 (v := 255) hx hb hown (hts _ tw_483) dX6_sumOf_18 ?_
  refine lv_land hx hb dX6_sumOf_21 ?_
  refine lv_l2i (v := (((a.toUInt64 >>> ((nI 32).toInt64.toUInt64 &&& Int64.toUInt64 63)).toInt64) &&& 255).toInt32) hx hb dX6_sumOf_22 rfl ?_
  refine xx_calll ([]) [] [] (va_runS (As := [.long z40, .int (((a.toUInt64 >>> ((nI 32).toInt64.toUInt64 &&& Int64.toUInt64 63)).toInt64) &&& 255).toInt32]) (rest := []) ⟨hx, hb, hml, hown, hts⟩ (c_M_turned l D k z40 ((((a.toUInt64 >>> ((nI 32).toInt64.toUInt64 &&& Int64.toUInt64 63)).toInt64) &&& 255).toInt32) H.size) (va_cwS 2 hts (xx_gS tw_484 tw_485 tw_8 tw_486) rfl rfl rfl (by decide +kernel) ⟨Nat.le_of_ble_eq_true rfl, Nat.le_of_ble_eq_true rfl⟩) (xx_preS hK hN hP hD [] (by decide) rfl) rfl rfl hl.1 rfl (lv_room (Nat.le_of_ble_eq_true rfl)) dX6_sumOf_23 ⟨Nat.le_of_ble_eq_true rfl, Nat.le_of_ble_eq_true rfl⟩) hP hD hS hA rfl rfl (by decide) (by decide) (fun r23 u23 H locs hw23 hP hD hS => ?_)
  obtain rfl := hw23
  have hP : va_P D vwCl ([]) H := hP
  have hD : va_D A ([]) := hD
  refine xx_topl (xs_turn_mix z40 a 32) ?_
  refine lv_topl (fun z32 ez32 => ?_)
  refine lv_lstore (lv' := [(6, .long z32), (8, .int (nI 32)), (0, .long x), (2, .long a), (4, .long d)]) hx hb dX6_sumOf_26 hl (by decide) rfl (fun ls hl => ?_)
  refine lv_iinc (v := (nI 24)) (lv' := [(8, .int (nI 24)), (6, .long z32), (0, .long x), (2, .long a), (4, .long d)]) hx hb dX6_sumOf_28 hl (k := 1) rfl (by decide) (by decide) rfl (fun ls hl => ?_)
  refine lv_goto (tgt := 7) hx hb dX6_sumOf_31 (by decide) ?_
  refine lv_iload hx hb dX6_sumOf_7 (lv_at hl 0 rfl) ?_
  refine lv_if_lt (tgt := 34) hx hb dX6_sumOf_9 (by decide) (fun c => absurd c (by decide)) (fun _ => ?_)
  refine lv_lload hx hb dX6_sumOf_12 (lv_at hl 1 rfl) ?_
  refine lv_lload_n hx hb dX6_sumOf_14 rfl (lv_at hl 3 rfl) ?_
  refine lv_iload hx hb dX6_sumOf_15 (lv_at hl 0 rfl) ?_
  refine lv_lushr (v := (a.toUInt64 >>> ((nI 24).toInt64.toUInt64 &&& Int64.toUInt64 63)).toInt64) hx hb dX6_sumOf_17 rfl ?_
  refine lv_ldc2 (v := 255) hx hb hown (hts _ tw_483) dX6_sumOf_18 ?_
  refine lv_land hx hb dX6_sumOf_21 ?_
  refine lv_l2i (v := (((a.toUInt64 >>> ((nI 24).toInt64.toUInt64 &&& Int64.toUInt64 63)).toInt64) &&& 255).toInt32) hx hb dX6_sumOf_22 rfl ?_
  refine xx_calll ([]) [] [] (va_runS (As := [.long z32, .int (((a.toUInt64 >>> ((nI 24).toInt64.toUInt64 &&& Int64.toUInt64 63)).toInt64) &&& 255).toInt32]) (rest := []) ⟨hx, hb, hml, hown, hts⟩ (c_M_turned l D k z32 ((((a.toUInt64 >>> ((nI 24).toInt64.toUInt64 &&& Int64.toUInt64 63)).toInt64) &&& 255).toInt32) H.size) (va_cwS 2 hts (xx_gS tw_484 tw_485 tw_8 tw_486) rfl rfl rfl (by decide +kernel) ⟨Nat.le_of_ble_eq_true rfl, Nat.le_of_ble_eq_true rfl⟩) (xx_preS hK hN hP hD [] (by decide) rfl) rfl rfl hl.1 rfl (lv_room (Nat.le_of_ble_eq_true rfl)) dX6_sumOf_23 ⟨Nat.le_of_ble_eq_true rfl, Nat.le_of_ble_eq_true rfl⟩) hP hD hS hA rfl rfl (by decide) (by decide) (fun r23 u23 H locs hw23 hP hD hS => ?_)
  obtain rfl := hw23
  have hP : va_P D vwCl ([]) H := hP
  have hD : va_D A ([]) := hD
  refine xx_topl (xs_turn_mix z32 a 24) ?_
  refine lv_topl (fun z24 ez24 => ?_)
  refine lv_lstore (lv' := [(6, .long z24), (8, .int (nI 24)), (0, .long x), (2, .long a), (4, .long d)]) hx hb dX6_sumOf_26 hl (by decide) rfl (fun ls hl => ?_)
  refine lv_iinc (v := (nI 16)) (lv' := [(8, .int (nI 16)), (6, .long z24), (0, .long x), (2, .long a), (4, .long d)]) hx hb dX6_sumOf_28 hl (k := 1) rfl (by decide) (by decide) rfl (fun ls hl => ?_)
  refine lv_goto (tgt := 7) hx hb dX6_sumOf_31 (by decide) ?_
  refine lv_iload hx hb dX6_sumOf_7 (lv_at hl 0 rfl) ?_
  refine lv_if_lt (tgt := 34) hx hb dX6_sumOf_9 (by decide) (fun c => absurd c (by decide)) (fun _ => ?_)
  refine lv_lload hx hb dX6_sumOf_12 (lv_at hl 1 rfl) ?_
  refine lv_lload_n hx hb dX6_sumOf_14 rfl (lv_at hl 3 rfl) ?_
  refine lv_iload hx hb dX6_sumOf_15 (lv_at hl 0 rfl) ?_
  refine lv_lushr (v := (a.toUInt64 >>> ((nI 16).toInt64.toUInt64 &&& Int64.toUInt64 63)).toInt64) hx hb dX6_sumOf_17 rfl ?_
  refine lv_ldc2 (v := 255) hx hb hown (hts _ tw_483) dX6_sumOf_18 ?_
  refine lv_land hx hb dX6_sumOf_21 ?_
  refine lv_l2i (v := (((a.toUInt64 >>> ((nI 16).toInt64.toUInt64 &&& Int64.toUInt64 63)).toInt64) &&& 255).toInt32) hx hb dX6_sumOf_22 rfl ?_
  refine xx_calll ([]) [] [] (va_runS (As := [.long z24, .int (((a.toUInt64 >>> ((nI 16).toInt64.toUInt64 &&& Int64.toUInt64 63)).toInt64) &&& 255).toInt32]) (rest := []) ⟨hx, hb, hml, hown, hts⟩ (c_M_turned l D k z24 ((((a.toUInt64 >>> ((nI 16).toInt64.toUInt64 &&& Int64.toUInt64 63)).toInt64) &&& 255).toInt32) H.size) (va_cwS 2 hts (xx_gS tw_484 tw_485 tw_8 tw_486) rfl rfl rfl (by decide +kernel) ⟨Nat.le_of_ble_eq_true rfl, Nat.le_of_ble_eq_true rfl⟩) (xx_preS hK hN hP hD [] (by decide) rfl) rfl rfl hl.1 rfl (lv_room (Nat.le_of_ble_eq_true rfl)) dX6_sumOf_23 ⟨Nat.le_of_ble_eq_true rfl, Nat.le_of_ble_eq_true rfl⟩) hP hD hS hA rfl rfl (by decide) (by decide) (fun r23 u23 H locs hw23 hP hD hS => ?_)
  obtain rfl := hw23
  have hP : va_P D vwCl ([]) H := hP
  have hD : va_D A ([]) := hD
  refine xx_topl (xs_turn_mix z24 a 16) ?_
  refine lv_topl (fun z16 ez16 => ?_)
  refine lv_lstore (lv' := [(6, .long z16), (8, .int (nI 16)), (0, .long x), (2, .long a), (4, .long d)]) hx hb dX6_sumOf_26 hl (by decide) rfl (fun ls hl => ?_)
  refine lv_iinc (v := (nI 8)) (lv' := [(8, .int (nI 8)), (6, .long z16), (0, .long x), (2, .long a), (4, .long d)]) hx hb dX6_sumOf_28 hl (k := 1) rfl (by decide) (by decide) rfl (fun ls hl => ?_)
  refine lv_goto (tgt := 7) hx hb dX6_sumOf_31 (by decide) ?_
  refine lv_iload hx hb dX6_sumOf_7 (lv_at hl 0 rfl) ?_
  refine lv_if_lt (tgt := 34) hx hb dX6_sumOf_9 (by decide) (fun c => absurd c (by decide)) (fun _ => ?_)
  refine lv_lload hx hb dX6_sumOf_12 (lv_at hl 1 rfl) ?_
  refine lv_lload_n hx hb dX6_sumOf_14 rfl (lv_at hl 3 rfl) ?_
  refine lv_iload hx hb dX6_sumOf_15 (lv_at hl 0 rfl) ?_
  refine lv_lushr (v := (a.toUInt64 >>> ((nI 8).toInt64.toUInt64 &&& Int64.toUInt64 63)).toInt64) hx hb dX6_sumOf_17 rfl ?_
  refine lv_ldc2 (v := 255) hx hb hown (hts _ tw_483) dX6_sumOf_18 ?_
  refine lv_land hx hb dX6_sumOf_21 ?_
  refine lv_l2i (v := (((a.toUInt64 >>> ((nI 8).toInt64.toUInt64 &&& Int64.toUInt64 63)).toInt64) &&& 255).toInt32) hx hb dX6_sumOf_22 rfl ?_
  refine xx_calll ([]) [] [] (va_runS (As := [.long z16, .int (((a.toUInt64 >>> ((nI 8).toInt64.toUInt64 &&& Int64.toUInt64 63)).toInt64) &&& 255).toInt32]) (rest := []) ⟨hx, hb, hml, hown, hts⟩ (c_M_turned l D k z16 ((((a.toUInt64 >>> ((nI 8).toInt64.toUInt64 &&& Int64.toUInt64 63)).toInt64) &&& 255).toInt32) H.size) (va_cwS 2 hts (xx_gS tw_484 tw_485 tw_8 tw_486) rfl rfl rfl (by decide +kernel) ⟨Nat.le_of_ble_eq_true rfl, Nat.le_of_ble_eq_true rfl⟩) (xx_preS hK hN hP hD [] (by decide) rfl) rfl rfl hl.1 rfl (lv_room (Nat.le_of_ble_eq_true rfl)) dX6_sumOf_23 ⟨Nat.le_of_ble_eq_true rfl, Nat.le_of_ble_eq_true rfl⟩) hP hD hS hA rfl rfl (by decide) (by decide) (fun r23 u23 H locs hw23 hP hD hS => ?_)
  obtain rfl := hw23
  have hP : va_P D vwCl ([]) H := hP
  have hD : va_D A ([]) := hD
  refine xx_topl (xs_turn_mix z16 a 8) ?_
  refine lv_topl (fun z8 ez8 => ?_)
  refine lv_lstore (lv' := [(6, .long z8), (8, .int (nI 8)), (0, .long x), (2, .long a), (4, .long d)]) hx hb dX6_sumOf_26 hl (by decide) rfl (fun ls hl => ?_)
  refine lv_iinc (v := (nI 0)) (lv' := [(8, .int (nI 0)), (6, .long z8), (0, .long x), (2, .long a), (4, .long d)]) hx hb dX6_sumOf_28 hl (k := 1) rfl (by decide) (by decide) rfl (fun ls hl => ?_)
  refine lv_goto (tgt := 7) hx hb dX6_sumOf_31 (by decide) ?_
  refine lv_iload hx hb dX6_sumOf_7 (lv_at hl 0 rfl) ?_
  refine lv_if_lt (tgt := 34) hx hb dX6_sumOf_9 (by decide) (fun c => absurd c (by decide)) (fun _ => ?_)
  refine lv_lload hx hb dX6_sumOf_12 (lv_at hl 1 rfl) ?_
  refine lv_lload_n hx hb dX6_sumOf_14 rfl (lv_at hl 3 rfl) ?_
  refine lv_iload hx hb dX6_sumOf_15 (lv_at hl 0 rfl) ?_
  refine lv_lushr (v := (a.toUInt64 >>> ((nI 0).toInt64.toUInt64 &&& Int64.toUInt64 63)).toInt64) hx hb dX6_sumOf_17 rfl ?_
  refine lv_ldc2 (v := 255) hx hb hown (hts _ tw_483) dX6_sumOf_18 ?_
  refine lv_land hx hb dX6_sumOf_21 ?_
  refine lv_l2i (v := (((a.toUInt64 >>> ((nI 0).toInt64.toUInt64 &&& Int64.toUInt64 63)).toInt64) &&& 255).toInt32) hx hb dX6_sumOf_22 rfl ?_
  refine xx_calll ([]) [] [] (va_runS (As := [.long z8, .int (((a.toUInt64 >>> ((nI 0).toInt64.toUInt64 &&& Int64.toUInt64 63)).toInt64) &&& 255).toInt32]) (rest := []) ⟨hx, hb, hml, hown, hts⟩ (c_M_turned l D k z8 ((((a.toUInt64 >>> ((nI 0).toInt64.toUInt64 &&& Int64.toUInt64 63)).toInt64) &&& 255).toInt32) H.size) (va_cwS 2 hts (xx_gS tw_484 tw_485 tw_8 tw_486) rfl rfl rfl (by decide +kernel) ⟨Nat.le_of_ble_eq_true rfl, Nat.le_of_ble_eq_true rfl⟩) (xx_preS hK hN hP hD [] (by decide) rfl) rfl rfl hl.1 rfl (lv_room (Nat.le_of_ble_eq_true rfl)) dX6_sumOf_23 ⟨Nat.le_of_ble_eq_true rfl, Nat.le_of_ble_eq_true rfl⟩) hP hD hS hA rfl rfl (by decide) (by decide) (fun r23 u23 H locs hw23 hP hD hS => ?_)
  obtain rfl := hw23
  have hP : va_P D vwCl ([]) H := hP
  have hD : va_D A ([]) := hD
  refine xx_topl (xs_turn_mix z8 a 0) ?_
  refine lv_topl (fun z0 ez0 => ?_)
  refine lv_lstore (lv' := [(6, .long z0), (8, .int (nI 0)), (0, .long x), (2, .long a), (4, .long d)]) hx hb dX6_sumOf_26 hl (by decide) rfl (fun ls hl => ?_)
  refine lv_iinc (v := (-8)) (lv' := [(8, .int (-8)), (6, .long z0), (0, .long x), (2, .long a), (4, .long d)]) hx hb dX6_sumOf_28 hl (k := 1) rfl (by decide) (by decide) rfl (fun ls hl => ?_)
  refine lv_goto (tgt := 7) hx hb dX6_sumOf_31 (by decide) ?_
  refine lv_iload hx hb dX6_sumOf_7 (lv_at hl 0 rfl) ?_
  refine lv_if_lt (tgt := 34) hx hb dX6_sumOf_9 (by decide) (fun _ => ?_) (fun c => absurd c (by decide))
  refine lv_bipush (v := (nI 56)) hx hb dX6_sumOf_34 (by decide) ?_
  refine lv_istore (lv' := [(8, .int (nI 56)), (6, .long z0), (0, .long x), (2, .long a), (4, .long d)]) hx hb dX6_sumOf_36 hl (by decide) rfl (fun ls hl => ?_)
  refine lv_iload hx hb dX6_sumOf_38 (lv_at hl 0 rfl) ?_
  refine lv_if_lt (tgt := 66) hx hb dX6_sumOf_40 (by decide) (fun c => absurd c (by decide)) (fun _ => ?_)
  refine lv_lload hx hb dX6_sumOf_43 (lv_at hl 1 rfl) ?_
  refine lv_lload hx hb dX6_sumOf_45 (lv_at hl 4 rfl) ?_
  refine lv_iload hx hb dX6_sumOf_47 (lv_at hl 0 rfl) ?_
  refine lv_lushr (v := (d.toUInt64 >>> ((nI 56).toInt64.toUInt64 &&& Int64.toUInt64 63)).toInt64) hx hb dX6_sumOf_49 rfl ?_
  refine lv_ldc2 (v := 255) hx hb hown (hts _ tw_483) dX6_sumOf_50 ?_
  refine lv_land hx hb dX6_sumOf_53 ?_
  refine lv_l2i (v := (((d.toUInt64 >>> ((nI 56).toInt64.toUInt64 &&& Int64.toUInt64 63)).toInt64) &&& 255).toInt32) hx hb dX6_sumOf_54 rfl ?_
  refine xx_calll ([]) [] [] (va_runS (As := [.long z0, .int (((d.toUInt64 >>> ((nI 56).toInt64.toUInt64 &&& Int64.toUInt64 63)).toInt64) &&& 255).toInt32]) (rest := []) ⟨hx, hb, hml, hown, hts⟩ (c_M_turned l D k z0 ((((d.toUInt64 >>> ((nI 56).toInt64.toUInt64 &&& Int64.toUInt64 63)).toInt64) &&& 255).toInt32) H.size) (va_cwS 2 hts (xx_gS tw_484 tw_485 tw_8 tw_486) rfl rfl rfl (by decide +kernel) ⟨Nat.le_of_ble_eq_true rfl, Nat.le_of_ble_eq_true rfl⟩) (xx_preS hK hN hP hD [] (by decide) rfl) rfl rfl hl.1 rfl (lv_room (Nat.le_of_ble_eq_true rfl)) dX6_sumOf_55 ⟨Nat.le_of_ble_eq_true rfl, Nat.le_of_ble_eq_true rfl⟩) hP hD hS hA rfl rfl (by decide) (by decide) (fun r55 u55 H locs hw55 hP hD hS => ?_)
  obtain rfl := hw55
  have hP : va_P D vwCl ([]) H := hP
  have hD : va_D A ([]) := hD
  refine xx_topl (xs_turn_mix z0 d 56) ?_
  refine lv_topl (fun y56 ey56 => ?_)
  refine lv_lstore (lv' := [(6, .long y56), (8, .int (nI 56)), (0, .long x), (2, .long a), (4, .long d)]) hx hb dX6_sumOf_58 hl (by decide) rfl (fun ls hl => ?_)
  refine lv_iinc (v := (nI 48)) (lv' := [(8, .int (nI 48)), (6, .long y56), (0, .long x), (2, .long a), (4, .long d)]) hx hb dX6_sumOf_60 hl (k := 1) rfl (by decide) (by decide) rfl (fun ls hl => ?_)
  refine lv_goto (tgt := 38) hx hb dX6_sumOf_63 (by decide) ?_
  refine lv_iload hx hb dX6_sumOf_38 (lv_at hl 0 rfl) ?_
  refine lv_if_lt (tgt := 66) hx hb dX6_sumOf_40 (by decide) (fun c => absurd c (by decide)) (fun _ => ?_)
  refine lv_lload hx hb dX6_sumOf_43 (lv_at hl 1 rfl) ?_
  refine lv_lload hx hb dX6_sumOf_45 (lv_at hl 4 rfl) ?_
  refine lv_iload hx hb dX6_sumOf_47 (lv_at hl 0 rfl) ?_
  refine lv_lushr (v := (d.toUInt64 >>> ((nI 48).toInt64.toUInt64 &&& Int64.toUInt64 63)).toInt64) hx hb dX6_sumOf_49 rfl ?_
  refine lv_ldc2 (v := 255) hx hb hown (hts _ tw_483) dX6_sumOf_50 ?_
  refine lv_land hx hb dX6_sumOf_53 ?_
  refine lv_l2i (v := (((d.toUInt64 >>> ((nI 48).toInt64.toUInt64 &&& Int64.toUInt64 63)).toInt64) &&& 255).toInt32) hx hb dX6_sumOf_54 rfl ?_
  refine xx_calll ([]) [] [] (va_runS (As := [.long y56, .int (((d.toUInt64 >>> ((nI 48).toInt64.toUInt64 &&& Int64.toUInt64 63)).toInt64) &&& 255).toInt32]) (rest := []) ⟨hx, hb, hml, hown, hts⟩ (c_M_turned l D k y56 ((((d.toUInt64 >>> ((nI 48).toInt64.toUInt64 &&& Int64.toUInt64 63)).toInt64) &&& 255).toInt32) H.size) (va_cwS 2 hts (xx_gS tw_484 tw_485 tw_8 tw_486) rfl rfl rfl (by decide +kernel) ⟨Nat.le_of_ble_eq_true rfl, Nat.le_of_ble_eq_true rfl⟩) (xx_preS hK hN hP hD [] (by decide) rfl) rfl rfl hl.1 rfl (lv_room (Nat.le_of_ble_eq_true rfl)) dX6_sumOf_55 ⟨Nat.le_of_ble_eq_true rfl, Nat.le_of_ble_eq_true rfl⟩) hP hD hS hA rfl rfl (by decide) (by decide) (fun r55 u55 H locs hw55 hP hD hS => ?_)
  obtain rfl := hw55
  have hP : va_P D vwCl ([]) H := hP
  have hD : va_D A ([]) := hD
  refine xx_topl (xs_turn_mix y56 d 48) ?_
  refine lv_topl (fun y48 ey48 => ?_)
  refine lv_lstore (lv' := [(6, .long y48), (8, .int (nI 48)), (0, .long x), (2, .long a), (4, .long d)]) hx hb dX6_sumOf_58 hl (by decide) rfl (fun ls hl => ?_)
  refine lv_iinc (v := (nI 40)) (lv' := [(8, .int (nI 40)), (6, .long y48), (0, .long x), (2, .long a), (4, .long d)]) hx hb dX6_sumOf_60 hl (k := 1) rfl (by decide) (by decide) rfl (fun ls hl => ?_)
  refine lv_goto (tgt := 38) hx hb dX6_sumOf_63 (by decide) ?_
  refine lv_iload hx hb dX6_sumOf_38 (lv_at hl 0 rfl) ?_
  refine lv_if_lt (tgt := 66) hx hb dX6_sumOf_40 (by decide) (fun c => absurd c (by decide)) (fun _ => ?_)
  refine lv_lload hx hb dX6_sumOf_43 (lv_at hl 1 rfl) ?_
  refine lv_lload hx hb dX6_sumOf_45 (lv_at hl 4 rfl) ?_
  refine lv_iload hx hb dX6_sumOf_47 (lv_at hl 0 rfl) ?_
  refine lv_lushr (v := (d.toUInt64 >>> ((nI 40).toInt64.toUInt64 &&& Int64.toUInt64 63)).toInt64) hx hb dX6_sumOf_49 rfl ?_
  refine lv_ldc2 (v := 255) hx hb hown (hts _ tw_483) dX6_sumOf_50 ?_
  refine lv_land hx hb dX6_sumOf_53 ?_
  refine lv_l2i (v := (((d.toUInt64 >>> ((nI 40).toInt64.toUInt64 &&& Int64.toUInt64 63)).toInt64) &&& 255).toInt32) hx hb dX6_sumOf_54 rfl ?_
  refine xx_calll ([]) [] [] (va_runS (As := [.long y48, .int (((d.toUInt64 >>> ((nI 40).toInt64.toUInt64 &&& Int64.toUInt64 63)).toInt64) &&& 255).toInt32]) (rest := []) ⟨hx, hb, hml, hown, hts⟩ (c_M_turned l D k y48 ((((d.toUInt64 >>> ((nI 40).toInt64.toUInt64 &&& Int64.toUInt64 63)).toInt64) &&& 255).toInt32) H.size) (va_cwS 2 hts (xx_gS tw_484 tw_485 tw_8 tw_486) rfl rfl rfl (by decide +kernel) ⟨Nat.le_of_ble_eq_true rfl, Nat.le_of_ble_eq_true rfl⟩) (xx_preS hK hN hP hD [] (by decide) rfl) rfl rfl hl.1 rfl (lv_room (Nat.le_of_ble_eq_true rfl)) dX6_sumOf_55 ⟨Nat.le_of_ble_eq_true rfl, Nat.le_of_ble_eq_true rfl⟩) hP hD hS hA rfl rfl (by decide) (by decide) (fun r55 u55 H locs hw55 hP hD hS => ?_)
  obtain rfl := hw55
  have hP : va_P D vwCl ([]) H := hP
  have hD : va_D A ([]) := hD
  refine xx_topl (xs_turn_mix y48 d 40) ?_
  refine lv_topl (fun y40 ey40 => ?_)
  refine lv_lstore (lv' := [(6, .long y40), (8, .int (nI 40)), (0, .long x), (2, .long a), (4, .long d)]) hx hb dX6_sumOf_58 hl (by decide) rfl (fun ls hl => ?_)
  refine lv_iinc (v := (nI 32)) (lv' := [(8, .int (nI 32)), (6, .long y40), (0, .long x), (2, .long a), (4, .long d)]) hx hb dX6_sumOf_60 hl (k := 1) rfl (by decide) (by decide) rfl (fun ls hl => ?_)
  refine lv_goto (tgt := 38) hx hb dX6_sumOf_63 (by decide) ?_
  refine lv_iload hx hb dX6_sumOf_38 (lv_at hl 0 rfl) ?_
  refine lv_if_lt (tgt := 66) hx hb dX6_sumOf_40 (by decide) (fun c => absurd c (by decide)) (fun _ => ?_)
  refine lv_lload hx hb dX6_sumOf_43 (lv_at hl 1 rfl) ?_
  refine lv_lload hx hb dX6_sumOf_45 (lv_at hl 4 rfl) ?_
  refine lv_iload hx hb dX6_sumOf_47 (lv_at hl 0 rfl) ?_
  refine lv_lushr (v := (d.toUInt64 >>> ((nI 32).toInt64.toUInt64 &&& Int64.toUInt64 63)).toInt64) hx hb dX6_sumOf_49 rfl ?_
  refine lv_ldc2 (v := 255) hx hb hown (hts _ tw_483) dX6_sumOf_50 ?_
  refine lv_land hx hb dX6_sumOf_53 ?_
  refine lv_l2i (v := (((d.toUInt64 >>> ((nI 32).toInt64.toUInt64 &&& Int64.toUInt64 63)).toInt64) &&& 255).toInt32) hx hb dX6_sumOf_54 rfl ?_
  refine xx_calll ([]) [] [] (va_runS (As := [.long y40, .int (((d.toUInt64 >>> ((nI 32).toInt64.toUInt64 &&& Int64.toUInt64 63)).toInt64) &&& 255).toInt32]) (rest := []) ⟨hx, hb, hml, hown, hts⟩ (c_M_turned l D k y40 ((((d.toUInt64 >>> ((nI 32).toInt64.toUInt64 &&& Int64.toUInt64 63)).toInt64) &&& 255).toInt32) H.size) (va_cwS 2 hts (xx_gS tw_484 tw_485 tw_8 tw_486) rfl rfl rfl (by decide +kernel) ⟨Nat.le_of_ble_eq_true rfl, Nat.le_of_ble_eq_true rfl⟩) (xx_preS hK hN hP hD [] (by decide) rfl) rfl rfl hl.1 rfl (lv_room (Nat.le_of_ble_eq_true rfl)) dX6_sumOf_55 ⟨Nat.le_of_ble_eq_true rfl, Nat.le_of_ble_eq_true rfl⟩) hP hD hS hA rfl rfl (by decide) (by decide) (fun r55 u55 H locs hw55 hP hD hS => ?_)
  obtain rfl := hw55
  have hP : va_P D vwCl ([]) H := hP
  have hD : va_D A ([]) := hD
  refine xx_topl (xs_turn_mix y40 d 32) ?_
  refine lv_topl (fun y32 ey32 => ?_)
  refine lv_lstore (lv' := [(6, .long y32), (8, .int (nI 32)), (0, .long x), (2, .long a), (4, .long d)]) hx hb dX6_sumOf_58 hl (by decide) rfl (fun ls hl => ?_)
  refine lv_iinc (v := (nI 24)) (lv' := [(8, .int (nI 24)), (6, .long y32), (0, .long x), (2, .long a), (4, .long d)]) hx hb dX6_sumOf_60 hl (k := 1) rfl (by decide) (by decide) rfl (fun ls hl => ?_)
  refine lv_goto (tgt := 38) hx hb dX6_sumOf_63 (by decide) ?_
  refine lv_iload hx hb dX6_sumOf_38 (lv_at hl 0 rfl) ?_
  refine lv_if_lt (tgt := 66) hx hb dX6_sumOf_40 (by decide) (fun c => absurd c (by decide)) (fun _ => ?_)
  refine lv_lload hx hb dX6_sumOf_43 (lv_at hl 1 rfl) ?_
  refine lv_lload hx hb dX6_sumOf_45 (lv_at hl 4 rfl) ?_
  refine lv_iload hx hb dX6_sumOf_47 (lv_at hl 0 rfl) ?_
  refine lv_lushr (v := (d.toUInt64 >>> ((nI 24).toInt64.toUInt64 &&& Int64.toUInt64 63)).toInt64) hx hb dX6_sumOf_49 rfl ?_
  refine lv_ldc2 (v := 255) hx hb hown (hts _ tw_483) dX6_sumOf_50 ?_
  refine lv_land hx hb dX6_sumOf_53 ?_
  refine lv_l2i (v := (((d.toUInt64 >>> ((nI 24).toInt64.toUInt64 &&& Int64.toUInt64 63)).toInt64) &&& 255).toInt32) hx hb dX6_sumOf_54 rfl ?_
  refine xx_calll ([]) [] [] (va_runS (As := [.long y32, .int (((d.toUInt64 >>> ((nI 24).toInt64.toUInt64 &&& Int64.toUInt64 63)).toInt64) &&& 255).toInt32]) (rest := []) ⟨hx, hb, hml, hown, hts⟩ (c_M_turned l D k y32 ((((d.toUInt64 >>> ((nI 24).toInt64.toUInt64 &&& Int64.toUInt64 63)).toInt64) &&& 255).toInt32) H.size) (va_cwS 2 hts (xx_gS tw_484 tw_485 tw_8 tw_486) rfl rfl rfl (by decide +kernel) ⟨Nat.le_of_ble_eq_true rfl, Nat.le_of_ble_eq_true rfl⟩) (xx_preS hK hN hP hD [] (by decide) rfl) rfl rfl hl.1 rfl (lv_room (Nat.le_of_ble_eq_true rfl)) dX6_sumOf_55 ⟨Nat.le_of_ble_eq_true rfl, Nat.le_of_ble_eq_true rfl⟩) hP hD hS hA rfl rfl (by decide) (by decide) (fun r55 u55 H locs hw55 hP hD hS => ?_)
  obtain rfl := hw55
  have hP : va_P D vwCl ([]) H := hP
  have hD : va_D A ([]) := hD
  refine xx_topl (xs_turn_mix y32 d 24) ?_
  refine lv_topl (fun y24 ey24 => ?_)
  refine lv_lstore (lv' := [(6, .long y24), (8, .int (nI 24)), (0, .long x), (2, .long a), (4, .long d)]) hx hb dX6_sumOf_58 hl (by decide) rfl (fun ls hl => ?_)
  refine lv_iinc (v := (nI 16)) (lv' := [(8, .int (nI 16)), (6, .long y24), (0, .long x), (2, .long a), (4, .long d)]) hx hb dX6_sumOf_60 hl (k := 1) rfl (by decide) (by decide) rfl (fun ls hl => ?_)
  refine lv_goto (tgt := 38) hx hb dX6_sumOf_63 (by decide) ?_
  refine lv_iload hx hb dX6_sumOf_38 (lv_at hl 0 rfl) ?_
  refine lv_if_lt (tgt := 66) hx hb dX6_sumOf_40 (by decide) (fun c => absurd c (by decide)) (fun _ => ?_)
  refine lv_lload hx hb dX6_sumOf_43 (lv_at hl 1 rfl) ?_
  refine lv_lload hx hb dX6_sumOf_45 (lv_at hl 4 rfl) ?_
  refine lv_iload hx hb dX6_sumOf_47 (lv_at hl 0 rfl) ?_
  refine lv_lushr (v := (d.toUInt64 >>> ((nI 16).toInt64.toUInt64 &&& Int64.toUInt64 63)).toInt64) hx hb dX6_sumOf_49 rfl ?_
  refine lv_ldc2 (v := 255) hx hb hown (hts _ tw_483) dX6_sumOf_50 ?_
  refine lv_land hx hb dX6_sumOf_53 ?_
  refine lv_l2i (v := (((d.toUInt64 >>> ((nI 16).toInt64.toUInt64 &&& Int64.toUInt64 63)).toInt64) &&& 255).toInt32) hx hb dX6_sumOf_54 rfl ?_
  refine xx_calll ([]) [] [] (va_runS (As := [.long y24, .int (((d.toUInt64 >>> ((nI 16).toInt64.toUInt64 &&& Int64.toUInt64 63)).toInt64) &&& 255).toInt32]) (rest := []) ⟨hx, hb, hml, hown, hts⟩ (c_M_turned l D k y24 ((((d.toUInt64 >>> ((nI 16).toInt64.toUInt64 &&& Int64.toUInt64 63)).toInt64) &&& 255).toInt32) H.size) (va_cwS 2 hts (xx_gS tw_484 tw_485 tw_8 tw_486) rfl rfl rfl (by decide +kernel) ⟨Nat.le_of_ble_eq_true rfl, Nat.le_of_ble_eq_true rfl⟩) (xx_preS hK hN hP hD [] (by decide) rfl) rfl rfl hl.1 rfl (lv_room (Nat.le_of_ble_eq_true rfl)) dX6_sumOf_55 ⟨Nat.le_of_ble_eq_true rfl, Nat.le_of_ble_eq_true rfl⟩) hP hD hS hA rfl rfl (by decide) (by decide) (fun r55 u55 H locs hw55 hP hD hS => ?_)
  obtain rfl := hw55
  have hP : va_P D vwCl ([]) H := hP
  have hD : va_D A ([]) := hD
  refine xx_topl (xs_turn_mix y24 d 16) ?_
  refine lv_topl (fun y16 ey16 => ?_)
  refine lv_lstore (lv' := [(6, .long y16), (8, .int (nI 16)), (0, .long x), (2, .long a), (4, .long d)]) hx hb dX6_sumOf_58 hl (by decide) rfl (fun ls hl => ?_)
  refine lv_iinc (v := (nI 8)) (lv' := [(8, .int (nI 8)), (6, .long y16), (0, .long x), (2, .long a), (4, .long d)]) hx hb dX6_sumOf_60 hl (k := 1) rfl (by decide) (by decide) rfl (fun ls hl => ?_)
  refine lv_goto (tgt := 38) hx hb dX6_sumOf_63 (by decide) ?_
  refine lv_iload hx hb dX6_sumOf_38 (lv_at hl 0 rfl) ?_
  refine lv_if_lt (tgt := 66) hx hb dX6_sumOf_40 (by decide) (fun c => absurd c (by decide)) (fun _ => ?_)
  refine lv_lload hx hb dX6_sumOf_43 (lv_at hl 1 rfl) ?_
  refine lv_lload hx hb dX6_sumOf_45 (lv_at hl 4 rfl) ?_
  refine lv_iload hx hb dX6_sumOf_47 (lv_at hl 0 rfl) ?_
  refine lv_lushr (v := (d.toUInt64 >>> ((nI 8).toInt64.toUInt64 &&& Int64.toUInt64 63)).toInt64) hx hb dX6_sumOf_49 rfl ?_
  refine lv_ldc2 (v := 255) hx hb hown (hts _ tw_483) dX6_sumOf_50 ?_
  refine lv_land hx hb dX6_sumOf_53 ?_
  refine lv_l2i (v := (((d.toUInt64 >>> ((nI 8).toInt64.toUInt64 &&& Int64.toUInt64 63)).toInt64) &&& 255).toInt32) hx hb dX6_sumOf_54 rfl ?_
  refine xx_calll ([]) [] [] (va_runS (As := [.long y16, .int (((d.toUInt64 >>> ((nI 8).toInt64.toUInt64 &&& Int64.toUInt64 63)).toInt64) &&& 255).toInt32]) (rest := []) ⟨hx, hb, hml, hown, hts⟩ (c_M_turned l D k y16 ((((d.toUInt64 >>> ((nI 8).toInt64.toUInt64 &&& Int64.toUInt64 63)).toInt64) &&& 255).toInt32) H.size) (va_cwS 2 hts (xx_gS tw_484 tw_485 tw_8 tw_486) rfl rfl rfl (by decide +kernel) ⟨Nat.le_of_ble_eq_true rfl, Nat.le_of_ble_eq_true rfl⟩) (xx_preS hK hN hP hD [] (by decide) rfl) rfl rfl hl.1 rfl (lv_room (Nat.le_of_ble_eq_true rfl)) dX6_sumOf_55 ⟨Nat.le_of_ble_eq_true rfl, Nat.le_of_ble_eq_true rfl⟩) hP hD hS hA rfl rfl (by decide) (by decide) (fun r55 u55 H locs hw55 hP hD hS => ?_)
  obtain rfl := hw55
  have hP : va_P D vwCl ([]) H := hP
  have hD : va_D A ([]) := hD
  refine xx_topl (xs_turn_mix y16 d 8) ?_
  refine lv_topl (fun y8 ey8 => ?_)
  refine lv_lstore (lv' := [(6, .long y8), (8, .int (nI 8)), (0, .long x), (2, .long a), (4, .long d)]) hx hb dX6_sumOf_58 hl (by decide) rfl (fun ls hl => ?_)
  refine lv_iinc (v := (nI 0)) (lv' := [(8, .int (nI 0)), (6, .long y8), (0, .long x), (2, .long a), (4, .long d)]) hx hb dX6_sumOf_60 hl (k := 1) rfl (by decide) (by decide) rfl (fun ls hl => ?_)
  refine lv_goto (tgt := 38) hx hb dX6_sumOf_63 (by decide) ?_
  refine lv_iload hx hb dX6_sumOf_38 (lv_at hl 0 rfl) ?_
  refine lv_if_lt (tgt := 66) hx hb dX6_sumOf_40 (by decide) (fun c => absurd c (by decide)) (fun _ => ?_)
  refine lv_lload hx hb dX6_sumOf_43 (lv_at hl 1 rfl) ?_
  refine lv_lload hx hb dX6_sumOf_45 (lv_at hl 4 rfl) ?_
  refine lv_iload hx hb dX6_sumOf_47 (lv_at hl 0 rfl) ?_
  refine lv_lushr (v := (d.toUInt64 >>> ((nI 0).toInt64.toUInt64 &&& Int64.toUInt64 63)).toInt64) hx hb dX6_sumOf_49 rfl ?_
  refine lv_ldc2 (v := 255) hx hb hown (hts _ tw_483) dX6_sumOf_50 ?_
  refine lv_land hx hb dX6_sumOf_53 ?_
  refine lv_l2i (v := (((d.toUInt64 >>> ((nI 0).toInt64.toUInt64 &&& Int64.toUInt64 63)).toInt64) &&& 255).toInt32) hx hb dX6_sumOf_54 rfl ?_
  refine xx_calll ([]) [] [] (va_runS (As := [.long y8, .int (((d.toUInt64 >>> ((nI 0).toInt64.toUInt64 &&& Int64.toUInt64 63)).toInt64) &&& 255).toInt32]) (rest := []) ⟨hx, hb, hml, hown, hts⟩ (c_M_turned l D k y8 ((((d.toUInt64 >>> ((nI 0).toInt64.toUInt64 &&& Int64.toUInt64 63)).toInt64) &&& 255).toInt32) H.size) (va_cwS 2 hts (xx_gS tw_484 tw_485 tw_8 tw_486) rfl rfl rfl (by decide +kernel) ⟨Nat.le_of_ble_eq_true rfl, Nat.le_of_ble_eq_true rfl⟩) (xx_preS hK hN hP hD [] (by decide) rfl) rfl rfl hl.1 rfl (lv_room (Nat.le_of_ble_eq_true rfl)) dX6_sumOf_55 ⟨Nat.le_of_ble_eq_true rfl, Nat.le_of_ble_eq_true rfl⟩) hP hD hS hA rfl rfl (by decide) (by decide) (fun r55 u55 H locs hw55 hP hD hS => ?_)
  obtain rfl := hw55
  have hP : va_P D vwCl ([]) H := hP
  have hD : va_D A ([]) := hD
  refine xx_topl (xs_turn_mix y8 d 0) ?_
  refine lv_topl (fun y0 ey0 => ?_)
  refine lv_lstore (lv' := [(6, .long y0), (8, .int (nI 0)), (0, .long x), (2, .long a), (4, .long d)]) hx hb dX6_sumOf_58 hl (by decide) rfl (fun ls hl => ?_)
  refine lv_iinc (v := (-8)) (lv' := [(8, .int (-8)), (6, .long y0), (0, .long x), (2, .long a), (4, .long d)]) hx hb dX6_sumOf_60 hl (k := 1) rfl (by decide) (by decide) rfl (fun ls hl => ?_)
  refine lv_goto (tgt := 38) hx hb dX6_sumOf_63 (by decide) ?_
  refine lv_iload hx hb dX6_sumOf_38 (lv_at hl 0 rfl) ?_
  refine lv_if_lt (tgt := 66) hx hb dX6_sumOf_40 (by decide) (fun _ => ?_) (fun c => absurd c (by decide))
  refine lv_lload hx hb dX6_sumOf_66 (lv_at hl 1 rfl) ?_
  refine xx_lret () hx hb hr hlocks hS hK hP hD dX6_sumOf_68 ?_
  subst ey0 ey8 ey16 ey24 ey32 ey40 ey48 ey56 ez0 ez8 ez16 ez24 ez32 ez40 ez48 ez56
  exact rfl
def p_M_sum (om : Nat → Nat) (mth : Int32) (tq : Int32) (to : Bool) (wc : Nat) (wl : Nat → Int32) (wb : Nat → Bool) (wk : Nat → Nat) (kk : Nat → Int64) (kf : Nat → Int64) (ku : Nat → Int64) (ec : Nat) (ew : Nat → Nat) (ea : Nat → Int64) (ed : Nat → Int64) (et : Nat → Int64) (ex : Nat → Bool) (cc : Nat) (ca : Nat → Int64) (cl : Nat → Int32) (ch : Nat → Int32) (uc : Nat) (ut : Nat → Int32) (ub : Nat → Int32) (ul : Nat → Int32) (uw : Nat → Int32) (tt : Int64) (ac : Nat) (as : Nat → Int32) (x : Int64) (a : Int64) (d : Int64) : Int64 → Unit → Prop := fun r u => r = xs_sum x a d
set_option maxHeartbeats 4000000 in
set_option maxRecDepth 100000 in
theorem c_M_sum (l : Launch) (D : va_G) (k : Nat → ClassId) (om : Nat → Nat) (mth : Int32) (tq : Int32) (to : Bool) (wc : Nat) (wl : Nat → Int32) (wb : Nat → Bool) (wk : Nat → Nat) (kk : Nat → Int64) (kf : Nat → Int64) (ku : Nat → Int64) (ec : Nat) (ew : Nat → Nat) (ea : Nat → Int64) (ed : Nat → Int64) (et : Nat → Int64) (ex : Nat → Bool) (cc : Nat) (ca : Nat → Int64) (cl : Nat → Int32) (ch : Nat → Int32) (uc : Nat) (ut : Nat → Int32) (ub : Nat → Int32) (ul : Nat → Int32) (uw : Nat → Int32) (tt : Int64) (ac : Nat) (as : Nat → Int32) (x : Int64) (a : Int64) (d : Int64) : xx_Cl l yX6_sum (.code yX6_sum cX6_sum 7 (some .long) :: xall) ({ frames := 2, cells := 0, slots := 0, locals := 52 } : Room) D vwCl (xT k) [.ref (om 0), .long x, .long a, .long d] (bM k om mth tq to wc wl wb wk kk kf ku ec ew ea ed et ex cc ca cl ch uc ut ub ul uw tt ac as) (p_M_sum om mth tq to wc wl wb wk kk kf ku ec ew ea ed et ex cc ca cl ch uc ut ub ul uw tt ac as x a d) (fun (u : Unit) => bM k om (nI 0) tq to wc wl wb wk kk kf ku ec ew ea ed et ex cc ca cl ch uc ut ub ul uw tt ac as) 0 0 := by
  intro sz
  refine xx_met (Qf := fun A => va_Ql (p_M_sum om mth tq to wc wl wb wk kk kf ku ec ew ea ed et ex cc ca cl ch uc ut ub ul uw tt ac as x a d) (xx_B D vwCl (xT k) A (fun (u : Unit) => bM k om (nI 0) tq to wc wl wb wk kk kf ku ec ew ea ed et ex cc ca cl ch uc ut ub ul uw tt ac as)) A) (cc := cX6_sum) (maxL := 7) (ret := (some .long)) (by decide) rfl (Nat.le_of_ble_eq_true rfl) ?_
  intro p e s m below meth c A ls hx hb hr hts hown hlocks hin hml hA hS hP hD hK hN hl
  have hl : lv_has ls 7 [(0, .ref (om 0)), (1, .long x), (3, .long a), (5, .long d)] := hl
  have hown : s.vm.findClass RX6 = some m.cls := hown
  have hinW := inX6
  refine lv_aload_n hx hb dX6_sum_0 rfl (lv_at hl 0 rfl) ?_
  refine lv_iconst (v := (nI 0)) hx hb dX6_sum_1 (by decide) ?_
  refine va_put (D := D) (ci := 6) (v := .int (nI 0)) (ty := .int) (C := RX6) (T := TX6) (N := 28) hx hb hts hinW tyX6 tyX6_ok nmX6 hown hK hP hD hS 0 rfl rfl 0 (by decide) (hts _ tw_376) (fun _ h9 => h9) rfl (by decide +kernel) rfl rfl (Nat.le_of_ble_eq_true rfl) dX6_sum_2 (fun H locs hP hD hS => ?_)
  have hP : va_P D vwCl (bM k om (nI 0) tq to wc wl wb wk kk kf ku ec ew ea ed et ex cc ca cl ch uc ut ub ul uw tt ac as) H := hP
  have hD : va_D A (bM k om (nI 0) tq to wc wl wb wk kk kf ku ec ew ea ed et ex cc ca cl ch uc ut ub ul uw tt ac as) := hD
  refine lv_lload_n hx hb dX6_sum_5 rfl (lv_at hl 1 rfl) ?_
  refine lv_lload_n hx hb dX6_sum_6 rfl (lv_at hl 2 rfl) ?_
  refine lv_lload hx hb dX6_sum_7 (lv_at hl 3 rfl) ?_
  refine xx_calll (bM k om (nI 0) tq to wc wl wb wk kk kf ku ec ew ea ed et ex cc ca cl ch uc ut ub ul uw tt ac as) [] [0, 1, 2, 3, 4, 5, 6, 7, 8, 9, 10, 11, 12, 13, 14, 15, 16, 17, 18, 19] (va_runS (As := [.long x, .long a, .long d]) (rest := []) ⟨hx, hb, hml, hown, hts⟩ (c_M_sumOf l D k x a d H.size) (va_cwS 3 hts (xx_gS tw_480 tw_481 tw_8 tw_482) rfl rfl rfl (by decide +kernel) ⟨Nat.le_of_ble_eq_true rfl, Nat.le_of_ble_eq_true rfl⟩) (xx_preS hK hN hP hD [] (by decide) rfl) rfl rfl hl.1 rfl (lv_room (Nat.le_of_ble_eq_true rfl)) dX6_sum_9 ⟨Nat.le_of_ble_eq_true rfl, Nat.le_of_ble_eq_true rfl⟩) hP hD hS hA rfl rfl (by decide) (by decide) (fun r9 u9 H locs hw9 hP hD hS => ?_)
  obtain rfl := hw9
  have hP : va_P D vwCl (bM k om (nI 0) tq to wc wl wb wk kk kf ku ec ew ea ed et ex cc ca cl ch uc ut ub ul uw tt ac as) H := hP
  have hD : va_D A (bM k om (nI 0) tq to wc wl wb wk kk kf ku ec ew ea ed et ex cc ca cl ch uc ut ub ul uw tt ac as) := hD
  refine xx_lret () hx hb hr hlocks hS hK hP hD dX6_sum_12 ?_
  exact rfl
def p_M_fits (om : Nat → Nat) (mth : Int32) (tq : Int32) (to : Bool) (wc : Nat) (wl : Nat → Int32) (wb : Nat → Bool) (wk : Nat → Nat) (kk : Nat → Int64) (kf : Nat → Int64) (ku : Nat → Int64) (ec : Nat) (ew : Nat → Nat) (ea : Nat → Int64) (ed : Nat → Int64) (et : Nat → Int64) (ex : Nat → Bool) (cc : Nat) (ca : Nat → Int64) (cl : Nat → Int32) (ch : Nat → Int32) (uc : Nat) (ut : Nat → Int32) (ub : Nat → Int32) (ul : Nat → Int32) (uw : Nat → Int32) (tt : Int64) (ac : Nat) (as : Nat → Int32) (w : Nat) (a : Int64) (d : Int64) (told : Int64) (tm : Int64) : Int32 → Unit → Prop := fun r u => xb r (∃ t, w * 4 ≤ t ∧ t < w * 4 + wk w ∧ (¬ (tm < kf t) ∧ ¬ (ku t ≤ tm) ∧ xs_sum (kk t) a d = told))
set_option maxHeartbeats 4000000 in
set_option maxRecDepth 100000 in
theorem c_M_fits (l : Launch) (D : va_G) (k : Nat → ClassId) (om : Nat → Nat) (mth : Int32) (tq : Int32) (to : Bool) (wc : Nat) (wl : Nat → Int32) (wb : Nat → Bool) (wk : Nat → Nat) (kk : Nat → Int64) (kf : Nat → Int64) (ku : Nat → Int64) (ec : Nat) (ew : Nat → Nat) (ea : Nat → Int64) (ed : Nat → Int64) (et : Nat → Int64) (ex : Nat → Bool) (cc : Nat) (ca : Nat → Int64) (cl : Nat → Int32) (ch : Nat → Int32) (uc : Nat) (ut : Nat → Int32) (ub : Nat → Int32) (ul : Nat → Int32) (uw : Nat → Int32) (tt : Int64) (ac : Nat) (as : Nat → Int32) (w : Nat) (a : Int64) (d : Int64) (told : Int64) (tm : Int64) (hwc : wc ≤ 12) (hw : w < wc) (hwk : ∀ i, wk i ≤ 4) : xx_Ci l yX6_fits (.code yX6_fits cX6_fits 13 (some .boolean) :: xall) ({ frames := 2, cells := 0, slots := 0, locals := 52 } : Room) D vwCl (xT k) [.ref (om 0), .int (nI w), .long a, .long d, .long told, .long tm] (bM k om mth tq to wc wl wb wk kk kf ku ec ew ea ed et ex cc ca cl ch uc ut ub ul uw tt ac as) (p_M_fits om mth tq to wc wl wb wk kk kf ku ec ew ea ed et ex cc ca cl ch uc ut ub ul uw tt ac as w a d told tm) (fun (u : Unit) => bM k om mth tq to wc wl wb wk kk kf ku ec ew ea ed et ex cc ca cl ch uc ut ub ul uw tt ac as) 0 0 := by
  intro sz
  refine xx_met (Qf := fun A => va_Qi (p_M_fits om mth tq to wc wl wb wk kk kf ku ec ew ea ed et ex cc ca cl ch uc ut ub ul uw tt ac as w a d told tm) (xx_B D vwCl (xT k) A (fun (u : Unit) => bM k om mth tq to wc wl wb wk kk kf ku ec ew ea ed et ex cc ca cl ch uc ut ub ul uw tt ac as)) A) (cc := cX6_fits) (maxL := 13) (ret := (some .boolean)) (by decide) rfl (Nat.le_of_ble_eq_true rfl) ?_
  intro p e s m below meth c A ls hx hb hr hts hown hlocks hin hml hA hS hP hD hK hN hl
  have hl : lv_has ls 13 [(0, .ref (om 0)), (1, .int (nI w)), (2, .long a), (4, .long d), (6, .long told), (8, .long tm)] := hl
  have hown : s.vm.findClass RX6 = some m.cls := hown
  have hinW := inX6
  have hk := hwk w
  refine lv_iconst (v := (nI 0)) hx hb dX6_fits_0 (by decide) ?_
  refine lv_istore (lv' := [(10, .int (nI 0)), (0, .ref (om 0)), (1, .int (nI w)), (2, .long a), (4, .long d), (6, .long told), (8, .long tm)]) hx hb dX6_fits_1 hl (by decide) rfl (fun ls hl => ?_)
  refine lv_iconst (v := (nI 4)) hx hb dX6_fits_3 (by decide) ?_
  refine lv_iload_n hx hb dX6_fits_4 rfl (lv_at hl 2 rfl) ?_
  refine lv_imul hx hb dX6_fits_5 ?_
  refine xx_topi (xx_mulc 4 w) ?_
  refine lv_istore (lv' := [(11, .int (nI (w * 4))), (10, .int (nI 0)), (0, .ref (om 0)), (1, .int (nI w)), (2, .long a), (4, .long d), (6, .long told), (8, .long tm)]) hx hb dX6_fits_6 hl (by decide) rfl (fun ls hl => ?_)
  have loop8 : ∀ (dd : Nat) (t : Nat) (v : Int32), (w * 4 + wk w) + 1 ≤ t + dd → (w * 4 ≤ t) → (t ≤ w * 4 + wk w) → (xb v (∃ z, w * 4 ≤ z ∧ z < t ∧ (¬ (tm < kf z) ∧ ¬ (ku z ≤ tm) ∧ xs_sum (kk z) a d = told))) → ∀ (H : Heap) (locs : List Loc) (ls : Array Slot), va_P D vwCl (bM k om mth tq to wc wl wb wk kk kf ku ec ew ea ed et ex cc ca cl ch uc ut ub ul uw tt ac as) H → va_D A (bM k om mth tq to wc wl wb wk kk kf ku ec ew ea ed et ex cc ca cl ch uc ut ub ul uw tt ac as) → va_S A s.heap H locs → lv_has ls 13 [(0, .ref (om 0)), (1, .int (nI w)), (2, .long a), (4, .long d), (6, .long told), (8, .long tm), (10, .int v), (11, .int (nI t))] → W p l e ({ frames := 2, cells := 0, slots := 0, locals := 52 } : Room) s m [.ref (om 0), .int (nI w), .long a, .long d, .long told, .long tm].toArray below meth c H locs 0 0 (MQ below (va_Qi (p_M_fits om mth tq to wc wl wb wk kk kf ku ec ew ea ed et ex cc ca cl ch uc ut ub ul uw tt ac as w a d told tm) (xx_B D vwCl (xT k) A (fun (u : Unit) => bM k om mth tq to wc wl wb wk kk kf ku ec ew ea ed et ex cc ca cl ch uc ut ub ul uw tt ac as)) A) [.ref (om 0), .int (nI w), .long a, .long d, .long told, .long tm].toArray s 0 0 A) (F0 m 8 ls []) := by
    intro dd
    induction dd with
    | zero =>
      intro t v hm h1 h2 h3
      exact absurd hm (by omega)
    | succ dd ih8 =>
      intro t v hm h1 h2 h3 H locs ls hP hD hS hl
      refine lv_iload hx hb dX6_fits_8 (lv_at hl 7 rfl) ?_
      refine lv_iconst (v := (nI 4)) hx hb dX6_fits_10 (by decide) ?_
      refine lv_iload_n hx hb dX6_fits_11 rfl (lv_at hl 1 rfl) ?_
      refine lv_imul hx hb dX6_fits_12 ?_
      refine xx_topi (xx_mulc 4 w) ?_
      refine lv_aload_n hx hb dX6_fits_13 rfl (lv_at hl 0 rfl) ?_
      refine va_get (D := D) (ci := 6) (v := .ref (om 3)) (C := RX6) (T := TX6) (N := 28) hx hb hts hinW hown hK hP 0 rfl rfl 6 (by decide) (hts _ tw_382) (fun _ h9 => h9) rfl dX6_fits_14 ?_
      refine lv_iload_n hx hb dX6_fits_17 rfl (lv_at hl 1 rfl) ?_
      refine xx_iald hx hb hK hP 3 0 rfl rfl (show w < 12 by omega) (by decide) dX6_fits_18 ?_
      refine lv_iadd hx hb dX6_fits_19 ?_
      refine xx_topi (nI_add (w * 4) (wk w)) ?_
      refine lv_icmp_ge (tgt := 98) hx hb dX6_fits_20 (by decide) (fun c20 => ?_) (fun c20 => ?_)
      · have c20 : (w * 4) + (wk w) ≤ t := (nI_leI (by omega) (by omega)).mp c20
        refine lv_iload hx hb dX6_fits_98 (lv_at hl 6 rfl) ?_
        refine xx_zret () hx hb hr hlocks (xb_nar h3) hS hK hP hD dX6_fits_100 ?_
        have e9 : t = w * 4 + wk w := (by omega)
        subst e9
        exact h3
      · have c20 : t < (w * 4) + (wk w) := Nat.lt_of_not_le (fun h => c20 ((nI_leI (by omega) (by omega)).mpr h))
        refine lv_aload_n hx hb dX6_fits_23 rfl (lv_at hl 0 rfl) ?_
        refine va_get (D := D) (ci := 6) (v := .ref (om 5)) (C := RX6) (T := TX6) (N := 28) hx hb hts hinW hown hK hP 0 rfl rfl 8 (by decide) (hts _ tw_384) (fun _ h9 => h9) rfl dX6_fits_24 ?_
        refine lv_iload hx hb dX6_fits_27 (lv_at hl 7 rfl) ?_
        refine xx_lald hx hb hK hP 5 2 rfl rfl (show t < 48 by omega) (by decide) dX6_fits_29 ?_
        refine lv_lload hx hb dX6_fits_30 (lv_at hl 5 rfl) ?_
        refine W.lcmp hx hb dX6_fits_32 ?_
        refine lv_if_gt (tgt := 53) hx hb dX6_fits_33 (by decide) (fun c33 => ?_) (fun c33 => ?_)
        · have c33 : tm < (kf t) := (lg_cmp_gt (kf t) tm).mp c33
          refine lv_iconst (v := (nI 0)) hx hb dX6_fits_53 (by decide) ?_
          refine lv_istore (lv' := [(12, .int (nI 0)), (0, .ref (om 0)), (1, .int (nI w)), (2, .long a), (4, .long d), (6, .long told), (8, .long tm), (10, .int v), (11, .int (nI t))]) hx hb dX6_fits_54 hl (by decide) rfl (fun ls hl => ?_)
          refine lv_iload hx hb dX6_fits_56 (lv_at hl 7 rfl) ?_
          refine lv_if_ne (tgt := 85) hx hb dX6_fits_58 (by decide) (fun c58 => ?_) (fun c58 => ?_)
          · refine lv_iconst (v := (nI 1)) hx hb dX6_fits_85 (by decide) ?_
            refine lv_goto (tgt := 90) hx hb dX6_fits_86 (by decide) ?_
            refine lv_istore (lv' := [(10, .int (nI 1)), (12, .int (nI 0)), (0, .ref (om 0)), (1, .int (nI w)), (2, .long a), (4, .long d), (6, .long told), (8, .long tm), (11, .int (nI t))]) hx hb dX6_fits_90 hl (by decide) rfl (fun ls hl => ?_)
            refine lv_iinc (v := (nI (t + 1))) (lv' := [(11, .int (nI (t + 1))), (10, .int (nI 1)), (12, .int (nI 0)), (0, .ref (om 0)), (1, .int (nI w)), (2, .long a), (4, .long d), (6, .long told), (8, .long tm)]) hx hb dX6_fits_92 hl (k := 8) rfl (nI_1 t) (by decide) rfl (fun ls hl => ?_)
            refine lv_goto (tgt := 8) hx hb dX6_fits_95 (by decide) ?_
            exact ih8 (t + 1) (nI 1) (by omega) (by omega) (by omega) (by first | exact xb_t (xa_old (xb_pos h3 c58)) | exact xb_t (xa_new (C := fun z => ¬ (tm < kf z) ∧ ¬ (ku z ≤ tm) ∧ xs_sum (kk z) a d = told) h1 ⟨c33, c46, c82⟩) | exact xb_f (xa_not (C := fun z => ¬ (tm < kf z) ∧ ¬ (ku z ≤ tm) ∧ xs_sum (kk z) a d = told) (xb_neg h3 c58) (fun h => h.1 c33)) | exact xb_f (xa_not (C := fun z => ¬ (tm < kf z) ∧ ¬ (ku z ≤ tm) ∧ xs_sum (kk z) a d = told) (xb_neg h3 c58) (fun h => h.2.1 c46)) | exact xb_f (xa_not (C := fun z => ¬ (tm < kf z) ∧ ¬ (ku z ≤ tm) ∧ xs_sum (kk z) a d = told) (xb_neg h3 c58) (fun h => c82 h.2.2))) H locs ls hP hD hS (lv_sub hl [3, 4, 5, 6, 7, 8, 1, 0] rfl)
          · refine lv_iload hx hb dX6_fits_61 (lv_at hl 0 rfl) ?_
            refine lv_if_eq (tgt := 89) hx hb dX6_fits_63 (by decide) (fun _ => ?_) (fun c => absurd c (by decide))
            refine lv_iconst (v := (nI 0)) hx hb dX6_fits_89 (by decide) ?_
            refine lv_istore (lv' := [(10, .int (nI 0)), (12, .int (nI 0)), (0, .ref (om 0)), (1, .int (nI w)), (2, .long a), (4, .long d), (6, .long told), (8, .long tm), (11, .int (nI t))]) hx hb dX6_fits_90 hl (by decide) rfl (fun ls hl => ?_)
            refine lv_iinc (v := (nI (t + 1))) (lv' := [(11, .int (nI (t + 1))), (10, .int (nI 0)), (12, .int (nI 0)), (0, .ref (om 0)), (1, .int (nI w)), (2, .long a), (4, .long d), (6, .long told), (8, .long tm)]) hx hb dX6_fits_92 hl (k := 8) rfl (nI_1 t) (by decide) rfl (fun ls hl => ?_)
            refine lv_goto (tgt := 8) hx hb dX6_fits_95 (by decide) ?_
            exact ih8 (t + 1) (nI 0) (by omega) (by omega) (by omega) (by first | exact xb_t (xa_old (xb_pos h3 c58)) | exact xb_t (xa_new (C := fun z => ¬ (tm < kf z) ∧ ¬ (ku z ≤ tm) ∧ xs_sum (kk z) a d = told) h1 ⟨c33, c46, c82⟩) | exact xb_f (xa_not (C := fun z => ¬ (tm < kf z) ∧ ¬ (ku z ≤ tm) ∧ xs_sum (kk z) a d = told) (xb_neg h3 c58) (fun h => h.1 c33)) | exact xb_f (xa_not (C := fun z => ¬ (tm < kf z) ∧ ¬ (ku z ≤ tm) ∧ xs_sum (kk z) a d = told) (xb_neg h3 c58) (fun h => h.2.1 c46)) | exact xb_f (xa_not (C := fun z => ¬ (tm < kf z) ∧ ¬ (ku z ≤ tm) ∧ xs_sum (kk z) a d = told) (xb_neg h3 c58) (fun h => c82 h.2.2))) H locs ls hP hD hS (lv_sub hl [3, 4, 5, 6, 7, 8, 1, 0] rfl)
        · have c33 : ¬ (tm < (kf t)) := fun h => c33 ((lg_cmp_gt (kf t) tm).mpr h)
          refine lv_lload hx hb dX6_fits_36 (lv_at hl 5 rfl) ?_
          refine lv_aload_n hx hb dX6_fits_38 rfl (lv_at hl 0 rfl) ?_
          refine va_get (D := D) (ci := 6) (v := .ref (om 6)) (C := RX6) (T := TX6) (N := 28) hx hb hts hinW hown hK hP 0 rfl rfl 9 (by decide) (hts _ tw_385) (fun _ h9 => h9) rfl dX6_fits_39 ?_
          refine lv_iload hx hb dX6_fits_42 (lv_at hl 7 rfl) ?_
          refine xx_lald hx hb hK hP 6 2 rfl rfl (show t < 48 by omega) (by decide) dX6_fits_44 ?_
          refine W.lcmp hx hb dX6_fits_45 ?_
          refine lv_if_ge (tgt := 53) hx hb dX6_fits_46 (by decide) (fun c46 => ?_) (fun c46 => ?_)
          · have c46 : (ku t) ≤ tm := (lg_cmp_ge tm (ku t)).mp c46
            refine lv_iconst (v := (nI 0)) hx hb dX6_fits_53 (by decide) ?_
            refine lv_istore (lv' := [(12, .int (nI 0)), (0, .ref (om 0)), (1, .int (nI w)), (2, .long a), (4, .long d), (6, .long told), (8, .long tm), (10, .int v), (11, .int (nI t))]) hx hb dX6_fits_54 hl (by decide) rfl (fun ls hl => ?_)
            refine lv_iload hx hb dX6_fits_56 (lv_at hl 7 rfl) ?_
            refine lv_if_ne (tgt := 85) hx hb dX6_fits_58 (by decide) (fun c58 => ?_) (fun c58 => ?_)
            · refine lv_iconst (v := (nI 1)) hx hb dX6_fits_85 (by decide) ?_
              refine lv_goto (tgt := 90) hx hb dX6_fits_86 (by decide) ?_
              refine lv_istore (lv' := [(10, .int (nI 1)), (12, .int (nI 0)), (0, .ref (om 0)), (1, .int (nI w)), (2, .long a), (4, .long d), (6, .long told), (8, .long tm), (11, .int (nI t))]) hx hb dX6_fits_90 hl (by decide) rfl (fun ls hl => ?_)
              refine lv_iinc (v := (nI (t + 1))) (lv' := [(11, .int (nI (t + 1))), (10, .int (nI 1)), (12, .int (nI 0)), (0, .ref (om 0)), (1, .int (nI w)), (2, .long a), (4, .long d), (6, .long told), (8, .long tm)]) hx hb dX6_fits_92 hl (k := 8) rfl (nI_1 t) (by decide) rfl (fun ls hl => ?_)
              refine lv_goto (tgt := 8) hx hb dX6_fits_95 (by decide) ?_
              exact ih8 (t + 1) (nI 1) (by omega) (by omega) (by omega) (by first | exact xb_t (xa_old (xb_pos h3 c58)) | exact xb_t (xa_new (C := fun z => ¬ (tm < kf z) ∧ ¬ (ku z ≤ tm) ∧ xs_sum (kk z) a d = told) h1 ⟨c33, c46, c82⟩) | exact xb_f (xa_not (C := fun z => ¬ (tm < kf z) ∧ ¬ (ku z ≤ tm) ∧ xs_sum (kk z) a d = told) (xb_neg h3 c58) (fun h => h.1 c33)) | exact xb_f (xa_not (C := fun z => ¬ (tm < kf z) ∧ ¬ (ku z ≤ tm) ∧ xs_sum (kk z) a d = told) (xb_neg h3 c58) (fun h => h.2.1 c46)) | exact xb_f (xa_not (C := fun z => ¬ (tm < kf z) ∧ ¬ (ku z ≤ tm) ∧ xs_sum (kk z) a d = told) (xb_neg h3 c58) (fun h => c82 h.2.2))) H locs ls hP hD hS (lv_sub hl [3, 4, 5, 6, 7, 8, 1, 0] rfl)
            · refine lv_iload hx hb dX6_fits_61 (lv_at hl 0 rfl) ?_
              refine lv_if_eq (tgt := 89) hx hb dX6_fits_63 (by decide) (fun _ => ?_) (fun c => absurd c (by decide))
              refine lv_iconst (v := (nI 0)) hx hb dX6_fits_89 (by decide) ?_
              refine lv_istore (lv' := [(10, .int (nI 0)), (12, .int (nI 0)), (0, .ref (om 0)), (1, .int (nI w)), (2, .long a), (4, .long d), (6, .long told), (8, .long tm), (11, .int (nI t))]) hx hb dX6_fits_90 hl (by decide) rfl (fun ls hl => ?_)
              refine lv_iinc (v := (nI (t + 1))) (lv' := [(11, .int (nI (t + 1))), (10, .int (nI 0)), (12, .int (nI 0)), (0, .ref (om 0)), (1, .int (nI w)), (2, .long a), (4, .long d), (6, .long told), (8, .long tm)]) hx hb dX6_fits_92 hl (k := 8) rfl (nI_1 t) (by decide) rfl (fun ls hl => ?_)
              refine lv_goto (tgt := 8) hx hb dX6_fits_95 (by decide) ?_
              exact ih8 (t + 1) (nI 0) (by omega) (by omega) (by omega) (by first | exact xb_t (xa_old (xb_pos h3 c58)) | exact xb_t (xa_new (C := fun z => ¬ (tm < kf z) ∧ ¬ (ku z ≤ tm) ∧ xs_sum (kk z) a d = told) h1 ⟨c33, c46, c82⟩) | exact xb_f (xa_not (C := fun z => ¬ (tm < kf z) ∧ ¬ (ku z ≤ tm) ∧ xs_sum (kk z) a d = told) (xb_neg h3 c58) (fun h => h.1 c33)) | exact xb_f (xa_not (C := fun z => ¬ (tm < kf z) ∧ ¬ (ku z ≤ tm) ∧ xs_sum (kk z) a d = told) (xb_neg h3 c58) (fun h => h.2.1 c46)) | exact xb_f (xa_not (C := fun z => ¬ (tm < kf z) ∧ ¬ (ku z ≤ tm) ∧ xs_sum (kk z) a d = told) (xb_neg h3 c58) (fun h => c82 h.2.2))) H locs ls hP hD hS (lv_sub hl [3, 4, 5, 6, 7, 8, 1, 0] rfl)
          · have c46 : ¬ ((ku t) ≤ tm) := fun h => c46 ((lg_cmp_ge tm (ku t)).mpr h)
            refine lv_iconst (v := (nI 1)) hx hb dX6_fits_49 (by decide) ?_
            refine lv_goto (tgt := 54) hx hb dX6_fits_50 (by decide) ?_
            refine lv_istore (lv' := [(12, .int (nI 1)), (0, .ref (om 0)), (1, .int (nI w)), (2, .long a), (4, .long d), (6, .long told), (8, .long tm), (10, .int v), (11, .int (nI t))]) hx hb dX6_fits_54 hl (by decide) rfl (fun ls hl => ?_)
            refine lv_iload hx hb dX6_fits_56 (lv_at hl 7 rfl) ?_
            refine lv_if_ne (tgt := 85) hx hb dX6_fits_58 (by decide) (fun c58 => ?_) (fun c58 => ?_)
            · refine lv_iconst (v := (nI 1)) hx hb dX6_fits_85 (by decide) ?_
              refine lv_goto (tgt := 90) hx hb dX6_fits_86 (by decide) ?_
              refine lv_istore (lv' := [(10, .int (nI 1)), (12, .int (nI 1)), (0, .ref (om 0)), (1, .int (nI w)), (2, .long a), (4, .long d), (6, .long told), (8, .long tm), (11, .int (nI t))]) hx hb dX6_fits_90 hl (by decide) rfl (fun ls hl => ?_)
              refine lv_iinc (v := (nI (t + 1))) (lv' := [(11, .int (nI (t + 1))), (10, .int (nI 1)), (12, .int (nI 1)), (0, .ref (om 0)), (1, .int (nI w)), (2, .long a), (4, .long d), (6, .long told), (8, .long tm)]) hx hb dX6_fits_92 hl (k := 8) rfl (nI_1 t) (by decide) rfl (fun ls hl => ?_)
              refine lv_goto (tgt := 8) hx hb dX6_fits_95 (by decide) ?_
              exact ih8 (t + 1) (nI 1) (by omega) (by omega) (by omega) (by first | exact xb_t (xa_old (xb_pos h3 c58)) | exact xb_t (xa_new (C := fun z => ¬ (tm < kf z) ∧ ¬ (ku z ≤ tm) ∧ xs_sum (kk z) a d = told) h1 ⟨c33, c46, c82⟩) | exact xb_f (xa_not (C := fun z => ¬ (tm < kf z) ∧ ¬ (ku z ≤ tm) ∧ xs_sum (kk z) a d = told) (xb_neg h3 c58) (fun h => h.1 c33)) | exact xb_f (xa_not (C := fun z => ¬ (tm < kf z) ∧ ¬ (ku z ≤ tm) ∧ xs_sum (kk z) a d = told) (xb_neg h3 c58) (fun h => h.2.1 c46)) | exact xb_f (xa_not (C := fun z => ¬ (tm < kf z) ∧ ¬ (ku z ≤ tm) ∧ xs_sum (kk z) a d = told) (xb_neg h3 c58) (fun h => c82 h.2.2))) H locs ls hP hD hS (lv_sub hl [3, 4, 5, 6, 7, 8, 1, 0] rfl)
            · refine lv_iload hx hb dX6_fits_61 (lv_at hl 0 rfl) ?_
              refine lv_if_eq (tgt := 89) hx hb dX6_fits_63 (by decide) (fun c => absurd c (by decide)) (fun _ => ?_)
              refine lv_aload_n hx hb dX6_fits_66 rfl (lv_at hl 1 rfl) ?_
              refine va_get (D := D) (ci := 6) (v := .ref (om 4)) (C := RX6) (T := TX6) (N := 28) hx hb hts hinW hown hK hP 0 rfl rfl 7 (by decide) (hts _ tw_383) (fun _ h9 => h9) rfl dX6_fits_67 ?_
              refine lv_iload hx hb dX6_fits_70 (lv_at hl 8 rfl) ?_
              refine xx_lald hx hb hK hP 4 2 rfl rfl (show t < 48 by omega) (by decide) dX6_fits_72 ?_
              refine lv_lload_n hx hb dX6_fits_73 rfl (lv_at hl 3 rfl) ?_
              refine lv_lload hx hb dX6_fits_74 (lv_at hl 4 rfl) ?_
              refine xx_calll (bM k om mth tq to wc wl wb wk kk kf ku ec ew ea ed et ex cc ca cl ch uc ut ub ul uw tt ac as) [] [0, 1, 2, 3, 4, 5, 6, 7, 8, 9, 10, 11, 12, 13, 14, 15, 16, 17, 18, 19] (va_runS (As := [.long (kk t), .long a, .long d]) (rest := []) ⟨hx, hb, hml, hown, hts⟩ (c_M_sumOf l D k (kk t) a d H.size) (va_cwS 3 hts (xx_gS tw_480 tw_481 tw_8 tw_482) rfl rfl rfl (by decide +kernel) ⟨Nat.le_of_ble_eq_true rfl, Nat.le_of_ble_eq_true rfl⟩) (xx_preS hK hN hP hD [] (by decide) rfl) rfl rfl hl.1 rfl (lv_room (Nat.le_of_ble_eq_true rfl)) dX6_fits_76 ⟨Nat.le_of_ble_eq_true rfl, Nat.le_of_ble_eq_true rfl⟩) hP hD hS hA rfl rfl (by decide) (by decide) (fun r76 u76 H locs hw76 hP hD hS => ?_)
              obtain rfl := hw76
              have hP : va_P D vwCl (bM k om mth tq to wc wl wb wk kk kf ku ec ew ea ed et ex cc ca cl ch uc ut ub ul uw tt ac as) H := hP
              have hD : va_D A (bM k om mth tq to wc wl wb wk kk kf ku ec ew ea ed et ex cc ca cl ch uc ut ub ul uw tt ac as) := hD
              refine lv_lload hx hb dX6_fits_79 (lv_at hl 5 rfl) ?_
              refine W.lcmp hx hb dX6_fits_81 ?_
              refine lv_if_ne (tgt := 89) hx hb dX6_fits_82 (by decide) (fun c82 => ?_) (fun c82 => ?_)
              · have c82 : ¬ ((xs_sum (kk t) a d) = told) := fun h => c82 ((lg_cmp_eq (xs_sum (kk t) a d) told).mpr h)
                refine lv_iconst (v := (nI 0)) hx hb dX6_fits_89 (by decide) ?_
                refine lv_istore (lv' := [(10, .int (nI 0)), (12, .int (nI 1)), (0, .ref (om 0)), (1, .int (nI w)), (2, .long a), (4, .long d), (6, .long told), (8, .long tm), (11, .int (nI t))]) hx hb dX6_fits_90 hl (by decide) rfl (fun ls hl => ?_)
                refine lv_iinc (v := (nI (t + 1))) (lv' := [(11, .int (nI (t + 1))), (10, .int (nI 0)), (12, .int (nI 1)), (0, .ref (om 0)), (1, .int (nI w)), (2, .long a), (4, .long d), (6, .long told), (8, .long tm)]) hx hb dX6_fits_92 hl (k := 8) rfl (nI_1 t) (by decide) rfl (fun ls hl => ?_)
                refine lv_goto (tgt := 8) hx hb dX6_fits_95 (by decide) ?_
                exact ih8 (t + 1) (nI 0) (by omega) (by omega) (by omega) (by first | exact xb_t (xa_old (xb_pos h3 c58)) | exact xb_t (xa_new (C := fun z => ¬ (tm < kf z) ∧ ¬ (ku z ≤ tm) ∧ xs_sum (kk z) a d = told) h1 ⟨c33, c46, c82⟩) | exact xb_f (xa_not (C := fun z => ¬ (tm < kf z) ∧ ¬ (ku z ≤ tm) ∧ xs_sum (kk z) a d = told) (xb_neg h3 c58) (fun h => h.1 c33)) | exact xb_f (xa_not (C := fun z => ¬ (tm < kf z) ∧ ¬ (ku z ≤ tm) ∧ xs_sum (kk z) a d = told) (xb_neg h3 c58) (fun h => h.2.1 c46)) | exact xb_f (xa_not (C := fun z => ¬ (tm < kf z) ∧ ¬ (ku z ≤ tm) ∧ xs_sum (kk z) a d = told) (xb_neg h3 c58) (fun h => c82 h.2.2))) H locs ls hP hD hS (lv_sub hl [3, 4, 5, 6, 7, 8, 1, 0] rfl)
              · have c82 : (xs_sum (kk t) a d) = told := (lg_cmp_eq (xs_sum (kk t) a d) told).mp c82
                refine lv_iconst (v := (nI 1)) hx hb dX6_fits_85 (by decide) ?_
                refine lv_goto (tgt := 90) hx hb dX6_fits_86 (by decide) ?_
                refine lv_istore (lv' := [(10, .int (nI 1)), (12, .int (nI 1)), (0, .ref (om 0)), (1, .int (nI w)), (2, .long a), (4, .long d), (6, .long told), (8, .long tm), (11, .int (nI t))]) hx hb dX6_fits_90 hl (by decide) rfl (fun ls hl => ?_)
                refine lv_iinc (v := (nI (t + 1))) (lv' := [(11, .int (nI (t + 1))), (10, .int (nI 1)), (12, .int (nI 1)), (0, .ref (om 0)), (1, .int (nI w)), (2, .long a), (4, .long d), (6, .long told), (8, .long tm)]) hx hb dX6_fits_92 hl (k := 8) rfl (nI_1 t) (by decide) rfl (fun ls hl => ?_)
                refine lv_goto (tgt := 8) hx hb dX6_fits_95 (by decide) ?_
                exact ih8 (t + 1) (nI 1) (by omega) (by omega) (by omega) (by first | exact xb_t (xa_old (xb_pos h3 c58)) | exact xb_t (xa_new (C := fun z => ¬ (tm < kf z) ∧ ¬ (ku z ≤ tm) ∧ xs_sum (kk z) a d = told) h1 ⟨c33, c46, c82⟩) | exact xb_f (xa_not (C := fun z => ¬ (tm < kf z) ∧ ¬ (ku z ≤ tm) ∧ xs_sum (kk z) a d = told) (xb_neg h3 c58) (fun h => h.1 c33)) | exact xb_f (xa_not (C := fun z => ¬ (tm < kf z) ∧ ¬ (ku z ≤ tm) ∧ xs_sum (kk z) a d = told) (xb_neg h3 c58) (fun h => h.2.1 c46)) | exact xb_f (xa_not (C := fun z => ¬ (tm < kf z) ∧ ¬ (ku z ≤ tm) ∧ xs_sum (kk z) a d = told) (xb_neg h3 c58) (fun h => c82 h.2.2))) H locs ls hP hD hS (lv_sub hl [3, 4, 5, 6, 7, 8, 1, 0] rfl)
  exact loop8 ((w * 4 + wk w) + 1) (w * 4) (nI 0) (by omega) (by omega) (by omega) (by exact xb_f (fun ⟨z, z1, z2, z3⟩ => absurd z2 (by omega))) s.heap _ ls hP hD hS (lv_sub hl [2, 3, 4, 5, 6, 7, 1, 0] rfl)
