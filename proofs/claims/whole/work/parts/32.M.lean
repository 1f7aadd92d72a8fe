theorem dX6_worth_0 : decode cX6_worth 0 = .ok (.aload_n 0, 1) := by decide +kernel
theorem dX6_worth_1 : decode cX6_worth 1 = .ok (.getfield 54, 3) := by decide +kernel
theorem dX6_worth_4 : decode cX6_worth 4 = .ok (.iload_n 1, 1) := by decide +kernel
theorem dX6_worth_5 : decode cX6_worth 5 = .ok (.iaload, 1) := by decide +kernel
theorem dX6_worth_6 : decode cX6_worth 6 = .ok (.iconst (-1), 1) := by decide +kernel
theorem dX6_worth_7 : decode cX6_worth 7 = .ok (.if_icmp .eq 13, 3) := by decide +kernel
theorem dX6_worth_10 : decode cX6_worth 10 = .ok (.aload_n 0, 1) := by decide +kernel
theorem dX6_worth_11 : decode cX6_worth 11 = .ok (.getfield 54, 3) := by decide +kernel
theorem dX6_worth_14 : decode cX6_worth 14 = .ok (.iload_n 1, 1) := by decide +kernel
theorem dX6_worth_15 : decode cX6_worth 15 = .ok (.iaload, 1) := by decide +kernel
theorem dX6_worth_16 : decode cX6_worth 16 = .ok (.iload_n 2, 1) := by decide +kernel
theorem dX6_worth_17 : decode cX6_worth 17 = .ok (.if_icmp .ne 7, 3) := by decide +kernel
theorem dX6_worth_20 : decode cX6_worth 20 = .ok (.iconst 1, 1) := by decide +kernel
theorem dX6_worth_21 : decode cX6_worth 21 = .ok (.goto 4, 3) := by decide +kernel
theorem dX6_worth_24 : decode cX6_worth 24 = .ok (.iconst 0, 1) := by decide +kernel
theorem dX6_worth_25 : decode cX6_worth 25 = .ok (.istore 4, 2) := by decide +kernel
theorem dX6_worth_27 : decode cX6_worth 27 = .ok (.aload_n 0, 1) := by decide +kernel
theorem dX6_worth_28 : decode cX6_worth 28 = .ok (.getfield 57, 3) := by decide +kernel
theorem dX6_worth_31 : decode cX6_worth 31 = .ok (.iload_n 1, 1) := by decide +kernel
theorem dX6_worth_32 : decode cX6_worth 32 = .ok (.iaload, 1) := by decide +kernel
theorem dX6_worth_33 : decode cX6_worth 33 = .ok (.iconst (-1), 1) := by decide +kernel
theorem dX6_worth_34 : decode cX6_worth 34 = .ok (.if_icmp .eq 13, 3) := by decide +kernel
theorem dX6_worth_37 : decode cX6_worth 37 = .ok (.aload_n 0, 1) := by decide +kernel
theorem dX6_worth_38 : decode cX6_worth 38 = .ok (.getfield 57, 3) := by decide +kernel
theorem dX6_worth_41 : decode cX6_worth 41 = .ok (.iload_n 1, 1) := by decide +kernel
theorem dX6_worth_42 : decode cX6_worth 42 = .ok (.iaload, 1) := by decide +kernel
theorem dX6_worth_43 : decode cX6_worth 43 = .ok (.iload_n 3, 1) := by decide +kernel
theorem dX6_worth_44 : decode cX6_worth 44 = .ok (.if_icmp .ne 7, 3) := by decide +kernel
theorem dX6_worth_47 : decode cX6_worth 47 = .ok (.iconst 1, 1) := by decide +kernel
theorem dX6_worth_48 : decode cX6_worth 48 = .ok (.goto 4, 3) := by decide +kernel
theorem dX6_worth_51 : decode cX6_worth 51 = .ok (.iconst 0, 1) := by decide +kernel
theorem dX6_worth_52 : decode cX6_worth 52 = .ok (.istore 5, 2) := by decide +kernel
theorem dX6_worth_54 : decode cX6_worth 54 = .ok (.iload 4, 2) := by decide +kernel
theorem dX6_worth_56 : decode cX6_worth 56 = .ok (.ifCond .eq 8, 3) := by decide +kernel
theorem dX6_worth_59 : decode cX6_worth 59 = .ok (.iload 5, 2) := by decide +kernel
theorem dX6_worth_61 : decode cX6_worth 61 = .ok (.ifCond .ne 5, 3) := by decide +kernel
theorem dX6_worth_64 : decode cX6_worth 64 = .ok (.iconst (-1), 1) := by decide +kernel
theorem dX6_worth_65 : decode cX6_worth 65 = .ok (.ireturn, 1) := by decide +kernel
theorem dX6_worth_66 : decode cX6_worth 66 = .ok (.aload_n 0, 1) := by decide +kernel
theorem dX6_worth_67 : decode cX6_worth 67 = .ok (.getfield 54, 3) := by decide +kernel
theorem dX6_worth_70 : decode cX6_worth 70 = .ok (.iload_n 1, 1) := by decide +kernel
theorem dX6_worth_71 : decode cX6_worth 71 = .ok (.iaload, 1) := by decide +kernel
theorem dX6_worth_72 : decode cX6_worth 72 = .ok (.iconst (-1), 1) := by decide +kernel
theorem dX6_worth_73 : decode cX6_worth 73 = .ok (.if_icmp .ne 7, 3) := by decide +kernel
theorem dX6_worth_76 : decode cX6_worth 76 = .ok (.iconst 0, 1) := by decide +kernel
theorem dX6_worth_77 : decode cX6_worth 77 = .ok (.goto 4, 3) := by decide +kernel
theorem dX6_worth_80 : decode cX6_worth 80 = .ok (.iconst 2, 1) := by decide +kernel
theorem dX6_worth_81 : decode cX6_worth 81 = .ok (.aload_n 0, 1) := by decide +kernel
theorem dX6_worth_82 : decode cX6_worth 82 = .ok (.getfield 57, 3) := by decide +kernel
theorem dX6_worth_85 : decode cX6_worth 85 = .ok (.iload_n 1, 1) := by decide +kernel
theorem dX6_worth_86 : decode cX6_worth 86 = .ok (.iaload, 1) := by decide +kernel
theorem dX6_worth_87 : decode cX6_worth 87 = .ok (.iconst (-1), 1) := by decide +kernel
theorem dX6_worth_88 : decode cX6_worth 88 = .ok (.if_icmp .ne 7, 3) := by decide +kernel
theorem dX6_worth_91 : decode cX6_worth 91 = .ok (.iconst 0, 1) := by decide +kernel
theorem dX6_worth_92 : decode cX6_worth 92 = .ok (.goto 4, 3) := by decide +kernel
theorem dX6_worth_95 : decode cX6_worth 95 = .ok (.iconst 1, 1) := by decide +kernel
theorem dX6_worth_96 : decode cX6_worth 96 = .ok (.iadd, 1) := by decide +kernel
theorem dX6_worth_97 : decode cX6_worth 97 = .ok (.ireturn, 1) := by decide +kernel
theorem dX6_ruleOf_0 : decode cX6_ruleOf 0 = .ok (.iconst (-1), 1) := by decide +kernel
theorem dX6_ruleOf_1 : decode cX6_ruleOf 1 = .ok (.istore_n 3, 1) := by decide +kernel
theorem dX6_ruleOf_2 : decode cX6_ruleOf 2 = .ok (.iconst 0, 1) := by decide +kernel
theorem dX6_ruleOf_3 : decode cX6_ruleOf 3 = .ok (.istore 4, 2) := by decide +kernel
theorem dX6_ruleOf_5 : decode cX6_ruleOf 5 = .ok (.iload 4, 2) := by decide +kernel
theorem dX6_ruleOf_7 : decode cX6_ruleOf 7 = .ok (.aload_n 0, 1) := by decide +kernel
theorem dX6_ruleOf_8 : decode cX6_ruleOf 8 = .ok (.getfield 121, 3) := by decide +kernel
theorem dX6_ruleOf_11 : decode cX6_ruleOf 11 = .ok (.if_icmp .ge 44, 3) := by decide +kernel
theorem dX6_ruleOf_14 : decode cX6_ruleOf 14 = .ok (.aload_n 0, 1) := by decide +kernel
theorem dX6_ruleOf_15 : decode cX6_ruleOf 15 = .ok (.iload 4, 2) := by decide +kernel
theorem dX6_ruleOf_17 : decode cX6_ruleOf 17 = .ok (.iload_n 1, 1) := by decide +kernel
theorem dX6_ruleOf_18 : decode cX6_ruleOf 18 = .ok (.iload_n 2, 1) := by decide +kernel
theorem dX6_ruleOf_19 : decode cX6_ruleOf 19 = .ok (.invokevirtual 124, 3) := by decide +kernel
theorem dX6_ruleOf_22 : decode cX6_ruleOf 22 = .ok (.istore 5, 2) := by decide +kernel
theorem dX6_ruleOf_24 : decode cX6_ruleOf 24 = .ok (.iload 5, 2) := by decide +kernel
theorem dX6_ruleOf_26 : decode cX6_ruleOf 26 = .ok (.ifCond .lt 23, 3) := by decide +kernel
theorem dX6_ruleOf_29 : decode cX6_ruleOf 29 = .ok (.iload_n 3, 1) := by decide +kernel
theorem dX6_ruleOf_30 : decode cX6_ruleOf 30 = .ok (.iconst (-1), 1) := by decide +kernel
theorem dX6_ruleOf_31 : decode cX6_ruleOf 31 = .ok (.if_icmp .eq 15, 3) := by decide +kernel
theorem dX6_ruleOf_34 : decode cX6_ruleOf 34 = .ok (.iload 5, 2) := by decide +kernel
theorem dX6_ruleOf_36 : decode cX6_ruleOf 36 = .ok (.aload_n 0, 1) := by decide +kernel
theorem dX6_ruleOf_37 : decode cX6_ruleOf 37 = .ok (.iload_n 3, 1) := by decide +kernel
theorem dX6_ruleOf_38 : decode cX6_ruleOf 38 = .ok (.iload_n 1, 1) := by decide +kernel
theorem dX6_ruleOf_39 : decode cX6_ruleOf 39 = .ok (.iload_n 2, 1) := by decide +kernel
theorem dX6_ruleOf_40 : decode cX6_ruleOf 40 = .ok (.invokevirtual 124, 3) := by decide +kernel
theorem dX6_ruleOf_43 : decode cX6_ruleOf 43 = .ok (.if_icmp .lt 6, 3) := by decide +kernel
theorem dX6_ruleOf_46 : decode cX6_ruleOf 46 = .ok (.iload 4, 2) := by decide +kernel
theorem dX6_ruleOf_48 : decode cX6_ruleOf 48 = .ok (.istore_n 3, 1) := by decide +kernel
theorem dX6_ruleOf_49 : decode cX6_ruleOf 49 = .ok (.iinc 4 1, 3) := by decide +kernel
theorem dX6_ruleOf_52 : decode cX6_ruleOf 52 = .ok (.goto (-47), 3) := by decide +kernel
theorem dX6_ruleOf_55 : decode cX6_ruleOf 55 = .ok (.iload_n 3, 1) := by decide +kernel
theorem dX6_ruleOf_56 : decode cX6_ruleOf 56 = .ok (.ireturn, 1) := by decide +kernel
theorem dX6_isPlace_0 : decode cX6_isPlace 0 = .ok (.iload_n 0, 1) := by decide +kernel
theorem dX6_isPlace_1 : decode cX6_isPlace 1 = .ok (.iconst 0, 1) := by decide +kernel
theorem dX6_isPlace_2 : decode cX6_isPlace 2 = .ok (.bipush 7, 2) := by decide +kernel
theorem dX6_isPlace_4 : decode cX6_isPlace 4 = .ok (.invokestatic 79, 3) := by decide +kernel
theorem dX6_isPlace_7 : decode cX6_isPlace 7 = .ok (.ifCond .eq 17, 3) := by decide +kernel
theorem dX6_isPlace_10 : decode cX6_isPlace 10 = .ok (.iload_n 1, 1) := by decide +kernel
theorem dX6_isPlace_11 : decode cX6_isPlace 11 = .ok (.iconst 0, 1) := by decide +kernel
theorem dX6_isPlace_12 : decode cX6_isPlace 12 = .ok (.bipush 7, 2) := by decide +kernel
theorem dX6_isPlace_14 : decode cX6_isPlace 14 = .ok (.invokestatic 79, 3) := by decide +kernel
theorem dX6_isPlace_17 : decode cX6_isPlace 17 = .ok (.ifCond .eq 7, 3) := by decide +kernel
theorem dX6_isPlace_20 : decode cX6_isPlace 20 = .ok (.iconst 1, 1) := by decide +kernel
theorem dX6_isPlace_21 : decode cX6_isPlace 21 = .ok (.goto 4, 3) := by decide +kernel
theorem dX6_isPlace_24 : decode cX6_isPlace 24 = .ok (.iconst 0, 1) := by decide +kernel
theorem dX6_isPlace_25 : decode cX6_isPlace 25 = .ok (.ireturn, 1) := by decide +kernel
theorem dX6_ruleFor_0 : decode cX6_ruleFor 0 = .ok (.aload_n 0, 1) := by decide +kernel
theorem dX6_ruleFor_1 : decode cX6_ruleFor 1 = .ok (.iconst 0, 1) := by decide +kernel
theorem dX6_ruleFor_2 : decode cX6_ruleFor 2 = .ok (.putfield 73, 3) := by decide +kernel
theorem dX6_ruleFor_5 : decode cX6_ruleFor 5 = .ok (.iload_n 1, 1) := by decide +kernel
theorem dX6_ruleFor_6 : decode cX6_ruleFor 6 = .ok (.iload_n 2, 1) := by decide +kernel
theorem dX6_ruleFor_7 : decode cX6_ruleFor 7 = .ok (.invokestatic 128, 3) := by decide +kernel
theorem dX6_ruleFor_10 : decode cX6_ruleFor 10 = .ok (.ifCond .eq 12, 3) := by decide +kernel
theorem dX6_ruleFor_13 : decode cX6_ruleFor 13 = .ok (.aload_n 0, 1) := by decide +kernel
theorem dX6_ruleFor_14 : decode cX6_ruleFor 14 = .ok (.iload_n 1, 1) := by decide +kernel
theorem dX6_ruleFor_15 : decode cX6_ruleFor 15 = .ok (.iload_n 2, 1) := by decide +kernel
theorem dX6_ruleFor_16 : decode cX6_ruleFor 16 = .ok (.invokevirtual 132, 3) := by decide +kernel
theorem dX6_ruleFor_19 : decode cX6_ruleFor 19 = .ok (.goto 4, 3) := by decide +kernel
theorem dX6_ruleFor_22 : decode cX6_ruleFor 22 = .ok (.iconst (-1), 1) := by decide +kernel
theorem dX6_ruleFor_23 : decode cX6_ruleFor 23 = .ok (.ireturn, 1) := by decide +kernel
theorem dX6_own_0 : decode cX6_own 0 = .ok (.aload_n 0, 1) := by decide +kernel
theorem dX6_own_1 : decode cX6_own 1 = .ok (.iconst 0, 1) := by decide +kernel
theorem dX6_own_2 : decode cX6_own 2 = .ok (.putfield 73, 3) := by decide +kernel
theorem dX6_own_5 : decode cX6_own 5 = .ok (.aload_n 0, 1) := by decide +kernel
theorem dX6_own_6 : decode cX6_own 6 = .ok (.iload_n 1, 1) := by decide +kernel
theorem dX6_own_7 : decode cX6_own 7 = .ok (.putfield 136, 3) := by decide +kernel
theorem dX6_own_10 : decode cX6_own 10 = .ok (.return_, 1) := by decide +kernel
theorem dX6_taken_0 : decode cX6_taken 0 = .ok (.aload_n 0, 1) := by decide +kernel
theorem dX6_taken_1 : decode cX6_taken 1 = .ok (.iconst 0, 1) := by decide +kernel
theorem dX6_taken_2 : decode cX6_taken 2 = .ok (.putfield 73, 3) := by decide +kernel
theorem dX6_taken_5 : decode cX6_taken 5 = .ok (.aload_n 0, 1) := by decide +kernel
theorem dX6_taken_6 : decode cX6_taken 6 = .ok (.getfield 144, 3) := by decide +kernel
theorem dX6_taken_9 : decode cX6_taken 9 = .ok (.lreturn, 1) := by decide +kernel
theorem dX6_ownOf_0 : decode cX6_ownOf 0 = .ok (.iconst (-1), 1) := by decide +kernel
theorem dX6_ownOf_1 : decode cX6_ownOf 1 = .ok (.istore 5, 2) := by decide +kernel
theorem dX6_ownOf_3 : decode cX6_ownOf 3 = .ok (.iconst 0, 1) := by decide +kernel
theorem dX6_ownOf_4 : decode cX6_ownOf 4 = .ok (.istore 6, 2) := by decide +kernel
theorem dX6_ownOf_6 : decode cX6_ownOf 6 = .ok (.iload 6, 2) := by decide +kernel
theorem dX6_ownOf_8 : decode cX6_ownOf 8 = .ok (.aload_n 0, 1) := by decide +kernel
theorem dX6_ownOf_9 : decode cX6_ownOf 9 = .ok (.getfield 99, 3) := by decide +kernel
theorem dX6_ownOf_12 : decode cX6_ownOf 12 = .ok (.if_icmp .ge 98, 3) := by decide +kernel
theorem dX6_ownOf_15 : decode cX6_ownOf 15 = .ok (.aload_n 0, 1) := by decide +kernel
theorem dX6_ownOf_16 : decode cX6_ownOf 16 = .ok (.getfield 42, 3) := by decide +kernel
theorem dX6_ownOf_19 : decode cX6_ownOf 19 = .ok (.iload 6, 2) := by decide +kernel
theorem dX6_ownOf_21 : decode cX6_ownOf 21 = .ok (.baload, 1) := by decide +kernel
theorem dX6_ownOf_22 : decode cX6_ownOf 22 = .ok (.ifCond .ne 46, 3) := by decide +kernel
theorem dX6_ownOf_25 : decode cX6_ownOf 25 = .ok (.aload_n 0, 1) := by decide +kernel
theorem dX6_ownOf_26 : decode cX6_ownOf 26 = .ok (.getfield 7, 3) := by decide +kernel
theorem dX6_ownOf_29 : decode cX6_ownOf 29 = .ok (.aload_n 0, 1) := by decide +kernel
theorem dX6_ownOf_30 : decode cX6_ownOf 30 = .ok (.getfield 30, 3) := by decide +kernel
theorem dX6_ownOf_33 : decode cX6_ownOf 33 = .ok (.iload 6, 2) := by decide +kernel
theorem dX6_ownOf_35 : decode cX6_ownOf 35 = .ok (.iaload, 1) := by decide +kernel
theorem dX6_ownOf_36 : decode cX6_ownOf 36 = .ok (.iaload, 1) := by decide +kernel
theorem dX6_ownOf_37 : decode cX6_ownOf 37 = .ok (.ifCond .ne 31, 3) := by decide +kernel
theorem dX6_ownOf_40 : decode cX6_ownOf 40 = .ok (.aload_n 0, 1) := by decide +kernel
theorem dX6_ownOf_41 : decode cX6_ownOf 41 = .ok (.getfield 33, 3) := by decide +kernel
theorem dX6_ownOf_44 : decode cX6_ownOf 44 = .ok (.iload 6, 2) := by decide +kernel
theorem dX6_ownOf_46 : decode cX6_ownOf 46 = .ok (.laload, 1) := by decide +kernel
theorem dX6_ownOf_47 : decode cX6_ownOf 47 = .ok (.lload_n 1, 1) := by decide +kernel
theorem dX6_ownOf_48 : decode cX6_ownOf 48 = .ok (.lcmp, 1) := by decide +kernel
theorem dX6_ownOf_49 : decode cX6_ownOf 49 = .ok (.ifCond .ne 19, 3) := by decide +kernel
theorem dX6_ownOf_52 : decode cX6_ownOf 52 = .ok (.aload_n 0, 1) := by decide +kernel
theorem dX6_ownOf_53 : decode cX6_ownOf 53 = .ok (.getfield 39, 3) := by decide +kernel
theorem dX6_ownOf_56 : decode cX6_ownOf 56 = .ok (.iload 6, 2) := by decide +kernel
theorem dX6_ownOf_58 : decode cX6_ownOf 58 = .ok (.laload, 1) := by decide +kernel
theorem dX6_ownOf_59 : decode cX6_ownOf 59 = .ok (.lload_n 3, 1) := by decide +kernel
theorem dX6_ownOf_60 : decode cX6_ownOf 60 = .ok (.lcmp, 1) := by decide +kernel
theorem dX6_ownOf_61 : decode cX6_ownOf 61 = .ok (.ifCond .gt 7, 3) := by decide +kernel
theorem dX6_ownOf_64 : decode cX6_ownOf 64 = .ok (.iconst 1, 1) := by decide +kernel
theorem dX6_ownOf_65 : decode cX6_ownOf 65 = .ok (.goto 4, 3) := by decide +kernel
theorem dX6_ownOf_68 : decode cX6_ownOf 68 = .ok (.iconst 0, 1) := by decide +kernel
theorem dX6_ownOf_69 : decode cX6_ownOf 69 = .ok (.istore 7, 2) := by decide +kernel
theorem dX6_ownOf_71 : decode cX6_ownOf 71 = .ok (.iload 7, 2) := by decide +kernel
theorem dX6_ownOf_73 : decode cX6_ownOf 73 = .ok (.ifCond .eq 31, 3) := by decide +kernel
theorem dX6_ownOf_76 : decode cX6_ownOf 76 = .ok (.iload 5, 2) := by decide +kernel
theorem dX6_ownOf_78 : decode cX6_ownOf 78 = .ok (.iconst (-1), 1) := by decide +kernel
theorem dX6_ownOf_79 : decode cX6_ownOf 79 = .ok (.if_icmp .eq 21, 3) := by decide +kernel
theorem dX6_ownOf_82 : decode cX6_ownOf 82 = .ok (.aload_n 0, 1) := by decide +kernel
theorem dX6_ownOf_83 : decode cX6_ownOf 83 = .ok (.getfield 39, 3) := by decide +kernel
theorem dX6_ownOf_86 : decode cX6_ownOf 86 = .ok (.iload 6, 2) := by decide +kernel
theorem dX6_ownOf_88 : decode cX6_ownOf 88 = .ok (.laload, 1) := by decide +kernel
theorem dX6_ownOf_89 : decode cX6_ownOf 89 = .ok (.aload_n 0, 1) := by decide +kernel
theorem dX6_ownOf_90 : decode cX6_ownOf 90 = .ok (.getfield 39, 3) := by decide +kernel
theorem dX6_ownOf_93 : decode cX6_ownOf 93 = .ok (.iload 5, 2) := by decide +kernel
theorem dX6_ownOf_95 : decode cX6_ownOf 95 = .ok (.laload, 1) := by decide +kernel
theorem dX6_ownOf_96 : decode cX6_ownOf 96 = .ok (.lcmp, 1) := by decide +kernel
theorem dX6_ownOf_97 : decode cX6_ownOf 97 = .ok (.ifCond .lt 7, 3) := by decide +kernel
theorem dX6_ownOf_100 : decode cX6_ownOf 100 = .ok (.iload 6, 2) := by decide +kernel
theorem dX6_ownOf_102 : decode cX6_ownOf 102 = .ok (.istore 5, 2) := by decide +kernel
theorem dX6_ownOf_104 : decode cX6_ownOf 104 = .ok (.iinc 6 1, 3) := by decide +kernel
theorem dX6_ownOf_107 : decode cX6_ownOf 107 = .ok (.goto (-101), 3) := by decide +kernel
theorem dX6_ownOf_110 : decode cX6_ownOf 110 = .ok (.iload 5, 2) := by decide +kernel
theorem dX6_ownOf_112 : decode cX6_ownOf 112 = .ok (.ireturn, 1) := by decide +kernel
theorem dX6_counts_0 : decode cX6_counts 0 = .ok (.aload_n 0, 1) := by decide +kernel
theorem dX6_counts_1 : decode cX6_counts 1 = .ok (.getfield 42, 3) := by decide +kernel
theorem dX6_counts_4 : decode cX6_counts 4 = .ok (.iload_n 1, 1) := by decide +kernel
theorem dX6_counts_5 : decode cX6_counts 5 = .ok (.baload, 1) := by decide +kernel
theorem dX6_counts_6 : decode cX6_counts 6 = .ok (.ifCond .ne 46, 3) := by decide +kernel
theorem dX6_counts_9 : decode cX6_counts 9 = .ok (.aload_n 0, 1) := by decide +kernel
theorem dX6_counts_10 : decode cX6_counts 10 = .ok (.getfield 33, 3) := by decide +kernel
theorem dX6_counts_13 : decode cX6_counts 13 = .ok (.iload_n 1, 1) := by decide +kernel
theorem dX6_counts_14 : decode cX6_counts 14 = .ok (.laload, 1) := by decide +kernel
theorem dX6_counts_15 : decode cX6_counts 15 = .ok (.lload_n 2, 1) := by decide +kernel
theorem dX6_counts_16 : decode cX6_counts 16 = .ok (.lcmp, 1) := by decide +kernel
theorem dX6_counts_17 : decode cX6_counts 17 = .ok (.ifCond .ne 35, 3) := by decide +kernel
theorem dX6_counts_20 : decode cX6_counts 20 = .ok (.aload_n 0, 1) := by decide +kernel
theorem dX6_counts_21 : decode cX6_counts 21 = .ok (.getfield 39, 3) := by decide +kernel
theorem dX6_counts_24 : decode cX6_counts 24 = .ok (.iload_n 1, 1) := by decide +kernel
theorem dX6_counts_25 : decode cX6_counts 25 = .ok (.laload, 1) := by decide +kernel
theorem dX6_counts_26 : decode cX6_counts 26 = .ok (.lload 5, 2) := by decide +kernel
theorem dX6_counts_28 : decode cX6_counts 28 = .ok (.lcmp, 1) := by decide +kernel
theorem dX6_counts_29 : decode cX6_counts 29 = .ok (.ifCond .gt 23, 3) := by decide +kernel
theorem dX6_counts_32 : decode cX6_counts 32 = .ok (.aload_n 0, 1) := by decide +kernel
theorem dX6_counts_33 : decode cX6_counts 33 = .ok (.getfield 7, 3) := by decide +kernel
theorem dX6_counts_36 : decode cX6_counts 36 = .ok (.aload_n 0, 1) := by decide +kernel
theorem dX6_counts_37 : decode cX6_counts 37 = .ok (.getfield 30, 3) := by decide +kernel
theorem dX6_counts_40 : decode cX6_counts 40 = .ok (.iload_n 1, 1) := by decide +kernel
theorem dX6_counts_41 : decode cX6_counts 41 = .ok (.iaload, 1) := by decide +kernel
theorem dX6_counts_42 : decode cX6_counts 42 = .ok (.iaload, 1) := by decide +kernel
theorem dX6_counts_43 : decode cX6_counts 43 = .ok (.iload 4, 2) := by decide +kernel
theorem dX6_counts_45 : decode cX6_counts 45 = .ok (.if_icmp .lt 7, 3) := by decide +kernel
theorem dX6_counts_48 : decode cX6_counts 48 = .ok (.iconst 1, 1) := by decide +kernel
theorem dX6_counts_49 : decode cX6_counts 49 = .ok (.goto 4, 3) := by decide +kernel
theorem dX6_counts_52 : decode cX6_counts 52 = .ok (.iconst 0, 1) := by decide +kernel
theorem dX6_counts_53 : decode cX6_counts 53 = .ok (.ireturn, 1) := by decide +kernel
def p_M_worth (om : Nat → Nat) (mth : Int32) (tq : Int32) (to : Bool) (wc : Nat) (wl : Nat → Int32) (wb : Nat → Bool) (wk : Nat → Nat) (kk : Nat → Int64) (kf : Nat → Int64) (ku : Nat → Int64) (ec : Nat) (ew : Nat → Nat) (ea : Nat → Int64) (ed : Nat → Int64) (et : Nat → Int64) (ex : Nat → Bool) (cc : Nat) (ca : Nat → Int64) (cl : Nat → Int32) (ch : Nat → Int32) (uc : Nat) (ut : Nat → Int32) (ub : Nat → Int32) (ul : Nat → Int32) (uw : Nat → Int32) (tt : Int64) (ac : Nat) (as : Nat → Int32) (i : Nat) (t : Int32) (b : Int32) : Int32 → Unit → Prop := fun r u => (((ut i = (-1) ∨ ut i = t) ∧ (ub i = (-1) ∨ ub i = b)) ∧ r = nI (xs_rank (ut i) (ub i))) ∨ (¬ ((ut i = (-1) ∨ ut i = t) ∧ (ub i = (-1) ∨ ub i = b)) ∧ r = (-1))
set_option maxHeartbeats 4000000 in
set_option maxRecDepth 100000 in
theorem c_M_worth (l : Launch) (D : va_G) (k : Nat → ClassId) (om : Nat → Nat) (mth : Int32) (tq : Int32) (to : Bool) (wc : Nat) (wl : Nat → Int32) (wb : Nat → Bool) (wk : Nat → Nat) (kk : Nat → Int64) (kf : Nat → Int64) (ku : Nat → Int64) (ec : Nat) (ew : Nat → Nat) (ea : Nat → Int64) (ed : Nat → Int64) (et : Nat → Int64) (ex : Nat → Bool) (cc : Nat) (ca : Nat → Int64) (cl : Nat → Int32) (ch : Nat → Int32) (uc : Nat) (ut : Nat → Int32) (ub : Nat → Int32) (ul : Nat → Int32) (uw : Nat → Int32) (tt : Int64) (ac : Nat) (as : Nat → Int32) (i : Nat) (t : Int32) (b : Int32) (huc : uc ≤ 20) (hi : i < uc) : xx_Ci l yX6_worth (.code yX6_worth cX6_worth 6 (some .int) :: xall) ({ frames := 0, cells := 0, slots := 0, locals := 0 } : Room) D vwCl (xT k) [.ref (om 0), .int (nI i), .int t, .int b] (bM k om mth tq to wc wl wb wk kk kf ku ec ew ea ed et ex cc ca cl ch uc ut ub ul uw tt ac as) (p_M_worth om mth tq to wc wl wb wk kk kf ku ec ew ea ed et ex cc ca cl ch uc ut ub ul uw tt ac as i t b) (fun (u : Unit) => bM k om mth tq to wc wl wb wk kk kf ku ec ew ea ed et ex cc ca cl ch uc ut ub ul uw tt ac as) 0 0 := by
  intro sz
  refine xx_met (Qf := fun A => va_Qi (p_M_worth om mth tq to wc wl wb wk kk kf ku ec ew ea ed et ex cc ca cl ch uc ut ub ul uw tt ac as i t b) (xx_B D vwCl (xT k) A (fun (u : Unit) => bM k om mth tq to wc wl wb wk kk kf ku ec ew ea ed et ex cc ca cl ch uc ut ub ul uw tt ac as)) A) (cc := cX6_worth) (maxL := 6) (ret := (some .int)) (by decide) rfl (Nat.le_of_ble_eq_true rfl) ?_
  intro p e s m below meth c A ls hx hb hr hts hown hlocks hin hml hA hS hP hD hK hN hl
  have hl : lv_has ls 6 [(0, .ref (om 0)), (1, .int (nI i)), (2, .int t), (3, .int b)] := hl
  have hown : s.vm.findClass RX6 = some m.cls := hown
  have hinW := inX6
  refine lv_aload_n hx hb dX6_worth_0 rfl (lv_at hl 0 rfl) ?_
  refine va_get (D := D) (ci := 6) (v := .ref (om 15)) (C := RX6) (T := TX6) (N := 28) hx hb hts hinW hown hK hP 0 rfl rfl 21 (by decide) (hts _ tw_397) (fun _ h9 => h9) rfl dX6_worth_1 ?_
  refine lv_iload_n hx hb dX6_worth_4 rfl (lv_at hl 1 rfl) ?_
  refine xx_iald hx hb hK hP 15 0 rfl rfl (show i < 20 by omega) (by decide) dX6_worth_5 ?_
  refine lv_iconst (v := (-1)) hx hb dX6_worth_6 (by decide) ?_
  refine lv_icmp_eq (tgt := 20) hx hb dX6_worth_7 (by decide) (fun c7 => ?_) (fun c7 => ?_)
  · refine lv_iconst (v := (nI 1)) hx hb dX6_worth_20 (by decide) ?_
    refine lv_goto (tgt := 25) hx hb dX6_worth_21 (by decide) ?_
    refine lv_istore (lv' := [(4, .int (nI 1)), (0, .ref (om 0)), (1, .int (nI i)), (2, .int t), (3, .int b)]) hx hb dX6_worth_25 hl (by decide) rfl (fun ls hl => ?_)
    refine lv_aload_n hx hb dX6_worth_27 rfl (lv_at hl 1 rfl) ?_
    refine va_get (D := D) (ci := 6) (v := .ref (om 16)) (C := RX6) (T := TX6) (N := 28) hx hb hts hinW hown hK hP 0 rfl rfl 22 (by decide) (hts _ tw_398) (fun _ h9 => h9) rfl dX6_worth_28 ?_
    refine lv_iload_n hx hb dX6_worth_31 rfl (lv_at hl 2 rfl) ?_
    refine xx_iald hx hb hK hP 16 0 rfl rfl (show i < 20 by omega) (by decide) dX6_worth_32 ?_
    refine lv_iconst (v := (-1)) hx hb dX6_worth_33 (by decide) ?_
    refine lv_icmp_eq (tgt := 47) hx hb dX6_worth_34 (by decide) (fun c34 => ?_) (fun c34 => ?_)
    · refine lv_iconst (v := (nI 1)) hx hb dX6_worth_47 (by decide) ?_
      refine lv_goto (tgt := 52) hx hb dX6_worth_48 (by decide) ?_
      refine lv_istore (lv' := [(5, .int (nI 1)), (4, .int (nI 1)), (0, .ref (om 0)), (1, .int (nI i)), (2, .int t), (3, .int b)]) hx hb dX6_worth_52 hl (by decide) rfl (fun ls hl => ?_)
      refine lv_iload hx hb dX6_worth_54 (lv_at hl 1 rfl) ?_
      refine lv_if_eq (tgt := 64) hx hb dX6_worth_56 (by decide) (fun c => absurd c (by decide)) (fun _ => ?_)
      refine lv_iload hx hb dX6_worth_59 (lv_at hl 0 rfl) ?_
      refine lv_if_ne (tgt := 66) hx hb dX6_worth_61 (by decide) (fun _ => ?_) (fun c => absurd c (by decide))
      refine lv_aload_n hx hb dX6_worth_66 rfl (lv_at hl 2 rfl) ?_
      refine va_get (D := D) (ci := 6) (v := .ref (om 15)) (C := RX6) (T := TX6) (N := 28) hx hb hts hinW hown hK hP 0 rfl rfl 21 (by decide) (hts _ tw_397) (fun _ h9 => h9) rfl dX6_worth_67 ?_
      refine lv_iload_n hx hb dX6_worth_70 rfl (lv_at hl 3 rfl) ?_
      refine xx_iald hx hb hK hP 15 0 rfl rfl (show i < 20 by omega) (by decide) dX6_worth_71 ?_
      refine lv_iconst (v := (-1)) hx hb dX6_worth_72 (by decide) ?_
      refine lv_icmp_ne (tgt := 80) hx hb dX6_worth_73 (by decide) (fun c73 => ?_) (fun c73 => ?_)
      · refine lv_iconst (v := (nI 2)) hx hb dX6_worth_80 (by decide) ?_
        refine lv_aload_n hx hb dX6_worth_81 rfl (lv_at hl 2 rfl) ?_
        refine va_get (D := D) (ci := 6) (v := .ref (om 16)) (C := RX6) (T := TX6) (N := 28) hx hb hts hinW hown hK hP 0 rfl rfl 22 (by decide) (hts _ tw_398) (fun _ h9 => h9) rfl dX6_worth_82 ?_
        refine lv_iload_n hx hb dX6_worth_85 rfl (lv_at hl 3 rfl) ?_
        refine xx_iald hx hb hK hP 16 0 rfl rfl (show i < 20 by omega) (by decide) dX6_worth_86 ?_
        refine lv_iconst (v := (-1)) hx hb dX6_worth_87 (by decide) ?_
        refine lv_icmp_ne (tgt := 95) hx hb dX6_worth_88 (by decide) (fun c88 => ?_) (fun c88 => ?_)
        · refine lv_iconst (v := (nI 1)) hx hb dX6_worth_95 (by decide) ?_
          refine lv_iadd hx hb dX6_worth_96 ?_
          refine xx_topi (y := (nI 3)) (by decide) ?_
          refine xx_iret () hx hb hr hlocks hS hK hP hD dX6_worth_97 ?_
          first | exact Or.inl ⟨⟨Or.inl c7, Or.inl c34⟩, xs_rank_aa c73 c88⟩ | exact Or.inl ⟨⟨Or.inl c7, Or.inl c34⟩, xs_rank_an c73 c88⟩ | exact Or.inl ⟨⟨Or.inl c7, Or.inl c34⟩, xs_rank_na c73 c88⟩ | exact Or.inl ⟨⟨Or.inl c7, Or.inl c34⟩, xs_rank_nn c73 c88⟩ | exact Or.inl ⟨⟨Or.inl c7, Or.inr c44⟩, xs_rank_aa c73 c88⟩ | exact Or.inl ⟨⟨Or.inl c7, Or.inr c44⟩, xs_rank_an c73 c88⟩ | exact Or.inl ⟨⟨Or.inl c7, Or.inr c44⟩, xs_rank_na c73 c88⟩ | exact Or.inl ⟨⟨Or.inl c7, Or.inr c44⟩, xs_rank_nn c73 c88⟩ | exact Or.inl ⟨⟨Or.inr c17, Or.inl c34⟩, xs_rank_aa c73 c88⟩ | exact Or.inl ⟨⟨Or.inr c17, Or.inl c34⟩, xs_rank_an c73 c88⟩ | exact Or.inl ⟨⟨Or.inr c17, Or.inl c34⟩, xs_rank_na c73 c88⟩ | exact Or.inl ⟨⟨Or.inr c17, Or.inl c34⟩, xs_rank_nn c73 c88⟩ | exact Or.inl ⟨⟨Or.inr c17, Or.inr c44⟩, xs_rank_aa c73 c88⟩ | exact Or.inl ⟨⟨Or.inr c17, Or.inr c44⟩, xs_rank_an c73 c88⟩ | exact Or.inl ⟨⟨Or.inr c17, Or.inr c44⟩, xs_rank_na c73 c88⟩ | exact Or.inl ⟨⟨Or.inr c17, Or.inr c44⟩, xs_rank_nn c73 c88⟩
        · refine lv_iconst (v := (nI 0)) hx hb dX6_worth_91 (by decide) ?_
          refine lv_goto (tgt := 96) hx hb dX6_worth_92 (by decide) ?_
          refine lv_iadd hx hb dX6_worth_96 ?_
          refine xx_topi (y := (nI 2)) (by decide) ?_
          refine xx_iret () hx hb hr hlocks hS hK hP hD dX6_worth_97 ?_
          first | exact Or.inl ⟨⟨Or.inl c7, Or.inl c34⟩, xs_rank_aa c73 c88⟩ | exact Or.inl ⟨⟨Or.inl c7, Or.inl c34⟩, xs_rank_an c73 c88⟩ | exact Or.inl ⟨⟨Or.inl c7, Or.inl c34⟩, xs_rank_na c73 c88⟩ | exact Or.inl ⟨⟨Or.inl c7, Or.inl c34⟩, xs_rank_nn c73 c88⟩ | exact Or.inl ⟨⟨Or.inl c7, Or.inr c44⟩, xs_rank_aa c73 c88⟩ | exact Or.inl ⟨⟨Or.inl c7, Or.inr c44⟩, xs_rank_an c73 c88⟩ | exact Or.inl ⟨⟨Or.inl c7, Or.inr c44⟩, xs_rank_na c73 c88⟩ | exact Or.inl ⟨⟨Or.inl c7, Or.inr c44⟩, xs_rank_nn c73 c88⟩ | exact Or.inl ⟨⟨Or.inr c17, Or.inl c34⟩, xs_rank_aa c73 c88⟩ | exact Or.inl ⟨⟨Or.inr c17, Or.inl c34⟩, xs_rank_an c73 c88⟩ | exact Or.inl ⟨⟨Or.inr c17, Or.inl c34⟩, xs_rank_na c73 c88⟩ | exact Or.inl ⟨⟨Or.inr c17, Or.inl c34⟩, xs_rank_nn c73 c88⟩ | exact Or.inl ⟨⟨Or.inr c17, Or.inr c44⟩, xs_rank_aa c73 c88⟩ | exact Or.inl ⟨⟨Or.inr c17, Or.inr c44⟩, xs_rank_an c73 c88⟩ | exact Or.inl ⟨⟨Or.inr c17, Or.inr c44⟩, xs_rank_na c73 c88⟩ | exact Or.inl ⟨⟨Or.inr c17, Or.inr c44⟩, xs_rank_nn c73 c88⟩
      · refine lv_iconst (v := (nI 0)) hx hb dX6_worth_76 (by decide) ?_
        refine lv_goto (tgt := 81) hx hb dX6_worth_77 (by decide) ?_
        refine lv_aload_n hx hb dX6_worth_81 rfl (lv_at hl 2 rfl) ?_
        refine va_get (D := D) (ci := 6) (v := .ref (om 16)) (C := RX6) (T := TX6) (N := 28) hx hb hts hinW hown hK hP 0 rfl rfl 22 (by decide) (hts _ tw_398) (fun _ h9 => h9) rfl dX6_worth_82 ?_
        refine lv_iload_n hx hb dX6_worth_85 rfl (lv_at hl 3 rfl) ?_
        refine xx_iald hx hb hK hP 16 0 rfl rfl (show i < 20 by omega) (by decide) dX6_worth_86 ?_
        refine lv_iconst (v := (-1)) hx hb dX6_worth_87 (by decide) ?_
        refine lv_icmp_ne (tgt := 95) hx hb dX6_worth_88 (by decide) (fun c88 => ?_) (fun c88 => ?_)
        · refine lv_iconst (v := (nI 1)) hx hb dX6_worth_95 (by decide) ?_
          refine lv_iadd hx hb dX6_worth_96 ?_
          refine xx_topi (y := (nI 1)) (by decide) ?_
          refine xx_iret () hx hb hr hlocks hS hK hP hD dX6_worth_97 ?_
          first | exact Or.inl ⟨⟨Or.inl c7, Or.inl c34⟩, xs_rank_aa c73 c88⟩ | exact Or.inl ⟨⟨Or.inl c7, Or.inl c34⟩, xs_rank_an c73 c88⟩ | exact Or.inl ⟨⟨Or.inl c7, Or.inl c34⟩, xs_rank_na c73 c88⟩ | exact Or.inl ⟨⟨Or.inl c7, Or.inl c34⟩, xs_rank_nn c73 c88⟩ | exact Or.inl ⟨⟨Or.inl c7, Or.inr c44⟩, xs_rank_aa c73 c88⟩ | exact Or.inl ⟨⟨Or.inl c7, Or.inr c44⟩, xs_rank_an c73 c88⟩ | exact Or.inl ⟨⟨Or.inl c7, Or.inr c44⟩, xs_rank_na c73 c88⟩ | exact Or.inl ⟨⟨Or.inl c7, Or.inr c44⟩, xs_rank_nn c73 c88⟩ | exact Or.inl ⟨⟨Or.inr c17, Or.inl c34⟩, xs_rank_aa c73 c88⟩ | exact Or.inl ⟨⟨Or.inr c17, Or.inl c34⟩, xs_rank_an c73 c88⟩ | exact Or.inl ⟨⟨Or.inr c17, Or.inl c34⟩, xs_rank_na c73 c88⟩ | exact Or.inl ⟨⟨Or.inr c17, Or.inl c34⟩, xs_rank_nn c73 c88⟩ | exact Or.inl ⟨⟨Or.inr c17, Or.inr c44⟩, xs_rank_aa c73 c88⟩ | exact Or.inl ⟨⟨Or.inr c17, Or.inr c44⟩, xs_rank_an c73 c88⟩ | exact Or.inl ⟨⟨Or.inr c17, Or.inr c44⟩, xs_rank_na c73 c88⟩ | exact Or.inl ⟨⟨Or.inr c17, Or.inr c44⟩, xs_rank_nn c73 c88⟩
        · refine lv_iconst (v := (nI 0)) hx hb dX6_worth_91 (by decide) ?_
          refine lv_goto (tgt := 96) hx hb dX6_worth_92 (by decide) ?_
          refine lv_iadd hx hb dX6_worth_96 ?_
          refine xx_topi (y := (nI 0)) (by decide) ?_
          refine xx_iret () hx hb hr hlocks hS hK hP hD dX6_worth_97 ?_
          first | exact Or.inl ⟨⟨Or.inl c7, Or.inl c34⟩, xs_rank_aa c73 c88⟩ | exact Or.inl ⟨⟨Or.inl c7, Or.inl c34⟩, xs_rank_an c73 c88⟩ | exact Or.inl ⟨⟨Or.inl c7, Or.inl c34⟩, xs_rank_na c73 c88⟩ | exact Or.inl ⟨⟨Or.inl c7, Or.inl c34⟩, xs_rank_nn c73 c88⟩ | exact Or.inl ⟨⟨Or.inl c7, Or.inr c44⟩, xs_rank_aa c73 c88⟩ | exact Or.inl ⟨⟨Or.inl c7, Or.inr c44⟩, xs_rank_an c73 c88⟩ | exact Or.inl ⟨⟨Or.inl c7, Or.inr c44⟩, xs_rank_na c73 c88⟩ | exact Or.inl ⟨⟨Or.inl c7, Or.inr c44⟩, xs_rank_nn c73 c88⟩ | exact Or.inl ⟨⟨Or.inr c17, Or.inl c34⟩, xs_rank_aa c73 c88⟩ | exact Or.inl ⟨⟨Or.inr c17, Or.inl c34⟩, xs_rank_an c73 c88⟩ | exact Or.inl ⟨⟨Or.inr c17, Or.inl c34⟩, xs_rank_na c73 c88⟩ | exact Or.inl ⟨⟨Or.inr c17, Or.inl c34⟩, xs_rank_nn c73 c88⟩ | exact Or.inl ⟨⟨Or.inr c17, Or.inr c44⟩, xs_rank_aa c73 c88⟩ | exact Or.inl ⟨⟨Or.inr c17, Or.inr c44⟩, xs_rank_an c73 c88⟩ | exact Or.inl ⟨⟨Or.inr c17, Or.inr c44⟩, xs_rank_na c73 c88⟩ | exact Or.inl ⟨⟨Or.inr c17, Or.inr c44⟩, xs_rank_nn c73 c88⟩
    · refine lv_aload_n hx hb dX6_worth_37 rfl (lv_at hl 1 rfl) ?_
      refine va_get (D := D) (ci := 6) (v := .ref (om 16)) (C := RX6) (T := TX6) (N := 28) hx hb hts hinW hown hK hP 0 rfl rfl 22 (by decide) (hts _ tw_398) (fun _ h9 => h9) rfl dX6_worth_38 ?_
      refine lv_iload_n hx hb dX6_worth_41 rfl (lv_at hl 2 rfl) ?_
      refine xx_iald hx hb hK hP 16 0 rfl rfl (show i < 20 by omega) (by decide) dX6_worth_42 ?_
      refine lv_iload_n hx hb dX6_worth_43 rfl (lv_at hl 4 rfl) ?_
      refine lv_icmp_ne (tgt := 51) hx hb dX6_worth_44 (by decide) (fun c44 => ?_) (fun c44 => ?_)
      · refine lv_iconst (v := (nI 0)) hx hb dX6_worth_51 (by decide) ?_
        refine lv_istore (lv' := [(5, .int (nI 0)), (4, .int (nI 1)), (0, .ref (om 0)), (1, .int (nI i)), (2, .int t), (3, .int b)]) hx hb dX6_worth_52 hl (by decide) rfl (fun ls hl => ?_)
        refine lv_iload hx hb dX6_worth_54 (lv_at hl 1 rfl) ?_
        refine lv_if_eq (tgt := 64) hx hb dX6_worth_56 (by decide) (fun c => absurd c (by decide)) (fun _ => ?_)
        refine lv_iload hx hb dX6_worth_59 (lv_at hl 0 rfl) ?_
        refine lv_if_ne (tgt := 66) hx hb dX6_worth_61 (by decide) (fun c => absurd c (by decide)) (fun _ => ?_)
        refine lv_iconst (v := (-1)) hx hb dX6_worth_64 (by decide) ?_
        refine xx_iret () hx hb hr hlocks hS hK hP hD dX6_worth_65 ?_
        first | exact Or.inr ⟨fun h => h.1.elim c7 c17, rfl⟩ | exact Or.inr ⟨fun h => h.2.elim c34 c44, rfl⟩
      · refine lv_iconst (v := (nI 1)) hx hb dX6_worth_47 (by decide) ?_
        refine lv_goto (tgt := 52) hx hb dX6_worth_48 (by decide) ?_
        refine lv_istore (lv' := [(5, .int (nI 1)), (4, .int (nI 1)), (0, .ref (om 0)), (1, .int (nI i)), (2, .int t), (3, .int b)]) hx hb dX6_worth_52 hl (by decide) rfl (fun ls hl => ?_)
        refine lv_iload hx hb dX6_worth_54 (lv_at hl 1 rfl) ?_
        refine lv_if_eq (tgt := 64) hx hb dX6_worth_56 (by decide) (fun c => absurd c (by decide)) (fun _ => ?_)
        refine lv_iload hx hb dX6_worth_59 (lv_at hl 0 rfl) ?_
        refine lv_if_ne (tgt := 66) hx hb dX6_worth_61 (by decide) (fun _ => ?_) (fun c => absurd c (by decide))
        refine lv_aload_n hx hb dX6_worth_66 rfl (lv_at hl 2 rfl) ?_
        refine va_get (D := D) (ci := 6) (v := .ref (om 15)) (C := RX6) (T := TX6) (N := 28) hx hb hts hinW hown hK hP 0 rfl rfl 21 (by decide) (hts _ tw_397) (fun _ h9 => h9) rfl dX6_worth_67 ?_
        refine lv_iload_n hx hb dX6_worth_70 rfl (lv_at hl 3 rfl) ?_
        refine xx_iald hx hb hK hP 15 0 rfl rfl (show i < 20 by omega) (by decide) dX6_worth_71 ?_
        refine lv_iconst (v := (-1)) hx hb dX6_worth_72 (by decide) ?_
        refine lv_icmp_ne (tgt := 80) hx hb dX6_worth_73 (by decide) (fun c73 => ?_) (fun c73 => ?_)
        · refine lv_iconst (v := (nI 2)) hx hb dX6_worth_80 (by decide) ?_
          refine lv_aload_n hx hb dX6_worth_81 rfl (lv_at hl 2 rfl) ?_
          refine va_get (D := D) (ci := 6) (v := .ref (om 16)) (C := RX6) (T := TX6) (N := 28) hx hb hts hinW hown hK hP 0 rfl rfl 22 (by decide) (hts _ tw_398) (fun _ h9 => h9) rfl dX6_worth_82 ?_
          refine lv_iload_n hx hb dX6_worth_85 rfl (lv_at hl 3 rfl) ?_
          refine xx_iald hx hb hK hP 16 0 rfl rfl (show i < 20 by omega) (by decide) dX6_worth_86 ?_
          refine lv_iconst (v := (-1)) hx hb dX6_worth_87 (by decide) ?_
          refine lv_icmp_ne (tgt := 95) hx hb dX6_worth_88 (by decide) (fun c88 => ?_) (fun c88 => ?_)
          · refine lv_iconst (v := (nI 1)) hx hb dX6_worth_95 (by decide) ?_
            refine lv_iadd hx hb dX6_worth_96 ?_
            refine xx_topi (y := (nI 3)) (by decide) ?_
            refine xx_iret () hx hb hr hlocks hS hK hP hD dX6_worth_97 ?_
            first | exact Or.inl ⟨⟨Or.inl c7, Or.inl c34⟩, xs_rank_aa c73 c88⟩ | exact Or.inl ⟨⟨Or.inl c7, Or.inl c34⟩, xs_rank_an c73 c88⟩ | exact Or.inl ⟨⟨Or.inl c7, Or.inl c34⟩, xs_rank_na c73 c88⟩ | exact Or.inl ⟨⟨Or.inl c7, Or.inl c34⟩, xs_rank_nn c73 c88⟩ | exact Or.inl ⟨⟨Or.inl c7, Or.inr c44⟩, xs_rank_aa c73 c88⟩ | exact Or.inl ⟨⟨Or.inl c7, Or.inr c44⟩, xs_rank_an c73 c88⟩ | exact Or.inl ⟨⟨Or.inl c7, Or.inr c44⟩, xs_rank_na c73 c88⟩ | exact Or.inl ⟨⟨Or.inl c7, Or.inr c44⟩, xs_rank_nn c73 c88⟩ | exact Or.inl ⟨⟨Or.inr c17, Or.inl c34⟩, xs_rank_aa c73 c88⟩ | exact Or.inl ⟨⟨Or.inr c17, Or.inl c34⟩, xs_rank_an c73 c88⟩ | exact Or.inl ⟨⟨Or.inr c17, Or.inl c34⟩, xs_rank_na c73 c88⟩ | exact Or.inl ⟨⟨Or.inr c17, Or.inl c34⟩, xs_rank_nn c73 c88⟩ | exact Or.inl ⟨⟨Or.inr c17, Or.inr c44⟩, xs_rank_aa c73 c88⟩ | exact Or.inl ⟨⟨Or.inr c17, Or.inr c44⟩, xs_rank_an c73 c88⟩ | exact Or.inl ⟨⟨Or.inr c17, Or.inr c44⟩, xs_rank_na c73 c88⟩ | exact Or.inl ⟨⟨Or.inr c17, Or.inr c44⟩, xs_rank_nn c73 c88⟩
          · refine lv_iconst (v := (nI 0)) hx hb dX6_worth_91 (by decide) ?_
            refine lv_goto (tgt := 96) hx hb dX6_worth_92 (by decide) ?_
            refine lv_iadd hx hb dX6_worth_96 ?_
            refine xx_topi (y := (nI 2)) (by decide) ?_
            refine xx_iret () hx hb hr hlocks hS hK hP hD dX6_worth_97 ?_
            first | exact Or.inl ⟨⟨Or.inl c7, Or.inl c34⟩, xs_rank_aa c73 c88⟩ | exact Or.inl ⟨⟨Or.inl c7, Or.inl c34⟩, xs_rank_an c73 c88⟩ | exact Or.inl ⟨⟨Or.inl c7, Or.inl c34⟩, xs_rank_na c73 c88⟩ | exact Or.inl ⟨⟨Or.inl c7, Or.inl c34⟩, xs_rank_nn c73 c88⟩ | exact Or.inl ⟨⟨Or.inl c7, Or.inr c44⟩, xs_rank_aa c73 c88⟩ | exact Or.inl ⟨⟨Or.inl c7, Or.inr c44⟩, xs_rank_an c73 c88⟩ | exact Or.inl ⟨⟨Or.inl c7, Or.inr c44⟩, xs_rank_na c73 c88⟩ | exact Or.inl ⟨⟨Or.inl c7, Or.inr c44⟩, xs_rank_nn c73 c88⟩ | exact Or.inl ⟨⟨Or.inr c17, Or.inl c34⟩, xs_rank_aa c73 c88⟩ | exact Or.inl ⟨⟨Or.inr c17, Or.inl c34⟩, xs_rank_an c73 c88⟩ | exact Or.inl ⟨⟨Or.inr c17, Or.inl c34⟩, xs_rank_na c73 c88⟩ | exact Or.inl ⟨⟨Or.inr c17, Or.inl c34⟩, xs_rank_nn c73 c88⟩ | exact Or.inl ⟨⟨Or.inr c17, Or.inr c44⟩, xs_rank_aa c73 c88⟩ | exact Or.inl ⟨⟨Or.inr c17, Or.inr c44⟩, xs_rank_an c73 c88⟩ | exact Or.inl ⟨⟨Or.inr c17, Or.inr c44⟩, xs_rank_na c73 c88⟩ | exact Or.inl ⟨⟨Or.inr c17, Or.inr c44⟩, xs_rank_nn c73 c88⟩
        · refine lv_iconst (v := (nI 0)) hx hb dX6_worth_76 (by decide) ?_
          refine lv_goto (tgt := 81) hx hb dX6_worth_77 (by decide) ?_
          refine lv_aload_n hx hb dX6_worth_81 rfl (lv_at hl 2 rfl) ?_
          refine va_get (D := D) (ci := 6) (v := .ref (om 16)) (C := RX6) (T := TX6) (N := 28) hx hb hts hinW hown hK hP 0 rfl rfl 22 (by decide) (hts _ tw_398) (fun _ h9 => h9) rfl dX6_worth_82 ?_
          refine lv_iload_n hx hb dX6_worth_85 rfl (lv_at hl 3 rfl) ?_
          refine xx_iald hx hb hK hP 16 0 rfl rfl (show i < 20 by omega) (by decide) dX6_worth_86 ?_
          refine lv_iconst (v := (-1)) hx hb dX6_worth_87 (by decide) ?_
          refine lv_icmp_ne (tgt := 95) hx hb dX6_worth_88 (by decide) (fun c88 => ?_) (fun c88 => ?_)
          · refine lv_iconst (v := (nI 1)) hx hb dX6_worth_95 (by decide) ?_
            refine lv_iadd hx hb dX6_worth_96 ?_
            refine xx_topi (y := (nI 1)) (by decide) ?_
            refine xx_iret () hx hb hr hlocks hS hK hP hD dX6_worth_97 ?_
            first | exact Or.inl ⟨⟨Or.inl c7, Or.inl c34⟩, xs_rank_aa c73 c88⟩ | exact Or.inl ⟨⟨Or.inl c7, Or.inl c34⟩, xs_rank_an c73 c88⟩ | exact Or.inl ⟨⟨Or.inl c7, Or.inl c34⟩, xs_rank_na c73 c88⟩ | exact Or.inl ⟨⟨Or.inl c7, Or.inl c34⟩, xs_rank_nn c73 c88⟩ | exact Or.inl ⟨⟨Or.inl c7, Or.inr c44⟩, xs_rank_aa c73 c88⟩ | exact Or.inl ⟨⟨Or.inl c7, Or.inr c44⟩, xs_rank_an c73 c88⟩ | exact Or.inl ⟨⟨Or.inl c7, Or.inr c44⟩, xs_rank_na c73 c88⟩ | exact Or.inl ⟨⟨Or.inl c7, Or.inr c44⟩, xs_rank_nn c73 c88⟩ | exact Or.inl ⟨⟨Or.inr c17, Or.inl c34⟩, xs_rank_aa c73 c88⟩ | exact Or.inl ⟨⟨Or.inr c17, Or.inl c34⟩, xs_rank_an c73 c88⟩ | exact Or.inl ⟨⟨Or.inr c17, Or.inl c34⟩, xs_rank_na c73 c88⟩ | exact Or.inl ⟨⟨Or.inr c17, Or.inl c34⟩, xs_rank_nn c73 c88⟩ | exact Or.inl ⟨⟨Or.inr c17, Or.inr c44⟩, xs_rank_aa c73 c88⟩ | exact Or.inl ⟨⟨Or.inr c17, Or.inr c44⟩, xs_rank_an c73 c88⟩ | exact Or.inl ⟨⟨Or.inr c17, Or.inr c44⟩, xs_rank_na c73 c88⟩ | exact Or.inl ⟨⟨Or.inr c17, Or.inr c44⟩, xs_rank_nn c73 c88⟩
          · refine lv_iconst (v := (nI 0)) hx hb dX6_worth_91 (by decide) ?_
            refine lv_goto (tgt := 96) hx hb dX6_worth_92 (by decide) ?_
            refine lv_iadd hx hb dX6_worth_96 ?_
            refine xx_topi (y := (nI 0)) (by decide) ?_
            refine xx_iret () hx hb hr hlocks hS hK hP hD dX6_worth_97 ?_
            first | exact Or.inl ⟨⟨Or.inl c7, Or.inl c34⟩, xs_rank_aa c73 c88⟩ | exact Or.inl ⟨⟨Or.inl c7, Or.inl c34⟩, xs_rank_an c73 c88⟩ | exact Or.inl ⟨⟨Or.inl c7, Or.inl c34⟩, xs_rank_na c73 c88⟩ | exact Or.inl ⟨⟨Or.inl c7, Or.inl c34⟩, xs_rank_nn c73 c88⟩ | exact Or.inl ⟨⟨Or.inl c7, Or.inr c44⟩, xs_rank_aa c73 c88⟩ | exact Or.inl ⟨⟨Or.inl c7, Or.inr c44⟩, xs_rank_an c73 c88⟩ | exact Or.inl ⟨⟨Or.inl c7, Or.inr c44⟩, xs_rank_na c73 c88⟩ | exact Or.inl ⟨⟨Or.inl c7, Or.inr c44⟩, xs_rank_nn c73 c88⟩ | exact Or.inl ⟨⟨Or.inr c17, Or.inl c34⟩, xs_rank_aa c73 c88⟩ | exact Or.inl ⟨⟨Or.inr c17, Or.inl c34⟩, xs_rank_an c73 c88⟩ | exact Or.inl ⟨⟨Or.inr c17, Or.inl c34⟩, xs_rank_na c73 c88⟩ | exact Or.inl ⟨⟨Or.inr c17, Or.inl c34⟩, xs_rank_nn c73 c88⟩ | exact Or.inl ⟨⟨Or.inr c17, Or.inr c44⟩, xs_rank_aa c73 c88⟩ | exact Or.inl ⟨⟨Or.inr c17, Or.inr c44⟩, xs_rank_an c73 c88⟩ | exact Or.inl ⟨⟨Or.inr c17, Or.inr c44⟩, xs_rank_na c73 c88⟩ | exact Or.inl ⟨⟨Or.inr c17, Or.inr c44⟩, xs_rank_nn c73 c88⟩
  · refine lv_aload_n hx hb dX6_worth_10 rfl (lv_at hl 0 rfl) ?_
    refine va_get (D := D) (ci := 6) (v := .ref (om 15)) (C := RX6) (T := TX6) (N := 28) hx hb hts hinW hown hK hP 0 rfl rfl 21 (by decide) (hts _ tw_397) (fun _ h9 => h9) rfl dX6_worth_11 ?_
    refine lv_iload_n hx hb dX6_worth_14 rfl (lv_at hl 1 rfl) ?_
    refine xx_iald hx hb hK hP 15 0 rfl rfl (show i < 20 by omega) (by decide) dX6_worth_15 ?_
    refine lv_iload_n hx hb dX6_worth_16 rfl (lv_at hl 2 rfl) ?_
    refine lv_icmp_ne (tgt := 24) hx hb dX6_worth_17 (by decide) (fun c17 => ?_) (fun c17 => ?_)
    · refine lv_iconst (v := (nI 0)) hx hb dX6_worth_24 (by decide) ?_
      refine lv_istore (lv' := [(4, .int (nI 0)), (0, .ref (om 0)), (1, .int (nI i)), (2, .int t), (3, .int b)]) hx hb dX6_worth_25 hl (by decide) rfl (fun ls hl => ?_)
      refine lv_aload_n hx hb dX6_worth_27 rfl (lv_at hl 1 rfl) ?_
      refine va_get (D := D) (ci := 6) (v := .ref (om 16)) (C := RX6) (T := TX6) (N := 28) hx hb hts hinW hown hK hP 0 rfl rfl 22 (by decide) (hts _ tw_398) (fun _ h9 => h9) rfl dX6_worth_28 ?_
      refine lv_iload_n hx hb dX6_worth_31 rfl (lv_at hl 2 rfl) ?_
      refine xx_iald hx hb hK hP 16 0 rfl rfl (show i < 20 by omega) (by decide) dX6_worth_32 ?_
      refine lv_iconst (v := (-1)) hx hb dX6_worth_33 (by decide) ?_
      refine lv_icmp_eq (tgt := 47) hx hb dX6_worth_34 (by decide) (fun c34 => ?_) (fun c34 => ?_)
      · refine lv_iconst (v := (nI 1)) hx hb dX6_worth_47 (by decide) ?_
        refine lv_goto (tgt := 52) hx hb dX6_worth_48 (by decide) ?_
        refine lv_istore (lv' := [(5, .int (nI 1)), (4, .int (nI 0)), (0, .ref (om 0)), (1, .int (nI i)), (2, .int t), (3, .int b)]) hx hb dX6_worth_52 hl (by decide) rfl (fun ls hl => ?_)
        refine lv_iload hx hb dX6_worth_54 (lv_at hl 1 rfl) ?_
        refine lv_if_eq (tgt := 64) hx hb dX6_worth_56 (by decide) (fun _ => ?_) (fun c => absurd c (by decide))
        refine lv_iconst (v := (-1)) hx hb dX6_worth_64 (by decide) ?_
        refine xx_iret () hx hb hr hlocks hS hK hP hD dX6_worth_65 ?_
        first | exact Or.inr ⟨fun h => h.1.elim c7 c17, rfl⟩ | exact Or.inr ⟨fun h => h.2.elim c34 c44, rfl⟩
      · refine lv_aload_n hx hb dX6_worth_37 rfl (lv_at hl 1 rfl) ?_
        refine va_get (D := D) (ci := 6) (v := .ref (om 16)) (C := RX6) (T := TX6) (N := 28) hx hb hts hinW hown hK hP 0 rfl rfl 22 (by decide) (hts _ tw_398) (fun _ h9 => h9) rfl dX6_worth_38 ?_
        refine lv_iload_n hx hb dX6_worth_41 rfl (lv_at hl 2 rfl) ?_
        refine xx_iald hx hb hK hP 16 0 rfl rfl (show i < 20 by omega) (by decide) dX6_worth_42 ?_
        refine lv_iload_n hx hb dX6_worth_43 rfl (lv_at hl 4 rfl) ?_
        refine lv_icmp_ne (tgt := 51) hx hb dX6_worth_44 (by decide) (fun c44 => ?_) (fun c44 => ?_)
        · refine lv_iconst (v := (nI 0)) hx hb dX6_worth_51 (by decide) ?_
          refine lv_istore (lv' := [(5, .int (nI 0)), (4, .int (nI 0)), (0, .ref (om 0)), (1, .int (nI i)), (2, .int t), (3, .int b)]) hx hb dX6_worth_52 hl (by decide) rfl (fun ls hl => ?_)
          refine lv_iload hx hb dX6_worth_54 (lv_at hl 1 rfl) ?_
          refine lv_if_eq (tgt := 64) hx hb dX6_worth_56 (by decide) (fun _ => ?_) (fun c => absurd c (by decide))
          refine lv_iconst (v := (-1)) hx hb dX6_worth_64 (by decide) ?_
          refine xx_iret () hx hb hr hlocks hS hK hP hD dX6_worth_65 ?_
          first | exact Or.inr ⟨fun h => h.1.elim c7 c17, rfl⟩ | exact Or.inr ⟨fun h => h.2.elim c34 c44, rfl⟩
        · refine lv_iconst (v := (nI 1)) hx hb dX6_worth_47 (by decide) ?_
          refine lv_goto (tgt := 52) hx hb dX6_worth_48 (by decide) ?_
          refine lv_istore (lv' := [(5, .int (nI 1)), (4, .int (nI 0)), (0, .ref (om 0)), (1, .int (nI i)), (2, .int t), (3, .int b)]) hx hb dX6_worth_52 hl (by decide) rfl (fun ls hl => ?_)
          refine lv_iload hx hb dX6_worth_54 (lv_at hl 1 rfl) ?_
          refine lv_if_eq (tgt := 64) hx hb dX6_worth_56 (by decide) (fun _ => ?_) (fun c => absurd c (by decide))
          refine lv_iconst (v := (-1)) hx hb dX6_worth_64 (by decide) ?_
          refine xx_iret () hx hb hr hlocks hS hK hP hD dX6_worth_65 ?_
          first | exact Or.inr ⟨fun h => h.1.elim c7 c17, rfl⟩ | exact Or.inr ⟨fun h => h.2.elim c34 c44, rfl⟩
    · refine lv_iconst (v := (nI 1)) hx hb dX6_worth_20 (by decide) ?_
      refine lv_goto (tgt := 25) hx hb dX6_worth_21 (by decide) ?_
      refine lv_istore (lv' := [(4, .int (nI 1)), (0, .ref (om 0)), (1, .int (nI i)), (2, .int t), (3, .int b)]) hx hb dX6_worth_25 hl (by decide) rfl (fun ls hl => ?_)
      refine lv_aload_n hx hb dX6_worth_27 rfl (lv_at hl 1 rfl) ?_
      refine va_get (D := D) (ci := 6) (v := .ref (om 16)) (C := RX6) (T := TX6) (N := 28) hx hb hts hinW hown hK hP 0 rfl rfl 22 (by decide) (hts _ tw_398) (fun _ h9 => h9) rfl dX6_worth_28 ?_
      refine lv_iload_n hx hb dX6_worth_31 rfl (lv_at hl 2 rfl) ?_
      refine xx_iald hx hb hK hP 16 0 rfl rfl (show i < 20 by omega) (by decide) dX6_worth_32 ?_
      refine lv_iconst (v := (-1)) hx hb dX6_worth_33 (by decide) ?_
      refine lv_icmp_eq (tgt := 47) hx hb dX6_worth_34 (by decide) (fun c34 => ?_) (fun c34 => ?_)
      · refine lv_iconst (v := (nI 1)) hx hb dX6_worth_47 (by decide) ?_
        refine lv_goto (tgt := 52) hx hb dX6_worth_48 (by decide) ?_
        refine lv_istore (lv' := [(5, .int (nI 1)), (4, .int (nI 1)), (0, .ref (om 0)), (1, .int (nI i)), (2, .int t), (3, .int b)]) hx hb dX6_worth_52 hl (by decide) rfl (fun ls hl => ?_)
        refine lv_iload hx hb dX6_worth_54 (lv_at hl 1 rfl) ?_
        refine lv_if_eq (tgt := 64) hx hb dX6_worth_56 (by decide) (fun c => absurd c (by decide)) (fun _ => ?_)
        refine lv_iload hx hb dX6_worth_59 (lv_at hl 0 rfl) ?_
        refine lv_if_ne (tgt := 66) hx hb dX6_worth_61 (by decide) (fun _ => ?_) (fun c => absurd c (by decide))
        refine lv_aload_n hx hb dX6_worth_66 rfl (lv_at hl 2 rfl) ?_
        refine va_get (D := D) (ci := 6) (v := .ref (om 15)) (C := RX6) (T := TX6) (N := 28) hx hb hts hinW hown hK hP 0 rfl rfl 21 (by decide) (hts _ tw_397) (fun _ h9 => h9) rfl dX6_worth_67 ?_
        refine lv_iload_n hx hb dX6_worth_70 rfl (lv_at hl 3 rfl) ?_
        refine xx_iald hx hb hK hP 15 0 rfl rfl (show i < 20 by omega) (by decide) dX6_worth_71 ?_
        refine lv_iconst (v := (-1)) hx hb dX6_worth_72 (by decide) ?_
        refine lv_icmp_ne (tgt := 80) hx hb dX6_worth_73 (by decide) (fun c73 => ?_) (fun c73 => ?_)
        · refine lv_iconst (v := (nI 2)) hx hb dX6_worth_80 (by decide) ?_
          refine lv_aload_n hx hb dX6_worth_81 rfl (lv_at hl 2 rfl) ?_
          refine va_get (D := D) (ci := 6) (v := .ref (om 16)) (C := RX6) (T := TX6) (N := 28) hx hb hts hinW hown hK hP 0 rfl rfl 22 (by decide) (hts _ tw_398) (fun _ h9 => h9) rfl dX6_worth_82 ?_
          refine lv_iload_n hx hb dX6_worth_85 rfl (lv_at hl 3 rfl) ?_
          refine xx_iald hx hb hK hP 16 0 rfl rfl (show i < 20 by omega) (by decide) dX6_worth_86 ?_
          refine lv_iconst (v := (-1)) hx hb dX6_worth_87 (by decide) ?_
          refine lv_icmp_ne (tgt := 95) hx hb dX6_worth_88 (by decide) (fun c88 => ?_) (fun c88 => ?_)
          · refine lv_iconst (v := (nI 1)) hx hb dX6_worth_95 (by decide) ?_
            refine lv_iadd hx hb dX6_worth_96 ?_
            refine xx_topi (y := (nI 3)) (by decide) ?_
            refine xx_iret () hx hb hr hlocks hS hK hP hD dX6_worth_97 ?_
            first | exact Or.inl ⟨⟨Or.inl c7, Or.inl c34⟩, xs_rank_aa c73 c88⟩ | exact Or.inl ⟨⟨Or.inl c7, Or.inl c34⟩, xs_rank_an c73 c88⟩ | exact Or.inl ⟨⟨Or.inl c7, Or.inl c34⟩, xs_rank_na c73 c88⟩ | exact Or.inl ⟨⟨Or.inl c7, Or.inl c34⟩, xs_rank_nn c73 c88⟩ | exact Or.inl ⟨⟨Or.inl c7, Or.inr c44⟩, xs_rank_aa c73 c88⟩ | exact Or.inl ⟨⟨Or.inl c7, Or.inr c44⟩, xs_rank_an c73 c88⟩ | exact Or.inl ⟨⟨Or.inl c7, Or.inr c44⟩, xs_rank_na c73 c88⟩ | exact Or.inl ⟨⟨Or.inl c7, Or.inr c44⟩, xs_rank_nn c73 c88⟩ | exact Or.inl ⟨⟨Or.inr c17, Or.inl c34⟩, xs_rank_aa c73 c88⟩ | exact Or.inl ⟨⟨Or.inr c17, Or.inl c34⟩, xs_rank_an c73 c88⟩ | exact Or.inl ⟨⟨Or.inr c17, Or.inl c34⟩, xs_rank_na c73 c88⟩ | exact Or.inl ⟨⟨Or.inr c17, Or.inl c34⟩, xs_rank_nn c73 c88⟩ | exact Or.inl ⟨⟨Or.inr c17, Or.inr c44⟩, xs_rank_aa c73 c88⟩ | exact Or.inl ⟨⟨Or.inr c17, Or.inr c44⟩, xs_rank_an c73 c88⟩ | exact Or.inl ⟨⟨Or.inr c17, Or.inr c44⟩, xs_rank_na c73 c88⟩ | exact Or.inl ⟨⟨Or.inr c17, Or.inr c44⟩, xs_rank_nn c73 c88⟩
          · refine lv_iconst (v := (nI 0)) hx hb dX6_worth_91 (by decide) ?_
            refine lv_goto (tgt := 96) hx hb dX6_worth_92 (by decide) ?_
            refine lv_iadd hx hb dX6_worth_96 ?_
            refine xx_topi (y := (nI 2)) (by decide) ?_
            refine xx_iret () hx hb hr hlocks hS hK hP hD dX6_worth_97 ?_
            first | exact Or.inl ⟨⟨Or.inl c7, Or.inl c34⟩, xs_rank_aa c73 c88⟩ | exact Or.inl ⟨⟨Or.inl c7, Or.inl c34⟩, xs_rank_an c73 c88⟩ | exact Or.inl ⟨⟨Or.inl c7, Or.inl c34⟩, xs_rank_na c73 c88⟩ | exact Or.inl ⟨⟨Or.inl c7, Or.inl c34⟩, xs_rank_nn c73 c88⟩ | exact Or.inl ⟨⟨Or.inl c7, Or.inr c44⟩, xs_rank_aa c73 c88⟩ | exact Or.inl ⟨⟨Or.inl c7, Or.inr c44⟩, xs_rank_an c73 c88⟩ | exact Or.inl ⟨⟨Or.inl c7, Or.inr c44⟩, xs_rank_na c73 c88⟩ | exact Or.inl ⟨⟨Or.inl c7, Or.inr c44⟩, xs_rank_nn c73 c88⟩ | exact Or.inl ⟨⟨Or.inr c17, Or.inl c34⟩, xs_rank_aa c73 c88⟩ | exact Or.inl ⟨⟨Or.inr c17, Or.inl c34⟩, xs_rank_an c73 c88⟩ | exact Or.inl ⟨⟨Or.inr c17, Or.inl c34⟩, xs_rank_na c73 c88⟩ | exact Or.inl ⟨⟨Or.inr c17, Or.inl c34⟩, xs_rank_nn c73 c88⟩ | exact Or.inl ⟨⟨Or.inr c17, Or.inr c44⟩, xs_rank_aa c73 c88⟩ | exact Or.inl ⟨⟨Or.inr c17, Or.inr c44⟩, xs_rank_an c73 c88⟩ | exact Or.inl ⟨⟨Or.inr c17, Or.inr c44⟩, xs_rank_na c73 c88⟩ | exact Or.inl ⟨⟨Or.inr c17, Or.inr c44⟩, xs_rank_nn c73 c88⟩
        · refine lv_iconst (v := (nI 0)) hx hb dX6_worth_76 (by decide) ?_
          refine lv_goto (tgt := 81) hx hb dX6_worth_77 (by decide) ?_
          refine lv_aload_n hx hb dX6_worth_81 rfl (lv_at hl 2 rfl) ?_
          refine va_get (D := D) (ci := 6) (v := .ref (om 16)) (C := RX6) (T := TX6) (N := 28) hx hb hts hinW hown hK hP 0 rfl rfl 22 (by decide) (hts _ tw_398) (fun _ h9 => h9) rfl dX6_worth_82 ?_
          refine lv_iload_n hx hb dX6_worth_85 rfl (lv_at hl 3 rfl) ?_
          refine xx_iald hx hb hK hP 16 0 rfl rfl (show i < 20 by omega) (by decide) dX6_worth_86 ?_
          refine lv_iconst (v := (-1)) hx hb dX6_worth_87 (by decide) ?_
          refine lv_icmp_ne (tgt := 95) hx hb dX6_worth_88 (by decide) (fun c88 => ?_) (fun c88 => ?_)
          · refine lv_iconst (v := (nI 1)) hx hb dX6_worth_95 (by decide) ?_
            refine lv_iadd hx hb dX6_worth_96 ?_
            refine xx_topi (y := (nI 1)) (by decide) ?_
            refine xx_iret () hx hb hr hlocks hS hK hP hD dX6_worth_97 ?_
            first | exact Or.inl ⟨⟨Or.inl c7, Or.inl c34⟩, xs_rank_aa c73 c88⟩ | exact Or.inl ⟨⟨Or.inl c7, Or.inl c34⟩, xs_rank_an c73 c88⟩ | exact Or.inl ⟨⟨Or.inl c7, Or.inl c34⟩, xs_rank_na c73 c88⟩ | exact Or.inl ⟨⟨Or.inl c7, Or.inl c34⟩, xs_rank_nn c73 c88⟩ | exact Or.inl ⟨⟨Or.inl c7, Or.inr c44⟩, xs_rank_aa c73 c88⟩ | exact Or.inl ⟨⟨Or.inl c7, Or.inr c44⟩, xs_rank_an c73 c88⟩ | exact Or.inl ⟨⟨Or.inl c7, Or.inr c44⟩, xs_rank_na c73 c88⟩ | exact Or.inl ⟨⟨Or.inl c7, Or.inr c44⟩, xs_rank_nn c73 c88⟩ | exact Or.inl ⟨⟨Or.inr c17, Or.inl c34⟩, xs_rank_aa c73 c88⟩ | exact Or.inl ⟨⟨Or.inr c17, Or.inl c34⟩, xs_rank_an c73 c88⟩ | exact Or.inl ⟨⟨Or.inr c17, Or.inl c34⟩, xs_rank_na c73 c88⟩ | exact Or.inl ⟨⟨Or.inr c17, Or.inl c34⟩, xs_rank_nn c73 c88⟩ | exact Or.inl ⟨⟨Or.inr c17, Or.inr c44⟩, xs_rank_aa c73 c88⟩ | exact Or.inl ⟨⟨Or.inr c17, Or.inr c44⟩, xs_rank_an c73 c88⟩ | exact Or.inl ⟨⟨Or.inr c17, Or.inr c44⟩, xs_rank_na c73 c88⟩ | exact Or.inl ⟨⟨Or.inr c17, Or.inr c44⟩, xs_rank_nn c73 c88⟩
          · refine lv_iconst (v := (nI 0)) hx hb dX6_worth_91 (by decide) ?_
            refine lv_goto (tgt := 96) hx hb dX6_worth_92 (by decide) ?_
            refine lv_iadd hx hb dX6_worth_96 ?_
            refine xx_topi (y := (nI 0)) (by decide) ?_
            refine xx_iret () hx hb hr hlocks hS hK hP hD dX6_worth_97 ?_
            first | exact Or.inl ⟨⟨Or.inl c7, Or.inl c34⟩, xs_rank_aa c73 c88⟩ | exact Or.inl ⟨⟨Or.inl c7, Or.inl c34⟩, xs_rank_an c73 c88⟩ | exact Or.inl ⟨⟨Or.inl c7, Or.inl c34⟩, xs_rank_na c73 c88⟩ | exact Or.inl ⟨⟨Or.inl c7, Or.inl c34⟩, xs_rank_nn c73 c88⟩ | exact Or.inl ⟨⟨Or.inl c7, Or.inr c44⟩, xs_rank_aa c73 c88⟩ | exact Or.inl ⟨⟨Or.inl c7, Or.inr c44⟩, xs_rank_an c73 c88⟩ | exact Or.inl ⟨⟨Or.inl c7, Or.inr c44⟩, xs_rank_na c73 c88⟩ | exact Or.inl ⟨⟨Or.inl c7, Or.inr c44⟩, xs_rank_nn c73 c88⟩ | exact Or.inl ⟨⟨Or.inr c17, Or.inl c34⟩, xs_rank_aa c73 c88⟩ | exact Or.inl ⟨⟨Or.inr c17, Or.inl c34⟩, xs_rank_an c73 c88⟩ | exact Or.inl ⟨⟨Or.inr c17, Or.inl c34⟩, xs_rank_na c73 c88⟩ | exact Or.inl ⟨⟨Or.inr c17, Or.inl c34⟩, xs_rank_nn c73 c88⟩ | exact Or.inl ⟨⟨Or.inr c17, Or.inr c44⟩, xs_rank_aa c73 c88⟩ | exact Or.inl ⟨⟨Or.inr c17, Or.inr c44⟩, xs_rank_an c73 c88⟩ | exact Or.inl ⟨⟨Or.inr c17, Or.inr c44⟩, xs_rank_na c73 c88⟩ | exact Or.inl ⟨⟨Or.inr c17, Or.inr c44⟩, xs_rank_nn c73 c88⟩
      · refine lv_aload_n hx hb dX6_worth_37 rfl (lv_at hl 1 rfl) ?_
        refine va_get (D := D) (ci := 6) (v := .ref (om 16)) (C := RX6) (T := TX6) (N := 28) hx hb hts hinW hown hK hP 0 rfl rfl 22 (by decide) (hts _ tw_398) (fun _ h9 => h9) rfl dX6_worth_38 ?_
        refine lv_iload_n hx hb dX6_worth_41 rfl (lv_at hl 2 rfl) ?_
        refine xx_iald hx hb hK hP 16 0 rfl rfl (show i < 20 by omega) (by decide) dX6_worth_42 ?_
        refine lv_iload_n hx hb dX6_worth_43 rfl (lv_at hl 4 rfl) ?_
        refine lv_icmp_ne (tgt := 51) hx hb dX6_worth_44 (by decide) (fun c44 => ?_) (fun c44 => ?_)
        · refine lv_iconst (v := (nI 0)) hx hb dX6_worth_51 (by decide) ?_
          refine lv_istore (lv' := [(5, .int (nI 0)), (4, .int (nI 1)), (0, .ref (om 0)), (1, .int (nI i)), (2, .int t), (3, .int b)]) hx hb dX6_worth_52 hl (by decide) rfl (fun ls hl => ?_)
          refine lv_iload hx hb dX6_worth_54 (lv_at hl 1 rfl) ?_
          refine lv_if_eq (tgt := 64) hx hb dX6_worth_56 (by decide) (fun c => absurd c (by decide)) (fun _ => ?_)
          refine lv_iload hx hb dX6_worth_59 (lv_at hl 0 rfl) ?_
          refine lv_if_ne (tgt := 66) hx hb dX6_worth_61 (by decide) (fun c => absurd c (by decide)) (fun _ => ?_)
          refine lv_iconst (v := (-1)) hx hb dX6_worth_64 (by decide) ?_
          refine xx_iret () hx hb hr hlocks hS hK hP hD dX6_worth_65 ?_
          first | exact Or.inr ⟨fun h => h.1.elim c7 c17, rfl⟩ | exact Or.inr ⟨fun h => h.2.elim c34 c44, rfl⟩
        · refine lv_iconst (v := (nI 1)) hx hb dX6_worth_47 (by decide) ?_
          refine lv_goto (tgt := 52) hx hb dX6_worth_48 (by decide) ?_
          refine lv_istore (lv' := [(5, .int (nI 1)), (4, .int (nI 1)), (0, .ref (om 0)), (1, .int (nI i)), (2, .int t), (3, .int b)]) hx hb dX6_worth_52 hl (by decide) rfl (fun ls hl => ?_)
          refine lv_iload hx hb dX6_worth_54 (lv_at hl 1 rfl) ?_
          refine lv_if_eq (tgt := 64) hx hb dX6_worth_56 (by decide) (fun c => absurd c (by decide)) (fun _ => ?_)
          refine lv_iload hx hb dX6_worth_59 (lv_at hl 0 rfl) ?_
          refine lv_if_ne (tgt := 66) hx hb dX6_worth_61 (by decide) (fun _ => ?_) (fun c => absurd c (by decide))
          refine lv_aload_n hx hb dX6_worth_66 rfl (lv_at hl 2 rfl) ?_
          refine va_get (D := D) (ci := 6) (v := .ref (om 15)) (C := RX6) (T := TX6) (N := 28) hx hb hts hinW hown hK hP 0 rfl rfl 21 (by decide) (hts _ tw_397) (fun _ h9 => h9) rfl dX6_worth_67 ?_
          refine lv_iload_n hx hb dX6_worth_70 rfl (lv_at hl 3 rfl) ?_
          refine xx_iald hx hb hK hP 15 0 rfl rfl (show i < 20 by omega) (by decide) dX6_worth_71 ?_
          refine lv_iconst (v := (-1)) hx hb dX6_worth_72 (by decide) ?_
          refine lv_icmp_ne (tgt := 80) hx hb dX6_worth_73 (by decide) (fun c73 => ?_) (fun c73 => ?_)
          · refine lv_iconst (v := (nI 2)) hx hb dX6_worth_80 (by decide) ?_
            refine lv_aload_n hx hb dX6_worth_81 rfl (lv_at hl 2 rfl) ?_
            refine va_get (D := D) (ci := 6) (v := .ref (om 16)) (C := RX6) (T := TX6) (N := 28) hx hb hts hinW hown hK hP 0 rfl rfl 22 (by decide) (hts _ tw_398) (fun _ h9 => h9) rfl dX6_worth_82 ?_
            refine lv_iload_n hx hb dX6_worth_85 rfl (lv_at hl 3 rfl) ?_
            refine xx_iald hx hb hK hP 16 0 rfl rfl (show i < 20 by omega) (by decide) dX6_worth_86 ?_
            refine lv_iconst (v := (-1)) hx hb dX6_worth_87 (by decide) ?_
            refine lv_icmp_ne (tgt := 95) hx hb dX6_worth_88 (by decide) (fun c88 => ?_) (fun c88 => ?_)
            · refine lv_iconst (v := (nI 1)) hx hb dX6_worth_95 (by decide) ?_
              refine lv_iadd hx hb dX6_worth_96 ?_
              refine xx_topi (y := (nI 3)) (by decide) ?_
              refine xx_iret () hx hb hr hlocks hS hK hP hD dX6_worth_97 ?_
              first | exact Or.inl ⟨⟨Or.inl c7, Or.inl c34⟩, xs_rank_aa c73 c88⟩ | exact Or.inl ⟨⟨Or.inl c7, Or.inl c34⟩, xs_rank_an c73 c88⟩ | exact Or.inl ⟨⟨Or.inl c7, Or.inl c34⟩, xs_rank_na c73 c88⟩ | exact Or.inl ⟨⟨Or.inl c7, Or.inl c34⟩, xs_rank_nn c73 c88⟩ | exact Or.inl ⟨⟨Or.inl c7, Or.inr c44⟩, xs_rank_aa c73 c88⟩ | exact Or.inl ⟨⟨Or.inl c7, Or.inr c44⟩, xs_rank_an c73 c88⟩ | exact Or.inl ⟨⟨Or.inl c7, Or.inr c44⟩, xs_rank_na c73 c88⟩ | exact Or.inl ⟨⟨Or.inl c7, Or.inr c44⟩, xs_rank_nn c73 c88⟩ | exact Or.inl ⟨⟨Or.inr c17, Or.inl c34⟩, xs_rank_aa c73 c88⟩ | exact Or.inl ⟨⟨Or.inr c17, Or.inl c34⟩, xs_rank_an c73 c88⟩ | exact Or.inl ⟨⟨Or.inr c17, Or.inl c34⟩, xs_rank_na c73 c88⟩ | exact Or.inl ⟨⟨Or.inr c17, Or.inl c34⟩, xs_rank_nn c73 c88⟩ | exact Or.inl ⟨⟨Or.inr c17, Or.inr c44⟩, xs_rank_aa c73 c88⟩ | exact Or.inl ⟨⟨Or.inr c17, Or.inr c44⟩, xs_rank_an c73 c88⟩ | exact Or.inl ⟨⟨Or.inr c17, Or.inr c44⟩, xs_rank_na c73 c88⟩ | exact Or.inl ⟨⟨Or.inr c17, Or.inr c44⟩, xs_rank_nn c73 c88⟩
            · refine lv_iconst (v := (nI 0)) hx hb dX6_worth_91 (by decide) ?_
              refine lv_goto (tgt := 96) hx hb dX6_worth_92 (by decide) ?_
              refine lv_iadd hx hb dX6_worth_96 ?_
              refine xx_topi (y := (nI 2)) (by decide) ?_
              refine xx_iret () hx hb hr hlocks hS hK hP hD dX6_worth_97 ?_
              first | exact Or.inl ⟨⟨Or.inl c7, Or.inl c34⟩, xs_rank_aa c73 c88⟩ | exact Or.inl ⟨⟨Or.inl c7, Or.inl c34⟩, xs_rank_an c73 c88⟩ | exact Or.inl ⟨⟨Or.inl c7, Or.inl c34⟩, xs_rank_na c73 c88⟩ | exact Or.inl ⟨⟨Or.inl c7, Or.inl c34⟩, xs_rank_nn c73 c88⟩ | exact Or.inl ⟨⟨Or.inl c7, Or.inr c44⟩, xs_rank_aa c73 c88⟩ | exact Or.inl ⟨⟨Or.inl c7, Or.inr c44⟩, xs_rank_an c73 c88⟩ | exact Or.inl ⟨⟨Or.inl c7, Or.inr c44⟩, xs_rank_na c73 c88⟩ | exact Or.inl ⟨⟨Or.inl c7, Or.inr c44⟩, xs_rank_nn c73 c88⟩ | exact Or.inl ⟨⟨Or.inr c17, Or.inl c34⟩, xs_rank_aa c73 c88⟩ | exact Or.inl ⟨⟨Or.inr c17, Or.inl c34⟩, xs_rank_an c73 c88⟩ | exact Or.inl ⟨⟨Or.inr c17, Or.inl c34⟩, xs_rank_na c73 c88⟩ | exact Or.inl ⟨⟨Or.inr c17, Or.inl c34⟩, xs_rank_nn c73 c88⟩ | exact Or.inl ⟨⟨Or.inr c17, Or.inr c44⟩, xs_rank_aa c73 c88⟩ | exact Or.inl ⟨⟨Or.inr c17, Or.inr c44⟩, xs_rank_an c73 c88⟩ | exact Or.inl ⟨⟨Or.inr c17, Or.inr c44⟩, xs_rank_na c73 c88⟩ | exact Or.inl ⟨⟨Or.inr c17, Or.inr c44⟩, xs_rank_nn c73 c88⟩
          · refine lv_iconst (v := (nI 0)) hx hb dX6_worth_76 (by decide) ?_
            refine lv_goto (tgt := 81) hx hb dX6_worth_77 (by decide) ?_
            refine lv_aload_n hx hb dX6_worth_81 rfl (lv_at hl 2 rfl) ?_
            refine va_get (D := D) (ci := 6) (v := .ref (om 16)) (C := RX6) (T := TX6) (N := 28) hx hb hts hinW hown hK hP 0 rfl rfl 22 (by decide) (hts _ tw_398) (fun _ h9 => h9) rfl dX6_worth_82 ?_
            refine lv_iload_n hx hb dX6_worth_85 rfl (lv_at hl 3 rfl) ?_
            refine xx_iald hx hb hK hP 16 0 rfl rfl (show i < 20 by omega) (by decide) dX6_worth_86 ?_
            refine lv_iconst (v := (-1)) hx hb dX6_worth_87 (by decide) ?_
            refine lv_icmp_ne (tgt := 95) hx hb dX6_worth_88 (by decide) (fun c88 => ?_) (fun c88 => ?_)
            · refine lv_iconst (v := (nI 1)) hx hb dX6_worth_95 (by decide) ?_
              refine lv_iadd hx hb dX6_worth_96 ?_
              refine xx_topi (y := (nI 1)) (by decide) ?_
              refine xx_iret () hx hb hr hlocks hS hK hP hD dX6_worth_97 ?_
              first | exact Or.inl ⟨⟨Or.inl c7, Or.inl c34⟩, xs_rank_aa c73 c88⟩ | exact Or.inl ⟨⟨Or.inl c7, Or.inl c34⟩, xs_rank_an c73 c88⟩ | exact Or.inl ⟨⟨Or.inl c7, Or.inl c34⟩, xs_rank_na c73 c88⟩ | exact Or.inl ⟨⟨Or.inl c7, Or.inl c34⟩, xs_rank_nn c73 c88⟩ | exact Or.inl ⟨⟨Or.inl c7, Or.inr c44⟩, xs_rank_aa c73 c88⟩ | exact Or.inl ⟨⟨Or.inl c7, Or.inr c44⟩, xs_rank_an c73 c88⟩ | exact Or.inl ⟨⟨Or.inl c7, Or.inr c44⟩, xs_rank_na c73 c88⟩ | exact Or.inl ⟨⟨Or.inl c7, Or.inr c44⟩, xs_rank_nn c73 c88⟩ | exact Or.inl ⟨⟨Or.inr c17, Or.inl c34⟩, xs_rank_aa c73 c88⟩ | exact Or.inl ⟨⟨Or.inr c17, Or.inl c34⟩, xs_rank_an c73 c88⟩ | exact Or.inl ⟨⟨Or.inr c17, Or.inl c34⟩, xs_rank_na c73 c88⟩ | exact Or.inl ⟨⟨Or.inr c17, Or.inl c34⟩, xs_rank_nn c73 c88⟩ | exact Or.inl ⟨⟨Or.inr c17, Or.inr c44⟩, xs_rank_aa c73 c88⟩ | exact Or.inl ⟨⟨Or.inr c17, Or.inr c44⟩, xs_rank_an c73 c88⟩ | exact Or.inl ⟨⟨Or.inr c17, Or.inr c44⟩, xs_rank_na c73 c88⟩ | exact Or.inl ⟨⟨Or.inr c17, Or.inr c44⟩, xs_rank_nn c73 c88⟩
            · refine lv_iconst (v := (nI 0)) hx hb dX6_worth_91 (by decide) ?_
              refine lv_goto (tgt := 96) hx hb dX6_worth_92 (by decide) ?_
              refine lv_iadd hx hb dX6_worth_96 ?_
              refine xx_topi (y := (nI 0)) (by decide) ?_
              refine xx_iret () hx hb hr hlocks hS hK hP hD dX6_worth_97 ?_
              first | exact Or.inl ⟨⟨Or.inl c7, Or.inl c34⟩, xs_rank_aa c73 c88⟩ | exact Or.inl ⟨⟨Or.inl c7, Or.inl c34⟩, xs_rank_an c73 c88⟩ | exact Or.inl ⟨⟨Or.inl c7, Or.inl c34⟩, xs_rank_na c73 c88⟩ | exact Or.inl ⟨⟨Or.inl c7, Or.inl c34⟩, xs_rank_nn c73 c88⟩ | exact Or.inl ⟨⟨Or.inl c7, Or.inr c44⟩, xs_rank_aa c73 c88⟩ | exact Or.inl ⟨⟨Or.inl c7, Or.inr c44⟩, xs_rank_an c73 c88⟩ | exact Or.inl ⟨⟨Or.inl c7, Or.inr c44⟩, xs_rank_na c73 c88⟩ | exact Or.inl ⟨⟨Or.inl c7, Or.inr c44⟩, xs_rank_nn c73 c88⟩ | exact Or.inl ⟨⟨Or.inr c17, Or.inl c34⟩, xs_rank_aa c73 c88⟩ | exact Or.inl ⟨⟨Or.inr c17, Or.inl c34⟩, xs_rank_an c73 c88⟩ | exact Or.inl ⟨⟨Or.inr c17, Or.inl c34⟩, xs_rank_na c73 c88⟩ | exact Or.inl ⟨⟨Or.inr c17, Or.inl c34⟩, xs_rank_nn c73 c88⟩ | exact Or.inl ⟨⟨Or.inr c17, Or.inr c44⟩, xs_rank_aa c73 c88⟩ | exact Or.inl ⟨⟨Or.inr c17, Or.inr c44⟩, xs_rank_an c73 c88⟩ | exact Or.inl ⟨⟨Or.inr c17, Or.inr c44⟩, xs_rank_na c73 c88⟩ | exact Or.inl ⟨⟨Or.inr c17, Or.inr c44⟩, xs_rank_nn c73 c88⟩
def p_M_ruleOf (om : Nat → Nat) (mth : Int32) (tq : Int32) (to : Bool) (wc : Nat) (wl : Nat → Int32) (wb : Nat → Bool) (wk : Nat → Nat) (kk : Nat → Int64) (kf : Nat → Int64) (ku : Nat → Int64) (ec : Nat) (ew : Nat → Nat) (ea : Nat → Int64) (ed : Nat → Int64) (et : Nat → Int64) (ex : Nat → Bool) (cc : Nat) (ca : Nat → Int64) (cl : Nat → Int32) (ch : Nat → Int32) (uc : Nat) (ut : Nat → Int32) (ub : Nat → Int32) (ul : Nat → Int32) (uw : Nat → Int32) (tt : Int64) (ac : Nat) (as : Nat → Int32) (t : Int32) (b : Int32) : Int32 → Unit → Prop := fun r u => (r = (-1) ∧ ∀ j, j < uc → ¬ ((ut j = (-1) ∨ ut j = t) ∧ (ub j = (-1) ∨ ub j = b))) ∨ (∃ q, r = nI q ∧ q < uc ∧ ((ut q = (-1) ∨ ut q = t) ∧ (ub q = (-1) ∨ ub q = b)) ∧ ∀ j, j < uc → ((ut j = (-1) ∨ ut j = t) ∧ (ub j = (-1) ∨ ub j = b)) → xs_rank (ut j) (ub j) ≤ xs_rank (ut q) (ub q) ∧ (q < j → xs_rank (ut j) (ub j) < xs_rank (ut q) (ub q)))
set_option maxHeartbeats 4000000 in
set_option maxRecDepth 100000 in
theorem c_M_ruleOf (l : Launch) (D : va_G) (k : Nat → ClassId) (om : Nat → Nat) (mth : Int32) (tq : Int32) (to : Bool) (wc : Nat) (wl : Nat → Int32) (wb : Nat → Bool) (wk : Nat → Nat) (kk : Nat → Int64) (kf : Nat → Int64) (ku : Nat → Int64) (ec : Nat) (ew : Nat → Nat) (ea : Nat → Int64) (ed : Nat → Int64) (et : Nat → Int64) (ex : Nat → Bool) (cc : Nat) (ca : Nat → Int64) (cl : Nat → Int32) (ch : Nat → Int32) (uc : Nat) (ut : Nat → Int32) (ub : Nat → Int32) (ul : Nat → Int32) (uw : Nat → Int32) (tt : Int64) (ac : Nat) (as : Nat → Int32) (t : Int32) (b : Int32) (huc : uc ≤ 20) : xx_Ci l yX6_ruleOf (.code yX6_ruleOf cX6_ruleOf 6 (some .int) :: xall) ({ frames := 1, cells := 0, slots := 0, locals := 25 } : Room) D vwCl (xT k) [.ref (om 0), .int t, .int b] (bM k om mth tq to wc wl wb wk kk kf ku ec ew ea ed et ex cc ca cl ch uc ut ub ul uw tt ac as) (p_M_ruleOf om mth tq to wc wl wb wk kk kf ku ec ew ea ed et ex cc ca cl ch uc ut ub ul uw tt ac as t b) (fun (u : Unit) => bM k om mth tq to wc wl wb wk kk kf ku ec ew ea ed et ex cc ca cl ch uc ut ub ul uw tt ac as) 0 0 := by
  intro sz
  refine xx_met (Qf := fun A => va_Qi (p_M_ruleOf om mth tq to wc wl wb wk kk kf ku ec ew ea ed et ex cc ca cl ch uc ut ub ul uw tt ac as t b) (xx_B D vwCl (xT k) A (fun (u : Unit) => bM k om mth tq to wc wl wb wk kk kf ku ec ew ea ed et ex cc ca cl ch uc ut ub ul uw tt ac as)) A) (cc := cX6_ruleOf) (maxL := 6) (ret := (some .int)) (by decide) rfl (Nat.le_of_ble_eq_true rfl) ?_
  intro p e s m below meth c A ls hx hb hr hts hown hlocks hin hml hA hS hP hD hK hN hl
  have hl : lv_has ls 6 [(0, .ref (om 0)), (1, .int t), (2, .int b)] := hl
  have hown : s.vm.findClass RX6 = some m.cls := hown
  have hinW := inX6
  refine lv_iconst (v := (-1)) hx hb dX6_ruleOf_0 (by decide) ?_
  refine lv_istore_n (lv' := [(3, .int (-1)), (0, .ref (om 0)), (1, .int t), (2, .int b)]) hx hb dX6_ruleOf_1 rfl hl (by decide) rfl (fun ls hl => ?_)
  refine lv_iconst (v := (nI 0)) hx hb dX6_ruleOf_2 (by decide) ?_
  refine lv_istore (lv' := [(4, .int (nI 0)), (3, .int (-1)), (0, .ref (om 0)), (1, .int t), (2, .int b)]) hx hb dX6_ruleOf_3 hl (by decide) rfl (fun ls hl => ?_)
  have loop5 : ∀ (dd : Nat) (i : Nat) (b3 : Int32), uc + 1 ≤ i + dd → (i ≤ uc) → ((b3 = (-1) ∧ ∀ j, j < i → ¬ ((ut j = (-1) ∨ ut j = t) ∧ (ub j = (-1) ∨ ub j = b))) ∨ (∃ q, b3 = nI q ∧ q < i ∧ ((ut q = (-1) ∨ ut q = t) ∧ (ub q = (-1) ∨ ub q = b)) ∧ ∀ j, j < i → ((ut j = (-1) ∨ ut j = t) ∧ (ub j = (-1) ∨ ub j = b)) → xs_rank (ut j) (ub j) ≤ xs_rank (ut q) (ub q) ∧ (q < j → xs_rank (ut j) (ub j) < xs_rank (ut q) (ub q)))) → ∀ (H : Heap) (locs : List Loc) (ls : Array Slot), va_P D vwCl (bM k om mth tq to wc wl wb wk kk kf ku ec ew ea ed et ex cc ca cl ch uc ut ub ul uw tt ac as) H → va_D A (bM k om mth tq to wc wl wb wk kk kf ku ec ew ea ed et ex cc ca cl ch uc ut ub ul uw tt ac as) → va_S A s.heap H locs → lv_has ls 6 [(0, .ref (om 0)), (1, .int t), (2, .int b), (3, .int b3), (4, .int (nI i))] → W p l e ({ frames := 1, cells := 0, slots := 0, locals := 25 } : Room) s m [.ref (om 0), .int t, .int b].toArray below meth c H locs 0 0 (MQ below (va_Qi (p_M_ruleOf om mth tq to wc wl wb wk kk kf ku ec ew ea ed et ex cc ca cl ch uc ut ub ul uw tt ac as t b) (xx_B D vwCl (xT k) A (fun (u : Unit) => bM k om mth tq to wc wl wb wk kk kf ku ec ew ea ed et ex cc ca cl ch uc ut ub ul uw tt ac as)) A) [.ref (om 0), .int t, .int b].toArray s 0 0 A) (F0 m 5 ls []) := by
    intro dd
    induction dd with
    | zero =>
      intro i b3 hm h2 h3
      exact absurd hm (by omega)
    | succ dd ih5 =>
      intro i b3 hm h2 h3 H locs ls hP hD hS hl
      refine lv_iload hx hb dX6_ruleOf_5 (lv_at hl 4 rfl) ?_
      refine lv_aload_n hx hb dX6_ruleOf_7 rfl (lv_at hl 0 rfl) ?_
      refine va_get (D := D) (ci := 6) (v := .int (nI uc)) (C := RX6) (T := TX6) (N := 28) hx hb hts hinW hown hK hP 0 rfl rfl 20 (by decide) (hts _ tw_396) (fun _ h9 => h9) rfl dX6_ruleOf_8 ?_
      refine lv_icmp_ge (tgt := 55) hx hb dX6_ruleOf_11 (by decide) (fun c11 => ?_) (fun c11 => ?_)
      · have c11 : uc ≤ i := (nI_leI (by omega) (by omega)).mp c11
        refine lv_iload_n hx hb dX6_ruleOf_55 rfl (lv_at hl 3 rfl) ?_
        refine xx_iret () hx hb hr hlocks hS hK hP hD dX6_ruleOf_56 ?_
        obtain rfl : i = uc := (by omega)
        exact h3
      · have c11 : i < uc := Nat.lt_of_not_le (fun h => c11 ((nI_leI (by omega) (by omega)).mpr h))
        refine lv_aload_n hx hb dX6_ruleOf_14 rfl (lv_at hl 0 rfl) ?_
        refine lv_iload hx hb dX6_ruleOf_15 (lv_at hl 4 rfl) ?_
        refine lv_iload_n hx hb dX6_ruleOf_17 rfl (lv_at hl 1 rfl) ?_
        refine lv_iload_n hx hb dX6_ruleOf_18 rfl (lv_at hl 2 rfl) ?_
        refine xx_calli ([]) [0, 1, 2, 3, 4, 5, 6, 7, 8, 9, 10, 11, 12, 13, 14, 15, 16, 17, 18, 19] [] (va_runV (As := [.int (nI i), .int t, .int b]) (rest := []) ⟨hx, hb, hml, hown, hts⟩ (c_M_worth l D k om mth tq to wc wl wb wk kk kf ku ec ew ea ed et ex cc ca cl ch uc ut ub ul uw tt ac as i t b (by omega) (by omega) H.size) (cwV 3 hts (xx_gV tw_531 tw_533 ts_10 tw_8 tw_534) rfl rfl rfl (by decide +kernel) ⟨Nat.le_of_ble_eq_true rfl, Nat.le_of_ble_eq_true rfl⟩) (xx_preV hK hN hP hD [0, 1, 2, 3, 4, 5, 6, 7, 8, 9, 10, 11, 12, 13, 14, 15, 16, 17, 18, 19] (by decide) rfl 6 0 rfl rfl) rfl rfl hl.1 rfl (lv_room (Nat.le_of_ble_eq_true rfl)) dX6_ruleOf_19 ⟨Nat.le_of_ble_eq_true rfl, Nat.le_of_ble_eq_true rfl⟩) hP hD hS hA rfl rfl (by decide) (by decide) (fun r19 u19 H locs hw19 hP hD hS => ?_)
        rcases hw19 with ⟨hf19, rfl⟩ | ⟨hf19, rfl⟩
        · have hk19 := xs_rank_le (ut i) (ub i)
          have hP : va_P D vwCl (bM k om mth tq to wc wl wb wk kk kf ku ec ew ea ed et ex cc ca cl ch uc ut ub ul uw tt ac as) H := hP
          have hD : va_D A (bM k om mth tq to wc wl wb wk kk kf ku ec ew ea ed et ex cc ca cl ch uc ut ub ul uw tt ac as) := hD
          refine lv_istore (lv' := [(5, .int (nI (xs_rank (ut i) (ub i)))), (0, .ref (om 0)), (1, .int t), (2, .int b), (3, .int b3), (4, .int (nI i))]) hx hb dX6_ruleOf_22 hl (by decide) rfl (fun ls hl => ?_)
          refine lv_iload hx hb dX6_ruleOf_24 (lv_at hl 0 rfl) ?_
          refine lv_if_lt (tgt := 49) hx hb dX6_ruleOf_26 (by decide) (fun c => absurd c (nI_pos (by omega))) (fun _ => ?_)
          refine lv_iload_n hx hb dX6_ruleOf_29 rfl (lv_at hl 4 rfl) ?_
          refine lv_iconst (v := (-1)) hx hb dX6_ruleOf_30 (by decide) ?_
          refine lv_icmp_eq (tgt := 46) hx hb dX6_ruleOf_31 (by decide) (fun c31 => ?_) (fun c31 => ?_)
          · refine lv_iload hx hb dX6_ruleOf_46 (lv_at hl 5 rfl) ?_
            refine lv_istore_n (lv' := [(3, .int (nI i)), (5, .int (nI (xs_rank (ut i) (ub i)))), (0, .ref (om 0)), (1, .int t), (2, .int b), (4, .int (nI i))]) hx hb dX6_ruleOf_48 rfl hl (by decide) rfl (fun ls hl => ?_)
            refine lv_iinc (v := (nI (i + 1))) (lv' := [(4, .int (nI (i + 1))), (3, .int (nI i)), (5, .int (nI (xs_rank (ut i) (ub i)))), (0, .ref (om 0)), (1, .int t), (2, .int b)]) hx hb dX6_ruleOf_49 hl (k := 5) rfl (nI_1 i) (by decide) rfl (fun ls hl => ?_)
            refine lv_goto (tgt := 5) hx hb dX6_ruleOf_52 (by decide) ?_
            exact ih5 (i + 1) (nI i) (by omega) (by omega) (by first | exact xp_skip (O := fun j => (ut j = (-1) ∨ ut j = t) ∧ (ub j = (-1) ∨ ub j = b)) (R := fun j => xs_rank (ut j) (ub j)) h3 hf19 | exact xp_new1 (O := fun j => (ut j = (-1) ∨ ut j = t) ∧ (ub j = (-1) ∨ ub j = b)) (R := fun j => xs_rank (ut j) (ub j)) (by omega) h3 hf19 c31 | exact xp_new2 (O := fun j => (ut j = (-1) ∨ ut j = t) ∧ (ub j = (-1) ∨ ub j = b)) (R := fun j => xs_rank (ut j) (ub j)) hq4 hf19 c43 | exact xp_old2 (O := fun j => (ut j = (-1) ∨ ut j = t) ∧ (ub j = (-1) ∨ ub j = b)) (R := fun j => xs_rank (ut j) (ub j)) hq2 hq3 hq4 c43) H locs ls hP hD hS (lv_sub hl [3, 4, 5, 1, 0] rfl)
          · obtain ⟨q, hbq, hq2, hq3, hq4⟩ := h3.resolve_left (fun h => c31 h.1)
            subst hbq
            refine lv_iload hx hb dX6_ruleOf_34 (lv_at hl 0 rfl) ?_
            refine lv_aload_n hx hb dX6_ruleOf_36 rfl (lv_at hl 1 rfl) ?_
            refine lv_iload_n hx hb dX6_ruleOf_37 rfl (lv_at hl 4 rfl) ?_
            refine lv_iload_n hx hb dX6_ruleOf_38 rfl (lv_at hl 2 rfl) ?_
            refine lv_iload_n hx hb dX6_ruleOf_39 rfl (lv_at hl 3 rfl) ?_
            refine xx_calli ([]) [0, 1, 2, 3, 4, 5, 6, 7, 8, 9, 10, 11, 12, 13, 14, 15, 16, 17, 18, 19] [] (va_runV (As := [.int (nI q), .int t, .int b]) (rest := [.int (nI (xs_rank (ut i) (ub i)))]) ⟨hx, hb, hml, hown, hts⟩ (c_M_worth l D k om mth tq to wc wl wb wk kk kf ku ec ew ea ed et ex cc ca cl ch uc ut ub ul uw tt ac as q t b (by omega) (by omega) H.size) (cwV 3 hts (xx_gV tw_531 tw_533 ts_10 tw_8 tw_534) rfl rfl rfl (by decide +kernel) ⟨Nat.le_of_ble_eq_true rfl, Nat.le_of_ble_eq_true rfl⟩) (xx_preV hK hN hP hD [0, 1, 2, 3, 4, 5, 6, 7, 8, 9, 10, 11, 12, 13, 14, 15, 16, 17, 18, 19] (by decide) rfl 6 0 rfl rfl) rfl rfl hl.1 rfl (lv_room (Nat.le_of_ble_eq_true rfl)) dX6_ruleOf_40 ⟨Nat.le_of_ble_eq_true rfl, Nat.le_of_ble_eq_true rfl⟩) hP hD hS hA rfl rfl (by decide) (by decide) (fun r40 u40 H locs hw40 hP hD hS => ?_)
            rcases hw40 with ⟨hf40, rfl⟩ | ⟨hf40, rfl⟩
            · have hk40 := xs_rank_le (ut q) (ub q)
              have hP : va_P D vwCl (bM k om mth tq to wc wl wb wk kk kf ku ec ew ea ed et ex cc ca cl ch uc ut ub ul uw tt ac as) H := hP
              have hD : va_D A (bM k om mth tq to wc wl wb wk kk kf ku ec ew ea ed et ex cc ca cl ch uc ut ub ul uw tt ac as) := hD
              refine lv_icmp_lt (tgt := 49) hx hb dX6_ruleOf_43 (by decide) (fun c43 => ?_) (fun c43 => ?_)
              · have c43 : xs_rank (ut i) (ub i) < xs_rank (ut q) (ub q) := (nI_ltI (by omega) (by omega)).mp c43
                refine lv_iinc (v := (nI (i + 1))) (lv' := [(4, .int (nI (i + 1))), (5, .int (nI (xs_rank (ut i) (ub i)))), (0, .ref (om 0)), (1, .int t), (2, .int b), (3, .int (nI q))]) hx hb dX6_ruleOf_49 hl (k := 5) rfl (nI_1 i) (by decide) rfl (fun ls hl => ?_)
                refine lv_goto (tgt := 5) hx hb dX6_ruleOf_52 (by decide) ?_
                exact ih5 (i + 1) (nI q) (by omega) (by omega) (by first | exact xp_skip (O := fun j => (ut j = (-1) ∨ ut j = t) ∧ (ub j = (-1) ∨ ub j = b)) (R := fun j => xs_rank (ut j) (ub j)) h3 hf19 | exact xp_new1 (O := fun j => (ut j = (-1) ∨ ut j = t) ∧ (ub j = (-1) ∨ ub j = b)) (R := fun j => xs_rank (ut j) (ub j)) (by omega) h3 hf19 c31 | exact xp_new2 (O := fun j => (ut j = (-1) ∨ ut j = t) ∧ (ub j = (-1) ∨ ub j = b)) (R := fun j => xs_rank (ut j) (ub j)) hq4 hf19 c43 | exact xp_old2 (O := fun j => (ut j = (-1) ∨ ut j = t) ∧ (ub j = (-1) ∨ ub j = b)) (R := fun j => xs_rank (ut j) (ub j)) hq2 hq3 hq4 c43) H locs ls hP hD hS (lv_sub hl [2, 3, 4, 5, 0] rfl)
              · have c43 : xs_rank (ut q) (ub q) ≤ xs_rank (ut i) (ub i) := Nat.le_of_not_lt (fun h => c43 ((nI_ltI (by omega) (by omega)).mpr h))
                refine lv_iload hx hb dX6_ruleOf_46 (lv_at hl 5 rfl) ?_
                refine lv_istore_n (lv' := [(3, .int (nI i)), (5, .int (nI (xs_rank (ut i) (ub i)))), (0, .ref (om 0)), (1, .int t), (2, .int b), (4, .int (nI i))]) hx hb dX6_ruleOf_48 rfl hl (by decide) rfl (fun ls hl => ?_)
                refine lv_iinc (v := (nI (i + 1))) (lv' := [(4, .int (nI (i + 1))), (3, .int (nI i)), (5, .int (nI (xs_rank (ut i) (ub i)))), (0, .ref (om 0)), (1, .int t), (2, .int b)]) hx hb dX6_ruleOf_49 hl (k := 5) rfl (nI_1 i) (by decide) rfl (fun ls hl => ?_)
                refine lv_goto (tgt := 5) hx hb dX6_ruleOf_52 (by decide) ?_
                exact ih5 (i + 1) (nI i) (by omega) (by omega) (by first | exact xp_skip (O := fun j => (ut j = (-1) ∨ ut j = t) ∧ (ub j = (-1) ∨ ub j = b)) (R := fun j => xs_rank (ut j) (ub j)) h3 hf19 | exact xp_new1 (O := fun j => (ut j = (-1) ∨ ut j = t) ∧ (ub j = (-1) ∨ ub j = b)) (R := fun j => xs_rank (ut j) (ub j)) (by omega) h3 hf19 c31 | exact xp_new2 (O := fun j => (ut j = (-1) ∨ ut j = t) ∧ (ub j = (-1) ∨ ub j = b)) (R := fun j => xs_rank (ut j) (ub j)) hq4 hf19 c43 | exact xp_old2 (O := fun j => (ut j = (-1) ∨ ut j = t) ∧ (ub j = (-1) ∨ ub j = b)) (R := fun j => xs_rank (ut j) (ub j)) hq2 hq3 hq4 c43) H locs ls hP hD hS (lv_sub hl [3, 4, 5, 1, 0] rfl)
            · exact absurd hq3 hf40
        · have hP : va_P D vwCl (bM k om mth tq to wc wl wb wk kk kf ku ec ew ea ed et ex cc ca cl ch uc ut ub ul uw tt ac as) H := hP
          have hD : va_D A (bM k om mth tq to wc wl wb wk kk kf ku ec ew ea ed et ex cc ca cl ch uc ut ub ul uw tt ac as) := hD
          refine lv_istore (lv' := [(5, .int (-1)), (0, .ref (om 0)), (1, .int t), (2, .int b), (3, .int b3), (4, .int (nI i))]) hx hb dX6_ruleOf_22 hl (by decide) rfl (fun ls hl => ?_)
          refine lv_iload hx hb dX6_ruleOf_24 (lv_at hl 0 rfl) ?_
          refine lv_if_lt (tgt := 49) hx hb dX6_ruleOf_26 (by decide) (fun _ => ?_) (fun c => absurd c (by decide))
          refine lv_iinc (v := (nI (i + 1))) (lv' := [(4, .int (nI (i + 1))), (5, .int (-1)), (0, .ref (om 0)), (1, .int t), (2, .int b), (3, .int b3)]) hx hb dX6_ruleOf_49 hl (k := 5) rfl (nI_1 i) (by decide) rfl (fun ls hl => ?_)
          refine lv_goto (tgt := 5) hx hb dX6_ruleOf_52 (by decide) ?_
          exact ih5 (i + 1) b3 (by omega) (by omega) (by first | exact xp_skip (O := fun j => (ut j = (-1) ∨ ut j = t) ∧ (ub j = (-1) ∨ ub j = b)) (R := fun j => xs_rank (ut j) (ub j)) h3 hf19 | exact xp_new1 (O := fun j => (ut j = (-1) ∨ ut j = t) ∧ (ub j = (-1) ∨ ub j = b)) (R := fun j => xs_rank (ut j) (ub j)) (by omega) h3 hf19 c31 | exact xp_new2 (O := fun j => (ut j = (-1) ∨ ut j = t) ∧ (ub j = (-1) ∨ ub j = b)) (R := fun j => xs_rank (ut j) (ub j)) hq4 hf19 c43 | exact xp_old2 (O := fun j => (ut j = (-1) ∨ ut j = t) ∧ (ub j = (-1) ∨ ub j = b)) (R := fun j => xs_rank (ut j) (ub j)) hq2 hq3 hq4 c43) H locs ls hP hD hS (lv_sub hl [2, 3, 4, 5, 0] rfl)
  exact loop5 (uc + 1) 0 (-1) (by omega) (by omega) (by exact Or.inl ⟨rfl, fun j z => absurd z (by omega)⟩) s.heap _ ls hP hD hS (lv_sub hl [2, 3, 4, 1, 0] rfl)
def p_M_isPlace (t : Int32) (b : Int32) : Int32 → Unit → Prop := fun r u => xb r (ixN 8 t ∧ ixN 8 b)
set_option maxHeartbeats 4000000 in
set_option maxRecDepth 100000 in
theorem c_M_isPlace (l : Launch) (D : va_G) (k : Nat → ClassId) (t : Int32) (b : Int32) : xx_Ci l yX6_isPlace (.code yX6_isPlace cX6_isPlace 2 (some .boolean) :: xall) ({ frames := 1, cells := 0, slots := 0, locals := 22 } : Room) D vwCl (xT k) [.int t, .int b] ([]) (p_M_isPlace t b) (fun (u : Unit) => []) 0 0 := by
  intro sz
  refine xx_met (Qf := fun A => va_Qi (p_M_isPlace t b) (xx_B D vwCl (xT k) A (fun (u : Unit) => [])) A) (cc := cX6_isPlace) (maxL := 2) (ret := (some .boolean)) (by decide) rfl (Nat.le_of_ble_eq_true rfl) ?_
  intro p e s m below meth c A ls hx hb hr hts hown hlocks hin hml hA hS hP hD hK hN hl
  have hl : lv_has ls 2 [(0, .int t), (1, .int b)] := hl
  have hown : s.vm.findClass RX6 = some m.cls := hown
  refine lv_iload_n hx hb dX6_isPlace_0 rfl (lv_at hl 0 rfl) ?_
  refine lv_iconst (v := (nI 0)) hx hb dX6_isPlace_1 (by decide) ?_
  refine lv_bipush (v := (nI 7)) hx hb dX6_isPlace_2 (by decide) ?_
  refine xx_calli ([]) [] [] (va_runS (As := [.int t, .int (nI 0), .int (nI 7)]) (rest := []) ⟨hx, hb, hml, hown, hts⟩ (c_M_in l D k t (nI 0) (nI 7) s.heap.size) (va_cwS 3 hts (xx_gS tw_465 tw_466 tw_8 tw_467) rfl rfl rfl (by decide +kernel) ⟨Nat.le_of_ble_eq_true rfl, Nat.le_of_ble_eq_true rfl⟩) (xx_preS hK hN hP hD [] (by decide) rfl) rfl rfl hl.1 rfl (lv_room (Nat.le_of_ble_eq_true rfl)) dX6_isPlace_4 ⟨Nat.le_of_ble_eq_true rfl, Nat.le_of_ble_eq_true rfl⟩) hP hD hS hA rfl rfl (by decide) (by decide) (fun r4 u4 H locs hw4 hP hD hS => ?_)
  rcases hw4 with ⟨rfl, hq4⟩ | ⟨rfl, hq4⟩
  · have hP : va_P D vwCl ([]) H := hP
    have hD : va_D A ([]) := hD
    refine lv_if_eq (tgt := 24) hx hb dX6_isPlace_7 (by decide) (fun c => absurd c (by decide)) (fun _ => ?_)
    refine lv_iload_n hx hb dX6_isPlace_10 rfl (lv_at hl 1 rfl) ?_
    refine lv_iconst (v := (nI 0)) hx hb dX6_isPlace_11 (by decide) ?_
    refine lv_bipush (v := (nI 7)) hx hb dX6_isPlace_12 (by decide) ?_
    refine xx_calli ([]) [] [] (va_runS (As := [.int b, .int (nI 0), .int (nI 7)]) (rest := []) ⟨hx, hb, hml, hown, hts⟩ (c_M_in l D k b (nI 0) (nI 7) H.size) (va_cwS 3 hts (xx_gS tw_465 tw_466 tw_8 tw_467) rfl rfl rfl (by decide +kernel) ⟨Nat.le_of_ble_eq_true rfl, Nat.le_of_ble_eq_true rfl⟩) (xx_preS hK hN hP hD [] (by decide) rfl) rfl rfl hl.1 rfl (lv_room (Nat.le_of_ble_eq_true rfl)) dX6_isPlace_14 ⟨Nat.le_of_ble_eq_true rfl, Nat.le_of_ble_eq_true rfl⟩) hP hD hS hA rfl rfl (by decide) (by decide) (fun r14 u14 H locs hw14 hP hD hS => ?_)
    rcases hw14 with ⟨rfl, hq14⟩ | ⟨rfl, hq14⟩
    · have hP : va_P D vwCl ([]) H := hP
      have hD : va_D A ([]) := hD
      refine lv_if_eq (tgt := 24) hx hb dX6_isPlace_17 (by decide) (fun c => absurd c (by decide)) (fun _ => ?_)
      refine lv_iconst (v := (nI 1)) hx hb dX6_isPlace_20 (by decide) ?_
      refine lv_goto (tgt := 25) hx hb dX6_isPlace_21 (by decide) ?_
      refine xx_zret () hx hb hr hlocks rfl hS hK hP hD dX6_isPlace_25 ?_
      first | exact xb_f (fun h => hq4 ((xx_inN (by decide)).mpr h.1)) | exact xb_f (fun h => hq14 ((xx_inN (by decide)).mpr h.2)) | exact xb_t ⟨(xx_inN (by decide)).mp hq4, (xx_inN (by decide)).mp hq14⟩
    · have hP : va_P D vwCl ([]) H := hP
      have hD : va_D A ([]) := hD
      refine lv_if_eq (tgt := 24) hx hb dX6_isPlace_17 (by decide) (fun _ => ?_) (fun c => absurd c (by decide))
      refine lv_iconst (v := (nI 0)) hx hb dX6_isPlace_24 (by decide) ?_
      refine xx_zret () hx hb hr hlocks rfl hS hK hP hD dX6_isPlace_25 ?_
      first | exact xb_f (fun h => hq4 ((xx_inN (by decide)).mpr h.1)) | exact xb_f (fun h => hq14 ((xx_inN (by decide)).mpr h.2)) | exact xb_t ⟨(xx_inN (by decide)).mp hq4, (xx_inN (by decide)).mp hq14⟩
  · have hP : va_P D vwCl ([]) H := hP
    have hD : va_D A ([]) := hD
    refine lv_if_eq (tgt := 24) hx hb dX6_isPlace_7 (by decide) (fun _ => ?_) (fun c => absurd c (by decide))
    refine lv_iconst (v := (nI 0)) hx hb dX6_isPlace_24 (by decide) ?_
    refine xx_zret () hx hb hr hlocks rfl hS hK hP hD dX6_isPlace_25 ?_
    first | exact xb_f (fun h => hq4 ((xx_inN (by decide)).mpr h.1)) | exact xb_f (fun h => hq14 ((xx_inN (by decide)).mpr h.2)) | exact xb_t ⟨(xx_inN (by decide)).mp hq4, (xx_inN (by decide)).mp hq14⟩
def p_M_ruleFor (om : Nat → Nat) (mth : Int32) (tq : Int32) (to : Bool) (wc : Nat) (wl : Nat → Int32) (wb : Nat → Bool) (wk : Nat → Nat) (kk : Nat → Int64) (kf : Nat → Int64) (ku : Nat → Int64) (ec : Nat) (ew : Nat → Nat) (ea : Nat → Int64) (ed : Nat → Int64) (et : Nat → Int64) (ex : Nat → Bool) (cc : Nat) (ca : Nat → Int64) (cl : Nat → Int32) (ch : Nat → Int32) (uc : Nat) (ut : Nat → Int32) (ub : Nat → Int32) (ul : Nat → Int32) (uw : Nat → Int32) (tt : Int64) (ac : Nat) (as : Nat → Int32) (t : Int32) (b : Int32) : Int32 → Unit → Prop := fun r u => (r = (-1) ∧ ¬ (ixN 8 t ∧ ixN 8 b)) ∨ ((ixN 8 t ∧ ixN 8 b) ∧ p_M_ruleOf om (nI 0) tq to wc wl wb wk kk kf ku ec ew ea ed et ex cc ca cl ch uc ut ub ul uw tt ac as t b r ())
set_option maxHeartbeats 4000000 in
set_option maxRecDepth 100000 in
theorem c_M_ruleFor (l : Launch) (D : va_G) (k : Nat → ClassId) (om : Nat → Nat) (mth : Int32) (tq : Int32) (to : Bool) (wc : Nat) (wl : Nat → Int32) (wb : Nat → Bool) (wk : Nat → Nat) (kk : Nat → Int64) (kf : Nat → Int64) (ku : Nat → Int64) (ec : Nat) (ew : Nat → Nat) (ea : Nat → Int64) (ed : Nat → Int64) (et : Nat → Int64) (ex : Nat → Bool) (cc : Nat) (ca : Nat → Int64) (cl : Nat → Int32) (ch : Nat → Int32) (uc : Nat) (ut : Nat → Int32) (ub : Nat → Int32) (ul : Nat → Int32) (uw : Nat → Int32) (tt : Int64) (ac : Nat) (as : Nat → Int32) (t : Int32) (b : Int32) (huc : uc ≤ 20) : xx_Ci l yX6_ruleFor (.code yX6_ruleFor cX6_ruleFor 3 (some .int) :: xall) ({ frames := 2, cells := 0, slots := 0, locals := 50 } : Room) D vwCl (xT k) [.ref (om 0), .int t, .int b] (bM k om mth tq to wc wl wb wk kk kf ku ec ew ea ed et ex cc ca cl ch uc ut ub ul uw tt ac as) (p_M_ruleFor om mth tq to wc wl wb wk kk kf ku ec ew ea ed et ex cc ca cl ch uc ut ub ul uw tt ac as t b) (fun (u : Unit) => bM k om (nI 0) tq to wc wl wb wk kk kf ku ec ew ea ed et ex cc ca cl ch uc ut ub ul uw tt ac as) 0 0 := by
  intro sz
  refine xx_met (Qf := fun A => va_Qi (p_M_ruleFor om mth tq to wc wl wb wk kk kf ku ec ew ea ed et ex cc ca cl ch uc ut ub ul uw tt ac as t b) (xx_B D vwCl (xT k) A (fun (u : Unit) => bM k om (nI 0) tq to wc wl wb wk kk kf ku ec ew ea ed et ex cc ca cl ch uc ut ub ul uw tt ac as)) A) (cc := cX6_ruleFor) (maxL := 3) (ret := (some .int)) (by decide) rfl (Nat.le_of_ble_eq_true rfl) ?_
  intro p e s m below meth c A ls hx hb hr hts hown hlocks hin hml hA hS hP hD hK hN hl
  have hl : lv_has ls 3 [(0, .ref (om 0)), (1, .int t), (2, .int b)] := hl
  have hown : s.vm.findClass RX6 = some m.cls := hown
  have hinW := inX6
  refine lv_aload_n hx hb dX6_ruleFor_0 rfl (lv_at hl 0 rfl) ?_
  refine lv_iconst (v := (nI 0)) hx hb dX6_ruleFor_1 (by decide) ?_
  refine va_put (D := D) (ci := 6) (v := .int (nI 0)) (ty := .int) (C := RX6) (T := TX6) (N := 28) hx hb hts hinW tyX6 tyX6_ok nmX6 hown hK hP hD hS 0 rfl rfl 0 (by decide) (hts _ tw_376) (fun _ h9 => h9) rfl (by decide +kernel) rfl rfl (Nat.le_of_ble_eq_true rfl) dX6_ruleFor_2 (fun H locs hP hD hS => ?_)
  have hP : va_P D vwCl (bM k om (nI 0) tq to wc wl wb wk kk kf ku ec ew ea ed et ex cc ca cl ch uc ut ub ul uw tt ac as) H := hP
  have hD : va_D A (bM k om (nI 0) tq to wc wl wb wk kk kf ku ec ew ea ed et ex cc ca cl ch uc ut ub ul uw tt ac as) := hD
  refine lv_iload_n hx hb dX6_ruleFor_5 rfl (lv_at hl 1 rfl) ?_
  refine lv_iload_n hx hb dX6_ruleFor_6 rfl (lv_at hl 2 rfl) ?_
  refine xx_calli (bM k om (nI 0) tq to wc wl wb wk kk kf ku ec ew ea ed et ex cc ca cl ch uc ut ub ul uw tt ac as) [] [0, 1, 2, 3, 4, 5, 6, 7, 8, 9, 10, 11, 12, 13, 14, 15, 16, 17, 18, 19] (va_runS (As := [.int t, .int b]) (rest := []) ⟨hx, hb, hml, hown, hts⟩ (c_M_isPlace l D k t b H.size) (va_cwS 2 hts (xx_gS tw_524 tw_525 tw_8 tw_526) rfl rfl rfl (by decide +kernel) ⟨Nat.le_of_ble_eq_true rfl, Nat.le_of_ble_eq_true rfl⟩) (xx_preS hK hN hP hD [] (by decide) rfl) rfl rfl hl.1 rfl (lv_room (Nat.le_of_ble_eq_true rfl)) dX6_ruleFor_7 ⟨Nat.le_of_ble_eq_true rfl, Nat.le_of_ble_eq_true rfl⟩) hP hD hS hA rfl rfl (by decide) (by decide) (fun r7 u7 H locs hw7 hP hD hS => ?_)
  rcases hw7 with ⟨rfl, hq7⟩ | ⟨rfl, hq7⟩
  · have hP : va_P D vwCl (bM k om (nI 0) tq to wc wl wb wk kk kf ku ec ew ea ed et ex cc ca cl ch uc ut ub ul uw tt ac as) H := hP
    have hD : va_D A (bM k om (nI 0) tq to wc wl wb wk kk kf ku ec ew ea ed et ex cc ca cl ch uc ut ub ul uw tt ac as) := hD
    refine lv_if_eq (tgt := 22) hx hb dX6_ruleFor_10 (by decide) (fun c => absurd c (by decide)) (fun _ => ?_)
    refine lv_aload_n hx hb dX6_ruleFor_13 rfl (lv_at hl 0 rfl) ?_
    refine lv_iload_n hx hb dX6_ruleFor_14 rfl (lv_at hl 1 rfl) ?_
    refine lv_iload_n hx hb dX6_ruleFor_15 rfl (lv_at hl 2 rfl) ?_
    refine xx_calli ([]) [0, 1, 2, 3, 4, 5, 6, 7, 8, 9, 10, 11, 12, 13, 14, 15, 16, 17, 18, 19] [] (va_runV (As := [.int t, .int b]) (rest := []) ⟨hx, hb, hml, hown, hts⟩ (c_M_ruleOf l D k om (nI 0) tq to wc wl wb wk kk kf ku ec ew ea ed et ex cc ca cl ch uc ut ub ul uw tt ac as t b (by omega) H.size) (cwV 2 hts (xx_gV tw_527 tw_529 ts_9 tw_8 tw_530) rfl rfl rfl (by decide +kernel) ⟨Nat.le_of_ble_eq_true rfl, Nat.le_of_ble_eq_true rfl⟩) (xx_preV hK hN hP hD [0, 1, 2, 3, 4, 5, 6, 7, 8, 9, 10, 11, 12, 13, 14, 15, 16, 17, 18, 19] (by decide) rfl 6 0 rfl rfl) rfl rfl hl.1 rfl (lv_room (Nat.le_of_ble_eq_true rfl)) dX6_ruleFor_16 ⟨Nat.le_of_ble_eq_true rfl, Nat.le_of_ble_eq_true rfl⟩) hP hD hS hA rfl rfl (by decide) (by decide) (fun r16 u16 H locs hw16 hP hD hS => ?_)
    have hP : va_P D vwCl (bM k om (nI 0) tq to wc wl wb wk kk kf ku ec ew ea ed et ex cc ca cl ch uc ut ub ul uw tt ac as) H := hP
    have hD : va_D A (bM k om (nI 0) tq to wc wl wb wk kk kf ku ec ew ea ed et ex cc ca cl ch uc ut ub ul uw tt ac as) := hD
    refine lv_goto (tgt := 23) hx hb dX6_ruleFor_19 (by decide) ?_
    refine xx_iret () hx hb hr hlocks hS hK hP hD dX6_ruleFor_23 ?_
    first | exact Or.inl ⟨rfl, hq7⟩ | exact Or.inr ⟨hq7, hw16⟩
  · have hP : va_P D vwCl (bM k om (nI 0) tq to wc wl wb wk kk kf ku ec ew ea ed et ex cc ca cl ch uc ut ub ul uw tt ac as) H := hP
    have hD : va_D A (bM k om (nI 0) tq to wc wl wb wk kk kf ku ec ew ea ed et ex cc ca cl ch uc ut ub ul uw tt ac as) := hD
    refine lv_if_eq (tgt := 22) hx hb dX6_ruleFor_10 (by decide) (fun _ => ?_) (fun c => absurd c (by decide))
    refine lv_iconst (v := (-1)) hx hb dX6_ruleFor_22 (by decide) ?_
    refine xx_iret () hx hb hr hlocks hS hK hP hD dX6_ruleFor_23 ?_
    first | exact Or.inl ⟨rfl, hq7⟩ | exact Or.inr ⟨hq7, hw16⟩
def p_M_own (om : Nat → Nat) (mth : Int32) (tq : Int32) (to : Bool) (wc : Nat) (wl : Nat → Int32) (wb : Nat → Bool) (wk : Nat → Nat) (kk : Nat → Int64) (kf : Nat → Int64) (ku : Nat → Int64) (ec : Nat) (ew : Nat → Nat) (ea : Nat → Int64) (ed : Nat → Int64) (et : Nat → Int64) (ex : Nat → Bool) (cc : Nat) (ca : Nat → Int64) (cl : Nat → Int32) (ch : Nat → Int32) (uc : Nat) (ut : Nat → Int32) (ub : Nat → Int32) (ul : Nat → Int32) (uw : Nat → Int32) (tt : Int64) (ac : Nat) (as : Nat → Int32) (bb : Bool) : Unit → Prop := fun u => True
set_option maxHeartbeats 4000000 in
set_option maxRecDepth 100000 in
theorem c_M_own (l : Launch) (D : va_G) (k : Nat → ClassId) (om : Nat → Nat) (mth : Int32) (tq : Int32) (to : Bool) (wc : Nat) (wl : Nat → Int32) (wb : Nat → Bool) (wk : Nat → Nat) (kk : Nat → Int64) (kf : Nat → Int64) (ku : Nat → Int64) (ec : Nat) (ew : Nat → Nat) (ea : Nat → Int64) (ed : Nat → Int64) (et : Nat → Int64) (ex : Nat → Bool) (cc : Nat) (ca : Nat → Int64) (cl : Nat → Int32) (ch : Nat → Int32) (uc : Nat) (ut : Nat → Int32) (ub : Nat → Int32) (ul : Nat → Int32) (uw : Nat → Int32) (tt : Int64) (ac : Nat) (as : Nat → Int32) (bb : Bool) : xx_Cv l yX6_own (.code yX6_own cX6_own 2 none :: xall) ({ frames := 0, cells := 0, slots := 0, locals := 0 } : Room) D vwCl (xT k) [.ref (om 0), .int (bI bb)] (bM k om mth tq to wc wl wb wk kk kf ku ec ew ea ed et ex cc ca cl ch uc ut ub ul uw tt ac as) (p_M_own om mth tq to wc wl wb wk kk kf ku ec ew ea ed et ex cc ca cl ch uc ut ub ul uw tt ac as bb) (fun (u : Unit) => bM k om (nI 0) tq bb wc wl wb wk kk kf ku ec ew ea ed et ex cc ca cl ch uc ut ub ul uw tt ac as) 0 0 := by
  intro sz
  refine xx_met (Qf := fun A => va_Qv (p_M_own om mth tq to wc wl wb wk kk kf ku ec ew ea ed et ex cc ca cl ch uc ut ub ul uw tt ac as bb) (xx_B D vwCl (xT k) A (fun (u : Unit) => bM k om (nI 0) tq bb wc wl wb wk kk kf ku ec ew ea ed et ex cc ca cl ch uc ut ub ul uw tt ac as)) A) (cc := cX6_own) (maxL := 2) (ret := none) (by decide) rfl (Nat.le_of_ble_eq_true rfl) ?_
  intro p e s m below meth c A ls hx hb hr hts hown hlocks hin hml hA hS hP hD hK hN hl
  have hl : lv_has ls 2 [(0, .ref (om 0)), (1, .int (bI bb))] := hl
  have hown : s.vm.findClass RX6 = some m.cls := hown
  have hinW := inX6
  refine lv_aload_n hx hb dX6_own_0 rfl (lv_at hl 0 rfl) ?_
  refine lv_iconst (v := (nI 0)) hx hb dX6_own_1 (by decide) ?_
  refine va_put (D := D) (ci := 6) (v := .int (nI 0)) (ty := .int) (C := RX6) (T := TX6) (N := 28) hx hb hts hinW tyX6 tyX6_ok nmX6 hown hK hP hD hS 0 rfl rfl 0 (by decide) (hts _ tw_376) (fun _ h9 => h9) rfl (by decide +kernel) rfl rfl (Nat.le_of_ble_eq_true rfl) dX6_own_2 (fun H locs hP hD hS => ?_)
  have hP : va_P D vwCl (bM k om (nI 0) tq to wc wl wb wk kk kf ku ec ew ea ed et ex cc ca cl ch uc ut ub ul uw tt ac as) H := hP
  have hD : va_D A (bM k om (nI 0) tq to wc wl wb wk kk kf ku ec ew ea ed et ex cc ca cl ch uc ut ub ul uw tt ac as) := hD
  refine lv_aload_n hx hb dX6_own_5 rfl (lv_at hl 0 rfl) ?_
  refine lv_iload_n hx hb dX6_own_6 rfl (lv_at hl 1 rfl) ?_
  refine va_put (D := D) (ci := 6) (v := .int (bI bb)) (ty := .boolean) (C := RX6) (T := TX6) (N := 28) hx hb hts hinW tyX6 tyX6_ok nmX6 hown hK hP hD hS 0 rfl rfl 2 (by decide) (hts _ tw_378) (fun _ h9 => h9) rfl (by decide +kernel) (bI_nar _) (bI_fit _) (Nat.le_of_ble_eq_true rfl) dX6_own_7 (fun H locs hP hD hS => ?_)
  have hP : va_P D vwCl (bM k om (nI 0) tq bb wc wl wb wk kk kf ku ec ew ea ed et ex cc ca cl ch uc ut ub ul uw tt ac as) H := hP
  have hD : va_D A (bM k om (nI 0) tq bb wc wl wb wk kk kf ku ec ew ea ed et ex cc ca cl ch uc ut ub ul uw tt ac as) := hD
  refine xx_vret () hx hb hr hlocks hS hK hP hD dX6_own_10 ?_
  exact trivial
def p_M_taken (om : Nat → Nat) (mth : Int32) (tq : Int32) (to : Bool) (wc : Nat) (wl : Nat → Int32) (wb : Nat → Bool) (wk : Nat → Nat) (kk : Nat → Int64) (kf : Nat → Int64) (ku : Nat → Int64) (ec : Nat) (ew : Nat → Nat) (ea : Nat → Int64) (ed : Nat → Int64) (et : Nat → Int64) (ex : Nat → Bool) (cc : Nat) (ca : Nat → Int64) (cl : Nat → Int32) (ch : Nat → Int32) (uc : Nat) (ut : Nat → Int32) (ub : Nat → Int32) (ul : Nat → Int32) (uw : Nat → Int32) (tt : Int64) (ac : Nat) (as : Nat → Int32) : Int64 → Unit → Prop := fun r u => r = tt
set_option maxHeartbeats 4000000 in
set_option maxRecDepth 100000 in
theorem c_M_taken (l : Launch) (D : va_G) (k : Nat → ClassId) (om : Nat → Nat) (mth : Int32) (tq : Int32) (to : Bool) (wc : Nat) (wl : Nat → Int32) (wb : Nat → Bool) (wk : Nat → Nat) (kk : Nat → Int64) (kf : Nat → Int64) (ku : Nat → Int64) (ec : Nat) (ew : Nat → Nat) (ea : Nat → Int64) (ed : Nat → Int64) (et : Nat → Int64) (ex : Nat → Bool) (cc : Nat) (ca : Nat → Int64) (cl : Nat → Int32) (ch : Nat → Int32) (uc : Nat) (ut : Nat → Int32) (ub : Nat → Int32) (ul : Nat → Int32) (uw : Nat → Int32) (tt : Int64) (ac : Nat) (as : Nat → Int32) : xx_Cl l yX6_taken (.code yX6_taken cX6_taken 1 (some .long) :: xall) ({ frames := 0, cells := 0, slots := 0, locals := 0 } : Room) D vwCl (xT k) [.ref (om 0)] (bM k om mth tq to wc wl wb wk kk kf ku ec ew ea ed et ex cc ca cl ch uc ut ub ul uw tt ac as) (p_M_taken om mth tq to wc wl wb wk kk kf ku ec ew ea ed et ex cc ca cl ch uc ut ub ul uw tt ac as) (fun (u : Unit) => bM k om (nI 0) tq to wc wl wb wk kk kf ku ec ew ea ed et ex cc ca cl ch uc ut ub ul uw tt ac as) 0 0 := by
  intro sz
  refine xx_met (Qf := fun A => va_Ql (p_M_taken om mth tq to wc wl wb wk kk kf ku ec ew ea ed et ex cc ca cl ch uc ut ub ul uw tt ac as) (xx_B D vwCl (xT k) A (fun (u : Unit) => bM k om (nI 0) tq to wc wl wb wk kk kf ku ec ew ea ed et ex cc ca cl ch uc ut ub ul uw tt ac as)) A) (cc := cX6_taken) (maxL := 1) (ret := (some .long)) (by decide) rfl (Nat.le_of_ble_eq_true rfl) ?_
  intro p e s m below meth c A ls hx hb hr hts hown hlocks hin hml hA hS hP hD hK hN hl
  have hl : lv_has ls 1 [(0, .ref (om 0))] := hl
  have hown : s.vm.findClass RX6 = some m.cls := hown
  have hinW := inX6
  refine lv_aload_n hx hb dX6_taken_0 rfl (lv_at hl 0 rfl) ?_
  refine lv_iconst (v := (nI 0)) hx hb dX6_taken_1 (by decide) ?_
  refine va_put (D := D) (ci := 6) (v := .int (nI 0)) (ty := .int) (C := RX6) (T := TX6) (N := 28) hx hb hts hinW tyX6 tyX6_ok nmX6 hown hK hP hD hS 0 rfl rfl 0 (by decide) (hts _ tw_376) (fun _ h9 => h9) rfl (by decide +kernel) rfl rfl (Nat.le_of_ble_eq_true rfl) dX6_taken_2 (fun H locs hP hD hS => ?_)
  have hP : va_P D vwCl (bM k om (nI 0) tq to wc wl wb wk kk kf ku ec ew ea ed et ex cc ca cl ch uc ut ub ul uw tt ac as) H := hP
  have hD : va_D A (bM k om (nI 0) tq to wc wl wb wk kk kf ku ec ew ea ed et ex cc ca cl ch uc ut ub ul uw tt ac as) := hD
  refine lv_aload_n hx hb dX6_taken_5 rfl (lv_at hl 0 rfl) ?_
  refine va_get (D := D) (ci := 6) (v := .long tt) (C := RX6) (T := TX6) (N := 28) hx hb hts hinW hown hK hP 0 rfl rfl 25 (by decide) (hts _ tw_401) (fun _ h9 => h9) rfl dX6_taken_6 ?_
  refine xx_lret () hx hb hr hlocks hS hK hP hD dX6_taken_9 ?_
  exact rfl
def p_M_ownOf (om : Nat → Nat) (mth : Int32) (tq : Int32) (to : Bool) (wc : Nat) (wl : Nat → Int32) (wb : Nat → Bool) (wk : Nat → Nat) (kk : Nat → Int64) (kf : Nat → Int64) (ku : Nat → Int64) (ec : Nat) (ew : Nat → Nat) (ea : Nat → Int64) (ed : Nat → Int64) (et : Nat → Int64) (ex : Nat → Bool) (cc : Nat) (ca : Nat → Int64) (cl : Nat → Int32) (ch : Nat → Int32) (uc : Nat) (ut : Nat → Int32) (ub : Nat → Int32) (ul : Nat → Int32) (uw : Nat → Int32) (tt : Int64) (ac : Nat) (as : Nat → Int32) (a : Int64) (tm : Int64) : Int32 → Unit → Prop := fun r u => (r = (-1) ∧ ∀ j, j < ec → ¬ (ex j = false ∧ wl (ew j) = 0 ∧ ea j = a ∧ ¬ (tm < et j))) ∨ (∃ b, r = nI b ∧ b < ec ∧ (ex b = false ∧ wl (ew b) = 0 ∧ ea b = a ∧ ¬ (tm < et b)) ∧ ∀ j, j < ec → (ex j = false ∧ wl (ew j) = 0 ∧ ea j = a ∧ ¬ (tm < et j)) → ¬ (et b < et j) ∧ (b < j → et j < et b))
set_option maxHeartbeats 4000000 in
set_option maxRecDepth 100000 in
theorem c_M_ownOf (l : Launch) (D : va_G) (k : Nat → ClassId) (om : Nat → Nat) (mth : Int32) (tq : Int32) (to : Bool) (wc : Nat) (wl : Nat → Int32) (wb : Nat → Bool) (wk : Nat → Nat) (kk : Nat → Int64) (kf : Nat → Int64) (ku : Nat → Int64) (ec : Nat) (ew : Nat → Nat) (ea : Nat → Int64) (ed : Nat → Int64) (et : Nat → Int64) (ex : Nat → Bool) (cc : Nat) (ca : Nat → Int64) (cl : Nat → Int32) (ch : Nat → Int32) (uc : Nat) (ut : Nat → Int32) (ub : Nat → Int32) (ul : Nat → Int32) (uw : Nat → Int32) (tt : Int64) (ac : Nat) (as : Nat → Int32) (a : Int64) (tm : Int64) (hec : ec ≤ 100) (hew : ∀ i, ew i < 12) : xx_Ci l yX6_ownOf (.code yX6_ownOf cX6_ownOf 8 (some .int) :: xall) ({ frames := 0, cells := 0, slots := 0, locals := 0 } : Room) D vwCl (xT k) [.ref (om 0), .long a, .long tm] (bM k om mth tq to wc wl wb wk kk kf ku ec ew ea ed et ex cc ca cl ch uc ut ub ul uw tt ac as) (p_M_ownOf om mth tq to wc wl wb wk kk kf ku ec ew ea ed et ex cc ca cl ch uc ut ub ul uw tt ac as a tm) (fun (u : Unit) => bM k om mth tq to wc wl wb wk kk kf ku ec ew ea ed et ex cc ca cl ch uc ut ub ul uw tt ac as) 0 0 := by
  intro sz
  refine xx_met (Qf := fun A => va_Qi (p_M_ownOf om mth tq to wc wl wb wk kk kf ku ec ew ea ed et ex cc ca cl ch uc ut ub ul uw tt ac as a tm) (xx_B D vwCl (xT k) A (fun (u : Unit) => bM k om mth tq to wc wl wb wk kk kf ku ec ew ea ed et ex cc ca cl ch uc ut ub ul uw tt ac as)) A) (cc := cX6_ownOf) (maxL := 8) (ret := (some .int)) (by decide) rfl (Nat.le_of_ble_eq_true rfl) ?_
  intro p e s m below meth c A ls hx hb hr hts hown hlocks hin hml hA hS hP hD hK hN hl
  have hl : lv_has ls 8 [(0, .ref (om 0)), (1, .long a), (3, .long tm)] := hl
  have hown : s.vm.findClass RX6 = some m.cls := hown
  have hinW := inX6
  refine lv_iconst (v := (-1)) hx hb dX6_ownOf_0 (by decide) ?_
  refine lv_istore (lv' := [(5, .int (-1)), (0, .ref (om 0)), (1, .long a), (3, .long tm)]) hx hb dX6_ownOf_1 hl (by decide) rfl (fun ls hl => ?_)
  refine lv_iconst (v := (nI 0)) hx hb dX6_ownOf_3 (by decide) ?_
  refine lv_istore (lv' := [(6, .int (nI 0)), (5, .int (-1)), (0, .ref (om 0)), (1, .long a), (3, .long tm)]) hx hb dX6_ownOf_4 hl (by decide) rfl (fun ls hl => ?_)
  have loop6 : ∀ (dd : Nat) (i : Nat) (b5 : Int32), ec + 1 ≤ i + dd → (i ≤ ec) → ((b5 = (-1) ∧ ∀ j, j < i → ¬ (ex j = false ∧ wl (ew j) = 0 ∧ ea j = a ∧ ¬ (tm < et j))) ∨ (∃ b, b5 = nI b ∧ b < i ∧ (ex b = false ∧ wl (ew b) = 0 ∧ ea b = a ∧ ¬ (tm < et b)) ∧ ∀ j, j < i → (ex j = false ∧ wl (ew j) = 0 ∧ ea j = a ∧ ¬ (tm < et j)) → ¬ (et b < et j) ∧ (b < j → et j < et b))) → ∀ (H : Heap) (locs : List Loc) (ls : Array Slot), va_P D vwCl (bM k om mth tq to wc wl wb wk kk kf ku ec ew ea ed et ex cc ca cl ch uc ut ub ul uw tt ac as) H → va_D A (bM k om mth tq to wc wl wb wk kk kf ku ec ew ea ed et ex cc ca cl ch uc ut ub ul uw tt ac as) → va_S A s.heap H locs → lv_has ls 8 [(0, .ref (om 0)), (1, .long a), (3, .long tm), (5, .int b5), (6, .int (nI i))] → W p l e ({ frames := 0, cells := 0, slots := 0, locals := 0 } : Room) s m [.ref (om 0), .long a, .long tm].toArray below meth c H locs 0 0 (MQ below (va_Qi (p_M_ownOf om mth tq to wc wl wb wk kk kf ku ec ew ea ed et ex cc ca cl ch uc ut ub ul uw tt ac as a tm) (xx_B D vwCl (xT k) A (fun (u : Unit) => bM k om mth tq to wc wl wb wk kk kf ku ec ew ea ed et ex cc ca cl ch uc ut ub ul uw tt ac as)) A) [.ref (om 0), .long a, .long tm].toArray s 0 0 A) (F0 m 6 ls []) := by
    intro dd
    induction dd with
    | zero =>
      intro i b5 hm h2 h3
      exact absurd hm (by omega)
    | succ dd ih6 =>
      intro i b5 hm h2 h3 H locs ls hP hD hS hl
      refine lv_iload hx hb dX6_ownOf_6 (lv_at hl 4 rfl) ?_
      refine lv_aload_n hx hb dX6_ownOf_8 rfl (lv_at hl 0 rfl) ?_
      refine va_get (D := D) (ci := 6) (v := .int (nI ec)) (C := RX6) (T := TX6) (N := 28) hx hb hts hinW hown hK hP 0 rfl rfl 10 (by decide) (hts _ tw_386) (fun _ h9 => h9) rfl dX6_ownOf_9 ?_
      refine lv_icmp_ge (tgt := 110) hx hb dX6_ownOf_12 (by decide) (fun c12 => ?_) (fun c12 => ?_)
      · have c12 : ec ≤ i := (nI_leI (by omega) (by omega)).mp c12
        refine lv_iload hx hb dX6_ownOf_110 (lv_at hl 3 rfl) ?_
        refine xx_iret () hx hb hr hlocks hS hK hP hD dX6_ownOf_112 ?_
        obtain rfl : i = ec := (by omega)
        exact h3
      · have c12 : i < ec := Nat.lt_of_not_le (fun h => c12 ((nI_leI (by omega) (by omega)).mpr h))
        refine lv_aload_n hx hb dX6_ownOf_15 rfl (lv_at hl 0 rfl) ?_
        refine va_get (D := D) (ci := 6) (v := .ref (om 11)) (C := RX6) (T := TX6) (N := 28) hx hb hts hinW hown hK hP 0 rfl rfl 15 (by decide) (hts _ tw_391) (fun _ h9 => h9) rfl dX6_ownOf_16 ?_
        refine lv_iload hx hb dX6_ownOf_19 (lv_at hl 4 rfl) ?_
        refine xx_zald hx hb hK hP 11 1 rfl rfl (show i < 100 by omega) (by decide) dX6_ownOf_21 ?_
        refine lv_if_ne (tgt := 68) hx hb dX6_ownOf_22 (by decide) (fun c22 => ?_) (fun c22 => ?_)
        · have c22 : ex i = true := bI_ne c22
          refine lv_iconst (v := (nI 0)) hx hb dX6_ownOf_68 (by decide) ?_
          refine lv_istore (lv' := [(7, .int (nI 0)), (0, .ref (om 0)), (1, .long a), (3, .long tm), (5, .int b5), (6, .int (nI i))]) hx hb dX6_ownOf_69 hl (by decide) rfl (fun ls hl => ?_)
          refine lv_iload hx hb dX6_ownOf_71 (lv_at hl 0 rfl) ?_
          refine lv_if_eq (tgt := 104) hx hb dX6_ownOf_73 (by decide) (fun _ => ?_) (fun c => absurd c (by decide))
          refine lv_iinc (v := (nI (i + 1))) (lv' := [(6, .int (nI (i + 1))), (7, .int (nI 0)), (0, .ref (om 0)), (1, .long a), (3, .long tm), (5, .int b5)]) hx hb dX6_ownOf_104 hl (k := 5) rfl (nI_1 i) (by decide) rfl (fun ls hl => ?_)
          refine lv_goto (tgt := 6) hx hb dX6_ownOf_107 (by decide) ?_
          exact ih6 (i + 1) b5 (by omega) (by omega) (by first | exact xo_skip (O := fun j => ex j = false ∧ wl (ew j) = 0 ∧ ea j = a ∧ ¬ (tm < et j)) (et := et) h3 (fun h => xx_tf c22 h.1) | exact xo_skip (O := fun j => ex j = false ∧ wl (ew j) = 0 ∧ ea j = a ∧ ¬ (tm < et j)) (et := et) h3 (fun h => c37 h.2.1) | exact xo_skip (O := fun j => ex j = false ∧ wl (ew j) = 0 ∧ ea j = a ∧ ¬ (tm < et j)) (et := et) h3 (fun h => c49 h.2.2.1) | exact xo_skip (O := fun j => ex j = false ∧ wl (ew j) = 0 ∧ ea j = a ∧ ¬ (tm < et j)) (et := et) h3 (fun h => h.2.2.2 c61) | exact xo_new1 (O := fun j => ex j = false ∧ wl (ew j) = 0 ∧ ea j = a ∧ ¬ (tm < et j)) (et := et) (by omega) h3 ⟨c22, c37, c49, c61⟩ c79 | exact xo_new2 (O := fun j => ex j = false ∧ wl (ew j) = 0 ∧ ea j = a ∧ ¬ (tm < et j)) (et := et) hb4 ⟨c22, c37, c49, c61⟩ c97 | exact xo_old2 (O := fun j => ex j = false ∧ wl (ew j) = 0 ∧ ea j = a ∧ ¬ (tm < et j)) (et := et) hb2 hb3 hb4 c97) H locs ls hP hD hS (lv_sub hl [2, 3, 4, 5, 0] rfl)
        · have c22 : ex i = false := bI_eq c22
          refine lv_aload_n hx hb dX6_ownOf_25 rfl (lv_at hl 0 rfl) ?_
          refine va_get (D := D) (ci := 6) (v := .ref (om 1)) (C := RX6) (T := TX6) (N := 28) hx hb hts hinW hown hK hP 0 rfl rfl 4 (by decide) (hts _ tw_380) (fun _ h9 => h9) rfl dX6_ownOf_26 ?_
          refine lv_aload_n hx hb dX6_ownOf_29 rfl (lv_at hl 0 rfl) ?_
          refine va_get (D := D) (ci := 6) (v := .ref (om 7)) (C := RX6) (T := TX6) (N := 28) hx hb hts hinW hown hK hP 0 rfl rfl 11 (by decide) (hts _ tw_387) (fun _ h9 => h9) rfl dX6_ownOf_30 ?_
          refine lv_iload hx hb dX6_ownOf_33 (lv_at hl 4 rfl) ?_
          refine xx_iald hx hb hK hP 7 0 rfl rfl (show i < 100 by omega) (by decide) dX6_ownOf_35 ?_
          have hwi := hew i
          refine xx_iald hx hb hK hP 1 0 rfl rfl (show ew i < 12 by omega) (by decide) dX6_ownOf_36 ?_
          refine lv_if_ne (tgt := 68) hx hb dX6_ownOf_37 (by decide) (fun c37 => ?_) (fun c37 => ?_)
          · refine lv_iconst (v := (nI 0)) hx hb dX6_ownOf_68 (by decide) ?_
            refine lv_istore (lv' := [(7, .int (nI 0)), (0, .ref (om 0)), (1, .long a), (3, .long tm), (5, .int b5), (6, .int (nI i))]) hx hb dX6_ownOf_69 hl (by decide) rfl (fun ls hl => ?_)
            refine lv_iload hx hb dX6_ownOf_71 (lv_at hl 0 rfl) ?_
            refine lv_if_eq (tgt := 104) hx hb dX6_ownOf_73 (by decide) (fun _ => ?_) (fun c => absurd c (by decide))
            refine lv_iinc (v := (nI (i + 1))) (lv' := [(6, .int (nI (i + 1))), (7, .int (nI 0)), (0, .ref (om 0)), (1, .long a), (3, .long tm), (5, .int b5)]) hx hb dX6_ownOf_104 hl (k := 5) rfl (nI_1 i) (by decide) rfl (fun ls hl => ?_)
            refine lv_goto (tgt := 6) hx hb dX6_ownOf_107 (by decide) ?_
            exact ih6 (i + 1) b5 (by omega) (by omega) (by first | exact xo_skip (O := fun j => ex j = false ∧ wl (ew j) = 0 ∧ ea j = a ∧ ¬ (tm < et j)) (et := et) h3 (fun h => xx_tf c22 h.1) | exact xo_skip (O := fun j => ex j = false ∧ wl (ew j) = 0 ∧ ea j = a ∧ ¬ (tm < et j)) (et := et) h3 (fun h => c37 h.2.1) | exact xo_skip (O := fun j => ex j = false ∧ wl (ew j) = 0 ∧ ea j = a ∧ ¬ (tm < et j)) (et := et) h3 (fun h => c49 h.2.2.1) | exact xo_skip (O := fun j => ex j = false ∧ wl (ew j) = 0 ∧ ea j = a ∧ ¬ (tm < et j)) (et := et) h3 (fun h => h.2.2.2 c61) | exact xo_new1 (O := fun j => ex j = false ∧ wl (ew j) = 0 ∧ ea j = a ∧ ¬ (tm < et j)) (et := et) (by omega) h3 ⟨c22, c37, c49, c61⟩ c79 | exact xo_new2 (O := fun j => ex j = false ∧ wl (ew j) = 0 ∧ ea j = a ∧ ¬ (tm < et j)) (et := et) hb4 ⟨c22, c37, c49, c61⟩ c97 | exact xo_old2 (O := fun j => ex j = false ∧ wl (ew j) = 0 ∧ ea j = a ∧ ¬ (tm < et j)) (et := et) hb2 hb3 hb4 c97) H locs ls hP hD hS (lv_sub hl [2, 3, 4, 5, 0] rfl)
          · refine lv_aload_n hx hb dX6_ownOf_40 rfl (lv_at hl 0 rfl) ?_
            refine va_get (D := D) (ci := 6) (v := .ref (om 8)) (C := RX6) (T := TX6) (N := 28) hx hb hts hinW hown hK hP 0 rfl rfl 12 (by decide) (hts _ tw_388) (fun _ h9 => h9) rfl dX6_ownOf_41 ?_
            refine lv_iload hx hb dX6_ownOf_44 (lv_at hl 4 rfl) ?_
            refine xx_lald hx hb hK hP 8 2 rfl rfl (show i < 100 by omega) (by decide) dX6_ownOf_46 ?_
            refine lv_lload_n hx hb dX6_ownOf_47 rfl (lv_at hl 1 rfl) ?_
            refine W.lcmp hx hb dX6_ownOf_48 ?_
            refine lv_if_ne (tgt := 68) hx hb dX6_ownOf_49 (by decide) (fun c49 => ?_) (fun c49 => ?_)
            · have c49 : ¬ ((ea i) = a) := fun h => c49 ((lg_cmp_eq (ea i) a).mpr h)
              refine lv_iconst (v := (nI 0)) hx hb dX6_ownOf_68 (by decide) ?_
              refine lv_istore (lv' := [(7, .int (nI 0)), (0, .ref (om 0)), (1, .long a), (3, .long tm), (5, .int b5), (6, .int (nI i))]) hx hb dX6_ownOf_69 hl (by decide) rfl (fun ls hl => ?_)
              refine lv_iload hx hb dX6_ownOf_71 (lv_at hl 0 rfl) ?_
              refine lv_if_eq (tgt := 104) hx hb dX6_ownOf_73 (by decide) (fun _ => ?_) (fun c => absurd c (by decide))
              refine lv_iinc (v := (nI (i + 1))) (lv' := [(6, .int (nI (i + 1))), (7, .int (nI 0)), (0, .ref (om 0)), (1, .long a), (3, .long tm), (5, .int b5)]) hx hb dX6_ownOf_104 hl (k := 5) rfl (nI_1 i) (by decide) rfl (fun ls hl => ?_)
              refine lv_goto (tgt := 6) hx hb dX6_ownOf_107 (by decide) ?_
              exact ih6 (i + 1) b5 (by omega) (by omega) (by first | exact xo_skip (O := fun j => ex j = false ∧ wl (ew j) = 0 ∧ ea j = a ∧ ¬ (tm < et j)) (et := et) h3 (fun h => xx_tf c22 h.1) | exact xo_skip (O := fun j => ex j = false ∧ wl (ew j) = 0 ∧ ea j = a ∧ ¬ (tm < et j)) (et := et) h3 (fun h => c37 h.2.1) | exact xo_skip (O := fun j => ex j = false ∧ wl (ew j) = 0 ∧ ea j = a ∧ ¬ (tm < et j)) (et := et) h3 (fun h => c49 h.2.2.1) | exact xo_skip (O := fun j => ex j = false ∧ wl (ew j) = 0 ∧ ea j = a ∧ ¬ (tm < et j)) (et := et) h3 (fun h => h.2.2.2 c61) | exact xo_new1 (O := fun j => ex j = false ∧ wl (ew j) = 0 ∧ ea j = a ∧ ¬ (tm < et j)) (et := et) (by omega) h3 ⟨c22, c37, c49, c61⟩ c79 | exact xo_new2 (O := fun j => ex j = false ∧ wl (ew j) = 0 ∧ ea j = a ∧ ¬ (tm < et j)) (et := et) hb4 ⟨c22, c37, c49, c61⟩ c97 | exact xo_old2 (O := fun j => ex j = false ∧ wl (ew j) = 0 ∧ ea j = a ∧ ¬ (tm < et j)) (et := et) hb2 hb3 hb4 c97) H locs ls hP hD hS (lv_sub hl [2, 3, 4, 5, 0] rfl)
            · have c49 : (ea i) = a := (lg_cmp_eq (ea i) a).mp c49
              refine lv_aload_n hx hb dX6_ownOf_52 rfl (lv_at hl 0 rfl) ?_
              refine va_get (D := D) (ci := 6) (v := .ref (om 10)) (C := RX6) (T := TX6) (N := 28) hx hb hts hinW hown hK hP 0 rfl rfl 14 (by decide) (hts _ tw_390) (fun _ h9 => h9) rfl dX6_ownOf_53 ?_
              refine lv_iload hx hb dX6_ownOf_56 (lv_at hl 4 rfl) ?_
              refine xx_lald hx hb hK hP 10 2 rfl rfl (show i < 100 by omega) (by decide) dX6_ownOf_58 ?_
              refine lv_lload_n hx hb dX6_ownOf_59 rfl (lv_at hl 2 rfl) ?_
              refine W.lcmp hx hb dX6_ownOf_60 ?_
              refine lv_if_gt (tgt := 68) hx hb dX6_ownOf_61 (by decide) (fun c61 => ?_) (fun c61 => ?_)
              · have c61 : tm < (et i) := (lg_cmp_gt (et i) tm).mp c61
                refine lv_iconst (v := (nI 0)) hx hb dX6_ownOf_68 (by decide) ?_
                refine lv_istore (lv' := [(7, .int (nI 0)), (0, .ref (om 0)), (1, .long a), (3, .long tm), (5, .int b5), (6, .int (nI i))]) hx hb dX6_ownOf_69 hl (by decide) rfl (fun ls hl => ?_)
                refine lv_iload hx hb dX6_ownOf_71 (lv_at hl 0 rfl) ?_
                refine lv_if_eq (tgt := 104) hx hb dX6_ownOf_73 (by decide) (fun _ => ?_) (fun c => absurd c (by decide))
                refine lv_iinc (v := (nI (i + 1))) (lv' := [(6, .int (nI (i + 1))), (7, .int (nI 0)), (0, .ref (om 0)), (1, .long a), (3, .long tm), (5, .int b5)]) hx hb dX6_ownOf_104 hl (k := 5) rfl (nI_1 i) (by decide) rfl (fun ls hl => ?_)
                refine lv_goto (tgt := 6) hx hb dX6_ownOf_107 (by decide) ?_
                exact ih6 (i + 1) b5 (by omega) (by omega) (by first | exact xo_skip (O := fun j => ex j = false ∧ wl (ew j) = 0 ∧ ea j = a ∧ ¬ (tm < et j)) (et := et) h3 (fun h => xx_tf c22 h.1) | exact xo_skip (O := fun j => ex j = false ∧ wl (ew j) = 0 ∧ ea j = a ∧ ¬ (tm < et j)) (et := et) h3 (fun h => c37 h.2.1) | exact xo_skip (O := fun j => ex j = false ∧ wl (ew j) = 0 ∧ ea j = a ∧ ¬ (tm < et j)) (et := et) h3 (fun h => c49 h.2.2.1) | exact xo_skip (O := fun j => ex j = false ∧ wl (ew j) = 0 ∧ ea j = a ∧ ¬ (tm < et j)) (et := et) h3 (fun h => h.2.2.2 c61) | exact xo_new1 (O := fun j => ex j = false ∧ wl (ew j) = 0 ∧ ea j = a ∧ ¬ (tm < et j)) (et := et) (by omega) h3 ⟨c22, c37, c49, c61⟩ c79 | exact xo_new2 (O := fun j => ex j = false ∧ wl (ew j) = 0 ∧ ea j = a ∧ ¬ (tm < et j)) (et := et) hb4 ⟨c22, c37, c49, c61⟩ c97 | exact xo_old2 (O := fun j => ex j = false ∧ wl (ew j) = 0 ∧ ea j = a ∧ ¬ (tm < et j)) (et := et) hb2 hb3 hb4 c97) H locs ls hP hD hS (lv_sub hl [2, 3, 4, 5, 0] rfl)
              · have c61 : ¬ (tm < (et i)) := fun h => c61 ((lg_cmp_gt (et i) tm).mpr h)
                refine lv_iconst (v := (nI 1)) hx hb dX6_ownOf_64 (by decide) ?_
                refine lv_goto (tgt := 69) hx hb dX6_ownOf_65 (by decide) ?_
                refine lv_istore (lv' := [(7, .int (nI 1)), (0, .ref (om 0)), (1, .long a), (3, .long tm), (5, .int b5), (6, .int (nI i))]) hx hb dX6_ownOf_69 hl (by decide) rfl (fun ls hl => ?_)
                refine lv_iload hx hb dX6_ownOf_71 (lv_at hl 0 rfl) ?_
                refine lv_if_eq (tgt := 104) hx hb dX6_ownOf_73 (by decide) (fun c => absurd c (by decide)) (fun _ => ?_)
                refine lv_iload hx hb dX6_ownOf_76 (lv_at hl 4 rfl) ?_
                refine lv_iconst (v := (-1)) hx hb dX6_ownOf_78 (by decide) ?_
                refine lv_icmp_eq (tgt := 100) hx hb dX6_ownOf_79 (by decide) (fun c79 => ?_) (fun c79 => ?_)
                · refine lv_iload hx hb dX6_ownOf_100 (lv_at hl 5 rfl) ?_
                  refine lv_istore (lv' := [(5, .int (nI i)), (7, .int (nI 1)), (0, .ref (om 0)), (1, .long a), (3, .long tm), (6, .int (nI i))]) hx hb dX6_ownOf_102 hl (by decide) rfl (fun ls hl => ?_)
                  refine lv_iinc (v := (nI (i + 1))) (lv' := [(6, .int (nI (i + 1))), (5, .int (nI i)), (7, .int (nI 1)), (0, .ref (om 0)), (1, .long a), (3, .long tm)]) hx hb dX6_ownOf_104 hl (k := 5) rfl (nI_1 i) (by decide) rfl (fun ls hl => ?_)
                  refine lv_goto (tgt := 6) hx hb dX6_ownOf_107 (by decide) ?_
                  exact ih6 (i + 1) (nI i) (by omega) (by omega) (by first | exact xo_skip (O := fun j => ex j = false ∧ wl (ew j) = 0 ∧ ea j = a ∧ ¬ (tm < et j)) (et := et) h3 (fun h => xx_tf c22 h.1) | exact xo_skip (O := fun j => ex j = false ∧ wl (ew j) = 0 ∧ ea j = a ∧ ¬ (tm < et j)) (et := et) h3 (fun h => c37 h.2.1) | exact xo_skip (O := fun j => ex j = false ∧ wl (ew j) = 0 ∧ ea j = a ∧ ¬ (tm < et j)) (et := et) h3 (fun h => c49 h.2.2.1) | exact xo_skip (O := fun j => ex j = false ∧ wl (ew j) = 0 ∧ ea j = a ∧ ¬ (tm < et j)) (et := et) h3 (fun h => h.2.2.2 c61) | exact xo_new1 (O := fun j => ex j = false ∧ wl (ew j) = 0 ∧ ea j = a ∧ ¬ (tm < et j)) (et := et) (by omega) h3 ⟨c22, c37, c49, c61⟩ c79 | exact xo_new2 (O := fun j => ex j = false ∧ wl (ew j) = 0 ∧ ea j = a ∧ ¬ (tm < et j)) (et := et) hb4 ⟨c22, c37, c49, c61⟩ c97 | exact xo_old2 (O := fun j => ex j = false ∧ wl (ew j) = 0 ∧ ea j = a ∧ ¬ (tm < et j)) (et := et) hb2 hb3 hb4 c97) H locs ls hP hD hS (lv_sub hl [3, 4, 5, 1, 0] rfl)
                · obtain ⟨b, hbb, hb2, hb3, hb4⟩ := h3.resolve_left (fun h => c79 h.1)
                  subst hbb
                  refine lv_aload_n hx hb dX6_ownOf_82 rfl (lv_at hl 1 rfl) ?_
                  refine va_get (D := D) (ci := 6) (v := .ref (om 10)) (C := RX6) (T := TX6) (N := 28) hx hb hts hinW hown hK hP 0 rfl rfl 14 (by decide) (hts _ tw_390) (fun _ h9 => h9) rfl dX6_ownOf_83 ?_
                  refine lv_iload hx hb dX6_ownOf_86 (lv_at hl 5 rfl) ?_
                  refine xx_lald hx hb hK hP 10 2 rfl rfl (show i < 100 by omega) (by decide) dX6_ownOf_88 ?_
                  refine lv_aload_n hx hb dX6_ownOf_89 rfl (lv_at hl 1 rfl) ?_
                  refine va_get (D := D) (ci := 6) (v := .ref (om 10)) (C := RX6) (T := TX6) (N := 28) hx hb hts hinW hown hK hP 0 rfl rfl 14 (by decide) (hts _ tw_390) (fun _ h9 => h9) rfl dX6_ownOf_90 ?_
                  refine lv_iload hx hb dX6_ownOf_93 (lv_at hl 4 rfl) ?_
                  refine xx_lald hx hb hK hP 10 2 rfl rfl (show b < 100 by omega) (by decide) dX6_ownOf_95 ?_
                  refine W.lcmp hx hb dX6_ownOf_96 ?_
                  refine lv_if_lt (tgt := 104) hx hb dX6_ownOf_97 (by decide) (fun c97 => ?_) (fun c97 => ?_)
                  · have c97 : (et i) < (et b) := (lg_cmp_lt (et i) (et b)).mp c97
                    refine lv_iinc (v := (nI (i + 1))) (lv' := [(6, .int (nI (i + 1))), (7, .int (nI 1)), (0, .ref (om 0)), (1, .long a), (3, .long tm), (5, .int (nI b))]) hx hb dX6_ownOf_104 hl (k := 5) rfl (nI_1 i) (by decide) rfl (fun ls hl => ?_)
                    refine lv_goto (tgt := 6) hx hb dX6_ownOf_107 (by decide) ?_
                    exact ih6 (i + 1) (nI b) (by omega) (by omega) (by first | exact xo_skip (O := fun j => ex j = false ∧ wl (ew j) = 0 ∧ ea j = a ∧ ¬ (tm < et j)) (et := et) h3 (fun h => xx_tf c22 h.1) | exact xo_skip (O := fun j => ex j = false ∧ wl (ew j) = 0 ∧ ea j = a ∧ ¬ (tm < et j)) (et := et) h3 (fun h => c37 h.2.1) | exact xo_skip (O := fun j => ex j = false ∧ wl (ew j) = 0 ∧ ea j = a ∧ ¬ (tm < et j)) (et := et) h3 (fun h => c49 h.2.2.1) | exact xo_skip (O := fun j => ex j = false ∧ wl (ew j) = 0 ∧ ea j = a ∧ ¬ (tm < et j)) (et := et) h3 (fun h => h.2.2.2 c61) | exact xo_new1 (O := fun j => ex j = false ∧ wl (ew j) = 0 ∧ ea j = a ∧ ¬ (tm < et j)) (et := et) (by omega) h3 ⟨c22, c37, c49, c61⟩ c79 | exact xo_new2 (O := fun j => ex j = false ∧ wl (ew j) = 0 ∧ ea j = a ∧ ¬ (tm < et j)) (et := et) hb4 ⟨c22, c37, c49, c61⟩ c97 | exact xo_old2 (O := fun j => ex j = false ∧ wl (ew j) = 0 ∧ ea j = a ∧ ¬ (tm < et j)) (et := et) hb2 hb3 hb4 c97) H locs ls hP hD hS (lv_sub hl [2, 3, 4, 5, 0] rfl)
                  · have c97 : ¬ ((et i) < (et b)) := fun h => c97 ((lg_cmp_lt (et i) (et b)).mpr h)
                    refine lv_iload hx hb dX6_ownOf_100 (lv_at hl 5 rfl) ?_
                    refine lv_istore (lv' := [(5, .int (nI i)), (7, .int (nI 1)), (0, .ref (om 0)), (1, .long a), (3, .long tm), (6, .int (nI i))]) hx hb dX6_ownOf_102 hl (by decide) rfl (fun ls hl => ?_)
                    refine lv_iinc (v := (nI (i + 1))) (lv' := [(6, .int (nI (i + 1))), (5, .int (nI i)), (7, .int (nI 1)), (0, .ref (om 0)), (1, .long a), (3, .long tm)]) hx hb dX6_ownOf_104 hl (k := 5) rfl (nI_1 i) (by decide) rfl (fun ls hl => ?_)
                    refine lv_goto (tgt := 6) hx hb dX6_ownOf_107 (by decide) ?_
                    exact ih6 (i + 1) (nI i) (by omega) (by omega) (by first | exact xo_skip (O := fun j => ex j = false ∧ wl (ew j) = 0 ∧ ea j = a ∧ ¬ (tm < et j)) (et := et) h3 (fun h => xx_tf c22 h.1) | exact xo_skip (O := fun j => ex j = false ∧ wl (ew j) = 0 ∧ ea j = a ∧ ¬ (tm < et j)) (et := et) h3 (fun h => c37 h.2.1) | exact xo_skip (O := fun j => ex j = false ∧ wl (ew j) = 0 ∧ ea j = a ∧ ¬ (tm < et j)) (et := et) h3 (fun h => c49 h.2.2.1) | exact xo_skip (O := fun j => ex j = false ∧ wl (ew j) = 0 ∧ ea j = a ∧ ¬ (tm < et j)) (et := et) h3 (fun h => h.2.2.2 c61) | exact xo_new1 (O := fun j => ex j = false ∧ wl (ew j) = 0 ∧ ea j = a ∧ ¬ (tm < et j)) (et := et) (by omega) h3 ⟨c22, c37, c49, c61⟩ c79 | exact xo_new2 (O := fun j => ex j = false ∧ wl (ew j) = 0 ∧ ea j = a ∧ ¬ (tm < et j)) (et := et) hb4 ⟨c22, c37, c49, c61⟩ c97 | exact xo_old2 (O := fun j => ex j = false ∧ wl (ew j) = 0 ∧ ea j = a ∧ ¬ (tm < et j)) (et := et) hb2 hb3 hb4 c97) H locs ls hP hD hS (lv_sub hl [3, 4, 5, 1, 0] rfl)
  exact loop6 (ec + 1) 0 (-1) (by omega) (by omega) (by exact Or.inl ⟨rfl, fun j z => absurd z (by omega)⟩) s.heap _ ls hP hD hS (lv_sub hl [2, 3, 4, 1, 0] rfl)
def p_M_counts (om : Nat → Nat) (mth : Int32) (tq : Int32) (to : Bool) (wc : Nat) (wl : Nat → Int32) (wb : Nat → Bool) (wk : Nat → Nat) (kk : Nat → Int64) (kf : Nat → Int64) (ku : Nat → Int64) (ec : Nat) (ew : Nat → Nat) (ea : Nat → Int64) (ed : Nat → Int64) (et : Nat → Int64) (ex : Nat → Bool) (cc : Nat) (ca : Nat → Int64) (cl : Nat → Int32) (ch : Nat → Int32) (uc : Nat) (ut : Nat → Int32) (ub : Nat → Int32) (ul : Nat → Int32) (uw : Nat → Int32) (tt : Int64) (ac : Nat) (as : Nat → Int32) (i : Nat) (a : Int64) (lv : Int32) (tm : Int64) : Int32 → Unit → Prop := fun r u => xb r (ex i = false ∧ ea i = a ∧ ¬ (tm < et i) ∧ ¬ (wl (ew i) < lv))
set_option maxHeartbeats 4000000 in
set_option maxRecDepth 100000 in
theorem c_M_counts (l : Launch) (D : va_G) (k : Nat → ClassId) (om : Nat → Nat) (mth : Int32) (tq : Int32) (to : Bool) (wc : Nat) (wl : Nat → Int32) (wb : Nat → Bool) (wk : Nat → Nat) (kk : Nat → Int64) (kf : Nat → Int64) (ku : Nat → Int64) (ec : Nat) (ew : Nat → Nat) (ea : Nat → Int64) (ed : Nat → Int64) (et : Nat → Int64) (ex : Nat → Bool) (cc : Nat) (ca : Nat → Int64) (cl : Nat → Int32) (ch : Nat → Int32) (uc : Nat) (ut : Nat → Int32) (ub : Nat → Int32) (ul : Nat → Int32) (uw : Nat → Int32) (tt : Int64) (ac : Nat) (as : Nat → Int32) (i : Nat) (a : Int64) (lv : Int32) (tm : Int64) (hec : ec ≤ 100) (hew : ∀ i, ew i < 12) (hi : i < ec) : xx_Ci l yX6_counts (.code yX6_counts cX6_counts 7 (some .boolean) :: xall) ({ frames := 0, cells := 0, slots := 0, locals := 0 } : Room) D vwCl (xT k) [.ref (om 0), .int (nI i), .long a, .int lv, .long tm] (bM k om mth tq to wc wl wb wk kk kf ku ec ew ea ed et ex cc ca cl ch uc ut ub ul uw tt ac as) (p_M_counts om mth tq to wc wl wb wk kk kf ku ec ew ea ed et ex cc ca cl ch uc ut ub ul uw tt ac as i a lv tm) (fun (u : Unit) => bM k om mth tq to wc wl wb wk kk kf ku ec ew ea ed et ex cc ca cl ch uc ut ub ul uw tt ac as) 0 0 := by
  intro sz
  refine xx_met (Qf := fun A => va_Qi (p_M_counts om mth tq to wc wl wb wk kk kf ku ec ew ea ed et ex cc ca cl ch uc ut ub ul uw tt ac as i a lv tm) (xx_B D vwCl (xT k) A (fun (u : Unit) => bM k om mth tq to wc wl wb wk kk kf ku ec ew ea ed et ex cc ca cl ch uc ut ub ul uw tt ac as)) A) (cc := cX6_counts) (maxL := 7) (ret := (some .boolean)) (by decide) rfl (Nat.le_of_ble_eq_true rfl) ?_
  intro p e s m below meth c A ls hx hb hr hts hown hlocks hin hml hA hS hP hD hK hN hl
  have hl : lv_has ls 7 [(0, .ref (om 0)), (1, .int (nI i)), (2, .long a), (4, .int lv), (5, .long tm)] := hl
  have hown : s.vm.findClass RX6 = some m.cls := hown
  have hinW := inX6
  have hwi := hew i
  refine lv_aload_n hx hb dX6_counts_0 rfl (lv_at hl 0 rfl) ?_
  refine va_get (D := D) (ci := 6) (v := .ref (om 11)) (C := RX6) (T := TX6) (N := 28) hx hb hts hinW hown hK hP 0 rfl rfl 15 (by decide) (hts _ tw_391) (fun _ h9 => h9) rfl dX6_counts_1 ?_
  refine lv_iload_n hx hb dX6_counts_4 rfl (lv_at hl 1 rfl) ?_
  refine xx_zald hx hb hK hP 11 1 rfl rfl (show i < 100 by omega) (by decide) dX6_counts_5 ?_
  refine lv_if_ne (tgt := 52) hx hb dX6_counts_6 (by decide) (fun c6 => ?_) (fun c6 => ?_)
  · have c6 : ex i = true := bI_ne c6
    refine lv_iconst (v := (nI 0)) hx hb dX6_counts_52 (by decide) ?_
    refine xx_zret () hx hb hr hlocks rfl hS hK hP hD dX6_counts_53 ?_
    first | exact xb_f (fun h => xx_tf c6 h.1) | exact xb_f (fun h => c17 h.2.1) | exact xb_f (fun h => h.2.2.1 c29) | exact xb_f (fun h => h.2.2.2 c45) | exact xb_t ⟨c6, c17, c29, c45⟩
  · have c6 : ex i = false := bI_eq c6
    refine lv_aload_n hx hb dX6_counts_9 rfl (lv_at hl 0 rfl) ?_
    refine va_get (D := D) (ci := 6) (v := .ref (om 8)) (C := RX6) (T := TX6) (N := 28) hx hb hts hinW hown hK hP 0 rfl rfl 12 (by decide) (hts _ tw_388) (fun _ h9 => h9) rfl dX6_counts_10 ?_
    refine lv_iload_n hx hb dX6_counts_13 rfl (lv_at hl 1 rfl) ?_
    refine xx_lald hx hb hK hP 8 2 rfl rfl (show i < 100 by omega) (by decide) dX6_counts_14 ?_
    refine lv_lload_n hx hb dX6_counts_15 rfl (lv_at hl 2 rfl) ?_
    refine W.lcmp hx hb dX6_counts_16 ?_
    refine lv_if_ne (tgt := 52) hx hb dX6_counts_17 (by decide) (fun c17 => ?_) (fun c17 => ?_)
    · have c17 : ¬ ((ea i) = a) := fun h => c17 ((lg_cmp_eq (ea i) a).mpr h)
      refine lv_iconst (v := (nI 0)) hx hb dX6_counts_52 (by decide) ?_
      refine xx_zret () hx hb hr hlocks rfl hS hK hP hD dX6_counts_53 ?_
      first | exact xb_f (fun h => xx_tf c6 h.1) | exact xb_f (fun h => c17 h.2.1) | exact xb_f (fun h => h.2.2.1 c29) | exact xb_f (fun h => h.2.2.2 c45) | exact xb_t ⟨c6, c17, c29, c45⟩
    · have c17 : (ea i) = a := (lg_cmp_eq (ea i) a).mp c17
      refine lv_aload_n hx hb dX6_counts_20 rfl (lv_at hl 0 rfl) ?_
      refine va_get (D := D) (ci := 6) (v := .ref (om 10)) (C := RX6) (T := TX6) (N := 28) hx hb hts hinW hown hK hP 0 rfl rfl 14 (by decide) (hts _ tw_390) (fun _ h9 => h9) rfl dX6_counts_21 ?_
      refine lv_iload_n hx hb dX6_counts_24 rfl (lv_at hl 1 rfl) ?_
      refine xx_lald hx hb hK hP 10 2 rfl rfl (show i < 100 by omega) (by decide) dX6_counts_25 ?_
      refine lv_lload hx hb dX6_counts_26 (lv_at hl 4 rfl) ?_
      refine W.lcmp hx hb dX6_counts_28 ?_
      refine lv_if_gt (tgt := 52) hx hb dX6_counts_29 (by decide) (fun c29 => ?_) (fun c29 => ?_)
      · have c29 : tm < (et i) := (lg_cmp_gt (et i) tm).mp c29
        refine lv_iconst (v := (nI 0)) hx hb dX6_counts_52 (by decide) ?_
        refine xx_zret () hx hb hr hlocks rfl hS hK hP hD dX6_counts_53 ?_
        first | exact xb_f (fun h => xx_tf c6 h.1) | exact xb_f (fun h => c17 h.2.1) | exact xb_f (fun h => h.2.2.1 c29) | exact xb_f (fun h => h.2.2.2 c45) | exact xb_t ⟨c6, c17, c29, c45⟩
      · have c29 : ¬ (tm < (et i)) := fun h => c29 ((lg_cmp_gt (et i) tm).mpr h)
        refine lv_aload_n hx hb dX6_counts_32 rfl (lv_at hl 0 rfl) ?_
        refine va_get (D := D) (ci := 6) (v := .ref (om 1)) (C := RX6) (T := TX6) (N := 28) hx hb hts hinW hown hK hP 0 rfl rfl 4 (by decide) (hts _ tw_380) (fun _ h9 => h9) rfl dX6_counts_33 ?_
        refine lv_aload_n hx hb dX6_counts_36 rfl (lv_at hl 0 rfl) ?_
        refine va_get (D := D) (ci := 6) (v := .ref (om 7)) (C := RX6) (T := TX6) (N := 28) hx hb hts hinW hown hK hP 0 rfl rfl 11 (by decide) (hts _ tw_387) (fun _ h9 => h9) rfl dX6_counts_37 ?_
        refine lv_iload_n hx hb dX6_counts_40 rfl (lv_at hl 1 rfl) ?_
        refine xx_iald hx hb hK hP 7 0 rfl rfl (show i < 100 by omega) (by decide) dX6_counts_41 ?_
        refine xx_iald hx hb hK hP 1 0 rfl rfl (show ew i < 12 by omega) (by decide) dX6_counts_42 ?_
        refine lv_iload hx hb dX6_counts_43 (lv_at hl 3 rfl) ?_
        refine lv_icmp_lt (tgt := 52) hx hb dX6_counts_45 (by decide) (fun c45 => ?_) (fun c45 => ?_)
        · refine lv_iconst (v := (nI 0)) hx hb dX6_counts_52 (by decide) ?_
          refine xx_zret () hx hb hr hlocks rfl hS hK hP hD dX6_counts_53 ?_
          first | exact xb_f (fun h => xx_tf c6 h.1) | exact xb_f (fun h => c17 h.2.1) | exact xb_f (fun h => h.2.2.1 c29) | exact xb_f (fun h => h.2.2.2 c45) | exact xb_t ⟨c6, c17, c29, c45⟩
        · refine lv_iconst (v := (nI 1)) hx hb dX6_counts_48 (by decide) ?_
          refine lv_goto (tgt := 53) hx hb dX6_counts_49 (by decide) ?_
          refine xx_zret () hx hb hr hlocks rfl hS hK hP hD dX6_counts_53 ?_
          first | exact xb_f (fun h => xx_tf c6 h.1) | exact xb_f (fun h => c17 h.2.1) | exact xb_f (fun h => h.2.2.1 c29) | exact xb_f (fun h => h.2.2.2 c45) | exact xb_t ⟨c6, c17, c29, c45⟩
