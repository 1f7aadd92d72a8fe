theorem dX6_isThere_0 : decode cX6_isThere 0 = .ok (.iconst 0, 1) := by decide +kernel
theorem dX6_isThere_1 : decode cX6_isThere 1 = .ok (.istore 6, 2) := by decide +kernel
theorem dX6_isThere_3 : decode cX6_isThere 3 = .ok (.iconst 0, 1) := by decide +kernel
theorem dX6_isThere_4 : decode cX6_isThere 4 = .ok (.istore 7, 2) := by decide +kernel
theorem dX6_isThere_6 : decode cX6_isThere 6 = .ok (.iload 7, 2) := by decide +kernel
theorem dX6_isThere_8 : decode cX6_isThere 8 = .ok (.aload_n 0, 1) := by decide +kernel
theorem dX6_isThere_9 : decode cX6_isThere 9 = .ok (.getfield 99, 3) := by decide +kernel
theorem dX6_isThere_12 : decode cX6_isThere 12 = .ok (.if_icmp .ge 67, 3) := by decide +kernel
theorem dX6_isThere_15 : decode cX6_isThere 15 = .ok (.iload 6, 2) := by decide +kernel
theorem dX6_isThere_17 : decode cX6_isThere 17 = .ok (.ifCond .ne 49, 3) := by decide +kernel
theorem dX6_isThere_20 : decode cX6_isThere 20 = .ok (.aload_n 0, 1) := by decide +kernel
theorem dX6_isThere_21 : decode cX6_isThere 21 = .ok (.getfield 42, 3) := by decide +kernel
theorem dX6_isThere_24 : decode cX6_isThere 24 = .ok (.iload 7, 2) := by decide +kernel
theorem dX6_isThere_26 : decode cX6_isThere 26 = .ok (.baload, 1) := by decide +kernel
theorem dX6_isThere_27 : decode cX6_isThere 27 = .ok (.ifCond .ne 43, 3) := by decide +kernel
theorem dX6_isThere_30 : decode cX6_isThere 30 = .ok (.aload_n 0, 1) := by decide +kernel
theorem dX6_isThere_31 : decode cX6_isThere 31 = .ok (.getfield 30, 3) := by decide +kernel
theorem dX6_isThere_34 : decode cX6_isThere 34 = .ok (.iload 7, 2) := by decide +kernel
theorem dX6_isThere_36 : decode cX6_isThere 36 = .ok (.iaload, 1) := by decide +kernel
theorem dX6_isThere_37 : decode cX6_isThere 37 = .ok (.iload_n 1, 1) := by decide +kernel
theorem dX6_isThere_38 : decode cX6_isThere 38 = .ok (.if_icmp .ne 32, 3) := by decide +kernel
theorem dX6_isThere_41 : decode cX6_isThere 41 = .ok (.aload_n 0, 1) := by decide +kernel
theorem dX6_isThere_42 : decode cX6_isThere 42 = .ok (.getfield 33, 3) := by decide +kernel
theorem dX6_isThere_45 : decode cX6_isThere 45 = .ok (.iload 7, 2) := by decide +kernel
theorem dX6_isThere_47 : decode cX6_isThere 47 = .ok (.laload, 1) := by decide +kernel
theorem dX6_isThere_48 : decode cX6_isThere 48 = .ok (.lload_n 2, 1) := by decide +kernel
theorem dX6_isThere_49 : decode cX6_isThere 49 = .ok (.lcmp, 1) := by decide +kernel
theorem dX6_isThere_50 : decode cX6_isThere 50 = .ok (.ifCond .ne 20, 3) := by decide +kernel
theorem dX6_isThere_53 : decode cX6_isThere 53 = .ok (.aload_n 0, 1) := by decide +kernel
theorem dX6_isThere_54 : decode cX6_isThere 54 = .ok (.getfield 36, 3) := by decide +kernel
theorem dX6_isThere_57 : decode cX6_isThere 57 = .ok (.iload 7, 2) := by decide +kernel
theorem dX6_isThere_59 : decode cX6_isThere 59 = .ok (.laload, 1) := by decide +kernel
theorem dX6_isThere_60 : decode cX6_isThere 60 = .ok (.lload 4, 2) := by decide +kernel
theorem dX6_isThere_62 : decode cX6_isThere 62 = .ok (.lcmp, 1) := by decide +kernel
theorem dX6_isThere_63 : decode cX6_isThere 63 = .ok (.ifCond .ne 7, 3) := by decide +kernel
theorem dX6_isThere_66 : decode cX6_isThere 66 = .ok (.iconst 1, 1) := by decide +kernel
theorem dX6_isThere_67 : decode cX6_isThere 67 = .ok (.goto 4, 3) := by decide +kernel
theorem dX6_isThere_70 : decode cX6_isThere 70 = .ok (.iconst 0, 1) := by decide +kernel
theorem dX6_isThere_71 : decode cX6_isThere 71 = .ok (.istore 6, 2) := by decide +kernel
theorem dX6_isThere_73 : decode cX6_isThere 73 = .ok (.iinc 7 1, 3) := by decide +kernel
theorem dX6_isThere_76 : decode cX6_isThere 76 = .ok (.goto (-70), 3) := by decide +kernel
theorem dX6_isThere_79 : decode cX6_isThere 79 = .ok (.iload 6, 2) := by decide +kernel
theorem dX6_isThere_81 : decode cX6_isThere 81 = .ok (.ireturn, 1) := by decide +kernel
theorem dX6_isClashing_0 : decode cX6_isClashing 0 = .ok (.iconst 0, 1) := by decide +kernel
theorem dX6_isClashing_1 : decode cX6_isClashing 1 = .ok (.istore_n 3, 1) := by decide +kernel
theorem dX6_isClashing_2 : decode cX6_isClashing 2 = .ok (.iconst 0, 1) := by decide +kernel
theorem dX6_isClashing_3 : decode cX6_isClashing 3 = .ok (.istore 4, 2) := by decide +kernel
theorem dX6_isClashing_5 : decode cX6_isClashing 5 = .ok (.iload 4, 2) := by decide +kernel
theorem dX6_isClashing_7 : decode cX6_isClashing 7 = .ok (.aload_n 0, 1) := by decide +kernel
theorem dX6_isClashing_8 : decode cX6_isClashing 8 = .ok (.getfield 102, 3) := by decide +kernel
theorem dX6_isClashing_11 : decode cX6_isClashing 11 = .ok (.if_icmp .ge 31, 3) := by decide +kernel
theorem dX6_isClashing_14 : decode cX6_isClashing 14 = .ok (.iload_n 3, 1) := by decide +kernel
theorem dX6_isClashing_15 : decode cX6_isClashing 15 = .ok (.ifCond .ne 15, 3) := by decide +kernel
theorem dX6_isClashing_18 : decode cX6_isClashing 18 = .ok (.aload_n 0, 1) := by decide +kernel
theorem dX6_isClashing_19 : decode cX6_isClashing 19 = .ok (.getfield 45, 3) := by decide +kernel
theorem dX6_isClashing_22 : decode cX6_isClashing 22 = .ok (.iload 4, 2) := by decide +kernel
theorem dX6_isClashing_24 : decode cX6_isClashing 24 = .ok (.laload, 1) := by decide +kernel
theorem dX6_isClashing_25 : decode cX6_isClashing 25 = .ok (.lload_n 1, 1) := by decide +kernel
theorem dX6_isClashing_26 : decode cX6_isClashing 26 = .ok (.lcmp, 1) := by decide +kernel
theorem dX6_isClashing_27 : decode cX6_isClashing 27 = .ok (.ifCond .ne 7, 3) := by decide +kernel
theorem dX6_isClashing_30 : decode cX6_isClashing 30 = .ok (.iconst 1, 1) := by decide +kernel
theorem dX6_isClashing_31 : decode cX6_isClashing 31 = .ok (.goto 4, 3) := by decide +kernel
theorem dX6_isClashing_34 : decode cX6_isClashing 34 = .ok (.iconst 0, 1) := by decide +kernel
theorem dX6_isClashing_35 : decode cX6_isClashing 35 = .ok (.istore_n 3, 1) := by decide +kernel
theorem dX6_isClashing_36 : decode cX6_isClashing 36 = .ok (.iinc 4 1, 3) := by decide +kernel
theorem dX6_isClashing_39 : decode cX6_isClashing 39 = .ok (.goto (-34), 3) := by decide +kernel
theorem dX6_isClashing_42 : decode cX6_isClashing 42 = .ok (.iload_n 3, 1) := by decide +kernel
theorem dX6_isClashing_43 : decode cX6_isClashing 43 = .ok (.ireturn, 1) := by decide +kernel
theorem dX6_against_0 : decode cX6_against 0 = .ok (.aload_n 0, 1) := by decide +kernel
theorem dX6_against_1 : decode cX6_against 1 = .ok (.getfield 7, 3) := by decide +kernel
theorem dX6_against_4 : decode cX6_against 4 = .ok (.aload_n 0, 1) := by decide +kernel
theorem dX6_against_5 : decode cX6_against 5 = .ok (.getfield 30, 3) := by decide +kernel
theorem dX6_against_8 : decode cX6_against 8 = .ok (.iload_n 1, 1) := by decide +kernel
theorem dX6_against_9 : decode cX6_against 9 = .ok (.iaload, 1) := by decide +kernel
theorem dX6_against_10 : decode cX6_against 10 = .ok (.iaload, 1) := by decide +kernel
theorem dX6_against_11 : decode cX6_against 11 = .ok (.ifCond .ne 5, 3) := by decide +kernel
theorem dX6_against_14 : decode cX6_against 14 = .ok (.iconst (-1), 1) := by decide +kernel
theorem dX6_against_15 : decode cX6_against 15 = .ok (.ireturn, 1) := by decide +kernel
theorem dX6_against_16 : decode cX6_against 16 = .ok (.iconst 0, 1) := by decide +kernel
theorem dX6_against_17 : decode cX6_against 17 = .ok (.istore_n 2, 1) := by decide +kernel
theorem dX6_against_18 : decode cX6_against 18 = .ok (.iload_n 2, 1) := by decide +kernel
theorem dX6_against_19 : decode cX6_against 19 = .ok (.iload_n 1, 1) := by decide +kernel
theorem dX6_against_20 : decode cX6_against 20 = .ok (.if_icmp .ge 66, 3) := by decide +kernel
theorem dX6_against_23 : decode cX6_against 23 = .ok (.aload_n 0, 1) := by decide +kernel
theorem dX6_against_24 : decode cX6_against 24 = .ok (.getfield 42, 3) := by decide +kernel
theorem dX6_against_27 : decode cX6_against 27 = .ok (.iload_n 2, 1) := by decide +kernel
theorem dX6_against_28 : decode cX6_against 28 = .ok (.baload, 1) := by decide +kernel
theorem dX6_against_29 : decode cX6_against 29 = .ok (.ifCond .ne 51, 3) := by decide +kernel
theorem dX6_against_32 : decode cX6_against 32 = .ok (.aload_n 0, 1) := by decide +kernel
theorem dX6_against_33 : decode cX6_against 33 = .ok (.getfield 7, 3) := by decide +kernel
theorem dX6_against_36 : decode cX6_against 36 = .ok (.aload_n 0, 1) := by decide +kernel
theorem dX6_against_37 : decode cX6_against 37 = .ok (.getfield 30, 3) := by decide +kernel
theorem dX6_against_40 : decode cX6_against 40 = .ok (.iload_n 2, 1) := by decide +kernel
theorem dX6_against_41 : decode cX6_against 41 = .ok (.iaload, 1) := by decide +kernel
theorem dX6_against_42 : decode cX6_against 42 = .ok (.iaload, 1) := by decide +kernel
theorem dX6_against_43 : decode cX6_against 43 = .ok (.ifCond .le 37, 3) := by decide +kernel
theorem dX6_against_46 : decode cX6_against 46 = .ok (.aload_n 0, 1) := by decide +kernel
theorem dX6_against_47 : decode cX6_against 47 = .ok (.getfield 33, 3) := by decide +kernel
theorem dX6_against_50 : decode cX6_against 50 = .ok (.iload_n 2, 1) := by decide +kernel
theorem dX6_against_51 : decode cX6_against 51 = .ok (.laload, 1) := by decide +kernel
theorem dX6_against_52 : decode cX6_against 52 = .ok (.aload_n 0, 1) := by decide +kernel
theorem dX6_against_53 : decode cX6_against 53 = .ok (.getfield 33, 3) := by decide +kernel
theorem dX6_against_56 : decode cX6_against 56 = .ok (.iload_n 1, 1) := by decide +kernel
theorem dX6_against_57 : decode cX6_against 57 = .ok (.laload, 1) := by decide +kernel
theorem dX6_against_58 : decode cX6_against 58 = .ok (.lcmp, 1) := by decide +kernel
theorem dX6_against_59 : decode cX6_against 59 = .ok (.ifCond .ne 21, 3) := by decide +kernel
theorem dX6_against_62 : decode cX6_against 62 = .ok (.aload_n 0, 1) := by decide +kernel
theorem dX6_against_63 : decode cX6_against 63 = .ok (.getfield 36, 3) := by decide +kernel
theorem dX6_against_66 : decode cX6_against 66 = .ok (.iload_n 2, 1) := by decide +kernel
theorem dX6_against_67 : decode cX6_against 67 = .ok (.laload, 1) := by decide +kernel
theorem dX6_against_68 : decode cX6_against 68 = .ok (.aload_n 0, 1) := by decide +kernel
theorem dX6_against_69 : decode cX6_against 69 = .ok (.getfield 36, 3) := by decide +kernel
theorem dX6_against_72 : decode cX6_against 72 = .ok (.iload_n 1, 1) := by decide +kernel
theorem dX6_against_73 : decode cX6_against 73 = .ok (.laload, 1) := by decide +kernel
theorem dX6_against_74 : decode cX6_against 74 = .ok (.lcmp, 1) := by decide +kernel
theorem dX6_against_75 : decode cX6_against 75 = .ok (.ifCond .eq 5, 3) := by decide +kernel
theorem dX6_against_78 : decode cX6_against 78 = .ok (.iload_n 2, 1) := by decide +kernel
theorem dX6_against_79 : decode cX6_against 79 = .ok (.ireturn, 1) := by decide +kernel
theorem dX6_against_80 : decode cX6_against 80 = .ok (.iinc 2 1, 3) := by decide +kernel
theorem dX6_against_83 : decode cX6_against 83 = .ok (.goto (-65), 3) := by decide +kernel
theorem dX6_against_86 : decode cX6_against 86 = .ok (.iconst (-1), 1) := by decide +kernel
theorem dX6_against_87 : decode cX6_against 87 = .ok (.ireturn, 1) := by decide +kernel
theorem dX6_stands_0 : decode cX6_stands 0 = .ok (.aload_n 0, 1) := by decide +kernel
theorem dX6_stands_1 : decode cX6_stands 1 = .ok (.iconst 0, 1) := by decide +kernel
theorem dX6_stands_2 : decode cX6_stands 2 = .ok (.putfield 73, 3) := by decide +kernel
theorem dX6_stands_5 : decode cX6_stands 5 = .ok (.iload_n 1, 1) := by decide +kernel
theorem dX6_stands_6 : decode cX6_stands 6 = .ok (.ifCond .lt 24, 3) := by decide +kernel
theorem dX6_stands_9 : decode cX6_stands 9 = .ok (.iload_n 1, 1) := by decide +kernel
theorem dX6_stands_10 : decode cX6_stands 10 = .ok (.aload_n 0, 1) := by decide +kernel
theorem dX6_stands_11 : decode cX6_stands 11 = .ok (.getfield 99, 3) := by decide +kernel
theorem dX6_stands_14 : decode cX6_stands 14 = .ok (.if_icmp .ge 16, 3) := by decide +kernel
theorem dX6_stands_17 : decode cX6_stands 17 = .ok (.aload_n 0, 1) := by decide +kernel
theorem dX6_stands_18 : decode cX6_stands 18 = .ok (.getfield 42, 3) := by decide +kernel
theorem dX6_stands_21 : decode cX6_stands 21 = .ok (.iload_n 1, 1) := by decide +kernel
theorem dX6_stands_22 : decode cX6_stands 22 = .ok (.baload, 1) := by decide +kernel
theorem dX6_stands_23 : decode cX6_stands 23 = .ok (.ifCond .ne 7, 3) := by decide +kernel
theorem dX6_stands_26 : decode cX6_stands 26 = .ok (.iconst 1, 1) := by decide +kernel
theorem dX6_stands_27 : decode cX6_stands 27 = .ok (.goto 4, 3) := by decide +kernel
theorem dX6_stands_30 : decode cX6_stands 30 = .ok (.iconst 0, 1) := by decide +kernel
theorem dX6_stands_31 : decode cX6_stands 31 = .ok (.ireturn, 1) := by decide +kernel
theorem dX6_bar_0 : decode cX6_bar 0 = .ok (.aload_n 0, 1) := by decide +kernel
theorem dX6_bar_1 : decode cX6_bar 1 = .ok (.iconst 0, 1) := by decide +kernel
theorem dX6_bar_2 : decode cX6_bar 2 = .ok (.putfield 73, 3) := by decide +kernel
theorem dX6_bar_5 : decode cX6_bar 5 = .ok (.aload_n 0, 1) := by decide +kernel
theorem dX6_bar_6 : decode cX6_bar 6 = .ok (.iload_n 1, 1) := by decide +kernel
theorem dX6_bar_7 : decode cX6_bar 7 = .ok (.invokevirtual 83, 3) := by decide +kernel
theorem dX6_bar_10 : decode cX6_bar 10 = .ok (.ifCond .eq 12, 3) := by decide +kernel
theorem dX6_bar_13 : decode cX6_bar 13 = .ok (.aload_n 0, 1) := by decide +kernel
theorem dX6_bar_14 : decode cX6_bar 14 = .ok (.getfield 13, 3) := by decide +kernel
theorem dX6_bar_17 : decode cX6_bar 17 = .ok (.iload_n 1, 1) := by decide +kernel
theorem dX6_bar_18 : decode cX6_bar 18 = .ok (.baload, 1) := by decide +kernel
theorem dX6_bar_19 : decode cX6_bar 19 = .ok (.ifCond .eq 5, 3) := by decide +kernel
theorem dX6_bar_22 : decode cX6_bar 22 = .ok (.iconst (-1), 1) := by decide +kernel
theorem dX6_bar_23 : decode cX6_bar 23 = .ok (.ireturn, 1) := by decide +kernel
theorem dX6_bar_24 : decode cX6_bar 24 = .ok (.aload_n 0, 1) := by decide +kernel
theorem dX6_bar_25 : decode cX6_bar 25 = .ok (.getfield 13, 3) := by decide +kernel
theorem dX6_bar_28 : decode cX6_bar 28 = .ok (.iload_n 1, 1) := by decide +kernel
theorem dX6_bar_29 : decode cX6_bar 29 = .ok (.iconst 1, 1) := by decide +kernel
theorem dX6_bar_30 : decode cX6_bar 30 = .ok (.bastore, 1) := by decide +kernel
theorem dX6_bar_31 : decode cX6_bar 31 = .ok (.iconst 0, 1) := by decide +kernel
theorem dX6_bar_32 : decode cX6_bar 32 = .ok (.istore_n 2, 1) := by decide +kernel
theorem dX6_bar_33 : decode cX6_bar 33 = .ok (.iconst 0, 1) := by decide +kernel
theorem dX6_bar_34 : decode cX6_bar 34 = .ok (.istore_n 3, 1) := by decide +kernel
theorem dX6_bar_35 : decode cX6_bar 35 = .ok (.iload_n 3, 1) := by decide +kernel
theorem dX6_bar_36 : decode cX6_bar 36 = .ok (.aload_n 0, 1) := by decide +kernel
theorem dX6_bar_37 : decode cX6_bar 37 = .ok (.getfield 99, 3) := by decide +kernel
theorem dX6_bar_40 : decode cX6_bar 40 = .ok (.if_icmp .ge 38, 3) := by decide +kernel
theorem dX6_bar_43 : decode cX6_bar 43 = .ok (.aload_n 0, 1) := by decide +kernel
theorem dX6_bar_44 : decode cX6_bar 44 = .ok (.getfield 30, 3) := by decide +kernel
theorem dX6_bar_47 : decode cX6_bar 47 = .ok (.iload_n 3, 1) := by decide +kernel
theorem dX6_bar_48 : decode cX6_bar 48 = .ok (.iaload, 1) := by decide +kernel
theorem dX6_bar_49 : decode cX6_bar 49 = .ok (.iload_n 1, 1) := by decide +kernel
theorem dX6_bar_50 : decode cX6_bar 50 = .ok (.if_icmp .ne 22, 3) := by decide +kernel
theorem dX6_bar_53 : decode cX6_bar 53 = .ok (.aload_n 0, 1) := by decide +kernel
theorem dX6_bar_54 : decode cX6_bar 54 = .ok (.getfield 42, 3) := by decide +kernel
theorem dX6_bar_57 : decode cX6_bar 57 = .ok (.iload_n 3, 1) := by decide +kernel
theorem dX6_bar_58 : decode cX6_bar 58 = .ok (.baload, 1) := by decide +kernel
theorem dX6_bar_59 : decode cX6_bar 59 = .ok (.ifCond .ne 13, 3) := by decide +kernel
theorem dX6_bar_62 : decode cX6_bar 62 = .ok (.aload_n 0, 1) := by decide +kernel
theorem dX6_bar_63 : decode cX6_bar 63 = .ok (.getfield 42, 3) := by decide +kernel
theorem dX6_bar_66 : decode cX6_bar 66 = .ok (.iload_n 3, 1) := by decide +kernel
theorem dX6_bar_67 : decode cX6_bar 67 = .ok (.iconst 1, 1) := by decide +kernel
theorem dX6_bar_68 : decode cX6_bar 68 = .ok (.bastore, 1) := by decide +kernel
theorem dX6_bar_69 : decode cX6_bar 69 = .ok (.iinc 2 1, 3) := by decide +kernel
theorem dX6_bar_72 : decode cX6_bar 72 = .ok (.iinc 3 1, 3) := by decide +kernel
theorem dX6_bar_75 : decode cX6_bar 75 = .ok (.goto (-40), 3) := by decide +kernel
theorem dX6_bar_78 : decode cX6_bar 78 = .ok (.iload_n 2, 1) := by decide +kernel
theorem dX6_bar_79 : decode cX6_bar 79 = .ok (.ireturn, 1) := by decide +kernel
theorem dX6_rule_0 : decode cX6_rule 0 = .ok (.aload_n 0, 1) := by decide +kernel
theorem dX6_rule_1 : decode cX6_rule 1 = .ok (.iconst 0, 1) := by decide +kernel
theorem dX6_rule_2 : decode cX6_rule 2 = .ok (.putfield 73, 3) := by decide +kernel
theorem dX6_rule_5 : decode cX6_rule 5 = .ok (.iload_n 1, 1) := by decide +kernel
theorem dX6_rule_6 : decode cX6_rule 6 = .ok (.iconst (-1), 1) := by decide +kernel
theorem dX6_rule_7 : decode cX6_rule 7 = .ok (.bipush 7, 2) := by decide +kernel
theorem dX6_rule_9 : decode cX6_rule 9 = .ok (.invokestatic 79, 3) := by decide +kernel
theorem dX6_rule_12 : decode cX6_rule 12 = .ok (.ifCond .eq 36, 3) := by decide +kernel
theorem dX6_rule_15 : decode cX6_rule 15 = .ok (.iload_n 2, 1) := by decide +kernel
theorem dX6_rule_16 : decode cX6_rule 16 = .ok (.iconst (-1), 1) := by decide +kernel
theorem dX6_rule_17 : decode cX6_rule 17 = .ok (.bipush 7, 2) := by decide +kernel
theorem dX6_rule_19 : decode cX6_rule 19 = .ok (.invokestatic 79, 3) := by decide +kernel
theorem dX6_rule_22 : decode cX6_rule 22 = .ok (.ifCond .eq 26, 3) := by decide +kernel
theorem dX6_rule_25 : decode cX6_rule 25 = .ok (.iload_n 3, 1) := by decide +kernel
theorem dX6_rule_26 : decode cX6_rule 26 = .ok (.iconst 0, 1) := by decide +kernel
theorem dX6_rule_27 : decode cX6_rule 27 = .ok (.iconst 2, 1) := by decide +kernel
theorem dX6_rule_28 : decode cX6_rule 28 = .ok (.invokestatic 79, 3) := by decide +kernel
theorem dX6_rule_31 : decode cX6_rule 31 = .ok (.ifCond .eq 17, 3) := by decide +kernel
theorem dX6_rule_34 : decode cX6_rule 34 = .ok (.iload 4, 2) := by decide +kernel
theorem dX6_rule_36 : decode cX6_rule 36 = .ok (.iconst 1, 1) := by decide +kernel
theorem dX6_rule_37 : decode cX6_rule 37 = .ok (.iconst 5, 1) := by decide +kernel
theorem dX6_rule_38 : decode cX6_rule 38 = .ok (.invokestatic 79, 3) := by decide +kernel
theorem dX6_rule_41 : decode cX6_rule 41 = .ok (.ifCond .eq 7, 3) := by decide +kernel
theorem dX6_rule_44 : decode cX6_rule 44 = .ok (.iconst 1, 1) := by decide +kernel
theorem dX6_rule_45 : decode cX6_rule 45 = .ok (.goto 4, 3) := by decide +kernel
theorem dX6_rule_48 : decode cX6_rule 48 = .ok (.iconst 0, 1) := by decide +kernel
theorem dX6_rule_49 : decode cX6_rule 49 = .ok (.istore 5, 2) := by decide +kernel
theorem dX6_rule_51 : decode cX6_rule 51 = .ok (.iload 5, 2) := by decide +kernel
theorem dX6_rule_53 : decode cX6_rule 53 = .ok (.ifCond .eq 12, 3) := by decide +kernel
theorem dX6_rule_56 : decode cX6_rule 56 = .ok (.aload_n 0, 1) := by decide +kernel
theorem dX6_rule_57 : decode cX6_rule 57 = .ok (.getfield 121, 3) := by decide +kernel
theorem dX6_rule_60 : decode cX6_rule 60 = .ok (.bipush 20, 2) := by decide +kernel
theorem dX6_rule_62 : decode cX6_rule 62 = .ok (.if_icmp .ne 5, 3) := by decide +kernel
theorem dX6_rule_65 : decode cX6_rule 65 = .ok (.iconst (-1), 1) := by decide +kernel
theorem dX6_rule_66 : decode cX6_rule 66 = .ok (.ireturn, 1) := by decide +kernel
theorem dX6_rule_67 : decode cX6_rule 67 = .ok (.aload_n 0, 1) := by decide +kernel
theorem dX6_rule_68 : decode cX6_rule 68 = .ok (.getfield 54, 3) := by decide +kernel
theorem dX6_rule_71 : decode cX6_rule 71 = .ok (.aload_n 0, 1) := by decide +kernel
theorem dX6_rule_72 : decode cX6_rule 72 = .ok (.getfield 121, 3) := by decide +kernel
theorem dX6_rule_75 : decode cX6_rule 75 = .ok (.iload_n 1, 1) := by decide +kernel
theorem dX6_rule_76 : decode cX6_rule 76 = .ok (.iastore, 1) := by decide +kernel
theorem dX6_rule_77 : decode cX6_rule 77 = .ok (.aload_n 0, 1) := by decide +kernel
theorem dX6_rule_78 : decode cX6_rule 78 = .ok (.getfield 57, 3) := by decide +kernel
theorem dX6_rule_81 : decode cX6_rule 81 = .ok (.aload_n 0, 1) := by decide +kernel
theorem dX6_rule_82 : decode cX6_rule 82 = .ok (.getfield 121, 3) := by decide +kernel
theorem dX6_rule_85 : decode cX6_rule 85 = .ok (.iload_n 2, 1) := by decide +kernel
theorem dX6_rule_86 : decode cX6_rule 86 = .ok (.iastore, 1) := by decide +kernel
theorem dX6_rule_87 : decode cX6_rule 87 = .ok (.aload_n 0, 1) := by decide +kernel
theorem dX6_rule_88 : decode cX6_rule 88 = .ok (.getfield 60, 3) := by decide +kernel
theorem dX6_rule_91 : decode cX6_rule 91 = .ok (.aload_n 0, 1) := by decide +kernel
theorem dX6_rule_92 : decode cX6_rule 92 = .ok (.getfield 121, 3) := by decide +kernel
theorem dX6_rule_95 : decode cX6_rule 95 = .ok (.iload_n 3, 1) := by decide +kernel
theorem dX6_rule_96 : decode cX6_rule 96 = .ok (.iastore, 1) := by decide +kernel
theorem dX6_rule_97 : decode cX6_rule 97 = .ok (.aload_n 0, 1) := by decide +kernel
theorem dX6_rule_98 : decode cX6_rule 98 = .ok (.getfield 63, 3) := by decide +kernel
theorem dX6_rule_101 : decode cX6_rule 101 = .ok (.aload_n 0, 1) := by decide +kernel
theorem dX6_rule_102 : decode cX6_rule 102 = .ok (.getfield 121, 3) := by decide +kernel
theorem dX6_rule_105 : decode cX6_rule 105 = .ok (.iload 4, 2) := by decide +kernel
theorem dX6_rule_107 : decode cX6_rule 107 = .ok (.iastore, 1) := by decide +kernel
theorem dX6_rule_108 : decode cX6_rule 108 = .ok (.aload_n 0, 1) := by decide +kernel
theorem dX6_rule_109 : decode cX6_rule 109 = .ok (.dup, 1) := by decide +kernel
theorem dX6_rule_110 : decode cX6_rule 110 = .ok (.getfield 121, 3) := by decide +kernel
theorem dX6_rule_113 : decode cX6_rule 113 = .ok (.iconst 1, 1) := by decide +kernel
theorem dX6_rule_114 : decode cX6_rule 114 = .ok (.iadd, 1) := by decide +kernel
theorem dX6_rule_115 : decode cX6_rule 115 = .ok (.putfield 121, 3) := by decide +kernel
theorem dX6_rule_118 : decode cX6_rule 118 = .ok (.aload_n 0, 1) := by decide +kernel
theorem dX6_rule_119 : decode cX6_rule 119 = .ok (.getfield 121, 3) := by decide +kernel
theorem dX6_rule_122 : decode cX6_rule 122 = .ok (.iconst 1, 1) := by decide +kernel
theorem dX6_rule_123 : decode cX6_rule 123 = .ok (.isub, 1) := by decide +kernel
theorem dX6_rule_124 : decode cX6_rule 124 = .ok (.ireturn, 1) := by decide +kernel
def p_M_there (om : Nat → Nat) (mth : Int32) (tq : Int32) (to : Bool) (wc : Nat) (wl : Nat → Int32) (wb : Nat → Bool) (wk : Nat → Nat) (kk : Nat → Int64) (kf : Nat → Int64) (ku : Nat → Int64) (ec : Nat) (ew : Nat → Nat) (ea : Nat → Int64) (ed : Nat → Int64) (et : Nat → Int64) (ex : Nat → Bool) (cc : Nat) (ca : Nat → Int64) (cl : Nat → Int32) (ch : Nat → Int32) (uc : Nat) (ut : Nat → Int32) (ub : Nat → Int32) (ul : Nat → Int32) (uw : Nat → Int32) (tt : Int64) (ac : Nat) (as : Nat → Int32) (w : Nat) (a : Int64) (d : Int64) : Int32 → Unit → Prop := fun r u => xb r (∃ i, i < ec ∧ (ew i = w ∧ ea i = a ∧ ed i = d ∧ ex i = false))
set_option maxHeartbeats 4000000 in
set_option maxRecDepth 100000 in
theorem c_M_there (l : Launch) (D : va_G) (k : Nat → ClassId) (om : Nat → Nat) (mth : Int32) (tq : Int32) (to : Bool) (wc : Nat) (wl : Nat → Int32) (wb : Nat → Bool) (wk : Nat → Nat) (kk : Nat → Int64) (kf : Nat → Int64) (ku : Nat → Int64) (ec : Nat) (ew : Nat → Nat) (ea : Nat → Int64) (ed : Nat → Int64) (et : Nat → Int64) (ex : Nat → Bool) (cc : Nat) (ca : Nat → Int64) (cl : Nat → Int32) (ch : Nat → Int32) (uc : Nat) (ut : Nat → Int32) (ub : Nat → Int32) (ul : Nat → Int32) (uw : Nat → Int32) (tt : Int64) (ac : Nat) (as : Nat → Int32) (w : Nat) (a : Int64) (d : Int64) (hec : ec ≤ 100) (hew : ∀ i, ew i < 12) (hw : w < 12) : xx_Ci l yX6_isThere (.code yX6_isThere cX6_isThere 8 (some .boolean) :: xall) ({ frames := 0, cells := 0, slots := 0, locals := 0 } : Room) D vwCl (xT k) [.ref (om 0), .int (nI w), .long a, .long d] (bM k om mth tq to wc wl wb wk kk kf ku ec ew ea ed et ex cc ca cl ch uc ut ub ul uw tt ac as) (p_M_there om mth tq to wc wl wb wk kk kf ku ec ew ea ed et ex cc ca cl ch uc ut ub ul uw tt ac as w a d) (fun (u : Unit) => bM k om mth tq to wc wl wb wk kk kf ku ec ew ea ed et ex cc ca cl ch uc ut ub ul uw tt ac as) 0 0 := by
  intro sz
  refine xx_met (Qf := fun A => va_Qi (p_M_there om mth tq to wc wl wb wk kk kf ku ec ew ea ed et ex cc ca cl ch uc ut ub ul uw tt ac as w a d) (xx_B D vwCl (xT k) A (fun (u : Unit) => bM k om mth tq to wc wl wb wk kk kf ku ec ew ea ed et ex cc ca cl ch uc ut ub ul uw tt ac as)) A) (cc := cX6_isThere) (maxL := 8) (ret := (some .boolean)) (by decide) rfl (Nat.le_of_ble_eq_true rfl) ?_
  intro p e s m below meth c A ls hx hb hr hts hown hlocks hin hml hA hS hP hD hK hN hl
  have hl : lv_has ls 8 [(0, .ref (om 0)), (1, .int (nI w)), (2, .long a), (4, .long d)] := hl
  have hown : s.vm.findClass RX6 = some m.cls := hown
  have hinW := inX6
  refine lv_iconst (v := (nI 0)) hx hb dX6_isThere_0 (by decide) ?_
  refine lv_istore (lv' := [(6, .int (nI 0)), (0, .ref (om 0)), (1, .int (nI w)), (2, .long a), (4, .long d)]) hx hb dX6_isThere_1 hl (by decide) rfl (fun ls hl => ?_)
  refine lv_iconst (v := (nI 0)) hx hb dX6_isThere_3 (by decide) ?_
  refine lv_istore (lv' := [(7, .int (nI 0)), (6, .int (nI 0)), (0, .ref (om 0)), (1, .int (nI w)), (2, .long a), (4, .long d)]) hx hb dX6_isThere_4 hl (by decide) rfl (fun ls hl => ?_)
  have loop6 : ∀ (dd : Nat) (i : Nat) (v : Int32), ec + 1 ≤ i + dd → (i ≤ ec) → (xb v (∃ z, z < i ∧ (ew z = w ∧ ea z = a ∧ ed z = d ∧ ex z = false))) → ∀ (H : Heap) (locs : List Loc) (ls : Array Slot), va_P D vwCl (bM k om mth tq to wc wl wb wk kk kf ku ec ew ea ed et ex cc ca cl ch uc ut ub ul uw tt ac as) H → va_D A (bM k om mth tq to wc wl wb wk kk kf ku ec ew ea ed et ex cc ca cl ch uc ut ub ul uw tt ac as) → va_S A s.heap H locs → lv_has ls 8 [(0, .ref (om 0)), (1, .int (nI w)), (2, .long a), (4, .long d), (6, .int v), (7, .int (nI i))] → W p l e ({ frames := 0, cells := 0, slots := 0, locals := 0 } : Room) s m [.ref (om 0), .int (nI w), .long a, .long d].toArray below meth c H locs 0 0 (MQ below (va_Qi (p_M_there om mth tq to wc wl wb wk kk kf ku ec ew ea ed et ex cc ca cl ch uc ut ub ul uw tt ac as w a d) (xx_B D vwCl (xT k) A (fun (u : Unit) => bM k om mth tq to wc wl wb wk kk kf ku ec ew ea ed et ex cc ca cl ch uc ut ub ul uw tt ac as)) A) [.ref (om 0), .int (nI w), .long a, .long d].toArray s 0 0 A) (F0 m 6 ls []) := by
    intro dd
    induction dd with
    | zero =>
      intro i v hm h2 h3
      exact absurd hm (by omega)
    | succ dd ih6 =>
      intro i v hm h2 h3 H locs ls hP hD hS hl
      refine lv_iload hx hb dX6_isThere_6 (lv_at hl 5 rfl) ?_
      refine lv_aload_n hx hb dX6_isThere_8 rfl (lv_at hl 0 rfl) ?_
      refine va_get (D := D) (ci := 6) (v := .int (nI ec)) (C := RX6) (T := TX6) (N := 28) hx hb hts hinW hown hK hP 0 rfl rfl 10 (by decide) (hts _ tw_386) (fun _ h9 => h9) rfl dX6_isThere_9 ?_
      refine lv_icmp_ge (tgt := 79) hx hb dX6_isThere_12 (by decide) (fun c12 => ?_) (fun c12 => ?_)
      · have c12 : ec ≤ i := (nI_leI (by omega) (by omega)).mp c12
        refine lv_iload hx hb dX6_isThere_79 (lv_at hl 4 rfl) ?_
        refine xx_zret () hx hb hr hlocks (xb_nar h3) hS hK hP hD dX6_isThere_81 ?_
        have e9 : i = ec := (by omega)
        subst e9
        exact h3
      · have c12 : i < ec := Nat.lt_of_not_le (fun h => c12 ((nI_leI (by omega) (by omega)).mpr h))
        refine lv_iload hx hb dX6_isThere_15 (lv_at hl 4 rfl) ?_
        refine lv_if_ne (tgt := 66) hx hb dX6_isThere_17 (by decide) (fun c17 => ?_) (fun c17 => ?_)
        · refine lv_iconst (v := (nI 1)) hx hb dX6_isThere_66 (by decide) ?_
          refine lv_goto (tgt := 71) hx hb dX6_isThere_67 (by decide) ?_
          refine lv_istore (lv' := [(6, .int (nI 1)), (0, .ref (om 0)), (1, .int (nI w)), (2, .long a), (4, .long d), (7, .int (nI i))]) hx hb dX6_isThere_71 hl (by decide) rfl (fun ls hl => ?_)
          refine lv_iinc (v := (nI (i + 1))) (lv' := [(7, .int (nI (i + 1))), (6, .int (nI 1)), (0, .ref (om 0)), (1, .int (nI w)), (2, .long a), (4, .long d)]) hx hb dX6_isThere_73 hl (k := 5) rfl (nI_1 i) (by decide) rfl (fun ls hl => ?_)
          refine lv_goto (tgt := 6) hx hb dX6_isThere_76 (by decide) ?_
          exact ih6 (i + 1) (nI 1) (by omega) (by omega) (by first | exact xb_t (xa0_old (xb_pos h3 c17)) | exact xb_t (xa0_new (C := fun z => ew z = w ∧ ea z = a ∧ ed z = d ∧ ex z = false) ⟨c38, c50, c63, c27⟩) | exact xb_f (xa0_not (C := fun z => ew z = w ∧ ea z = a ∧ ed z = d ∧ ex z = false) (xb_neg h3 c17) (fun h => xx_tf c27 h.2.2.2)) | exact xb_f (xa0_not (C := fun z => ew z = w ∧ ea z = a ∧ ed z = d ∧ ex z = false) (xb_neg h3 c17) (fun h => c38 h.1)) | exact xb_f (xa0_not (C := fun z => ew z = w ∧ ea z = a ∧ ed z = d ∧ ex z = false) (xb_neg h3 c17) (fun h => c50 h.2.1)) | exact xb_f (xa0_not (C := fun z => ew z = w ∧ ea z = a ∧ ed z = d ∧ ex z = false) (xb_neg h3 c17) (fun h => c63 h.2.2.1))) H locs ls hP hD hS (lv_sub hl [2, 3, 4, 5, 1, 0] rfl)
        · refine lv_aload_n hx hb dX6_isThere_20 rfl (lv_at hl 0 rfl) ?_
          refine va_get (D := D) (ci := 6) (v := .ref (om 11)) (C := RX6) (T := TX6) (N := 28) hx hb hts hinW hown hK hP 0 rfl rfl 15 (by decide) (hts _ tw_391) (fun _ h9 => h9) rfl dX6_isThere_21 ?_
          refine lv_iload hx hb dX6_isThere_24 (lv_at hl 5 rfl) ?_
          refine xx_zald hx hb hK hP 11 1 rfl rfl (show i < 100 by omega) (by decide) dX6_isThere_26 ?_
          refine lv_if_ne (tgt := 70) hx hb dX6_isThere_27 (by decide) (fun c27 => ?_) (fun c27 => ?_)
          · have c27 : ex i = true := bI_ne c27
            refine lv_iconst (v := (nI 0)) hx hb dX6_isThere_70 (by decide) ?_
            refine lv_istore (lv' := [(6, .int (nI 0)), (0, .ref (om 0)), (1, .int (nI w)), (2, .long a), (4, .long d), (7, .int (nI i))]) hx hb dX6_isThere_71 hl (by decide) rfl (fun ls hl => ?_)
            refine lv_iinc (v := (nI (i + 1))) (lv' := [(7, .int (nI (i + 1))), (6, .int (nI 0)), (0, .ref (om 0)), (1, .int (nI w)), (2, .long a), (4, .long d)]) hx hb dX6_isThere_73 hl (k := 5) rfl (nI_1 i) (by decide) rfl (fun ls hl => ?_)
            refine lv_goto (tgt := 6) hx hb dX6_isThere_76 (by decide) ?_
            exact ih6 (i + 1) (nI 0) (by omega) (by omega) (by first | exact xb_t (xa0_old (xb_pos h3 c17)) | exact xb_t (xa0_new (C := fun z => ew z = w ∧ ea z = a ∧ ed z = d ∧ ex z = false) ⟨c38, c50, c63, c27⟩) | exact xb_f (xa0_not (C := fun z => ew z = w ∧ ea z = a ∧ ed z = d ∧ ex z = false) (xb_neg h3 c17) (fun h => xx_tf c27 h.2.2.2)) | exact xb_f (xa0_not (C := fun z => ew z = w ∧ ea z = a ∧ ed z = d ∧ ex z = false) (xb_neg h3 c17) (fun h => c38 h.1)) | exact xb_f (xa0_not (C := fun z => ew z = w ∧ ea z = a ∧ ed z = d ∧ ex z = false) (xb_neg h3 c17) (fun h => c50 h.2.1)) | exact xb_f (xa0_not (C := fun z => ew z = w ∧ ea z = a ∧ ed z = d ∧ ex z = false) (xb_neg h3 c17) (fun h => c63 h.2.2.1))) H locs ls hP hD hS (lv_sub hl [2, 3, 4, 5, 1, 0] rfl)
          · have c27 : ex i = false := bI_eq c27
            refine lv_aload_n hx hb dX6_isThere_30 rfl (lv_at hl 0 rfl) ?_
            refine va_get (D := D) (ci := 6) (v := .ref (om 7)) (C := RX6) (T := TX6) (N := 28) hx hb hts hinW hown hK hP 0 rfl rfl 11 (by decide) (hts _ tw_387) (fun _ h9 => h9) rfl dX6_isThere_31 ?_
            refine lv_iload hx hb dX6_isThere_34 (lv_at hl 5 rfl) ?_
            refine xx_iald hx hb hK hP 7 0 rfl rfl (show i < 100 by omega) (by decide) dX6_isThere_36 ?_
            refine lv_iload_n hx hb dX6_isThere_37 rfl (lv_at hl 1 rfl) ?_
            have hwi := hew i
            refine lv_icmp_ne (tgt := 70) hx hb dX6_isThere_38 (by decide) (fun c38 => ?_) (fun c38 => ?_)
            · have c38 : ¬ ew i = w := fun h => c38 ((nI_eq (by omega) (by omega)).mpr h)
              refine lv_iconst (v := (nI 0)) hx hb dX6_isThere_70 (by decide) ?_
              refine lv_istore (lv' := [(6, .int (nI 0)), (0, .ref (om 0)), (1, .int (nI w)), (2, .long a), (4, .long d), (7, .int (nI i))]) hx hb dX6_isThere_71 hl (by decide) rfl (fun ls hl => ?_)
              refine lv_iinc (v := (nI (i + 1))) (lv' := [(7, .int (nI (i + 1))), (6, .int (nI 0)), (0, .ref (om 0)), (1, .int (nI w)), (2, .long a), (4, .long d)]) hx hb dX6_isThere_73 hl (k := 5) rfl (nI_1 i) (by decide) rfl (fun ls hl => ?_)
              refine lv_goto (tgt := 6) hx hb dX6_isThere_76 (by decide) ?_
              exact ih6 (i + 1) (nI 0) (by omega) (by omega) (by first | exact xb_t (xa0_old (xb_pos h3 c17)) | exact xb_t (xa0_new (C := fun z => ew z = w ∧ ea z = a ∧ ed z = d ∧ ex z = false) ⟨c38, c50, c63, c27⟩) | exact xb_f (xa0_not (C := fun z => ew z = w ∧ ea z = a ∧ ed z = d ∧ ex z = false) (xb_neg h3 c17) (fun h => xx_tf c27 h.2.2.2)) | exact xb_f (xa0_not (C := fun z => ew z = w ∧ ea z = a ∧ ed z = d ∧ ex z = false) (xb_neg h3 c17) (fun h => c38 h.1)) | exact xb_f (xa0_not (C := fun z => ew z = w ∧ ea z = a ∧ ed z = d ∧ ex z = false) (xb_neg h3 c17) (fun h => c50 h.2.1)) | exact xb_f (xa0_not (C := fun z => ew z = w ∧ ea z = a ∧ ed z = d ∧ ex z = false) (xb_neg h3 c17) (fun h => c63 h.2.2.1))) H locs ls hP hD hS (lv_sub hl [2, 3, 4, 5, 1, 0] rfl)
            · have c38 : ew i = w := (nI_eq (by omega) (by omega)).mp c38
              refine lv_aload_n hx hb dX6_isThere_41 rfl (lv_at hl 0 rfl) ?_
              refine va_get (D := D) (ci := 6) (v := .ref (om 8)) (C := RX6) (T := TX6) (N := 28) hx hb hts hinW hown hK hP 0 rfl rfl 12 (by decide) (hts _ tw_388) (fun _ h9 => h9) rfl dX6_isThere_42 ?_
              refine lv_iload hx hb dX6_isThere_45 (lv_at hl 5 rfl) ?_
              refine xx_lald hx hb hK hP 8 2 rfl rfl (show i < 100 by omega) (by decide) dX6_isThere_47 ?_
              refine lv_lload_n hx hb dX6_isThere_48 rfl (lv_at hl 2 rfl) ?_
              refine W.lcmp hx hb dX6_isThere_49 ?_
              refine lv_if_ne (tgt := 70) hx hb dX6_isThere_50 (by decide) (fun c50 => ?_) (fun c50 => ?_)
              · have c50 : ¬ ((ea i) = a) := fun h => c50 ((lg_cmp_eq (ea i) a).mpr h)
                refine lv_iconst (v := (nI 0)) hx hb dX6_isThere_70 (by decide) ?_
                refine lv_istore (lv' := [(6, .int (nI 0)), (0, .ref (om 0)), (1, .int (nI w)), (2, .long a), (4, .long d), (7, .int (nI i))]) hx hb dX6_isThere_71 hl (by decide) rfl (fun ls hl => ?_)
                refine lv_iinc (v := (nI (i + 1))) (lv' := [(7, .int (nI (i + 1))), (6, .int (nI 0)), (0, .ref (om 0)), (1, .int (nI w)), (2, .long a), (4, .long d)]) hx hb dX6_isThere_73 hl (k := 5) rfl (nI_1 i) (by decide) rfl (fun ls hl => ?_)
                refine lv_goto (tgt := 6) hx hb dX6_isThere_76 (by decide) ?_
                exact ih6 (i + 1) (nI 0) (by omega) (by omega) (by first | exact xb_t (xa0_old (xb_pos h3 c17)) | exact xb_t (xa0_new (C := fun z => ew z = w ∧ ea z = a ∧ ed z = d ∧ ex z = false) ⟨c38, c50, c63, c27⟩) | exact xb_f (xa0_not (C := fun z => ew z = w ∧ ea z = a ∧ ed z = d ∧ ex z = false) (xb_neg h3 c17) (fun h => xx_tf c27 h.2.2.2)) | exact xb_f (xa0_not (C := fun z => ew z = w ∧ ea z = a ∧ ed z = d ∧ ex z = false) (xb_neg h3 c17) (fun h => c38 h.1)) | exact xb_f (xa0_not (C := fun z => ew z = w ∧ ea z = a ∧ ed z = d ∧ ex z = false) (xb_neg h3 c17) (fun h => c50 h.2.1)) | exact xb_f (xa0_not (C := fun z => ew z = w ∧ ea z = a ∧ ed z = d ∧ ex z = false) (xb_neg h3 c17) (fun h => c63 h.2.2.1))) H locs ls hP hD hS (lv_sub hl [2, 3, 4, 5, 1, 0] rfl)
              · have c50 : (ea i) = a := (lg_cmp_eq (ea i) a).mp c50
                refine lv_aload_n hx hb dX6_isThere_53 rfl (lv_at hl 0 rfl) ?_
                refine va_get (D := D) (ci := 6) (v := .ref (om 9)) (C := RX6) (T := TX6) (N := 28) hx hb hts hinW hown hK hP 0 rfl rfl 13 (by decide) (hts _ tw_389) (fun _ h9 => h9) rfl dX6_isThere_54 ?_
                refine lv_iload hx hb dX6_isThere_57 (lv_at hl 5 rfl) ?_
                refine xx_lald hx hb hK hP 9 2 rfl rfl (show i < 100 by omega) (by decide) dX6_isThere_59 ?_
                refine lv_lload hx hb dX6_isThere_60 (lv_at hl 3 rfl) ?_
                refine W.lcmp hx hb dX6_isThere_62 ?_
                refine lv_if_ne (tgt := 70) hx hb dX6_isThere_63 (by decide) (fun c63 => ?_) (fun c63 => ?_)
                · have c63 : ¬ ((ed i) = d) := fun h => c63 ((lg_cmp_eq (ed i) d).mpr h)
                  refine lv_iconst (v := (nI 0)) hx hb dX6_isThere_70 (by decide) ?_
                  refine lv_istore (lv' := [(6, .int (nI 0)), (0, .ref (om 0)), (1, .int (nI w)), (2, .long a), (4, .long d), (7, .int (nI i))]) hx hb dX6_isThere_71 hl (by decide) rfl (fun ls hl => ?_)
                  refine lv_iinc (v := (nI (i + 1))) (lv' := [(7, .int (nI (i + 1))), (6, .int (nI 0)), (0, .ref (om 0)), (1, .int (nI w)), (2, .long a), (4, .long d)]) hx hb dX6_isThere_73 hl (k := 5) rfl (nI_1 i) (by decide) rfl (fun ls hl => ?_)
                  refine lv_goto (tgt := 6) hx hb dX6_isThere_76 (by decide) ?_
                  exact ih6 (i + 1) (nI 0) (by omega) (by omega) (by first | exact xb_t (xa0_old (xb_pos h3 c17)) | exact xb_t (xa0_new (C := fun z => ew z = w ∧ ea z = a ∧ ed z = d ∧ ex z = false) ⟨c38, c50, c63, c27⟩) | exact xb_f (xa0_not (C := fun z => ew z = w ∧ ea z = a ∧ ed z = d ∧ ex z = false) (xb_neg h3 c17) (fun h => xx_tf c27 h.2.2.2)) | exact xb_f (xa0_not (C := fun z => ew z = w ∧ ea z = a ∧ ed z = d ∧ ex z = false) (xb_neg h3 c17) (fun h => c38 h.1)) | exact xb_f (xa0_not (C := fun z => ew z = w ∧ ea z = a ∧ ed z = d ∧ ex z = false) (xb_neg h3 c17) (fun h => c50 h.2.1)) | exact xb_f (xa0_not (C := fun z => ew z = w ∧ ea z = a ∧ ed z = d ∧ ex z = false) (xb_neg h3 c17) (fun h => c63 h.2.2.1))) H locs ls hP hD hS (lv_sub hl [2, 3, 4, 5, 1, 0] rfl)
                · have c63 : (ed i) = d := (lg_cmp_eq (ed i) d).mp c63
                  refine lv_iconst (v := (nI 1)) hx hb dX6_isThere_66 (by decide) ?_
                  refine lv_goto (tgt := 71) hx hb dX6_isThere_67 (by decide) ?_
                  refine lv_istore (lv' := [(6, .int (nI 1)), (0, .ref (om 0)), (1, .int (nI w)), (2, .long a), (4, .long d), (7, .int (nI i))]) hx hb dX6_isThere_71 hl (by decide) rfl (fun ls hl => ?_)
                  refine lv_iinc (v := (nI (i + 1))) (lv' := [(7, .int (nI (i + 1))), (6, .int (nI 1)), (0, .ref (om 0)), (1, .int (nI w)), (2, .long a), (4, .long d)]) hx hb dX6_isThere_73 hl (k := 5) rfl (nI_1 i) (by decide) rfl (fun ls hl => ?_)
                  refine lv_goto (tgt := 6) hx hb dX6_isThere_76 (by decide) ?_
                  exact ih6 (i + 1) (nI 1) (by omega) (by omega) (by first | exact xb_t (xa0_old (xb_pos h3 c17)) | exact xb_t (xa0_new (C := fun z => ew z = w ∧ ea z = a ∧ ed z = d ∧ ex z = false) ⟨c38, c50, c63, c27⟩) | exact xb_f (xa0_not (C := fun z => ew z = w ∧ ea z = a ∧ ed z = d ∧ ex z = false) (xb_neg h3 c17) (fun h => xx_tf c27 h.2.2.2)) | exact xb_f (xa0_not (C := fun z => ew z = w ∧ ea z = a ∧ ed z = d ∧ ex z = false) (xb_neg h3 c17) (fun h => c38 h.1)) | exact xb_f (xa0_not (C := fun z => ew z = w ∧ ea z = a ∧ ed z = d ∧ ex z = false) (xb_neg h3 c17) (fun h => c50 h.2.1)) | exact xb_f (xa0_not (C := fun z => ew z = w ∧ ea z = a ∧ ed z = d ∧ ex z = false) (xb_neg h3 c17) (fun h => c63 h.2.2.1))) H locs ls hP hD hS (lv_sub hl [2, 3, 4, 5, 1, 0] rfl)
  exact loop6 (ec + 1) 0 (nI 0) (by omega) (by omega) (by exact xb_f (fun ⟨z, z2, z3⟩ => absurd z2 (by omega))) s.heap _ ls hP hD hS (lv_sub hl [2, 3, 4, 5, 1, 0] rfl)
def p_M_isCl (om : Nat → Nat) (mth : Int32) (tq : Int32) (to : Bool) (wc : Nat) (wl : Nat → Int32) (wb : Nat → Bool) (wk : Nat → Nat) (kk : Nat → Int64) (kf : Nat → Int64) (ku : Nat → Int64) (ec : Nat) (ew : Nat → Nat) (ea : Nat → Int64) (ed : Nat → Int64) (et : Nat → Int64) (ex : Nat → Bool) (cc : Nat) (ca : Nat → Int64) (cl : Nat → Int32) (ch : Nat → Int32) (uc : Nat) (ut : Nat → Int32) (ub : Nat → Int32) (ul : Nat → Int32) (uw : Nat → Int32) (tt : Int64) (ac : Nat) (as : Nat → Int32) (a : Int64) : Int32 → Unit → Prop := fun r u => xb r (∃ i, i < cc ∧ ca i = a)
set_option maxHeartbeats 4000000 in
set_option maxRecDepth 100000 in
theorem c_M_isCl (l : Launch) (D : va_G) (k : Nat → ClassId) (om : Nat → Nat) (mth : Int32) (tq : Int32) (to : Bool) (wc : Nat) (wl : Nat → Int32) (wb : Nat → Bool) (wk : Nat → Nat) (kk : Nat → Int64) (kf : Nat → Int64) (ku : Nat → Int64) (ec : Nat) (ew : Nat → Nat) (ea : Nat → Int64) (ed : Nat → Int64) (et : Nat → Int64) (ex : Nat → Bool) (cc : Nat) (ca : Nat → Int64) (cl : Nat → Int32) (ch : Nat → Int32) (uc : Nat) (ut : Nat → Int32) (ub : Nat → Int32) (ul : Nat → Int32) (uw : Nat → Int32) (tt : Int64) (ac : Nat) (as : Nat → Int32) (a : Int64) (hcc : cc ≤ 50) : xx_Ci l yX6_isClashing (.code yX6_isClashing cX6_isClashing 5 (some .boolean) :: xall) ({ frames := 0, cells := 0, slots := 0, locals := 0 } : Room) D vwCl (xT k) [.ref (om 0), .long a] (bM k om mth tq to wc wl wb wk kk kf ku ec ew ea ed et ex cc ca cl ch uc ut ub ul uw tt ac as) (p_M_isCl om mth tq to wc wl wb wk kk kf ku ec ew ea ed et ex cc ca cl ch uc ut ub ul uw tt ac as a) (fun (u : Unit) => bM k om mth tq to wc wl wb wk kk kf ku ec ew ea ed et ex cc ca cl ch uc ut ub ul uw tt ac as) 0 0 := by
  intro sz
  refine xx_met (Qf := fun A => va_Qi (p_M_isCl om mth tq to wc wl wb wk kk kf ku ec ew ea ed et ex cc ca cl ch uc ut ub ul uw tt ac as a) (xx_B D vwCl (xT k) A (fun (u : Unit) => bM k om mth tq to wc wl wb wk kk kf ku ec ew ea ed et ex cc ca cl ch uc ut ub ul uw tt ac as)) A) (cc := cX6_isClashing) (maxL := 5) (ret := (some .boolean)) (by decide) rfl (Nat.le_of_ble_eq_true rfl) ?_
  intro p e s m below meth c A ls hx hb hr hts hown hlocks hin hml hA hS hP hD hK hN hl
  have hl : lv_has ls 5 [(0, .ref (om 0)), (1, .long a)] := hl
  have hown : s.vm.findClass RX6 = some m.cls := hown
  have hinW := inX6
  refine lv_iconst (v := (nI 0)) hx hb dX6_isClashing_0 (by decide) ?_
  refine lv_istore_n (lv' := [(3, .int (nI 0)), (0, .ref (om 0)), (1, .long a)]) hx hb dX6_isClashing_1 rfl hl (by decide) rfl (fun ls hl => ?_)
  refine lv_iconst (v := (nI 0)) hx hb dX6_isClashing_2 (by decide) ?_
  refine lv_istore (lv' := [(4, .int (nI 0)), (3, .int (nI 0)), (0, .ref (om 0)), (1, .long a)]) hx hb dX6_isClashing_3 hl (by decide) rfl (fun ls hl => ?_)
  have loop5 : ∀ (dd : Nat) (i : Nat) (v : Int32), cc + 1 ≤ i + dd → (i ≤ cc) → (xb v (∃ z, z < i ∧ ca z = a)) → ∀ (H : Heap) (locs : List Loc) (ls : Array Slot), va_P D vwCl (bM k om mth tq to wc wl wb wk kk kf ku ec ew ea ed et ex cc ca cl ch uc ut ub ul uw tt ac as) H → va_D A (bM k om mth tq to wc wl wb wk kk kf ku ec ew ea ed et ex cc ca cl ch uc ut ub ul uw tt ac as) → va_S A s.heap H locs → lv_has ls 5 [(0, .ref (om 0)), (1, .long a), (3, .int v), (4, .int (nI i))] → W p l e ({ frames := 0, cells := 0, slots := 0, locals := 0 } : Room) s m [.ref (om 0), .long a].toArray below meth c H locs 0 0 (MQ below (va_Qi (p_M_isCl om mth tq to wc wl wb wk kk kf ku ec ew ea ed et ex cc ca cl ch uc ut ub ul uw tt ac as a) (xx_B D vwCl (xT k) A (fun (u : Unit) => bM k om mth tq to wc wl wb wk kk kf ku ec ew ea ed et ex cc ca cl ch uc ut ub ul uw tt ac as)) A) [.ref (om 0), .long a].toArray s 0 0 A) (F0 m 5 ls []) := by
    intro dd
    induction dd with
    | zero =>
      intro i v hm h2 h3
      exact absurd hm (by omega)
    | succ dd ih5 =>
      intro i v hm h2 h3 H locs ls hP hD hS hl
      refine lv_iload hx hb dX6_isClashing_5 (lv_at hl 3 rfl) ?_
      refine lv_aload_n hx hb dX6_isClashing_7 rfl (lv_at hl 0 rfl) ?_
      refine va_get (D := D) (ci := 6) (v := .int (nI cc)) (C := RX6) (T := TX6) (N := 28) hx hb hts hinW hown hK hP 0 rfl rfl 16 (by decide) (hts _ tw_392) (fun _ h9 => h9) rfl dX6_isClashing_8 ?_
      refine lv_icmp_ge (tgt := 42) hx hb dX6_isClashing_11 (by decide) (fun c11 => ?_) (fun c11 => ?_)
      · have c11 : cc ≤ i := (nI_leI (by omega) (by omega)).mp c11
        refine lv_iload_n hx hb dX6_isClashing_42 rfl (lv_at hl 2 rfl) ?_
        refine xx_zret () hx hb hr hlocks (xb_nar h3) hS hK hP hD dX6_isClashing_43 ?_
        have e9 : i = cc := (by omega)
        subst e9
        exact h3
      · have c11 : i < cc := Nat.lt_of_not_le (fun h => c11 ((nI_leI (by omega) (by omega)).mpr h))
        refine lv_iload_n hx hb dX6_isClashing_14 rfl (lv_at hl 2 rfl) ?_
        refine lv_if_ne (tgt := 30) hx hb dX6_isClashing_15 (by decide) (fun c15 => ?_) (fun c15 => ?_)
        · refine lv_iconst (v := (nI 1)) hx hb dX6_isClashing_30 (by decide) ?_
          refine lv_goto (tgt := 35) hx hb dX6_isClashing_31 (by decide) ?_
          refine lv_istore_n (lv' := [(3, .int (nI 1)), (0, .ref (om 0)), (1, .long a), (4, .int (nI i))]) hx hb dX6_isClashing_35 rfl hl (by decide) rfl (fun ls hl => ?_)
          refine lv_iinc (v := (nI (i + 1))) (lv' := [(4, .int (nI (i + 1))), (3, .int (nI 1)), (0, .ref (om 0)), (1, .long a)]) hx hb dX6_isClashing_36 hl (k := 3) rfl (nI_1 i) (by decide) rfl (fun ls hl => ?_)
          refine lv_goto (tgt := 5) hx hb dX6_isClashing_39 (by decide) ?_
          exact ih5 (i + 1) (nI 1) (by omega) (by omega) (by first | exact xb_t (xa0_old (xb_pos h3 c15)) | exact xb_t (xa0_new (C := fun z => ca z = a) c27) | exact xb_f (xa0_not (C := fun z => ca z = a) (xb_neg h3 c15) c27)) H locs ls hP hD hS (lv_sub hl [2, 3, 1, 0] rfl)
        · refine lv_aload_n hx hb dX6_isClashing_18 rfl (lv_at hl 0 rfl) ?_
          refine va_get (D := D) (ci := 6) (v := .ref (om 12)) (C := RX6) (T := TX6) (N := 28) hx hb hts hinW hown hK hP 0 rfl rfl 17 (by decide) (hts _ tw_393) (fun _ h9 => h9) rfl dX6_isClashing_19 ?_
          refine lv_iload hx hb dX6_isClashing_22 (lv_at hl 3 rfl) ?_
          refine xx_lald hx hb hK hP 12 2 rfl rfl (show i < 100 by omega) (by decide) dX6_isClashing_24 ?_
          refine lv_lload_n hx hb dX6_isClashing_25 rfl (lv_at hl 1 rfl) ?_
          refine W.lcmp hx hb dX6_isClashing_26 ?_
          refine lv_if_ne (tgt := 34) hx hb dX6_isClashing_27 (by decide) (fun c27 => ?_) (fun c27 => ?_)
          · have c27 : ¬ ((ca i) = a) := fun h => c27 ((lg_cmp_eq (ca i) a).mpr h)
            refine lv_iconst (v := (nI 0)) hx hb dX6_isClashing_34 (by decide) ?_
            refine lv_istore_n (lv' := [(3, .int (nI 0)), (0, .ref (om 0)), (1, .long a), (4, .int (nI i))]) hx hb dX6_isClashing_35 rfl hl (by decide) rfl (fun ls hl => ?_)
            refine lv_iinc (v := (nI (i + 1))) (lv' := [(4, .int (nI (i + 1))), (3, .int (nI 0)), (0, .ref (om 0)), (1, .long a)]) hx hb dX6_isClashing_36 hl (k := 3) rfl (nI_1 i) (by decide) rfl (fun ls hl => ?_)
            refine lv_goto (tgt := 5) hx hb dX6_isClashing_39 (by decide) ?_
            exact ih5 (i + 1) (nI 0) (by omega) (by omega) (by first | exact xb_t (xa0_old (xb_pos h3 c15)) | exact xb_t (xa0_new (C := fun z => ca z = a) c27) | exact xb_f (xa0_not (C := fun z => ca z = a) (xb_neg h3 c15) c27)) H locs ls hP hD hS (lv_sub hl [2, 3, 1, 0] rfl)
          · have c27 : (ca i) = a := (lg_cmp_eq (ca i) a).mp c27
            refine lv_iconst (v := (nI 1)) hx hb dX6_isClashing_30 (by decide) ?_
            refine lv_goto (tgt := 35) hx hb dX6_isClashing_31 (by decide) ?_
            refine lv_istore_n (lv' := [(3, .int (nI 1)), (0, .ref (om 0)), (1, .long a), (4, .int (nI i))]) hx hb dX6_isClashing_35 rfl hl (by decide) rfl (fun ls hl => ?_)
            refine lv_iinc (v := (nI (i + 1))) (lv' := [(4, .int (nI (i + 1))), (3, .int (nI 1)), (0, .ref (om 0)), (1, .long a)]) hx hb dX6_isClashing_36 hl (k := 3) rfl (nI_1 i) (by decide) rfl (fun ls hl => ?_)
            refine lv_goto (tgt := 5) hx hb dX6_isClashing_39 (by decide) ?_
            exact ih5 (i + 1) (nI 1) (by omega) (by omega) (by first | exact xb_t (xa0_old (xb_pos h3 c15)) | exact xb_t (xa0_new (C := fun z => ca z = a) c27) | exact xb_f (xa0_not (C := fun z => ca z = a) (xb_neg h3 c15) c27)) H locs ls hP hD hS (lv_sub hl [2, 3, 1, 0] rfl)
  exact loop5 (cc + 1) 0 (nI 0) (by omega) (by omega) (by exact xb_f (fun ⟨z, z2, z3⟩ => absurd z2 (by omega))) s.heap _ ls hP hD hS (lv_sub hl [2, 3, 1, 0] rfl)
def p_M_against (om : Nat → Nat) (mth : Int32) (tq : Int32) (to : Bool) (wc : Nat) (wl : Nat → Int32) (wb : Nat → Bool) (wk : Nat → Nat) (kk : Nat → Int64) (kf : Nat → Int64) (ku : Nat → Int64) (ec : Nat) (ew : Nat → Nat) (ea : Nat → Int64) (ed : Nat → Int64) (et : Nat → Int64) (ex : Nat → Bool) (cc : Nat) (ca : Nat → Int64) (cl : Nat → Int32) (ch : Nat → Int32) (uc : Nat) (ut : Nat → Int32) (ub : Nat → Int32) (ul : Nat → Int32) (uw : Nat → Int32) (tt : Int64) (ac : Nat) (as : Nat → Int32) (mm : Nat) : Int32 → Unit → Prop := fun r u => (r = (-1) ∧ ¬ ∃ i, i < mm ∧ (¬ wl (ew mm) = 0) ∧ (ex i = false ∧ ¬ (wl (ew i) ≤ 0) ∧ ea i = ea mm ∧ ¬ ed i = ed mm)) ∨ (∃ i, i < mm ∧ r = nI i ∧ (¬ wl (ew mm) = 0) ∧ (ex i = false ∧ ¬ (wl (ew i) ≤ 0) ∧ ea i = ea mm ∧ ¬ ed i = ed mm) ∧ ∀ j, j < i → ¬ (ex j = false ∧ ¬ (wl (ew j) ≤ 0) ∧ ea j = ea mm ∧ ¬ ed j = ed mm))
set_option maxHeartbeats 4000000 in
set_option maxRecDepth 100000 in
theorem c_M_against (l : Launch) (D : va_G) (k : Nat → ClassId) (om : Nat → Nat) (mth : Int32) (tq : Int32) (to : Bool) (wc : Nat) (wl : Nat → Int32) (wb : Nat → Bool) (wk : Nat → Nat) (kk : Nat → Int64) (kf : Nat → Int64) (ku : Nat → Int64) (ec : Nat) (ew : Nat → Nat) (ea : Nat → Int64) (ed : Nat → Int64) (et : Nat → Int64) (ex : Nat → Bool) (cc : Nat) (ca : Nat → Int64) (cl : Nat → Int32) (ch : Nat → Int32) (uc : Nat) (ut : Nat → Int32) (ub : Nat → Int32) (ul : Nat → Int32) (uw : Nat → Int32) (tt : Int64) (ac : Nat) (as : Nat → Int32) (mm : Nat) (hec : ec ≤ 100) (hew : ∀ i, ew i < 12) (hm1 : mm < ec) : xx_Ci l yX6_against (.code yX6_against cX6_against 3 (some .int) :: xall) ({ frames := 0, cells := 0, slots := 0, locals := 0 } : Room) D vwCl (xT k) [.ref (om 0), .int (nI mm)] (bM k om mth tq to wc wl wb wk kk kf ku ec ew ea ed et ex cc ca cl ch uc ut ub ul uw tt ac as) (p_M_against om mth tq to wc wl wb wk kk kf ku ec ew ea ed et ex cc ca cl ch uc ut ub ul uw tt ac as mm) (fun (u : Unit) => bM k om mth tq to wc wl wb wk kk kf ku ec ew ea ed et ex cc ca cl ch uc ut ub ul uw tt ac as) 0 0 := by
  intro sz
  refine xx_met (Qf := fun A => va_Qi (p_M_against om mth tq to wc wl wb wk kk kf ku ec ew ea ed et ex cc ca cl ch uc ut ub ul uw tt ac as mm) (xx_B D vwCl (xT k) A (fun (u : Unit) => bM k om mth tq to wc wl wb wk kk kf ku ec ew ea ed et ex cc ca cl ch uc ut ub ul uw tt ac as)) A) (cc := cX6_against) (maxL := 3) (ret := (some .int)) (by decide) rfl (Nat.le_of_ble_eq_true rfl) ?_
  intro p e s m below meth c A ls hx hb hr hts hown hlocks hin hml hA hS hP hD hK hN hl
  have hl : lv_has ls 3 [(0, .ref (om 0)), (1, .int (nI mm))] := hl
  have hown : s.vm.findClass RX6 = some m.cls := hown
  have hinW := inX6
  refine lv_aload_n hx hb dX6_against_0 rfl (lv_at hl 0 rfl) ?_
  refine va_get (D := D) (ci := 6) (v := .ref (om 1)) (C := RX6) (T := TX6) (N := 28) hx hb hts hinW hown hK hP 0 rfl rfl 4 (by decide) (hts _ tw_380) (fun _ h9 => h9) rfl dX6_against_1 ?_
  refine lv_aload_n hx hb dX6_against_4 rfl (lv_at hl 0 rfl) ?_
  refine va_get (D := D) (ci := 6) (v := .ref (om 7)) (C := RX6) (T := TX6) (N := 28) hx hb hts hinW hown hK hP 0 rfl rfl 11 (by decide) (hts _ tw_387) (fun _ h9 => h9) rfl dX6_against_5 ?_
  refine lv_iload_n hx hb dX6_against_8 rfl (lv_at hl 1 rfl) ?_
  refine xx_iald hx hb hK hP 7 0 rfl rfl (show mm < 100 by omega) (by decide) dX6_against_9 ?_
  have hwm := hew mm
  refine xx_iald hx hb hK hP 1 0 rfl rfl (show ew mm < 12 by omega) (by decide) dX6_against_10 ?_
  refine lv_if_ne (tgt := 16) hx hb dX6_against_11 (by decide) (fun c11 => ?_) (fun c11 => ?_)
  · refine lv_iconst (v := (nI 0)) hx hb dX6_against_16 (by decide) ?_
    refine lv_istore_n (lv' := [(2, .int (nI 0)), (0, .ref (om 0)), (1, .int (nI mm))]) hx hb dX6_against_17 rfl hl (by decide) rfl (fun ls hl => ?_)
    have loop18 : ∀ (dd : Nat) (i : Nat), mm + 1 ≤ i + dd → (i ≤ mm) → (∀ j, j < i → ¬ (ex j = false ∧ ¬ (wl (ew j) ≤ 0) ∧ ea j = ea mm ∧ ¬ ed j = ed mm)) → ∀ (H : Heap) (locs : List Loc) (ls : Array Slot), va_P D vwCl (bM k om mth tq to wc wl wb wk kk kf ku ec ew ea ed et ex cc ca cl ch uc ut ub ul uw tt ac as) H → va_D A (bM k om mth tq to wc wl wb wk kk kf ku ec ew ea ed et ex cc ca cl ch uc ut ub ul uw tt ac as) → va_S A s.heap H locs → lv_has ls 3 [(0, .ref (om 0)), (1, .int (nI mm)), (2, .int (nI i))] → W p l e ({ frames := 0, cells := 0, slots := 0, locals := 0 } : Room) s m [.ref (om 0), .int (nI mm)].toArray below meth c H locs 0 0 (MQ below (va_Qi (p_M_against om mth tq to wc wl wb wk kk kf ku ec ew ea ed et ex cc ca cl ch uc ut ub ul uw tt ac as mm) (xx_B D vwCl (xT k) A (fun (u : Unit) => bM k om mth tq to wc wl wb wk kk kf ku ec ew ea ed et ex cc ca cl ch uc ut ub ul uw tt ac as)) A) [.ref (om 0), .int (nI mm)].toArray s 0 0 A) (F0 m 18 ls []) := by
      intro dd
      induction dd with
      | zero =>
        intro i hm h2 h3
        exact absurd hm (by omega)
      | succ dd ih18 =>
        intro i hm h2 h3 H locs ls hP hD hS hl
        refine lv_iload_n hx hb dX6_against_18 rfl (lv_at hl 2 rfl) ?_
        refine lv_iload_n hx hb dX6_against_19 rfl (lv_at hl 1 rfl) ?_
        refine lv_icmp_ge (tgt := 86) hx hb dX6_against_20 (by decide) (fun c20 => ?_) (fun c20 => ?_)
        · have c20 : mm ≤ i := (nI_leI (by omega) (by omega)).mp c20
          refine lv_iconst (v := (-1)) hx hb dX6_against_86 (by decide) ?_
          refine xx_iret () hx hb hr hlocks hS hK hP hD dX6_against_87 ?_
          exact Or.inl ⟨rfl, fun ⟨j, z1, z2, z3⟩ => h3 j (by omega) z3⟩
        · have c20 : i < mm := Nat.lt_of_not_le (fun h => c20 ((nI_leI (by omega) (by omega)).mpr h))
          refine lv_aload_n hx hb dX6_against_23 rfl (lv_at hl 0 rfl) ?_
          refine va_get (D := D) (ci := 6) (v := .ref (om 11)) (C := RX6) (T := TX6) (N := 28) hx hb hts hinW hown hK hP 0 rfl rfl 15 (by decide) (hts _ tw_391) (fun _ h9 => h9) rfl dX6_against_24 ?_
          refine lv_iload_n hx hb dX6_against_27 rfl (lv_at hl 2 rfl) ?_
          refine xx_zald hx hb hK hP 11 1 rfl rfl (show i < 100 by omega) (by decide) dX6_against_28 ?_
          refine lv_if_ne (tgt := 80) hx hb dX6_against_29 (by decide) (fun c29 => ?_) (fun c29 => ?_)
          · have c29 : ex i = true := bI_ne c29
            refine lv_iinc (v := (nI (i + 1))) (lv' := [(2, .int (nI (i + 1))), (0, .ref (om 0)), (1, .int (nI mm))]) hx hb dX6_against_80 hl (k := 2) rfl (nI_1 i) (by decide) rfl (fun ls hl => ?_)
            refine lv_goto (tgt := 18) hx hb dX6_against_83 (by decide) ?_
            exact ih18 (i + 1) (by omega) (by omega) (by intro j z1 z3; rcases Nat.lt_or_ge j i with z | z; exact h3 j z z3; obtain rfl : j = i := (by omega); first | exact xx_tf c29 z3.1 | exact z3.2.1 c43 | exact c59 z3.2.2.1 | exact z3.2.2.2 c75) H locs ls hP hD hS (lv_sub hl [1, 2, 0] rfl)
          · have c29 : ex i = false := bI_eq c29
            refine lv_aload_n hx hb dX6_against_32 rfl (lv_at hl 0 rfl) ?_
            refine va_get (D := D) (ci := 6) (v := .ref (om 1)) (C := RX6) (T := TX6) (N := 28) hx hb hts hinW hown hK hP 0 rfl rfl 4 (by decide) (hts _ tw_380) (fun _ h9 => h9) rfl dX6_against_33 ?_
            refine lv_aload_n hx hb dX6_against_36 rfl (lv_at hl 0 rfl) ?_
            refine va_get (D := D) (ci := 6) (v := .ref (om 7)) (C := RX6) (T := TX6) (N := 28) hx hb hts hinW hown hK hP 0 rfl rfl 11 (by decide) (hts _ tw_387) (fun _ h9 => h9) rfl dX6_against_37 ?_
            refine lv_iload_n hx hb dX6_against_40 rfl (lv_at hl 2 rfl) ?_
            refine xx_iald hx hb hK hP 7 0 rfl rfl (show i < 100 by omega) (by decide) dX6_against_41 ?_
            have hwi := hew i
            refine xx_iald hx hb hK hP 1 0 rfl rfl (show ew i < 12 by omega) (by decide) dX6_against_42 ?_
            refine lv_if_le (tgt := 80) hx hb dX6_against_43 (by decide) (fun c43 => ?_) (fun c43 => ?_)
            · refine lv_iinc (v := (nI (i + 1))) (lv' := [(2, .int (nI (i + 1))), (0, .ref (om 0)), (1, .int (nI mm))]) hx hb dX6_against_80 hl (k := 2) rfl (nI_1 i) (by decide) rfl (fun ls hl => ?_)
              refine lv_goto (tgt := 18) hx hb dX6_against_83 (by decide) ?_
              exact ih18 (i + 1) (by omega) (by omega) (by intro j z1 z3; rcases Nat.lt_or_ge j i with z | z; exact h3 j z z3; obtain rfl : j = i := (by omega); first | exact xx_tf c29 z3.1 | exact z3.2.1 c43 | exact c59 z3.2.2.1 | exact z3.2.2.2 c75) H locs ls hP hD hS (lv_sub hl [1, 2, 0] rfl)
            · refine lv_aload_n hx hb dX6_against_46 rfl (lv_at hl 0 rfl) ?_
              refine va_get (D := D) (ci := 6) (v := .ref (om 8)) (C := RX6) (T := TX6) (N := 28) hx hb hts hinW hown hK hP 0 rfl rfl 12 (by decide) (hts _ tw_388) (fun _ h9 => h9) rfl dX6_against_47 ?_
              refine lv_iload_n hx hb dX6_against_50 rfl (lv_at hl 2 rfl) ?_
              refine xx_lald hx hb hK hP 8 2 rfl rfl (show i < 100 by omega) (by decide) dX6_against_51 ?_
              refine lv_aload_n hx hb dX6_against_52 rfl (lv_at hl 0 rfl) ?_
              refine va_get (D := D) (ci := 6) (v := .ref (om 8)) (C := RX6) (T := TX6) (N := 28) hx hb hts hinW hown hK hP 0 rfl rfl 12 (by decide) (hts _ tw_388) (fun _ h9 => h9) rfl dX6_against_53 ?_
              refine lv_iload_n hx hb dX6_against_56 rfl (lv_at hl 1 rfl) ?_
              refine xx_lald hx hb hK hP 8 2 rfl rfl (show mm < 100 by omega) (by decide) dX6_against_57 ?_
              refine W.lcmp hx hb dX6_against_58 ?_
              refine lv_if_ne (tgt := 80) hx hb dX6_against_59 (by decide) (fun c59 => ?_) (fun c59 => ?_)
              · have c59 : ¬ ((ea i) = (ea mm)) := fun h => c59 ((lg_cmp_eq (ea i) (ea mm)).mpr h)
                refine lv_iinc (v := (nI (i + 1))) (lv' := [(2, .int (nI (i + 1))), (0, .ref (om 0)), (1, .int (nI mm))]) hx hb dX6_against_80 hl (k := 2) rfl (nI_1 i) (by decide) rfl (fun ls hl => ?_)
                refine lv_goto (tgt := 18) hx hb dX6_against_83 (by decide) ?_
                exact ih18 (i + 1) (by omega) (by omega) (by intro j z1 z3; rcases Nat.lt_or_ge j i with z | z; exact h3 j z z3; obtain rfl : j = i := (by omega); first | exact xx_tf c29 z3.1 | exact z3.2.1 c43 | exact c59 z3.2.2.1 | exact z3.2.2.2 c75) H locs ls hP hD hS (lv_sub hl [1, 2, 0] rfl)
              · have c59 : (ea i) = (ea mm) := (lg_cmp_eq (ea i) (ea mm)).mp c59
                refine lv_aload_n hx hb dX6_against_62 rfl (lv_at hl 0 rfl) ?_
                refine va_get (D := D) (ci := 6) (v := .ref (om 9)) (C := RX6) (T := TX6) (N := 28) hx hb hts hinW hown hK hP 0 rfl rfl 13 (by decide) (hts _ tw_389) (fun _ h9 => h9) rfl dX6_against_63 ?_
                refine lv_iload_n hx hb dX6_against_66 rfl (lv_at hl 2 rfl) ?_
                refine xx_lald hx hb hK hP 9 2 rfl rfl (show i < 100 by omega) (by decide) dX6_against_67 ?_
                refine lv_aload_n hx hb dX6_against_68 rfl (lv_at hl 0 rfl) ?_
                refine va_get (D := D) (ci := 6) (v := .ref (om 9)) (C := RX6) (T := TX6) (N := 28) hx hb hts hinW hown hK hP 0 rfl rfl 13 (by decide) (hts _ tw_389) (fun _ h9 => h9) rfl dX6_against_69 ?_
                refine lv_iload_n hx hb dX6_against_72 rfl (lv_at hl 1 rfl) ?_
                refine xx_lald hx hb hK hP 9 2 rfl rfl (show mm < 100 by omega) (by decide) dX6_against_73 ?_
                refine W.lcmp hx hb dX6_against_74 ?_
                refine lv_if_eq (tgt := 80) hx hb dX6_against_75 (by decide) (fun c75 => ?_) (fun c75 => ?_)
                · have c75 : (ed i) = (ed mm) := (lg_cmp_eq (ed i) (ed mm)).mp c75
                  refine lv_iinc (v := (nI (i + 1))) (lv' := [(2, .int (nI (i + 1))), (0, .ref (om 0)), (1, .int (nI mm))]) hx hb dX6_against_80 hl (k := 2) rfl (nI_1 i) (by decide) rfl (fun ls hl => ?_)
                  refine lv_goto (tgt := 18) hx hb dX6_against_83 (by decide) ?_
                  exact ih18 (i + 1) (by omega) (by omega) (by intro j z1 z3; rcases Nat.lt_or_ge j i with z | z; exact h3 j z z3; obtain rfl : j = i := (by omega); first | exact xx_tf c29 z3.1 | exact z3.2.1 c43 | exact c59 z3.2.2.1 | exact z3.2.2.2 c75) H locs ls hP hD hS (lv_sub hl [1, 2, 0] rfl)
                · have c75 : ¬ ((ed i) = (ed mm)) := fun h => c75 ((lg_cmp_eq (ed i) (ed mm)).mpr h)
                  refine lv_iload_n hx hb dX6_against_78 rfl (lv_at hl 2 rfl) ?_
                  refine xx_iret () hx hb hr hlocks hS hK hP hD dX6_against_79 ?_
                  exact Or.inr ⟨i, c20, rfl, c11, ⟨c29, c43, c59, c75⟩, h3⟩
    exact loop18 (mm + 1) 0 (by omega) (by omega) (by intro j z1; exact absurd z1 (by omega)) s.heap _ ls hP hD hS (lv_sub hl [1, 2, 0] rfl)
  · refine lv_iconst (v := (-1)) hx hb dX6_against_14 (by decide) ?_
    refine xx_iret () hx hb hr hlocks hS hK hP hD dX6_against_15 ?_
    exact Or.inl ⟨rfl, fun ⟨i, z1, z2, z3⟩ => z2 c11⟩
def p_M_stands (om : Nat → Nat) (mth : Int32) (tq : Int32) (to : Bool) (wc : Nat) (wl : Nat → Int32) (wb : Nat → Bool) (wk : Nat → Nat) (kk : Nat → Int64) (kf : Nat → Int64) (ku : Nat → Int64) (ec : Nat) (ew : Nat → Nat) (ea : Nat → Int64) (ed : Nat → Int64) (et : Nat → Int64) (ex : Nat → Bool) (cc : Nat) (ca : Nat → Int64) (cl : Nat → Int32) (ch : Nat → Int32) (uc : Nat) (ut : Nat → Int32) (ub : Nat → Int32) (ul : Nat → Int32) (uw : Nat → Int32) (tt : Int64) (ac : Nat) (as : Nat → Int32) (x : Int32) : Int32 → Unit → Prop := fun r u => xb r (∃ j, j < ec ∧ x = nI j ∧ ex j = false)
set_option maxHeartbeats 4000000 in
set_option maxRecDepth 100000 in
theorem c_M_stands (l : Launch) (D : va_G) (k : Nat → ClassId) (om : Nat → Nat) (mth : Int32) (tq : Int32) (to : Bool) (wc : Nat) (wl : Nat → Int32) (wb : Nat → Bool) (wk : Nat → Nat) (kk : Nat → Int64) (kf : Nat → Int64) (ku : Nat → Int64) (ec : Nat) (ew : Nat → Nat) (ea : Nat → Int64) (ed : Nat → Int64) (et : Nat → Int64) (ex : Nat → Bool) (cc : Nat) (ca : Nat → Int64) (cl : Nat → Int32) (ch : Nat → Int32) (uc : Nat) (ut : Nat → Int32) (ub : Nat → Int32) (ul : Nat → Int32) (uw : Nat → Int32) (tt : Int64) (ac : Nat) (as : Nat → Int32) (x : Int32) (hec : ec ≤ 100) : xx_Ci l yX6_stands (.code yX6_stands cX6_stands 2 (some .boolean) :: xall) ({ frames := 0, cells := 0, slots := 0, locals := 0 } : Room) D vwCl (xT k) [.ref (om 0), .int x] (bM k om mth tq to wc wl wb wk kk kf ku ec ew ea ed et ex cc ca cl ch uc ut ub ul uw tt ac as) (p_M_stands om mth tq to wc wl wb wk kk kf ku ec ew ea ed et ex cc ca cl ch uc ut ub ul uw tt ac as x) (fun (u : Unit) => bM k om (nI 0) tq to wc wl wb wk kk kf ku ec ew ea ed et ex cc ca cl ch uc ut ub ul uw tt ac as) 0 0 := by
  intro sz
  refine xx_met (Qf := fun A => va_Qi (p_M_stands om mth tq to wc wl wb wk kk kf ku ec ew ea ed et ex cc ca cl ch uc ut ub ul uw tt ac as x) (xx_B D vwCl (xT k) A (fun (u : Unit) => bM k om (nI 0) tq to wc wl wb wk kk kf ku ec ew ea ed et ex cc ca cl ch uc ut ub ul uw tt ac as)) A) (cc := cX6_stands) (maxL := 2) (ret := (some .boolean)) (by decide) rfl (Nat.le_of_ble_eq_true rfl) ?_
  intro p e s m below meth c A ls hx hb hr hts hown hlocks hin hml hA hS hP hD hK hN hl
  have hl : lv_has ls 2 [(0, .ref (om 0)), (1, .int x)] := hl
  have hown : s.vm.findClass RX6 = some m.cls := hown
  have hinW := inX6
  refine lv_aload_n hx hb dX6_stands_0 rfl (lv_at hl 0 rfl) ?_
  refine lv_iconst (v := (nI 0)) hx hb dX6_stands_1 (by decide) ?_
  refine va_put (D := D) (ci := 6) (v := .int (nI 0)) (ty := .int) (C := RX6) (T := TX6) (N := 28) hx hb hts hinW tyX6 tyX6_ok nmX6 hown hK hP hD hS 0 rfl rfl 0 (by decide) (hts _ tw_376) (fun _ h9 => h9) rfl (by decide +kernel) rfl rfl (Nat.le_of_ble_eq_true rfl) dX6_stands_2 (fun H locs hP hD hS => ?_)
  have hP : va_P D vwCl (bM k om (nI 0) tq to wc wl wb wk kk kf ku ec ew ea ed et ex cc ca cl ch uc ut ub ul uw tt ac as) H := hP
  have hD : va_D A (bM k om (nI 0) tq to wc wl wb wk kk kf ku ec ew ea ed et ex cc ca cl ch uc ut ub ul uw tt ac as) := hD
  refine lv_iload_n hx hb dX6_stands_5 rfl (lv_at hl 1 rfl) ?_
  refine lv_if_lt (tgt := 30) hx hb dX6_stands_6 (by decide) (fun c6 => ?_) (fun c6 => ?_)
  · refine lv_iconst (v := (nI 0)) hx hb dX6_stands_30 (by decide) ?_
    refine xx_zret () hx hb hr hlocks rfl hS hK hP hD dX6_stands_31 ?_
    first | exact xb_f (xx_none (xx_nix (by omega) (Or.inl c6))) | exact xb_t ⟨j, hj, rfl, c23⟩ | exact xb_f (xx_one (P := fun j => ex j = false) (by omega) hj (fun h => xx_tf c23 h)) | exact xb_f (xx_none (xx_nix (by omega) (Or.inr c14)))
  · refine lv_iload_n hx hb dX6_stands_9 rfl (lv_at hl 1 rfl) ?_
    refine lv_aload_n hx hb dX6_stands_10 rfl (lv_at hl 0 rfl) ?_
    refine va_get (D := D) (ci := 6) (v := .int (nI ec)) (C := RX6) (T := TX6) (N := 28) hx hb hts hinW hown hK hP 0 rfl rfl 10 (by decide) (hts _ tw_386) (fun _ h9 => h9) rfl dX6_stands_11 ?_
    refine lv_icmp_ge (tgt := 30) hx hb dX6_stands_14 (by decide) (fun c14 => ?_) (fun c14 => ?_)
    · refine lv_iconst (v := (nI 0)) hx hb dX6_stands_30 (by decide) ?_
      refine xx_zret () hx hb hr hlocks rfl hS hK hP hD dX6_stands_31 ?_
      first | exact xb_f (xx_none (xx_nix (by omega) (Or.inl c6))) | exact xb_t ⟨j, hj, rfl, c23⟩ | exact xb_f (xx_one (P := fun j => ex j = false) (by omega) hj (fun h => xx_tf c23 h)) | exact xb_f (xx_none (xx_nix (by omega) (Or.inr c14)))
    · obtain ⟨j, hj, hxj⟩ := xx_ix (n := ec) (by omega) c6 c14
      subst hxj
      refine lv_aload_n hx hb dX6_stands_17 rfl (lv_at hl 0 rfl) ?_
      refine va_get (D := D) (ci := 6) (v := .ref (om 11)) (C := RX6) (T := TX6) (N := 28) hx hb hts hinW hown hK hP 0 rfl rfl 15 (by decide) (hts _ tw_391) (fun _ h9 => h9) rfl dX6_stands_18 ?_
      refine lv_iload_n hx hb dX6_stands_21 rfl (lv_at hl 1 rfl) ?_
      refine xx_zald hx hb hK hP 11 1 rfl rfl (show j < 100 by omega) (by decide) dX6_stands_22 ?_
      refine lv_if_ne (tgt := 30) hx hb dX6_stands_23 (by decide) (fun c23 => ?_) (fun c23 => ?_)
      · have c23 : ex j = true := bI_ne c23
        refine lv_iconst (v := (nI 0)) hx hb dX6_stands_30 (by decide) ?_
        refine xx_zret () hx hb hr hlocks rfl hS hK hP hD dX6_stands_31 ?_
        first | exact xb_f (xx_none (xx_nix (by omega) (Or.inl c6))) | exact xb_t ⟨j, hj, rfl, c23⟩ | exact xb_f (xx_one (P := fun j => ex j = false) (by omega) hj (fun h => xx_tf c23 h)) | exact xb_f (xx_none (xx_nix (by omega) (Or.inr c14)))
      · have c23 : ex j = false := bI_eq c23
        refine lv_iconst (v := (nI 1)) hx hb dX6_stands_26 (by decide) ?_
        refine lv_goto (tgt := 31) hx hb dX6_stands_27 (by decide) ?_
        refine xx_zret () hx hb hr hlocks rfl hS hK hP hD dX6_stands_31 ?_
        first | exact xb_f (xx_none (xx_nix (by omega) (Or.inl c6))) | exact xb_t ⟨j, hj, rfl, c23⟩ | exact xb_f (xx_one (P := fun j => ex j = false) (by omega) hj (fun h => xx_tf c23 h)) | exact xb_f (xx_none (xx_nix (by omega) (Or.inr c14)))
def p_M_bar (om : Nat → Nat) (mth : Int32) (tq : Int32) (to : Bool) (wc : Nat) (wl : Nat → Int32) (wb : Nat → Bool) (wk : Nat → Nat) (kk : Nat → Int64) (kf : Nat → Int64) (ku : Nat → Int64) (ec : Nat) (ew : Nat → Nat) (ea : Nat → Int64) (ed : Nat → Int64) (et : Nat → Int64) (ex : Nat → Bool) (cc : Nat) (ca : Nat → Int64) (cl : Nat → Int32) (ch : Nat → Int32) (uc : Nat) (ut : Nat → Int32) (ub : Nat → Int32) (ul : Nat → Int32) (uw : Nat → Int32) (tt : Int64) (ac : Nat) (as : Nat → Int32) (x : Int32) : Int32 → ((Nat → Bool) × (Nat → Bool)) → Prop := fun r u => (r = (-1) ∧ (¬ ∃ j, j < wc ∧ x = nI j ∧ wb j = false) ∧ u = (wb, ex)) ∨ (∃ j, j < wc ∧ x = nI j ∧ wb j = false ∧ r = nI (xcnt (fun i => decide (ew i = j) && !ex i) ec) ∧ u = (xu_B wb j true, xd_drop ew ex j ec))
set_option maxHeartbeats 4000000 in
set_option maxRecDepth 100000 in
theorem c_M_bar (l : Launch) (D : va_G) (k : Nat → ClassId) (om : Nat → Nat) (mth : Int32) (tq : Int32) (to : Bool) (wc : Nat) (wl : Nat → Int32) (wb : Nat → Bool) (wk : Nat → Nat) (kk : Nat → Int64) (kf : Nat → Int64) (ku : Nat → Int64) (ec : Nat) (ew : Nat → Nat) (ea : Nat → Int64) (ed : Nat → Int64) (et : Nat → Int64) (ex : Nat → Bool) (cc : Nat) (ca : Nat → Int64) (cl : Nat → Int32) (ch : Nat → Int32) (uc : Nat) (ut : Nat → Int32) (ub : Nat → Int32) (ul : Nat → Int32) (uw : Nat → Int32) (tt : Int64) (ac : Nat) (as : Nat → Int32) (x : Int32) (hwc : wc ≤ 12) (hec : ec ≤ 100) (hew : ∀ i, ew i < 12) : xx_Ci l yX6_bar (.code yX6_bar cX6_bar 4 (some .int) :: xall) ({ frames := 1, cells := 0, slots := 0, locals := 21 } : Room) D vwCl (xT k) [.ref (om 0), .int x] (bM k om mth tq to wc wl wb wk kk kf ku ec ew ea ed et ex cc ca cl ch uc ut ub ul uw tt ac as) (p_M_bar om mth tq to wc wl wb wk kk kf ku ec ew ea ed et ex cc ca cl ch uc ut ub ul uw tt ac as x) (fun (u : (Nat → Bool) × (Nat → Bool)) => bM k om (nI 0) tq to wc wl u.1 wk kk kf ku ec ew ea ed et u.2 cc ca cl ch uc ut ub ul uw tt ac as) 0 0 := by
  intro sz
  refine xx_met (Qf := fun A => va_Qi (p_M_bar om mth tq to wc wl wb wk kk kf ku ec ew ea ed et ex cc ca cl ch uc ut ub ul uw tt ac as x) (xx_B D vwCl (xT k) A (fun (u : (Nat → Bool) × (Nat → Bool)) => bM k om (nI 0) tq to wc wl u.1 wk kk kf ku ec ew ea ed et u.2 cc ca cl ch uc ut ub ul uw tt ac as)) A) (cc := cX6_bar) (maxL := 4) (ret := (some .int)) (by decide) rfl (Nat.le_of_ble_eq_true rfl) ?_
  intro p e s m below meth c A ls hx hb hr hts hown hlocks hin hml hA hS hP hD hK hN hl
  have hl : lv_has ls 4 [(0, .ref (om 0)), (1, .int x)] := hl
  have hown : s.vm.findClass RX6 = some m.cls := hown
  have hinW := inX6
  refine lv_aload_n hx hb dX6_bar_0 rfl (lv_at hl 0 rfl) ?_
  refine lv_iconst (v := (nI 0)) hx hb dX6_bar_1 (by decide) ?_
  refine va_put (D := D) (ci := 6) (v := .int (nI 0)) (ty := .int) (C := RX6) (T := TX6) (N := 28) hx hb hts hinW tyX6 tyX6_ok nmX6 hown hK hP hD hS 0 rfl rfl 0 (by decide) (hts _ tw_376) (fun _ h9 => h9) rfl (by decide +kernel) rfl rfl (Nat.le_of_ble_eq_true rfl) dX6_bar_2 (fun H locs hP hD hS => ?_)
  have hP : va_P D vwCl (bM k om (nI 0) tq to wc wl wb wk kk kf ku ec ew ea ed et ex cc ca cl ch uc ut ub ul uw tt ac as) H := hP
  have hD : va_D A (bM k om (nI 0) tq to wc wl wb wk kk kf ku ec ew ea ed et ex cc ca cl ch uc ut ub ul uw tt ac as) := hD
  refine lv_aload_n hx hb dX6_bar_5 rfl (lv_at hl 0 rfl) ?_
  refine lv_iload_n hx hb dX6_bar_6 rfl (lv_at hl 1 rfl) ?_
  refine xx_calli ([]) [0, 1, 2, 3, 4, 5, 6, 7, 8, 9, 10, 11, 12, 13, 14, 15, 16, 17, 18, 19] [] (va_runV (As := [.int x]) (rest := []) ⟨hx, hb, hml, hown, hts⟩ (c_M_isW l D k om (nI 0) tq to wc wl wb wk kk kf ku ec ew ea ed et ex cc ca cl ch uc ut ub ul uw tt ac as x (by omega) H.size) (cwV 1 hts (xx_gV tw_472 tw_474 ts_4 tw_8 tw_475) rfl rfl rfl (by decide +kernel) ⟨Nat.le_of_ble_eq_true rfl, Nat.le_of_ble_eq_true rfl⟩) (xx_preV hK hN hP hD [0, 1, 2, 3, 4, 5, 6, 7, 8, 9, 10, 11, 12, 13, 14, 15, 16, 17, 18, 19] (by decide) rfl 6 0 rfl rfl) rfl rfl hl.1 rfl (lv_room (Nat.le_of_ble_eq_true rfl)) dX6_bar_7 ⟨Nat.le_of_ble_eq_true rfl, Nat.le_of_ble_eq_true rfl⟩) hP hD hS hA rfl rfl (by decide) (by decide) (fun r7 u7 H locs hw7 hP hD hS => ?_)
  rcases hw7 with ⟨rfl, j7, hj7, hx7⟩ | ⟨rfl, hq7⟩
  · subst hx7
    have hP : va_P D vwCl (bM k om (nI 0) tq to wc wl wb wk kk kf ku ec ew ea ed et ex cc ca cl ch uc ut ub ul uw tt ac as) H := hP
    have hD : va_D A (bM k om (nI 0) tq to wc wl wb wk kk kf ku ec ew ea ed et ex cc ca cl ch uc ut ub ul uw tt ac as) := hD
    refine lv_if_eq (tgt := 22) hx hb dX6_bar_10 (by decide) (fun c => absurd c (by decide)) (fun _ => ?_)
    refine lv_aload_n hx hb dX6_bar_13 rfl (lv_at hl 0 rfl) ?_
    refine va_get (D := D) (ci := 6) (v := .ref (om 2)) (C := RX6) (T := TX6) (N := 28) hx hb hts hinW hown hK hP 0 rfl rfl 5 (by decide) (hts _ tw_381) (fun _ h9 => h9) rfl dX6_bar_14 ?_
    refine lv_iload_n hx hb dX6_bar_17 rfl (lv_at hl 1 rfl) ?_
    refine xx_zald hx hb hK hP 2 1 rfl rfl (show j7 < 12 by omega) (by decide) dX6_bar_18 ?_
    refine lv_if_eq (tgt := 24) hx hb dX6_bar_19 (by decide) (fun c19 => ?_) (fun c19 => ?_)
    · have c19 : wb j7 = false := bI_eq c19
      refine lv_aload_n hx hb dX6_bar_24 rfl (lv_at hl 0 rfl) ?_
      refine va_get (D := D) (ci := 6) (v := .ref (om 2)) (C := RX6) (T := TX6) (N := 28) hx hb hts hinW hown hK hP 0 rfl rfl 5 (by decide) (hts _ tw_381) (fun _ h9 => h9) rfl dX6_bar_25 ?_
      refine lv_iload_n hx hb dX6_bar_28 rfl (lv_at hl 1 rfl) ?_
      refine lv_iconst (v := (nI 1)) hx hb dX6_bar_29 (by decide) ?_
      refine xx_zast (g := (fun z9 => bI ((xu_B wb j7 true) z9))) hx hb hK hP hD hS 2 1 rfl rfl (show j7 < 12 by omega) (by decide) (by decide) (xx_updB wb j7 true) dX6_bar_30 (fun H locs hP hD hS => ?_)
      have hP : va_P D vwCl (bM k om (nI 0) tq to wc wl (xu_B wb j7 true) wk kk kf ku ec ew ea ed et ex cc ca cl ch uc ut ub ul uw tt ac as) H := hP
      have hD : va_D A (bM k om (nI 0) tq to wc wl (xu_B wb j7 true) wk kk kf ku ec ew ea ed et ex cc ca cl ch uc ut ub ul uw tt ac as) := hD
      refine lv_iconst (v := (nI 0)) hx hb dX6_bar_31 (by decide) ?_
      refine lv_istore_n (lv' := [(2, .int (nI 0)), (0, .ref (om 0)), (1, .int (nI j7))]) hx hb dX6_bar_32 rfl hl (by decide) rfl (fun ls hl => ?_)
      refine lv_iconst (v := (nI 0)) hx hb dX6_bar_33 (by decide) ?_
      refine lv_istore_n (lv' := [(3, .int (nI 0)), (2, .int (nI 0)), (0, .ref (om 0)), (1, .int (nI j7))]) hx hb dX6_bar_34 rfl hl (by decide) rfl (fun ls hl => ?_)
      have loop35 : ∀ (dd : Nat) (i : Nat) (mn : Nat) (f : Nat → Bool), ec + 1 ≤ i + dd → (i ≤ ec) → (f = xd_drop ew ex j7 i) → (mn = xcnt (fun j => decide (ew j = j7) && !ex j) i) → ∀ (H : Heap) (locs : List Loc) (ls : Array Slot), va_P D vwCl (bM k om (nI 0) tq to wc wl (xu_B wb j7 true) wk kk kf ku ec ew ea ed et f cc ca cl ch uc ut ub ul uw tt ac as) H → va_D A (bM k om (nI 0) tq to wc wl (xu_B wb j7 true) wk kk kf ku ec ew ea ed et f cc ca cl ch uc ut ub ul uw tt ac as) → va_S A s.heap H locs → lv_has ls 4 [(0, .ref (om 0)), (1, .int (nI j7)), (2, .int (nI mn)), (3, .int (nI i))] → W p l e ({ frames := 1, cells := 0, slots := 0, locals := 21 } : Room) s m [.ref (om 0), .int (nI j7)].toArray below meth c H locs 0 0 (MQ below (va_Qi (p_M_bar om mth tq to wc wl wb wk kk kf ku ec ew ea ed et ex cc ca cl ch uc ut ub ul uw tt ac as (nI j7)) (xx_B D vwCl (xT k) A (fun (u : (Nat → Bool) × (Nat → Bool)) => bM k om (nI 0) tq to wc wl u.1 wk kk kf ku ec ew ea ed et u.2 cc ca cl ch uc ut ub ul uw tt ac as)) A) [.ref (om 0), .int (nI j7)].toArray s 0 0 A) (F0 m 35 ls []) := by
        intro dd
        induction dd with
        | zero =>
          intro i mn f hm h2 hf hm2
          exact absurd hm (by omega)
        | succ dd ih35 =>
          intro i mn f hm h2 hf hm2 H locs ls hP hD hS hl
          refine lv_iload_n hx hb dX6_bar_35 rfl (lv_at hl 3 rfl) ?_
          refine lv_aload_n hx hb dX6_bar_36 rfl (lv_at hl 0 rfl) ?_
          refine va_get (D := D) (ci := 6) (v := .int (nI ec)) (C := RX6) (T := TX6) (N := 28) hx hb hts hinW hown hK hP 0 rfl rfl 10 (by decide) (hts _ tw_386) (fun _ h9 => h9) rfl dX6_bar_37 ?_
          refine lv_icmp_ge (tgt := 78) hx hb dX6_bar_40 (by decide) (fun c40 => ?_) (fun c40 => ?_)
          · have c40 : ec ≤ i := (nI_leI (by omega) (by omega)).mp c40
            refine lv_iload_n hx hb dX6_bar_78 rfl (lv_at hl 2 rfl) ?_
            refine xx_iret ((xu_B wb j7 true), f) hx hb hr hlocks hS hK hP hD dX6_bar_79 ?_
            obtain rfl : i = ec := (by omega)
            subst hf
            subst hm2
            exact Or.inr ⟨j7, hj7, rfl, c19, rfl, rfl⟩
          · have c40 : i < ec := Nat.lt_of_not_le (fun h => c40 ((nI_leI (by omega) (by omega)).mpr h))
            refine lv_aload_n hx hb dX6_bar_43 rfl (lv_at hl 0 rfl) ?_
            refine va_get (D := D) (ci := 6) (v := .ref (om 7)) (C := RX6) (T := TX6) (N := 28) hx hb hts hinW hown hK hP 0 rfl rfl 11 (by decide) (hts _ tw_387) (fun _ h9 => h9) rfl dX6_bar_44 ?_
            refine lv_iload_n hx hb dX6_bar_47 rfl (lv_at hl 3 rfl) ?_
            refine xx_iald hx hb hK hP 7 0 rfl rfl (show i < 100 by omega) (by decide) dX6_bar_48 ?_
            refine lv_iload_n hx hb dX6_bar_49 rfl (lv_at hl 1 rfl) ?_
            have hwi := hew i
            refine lv_icmp_ne (tgt := 72) hx hb dX6_bar_50 (by decide) (fun c50 => ?_) (fun c50 => ?_)
            · have c50 : ¬ ew i = j7 := fun h => c50 ((nI_eq (by omega) (by omega)).mpr h)
              refine lv_iinc (v := (nI (i + 1))) (lv' := [(3, .int (nI (i + 1))), (0, .ref (om 0)), (1, .int (nI j7)), (2, .int (nI mn))]) hx hb dX6_bar_72 hl (k := 3) rfl (nI_1 i) (by decide) rfl (fun ls hl => ?_)
              refine lv_goto (tgt := 35) hx hb dX6_bar_75 (by decide) ?_
              exact ih35 (i + 1) mn f (by omega) (by omega) (by subst hf; first | exact (xd_skip c50).symm | exact (xd_skip2 ((xd_self ew ex j7 i).symm.trans c59)).symm | exact xd_put c50) (by subst hf; subst hm2; first | exact (xcnt_no1 c50).symm | exact (xcnt_no2 ((xd_self ew ex j7 i).symm.trans c59)).symm | exact (xcnt_yes2 c50 ((xd_self ew ex j7 i).symm.trans c59)).symm) H locs ls hP hD hS (lv_sub hl [1, 2, 3, 0] rfl)
            · have c50 : ew i = j7 := (nI_eq (by omega) (by omega)).mp c50
              refine lv_aload_n hx hb dX6_bar_53 rfl (lv_at hl 0 rfl) ?_
              refine va_get (D := D) (ci := 6) (v := .ref (om 11)) (C := RX6) (T := TX6) (N := 28) hx hb hts hinW hown hK hP 0 rfl rfl 15 (by decide) (hts _ tw_391) (fun _ h9 => h9) rfl dX6_bar_54 ?_
              refine lv_iload_n hx hb dX6_bar_57 rfl (lv_at hl 3 rfl) ?_
              refine xx_zald hx hb hK hP 11 1 rfl rfl (show i < 100 by omega) (by decide) dX6_bar_58 ?_
              refine lv_if_ne (tgt := 72) hx hb dX6_bar_59 (by decide) (fun c59 => ?_) (fun c59 => ?_)
              · have c59 : f i = true := bI_ne c59
                refine lv_iinc (v := (nI (i + 1))) (lv' := [(3, .int (nI (i + 1))), (0, .ref (om 0)), (1, .int (nI j7)), (2, .int (nI mn))]) hx hb dX6_bar_72 hl (k := 3) rfl (nI_1 i) (by decide) rfl (fun ls hl => ?_)
                refine lv_goto (tgt := 35) hx hb dX6_bar_75 (by decide) ?_
                exact ih35 (i + 1) mn f (by omega) (by omega) (by subst hf; first | exact (xd_skip c50).symm | exact (xd_skip2 ((xd_self ew ex j7 i).symm.trans c59)).symm | exact xd_put c50) (by subst hf; subst hm2; first | exact (xcnt_no1 c50).symm | exact (xcnt_no2 ((xd_self ew ex j7 i).symm.trans c59)).symm | exact (xcnt_yes2 c50 ((xd_self ew ex j7 i).symm.trans c59)).symm) H locs ls hP hD hS (lv_sub hl [1, 2, 3, 0] rfl)
              · have c59 : f i = false := bI_eq c59
                refine lv_aload_n hx hb dX6_bar_62 rfl (lv_at hl 0 rfl) ?_
                refine va_get (D := D) (ci := 6) (v := .ref (om 11)) (C := RX6) (T := TX6) (N := 28) hx hb hts hinW hown hK hP 0 rfl rfl 15 (by decide) (hts _ tw_391) (fun _ h9 => h9) rfl dX6_bar_63 ?_
                refine lv_iload_n hx hb dX6_bar_66 rfl (lv_at hl 3 rfl) ?_
                refine lv_iconst (v := (nI 1)) hx hb dX6_bar_67 (by decide) ?_
                refine xx_zast (g := (fun z9 => bI ((xu_B f i true) z9))) hx hb hK hP hD hS 11 1 rfl rfl (show i < 100 by omega) (by decide) (by decide) (xx_updB f i true) dX6_bar_68 (fun H locs hP hD hS => ?_)
                have hP : va_P D vwCl (bM k om (nI 0) tq to wc wl (xu_B wb j7 true) wk kk kf ku ec ew ea ed et (xu_B f i true) cc ca cl ch uc ut ub ul uw tt ac as) H := hP
                have hD : va_D A (bM k om (nI 0) tq to wc wl (xu_B wb j7 true) wk kk kf ku ec ew ea ed et (xu_B f i true) cc ca cl ch uc ut ub ul uw tt ac as) := hD
                refine lv_iinc (v := (nI (mn + 1))) (lv' := [(2, .int (nI (mn + 1))), (0, .ref (om 0)), (1, .int (nI j7)), (3, .int (nI i))]) hx hb dX6_bar_69 hl (k := 2) rfl (nI_1 mn) (by decide) rfl (fun ls hl => ?_)
                refine lv_iinc (v := (nI (i + 1))) (lv' := [(3, .int (nI (i + 1))), (2, .int (nI (mn + 1))), (0, .ref (om 0)), (1, .int (nI j7))]) hx hb dX6_bar_72 hl (k := 3) rfl (nI_1 i) (by decide) rfl (fun ls hl => ?_)
                refine lv_goto (tgt := 35) hx hb dX6_bar_75 (by decide) ?_
                exact ih35 (i + 1) (mn + 1) (xu_B f i true) (by omega) (by omega) (by subst hf; first | exact (xd_skip c50).symm | exact (xd_skip2 ((xd_self ew ex j7 i).symm.trans c59)).symm | exact xd_put c50) (by subst hf; subst hm2; first | exact (xcnt_no1 c50).symm | exact (xcnt_no2 ((xd_self ew ex j7 i).symm.trans c59)).symm | exact (xcnt_yes2 c50 ((xd_self ew ex j7 i).symm.trans c59)).symm) H locs ls hP hD hS (lv_sub hl [2, 3, 1, 0] rfl)
      exact loop35 (ec + 1) 0 0 ex (by omega) (by omega) (by exact (xd_zero ew ex j7).symm) (by rfl) H locs ls hP hD hS (lv_sub hl [2, 3, 1, 0] rfl)
    · have c19 : wb j7 = true := bI_ne c19
      refine lv_iconst (v := (-1)) hx hb dX6_bar_22 (by decide) ?_
      refine xx_iret (wb, ex) hx hb hr hlocks hS hK hP hD dX6_bar_23 ?_
      first | exact Or.inl ⟨rfl, xx_none hq7, rfl⟩ | exact Or.inl ⟨rfl, xx_one (P := fun j => wb j = false) (by omega) hj7 (fun h => xx_tf c19 h), rfl⟩
  · have hP : va_P D vwCl (bM k om (nI 0) tq to wc wl wb wk kk kf ku ec ew ea ed et ex cc ca cl ch uc ut ub ul uw tt ac as) H := hP
    have hD : va_D A (bM k om (nI 0) tq to wc wl wb wk kk kf ku ec ew ea ed et ex cc ca cl ch uc ut ub ul uw tt ac as) := hD
    refine lv_if_eq (tgt := 22) hx hb dX6_bar_10 (by decide) (fun _ => ?_) (fun c => absurd c (by decide))
    refine lv_iconst (v := (-1)) hx hb dX6_bar_22 (by decide) ?_
    refine xx_iret (wb, ex) hx hb hr hlocks hS hK hP hD dX6_bar_23 ?_
    first | exact Or.inl ⟨rfl, xx_none hq7, rfl⟩ | exact Or.inl ⟨rfl, xx_one (P := fun j => wb j = false) (by omega) hj7 (fun h => xx_tf c19 h), rfl⟩
def p_M_rule (om : Nat → Nat) (mth : Int32) (tq : Int32) (to : Bool) (wc : Nat) (wl : Nat → Int32) (wb : Nat → Bool) (wk : Nat → Nat) (kk : Nat → Int64) (kf : Nat → Int64) (ku : Nat → Int64) (ec : Nat) (ew : Nat → Nat) (ea : Nat → Int64) (ed : Nat → Int64) (et : Nat → Int64) (ex : Nat → Bool) (cc : Nat) (ca : Nat → Int64) (cl : Nat → Int32) (ch : Nat → Int32) (uc : Nat) (ut : Nat → Int32) (ub : Nat → Int32) (ul : Nat → Int32) (uw : Nat → Int32) (tt : Int64) (ac : Nat) (as : Nat → Int32) (t : Int32) (b : Int32) (lv : Int32) (wt : Int32) : Int32 → (Nat × (Nat → Int32) × (Nat → Int32) × (Nat → Int32) × (Nat → Int32)) → Prop := fun r u => (r = (-1) ∧ ¬ (uc < 20 ∧ (t = (-1) ∨ ixN 8 t) ∧ (b = (-1) ∨ ixN 8 b) ∧ ixN 3 lv ∧ ¬ (wt < nI 1) ∧ wt ≤ nI 5) ∧ u = (uc, ut, ub, ul, uw)) ∨ (r = nI uc ∧ (uc < 20 ∧ (t = (-1) ∨ ixN 8 t) ∧ (b = (-1) ∨ ixN 8 b) ∧ ixN 3 lv ∧ ¬ (wt < nI 1) ∧ wt ≤ nI 5) ∧ u = (uc + 1, upd ut uc t, upd ub uc b, upd ul uc lv, upd uw uc wt))
set_option maxHeartbeats 4000000 in
set_option maxRecDepth 100000 in
theorem c_M_rule (l : Launch) (D : va_G) (k : Nat → ClassId) (om : Nat → Nat) (mth : Int32) (tq : Int32) (to : Bool) (wc : Nat) (wl : Nat → Int32) (wb : Nat → Bool) (wk : Nat → Nat) (kk : Nat → Int64) (kf : Nat → Int64) (ku : Nat → Int64) (ec : Nat) (ew : Nat → Nat) (ea : Nat → Int64) (ed : Nat → Int64) (et : Nat → Int64) (ex : Nat → Bool) (cc : Nat) (ca : Nat → Int64) (cl : Nat → Int32) (ch : Nat → Int32) (uc : Nat) (ut : Nat → Int32) (ub : Nat → Int32) (ul : Nat → Int32) (uw : Nat → Int32) (tt : Int64) (ac : Nat) (as : Nat → Int32) (t : Int32) (b : Int32) (lv : Int32) (wt : Int32) (huc : uc ≤ 20) : xx_Ci l yX6_rule (.code yX6_rule cX6_rule 6 (some .int) :: xall) ({ frames := 1, cells := 0, slots := 0, locals := 22 } : Room) D vwCl (xT k) [.ref (om 0), .int t, .int b, .int lv, .int wt] (bM k om mth tq to wc wl wb wk kk kf ku ec ew ea ed et ex cc ca cl ch uc ut ub ul uw tt ac as) (p_M_rule om mth tq to wc wl wb wk kk kf ku ec ew ea ed et ex cc ca cl ch uc ut ub ul uw tt ac as t b lv wt) (fun (u : Nat × (Nat → Int32) × (Nat → Int32) × (Nat → Int32) × (Nat → Int32)) => bM k om (nI 0) tq to wc wl wb wk kk kf ku ec ew ea ed et ex cc ca cl ch u.1 u.2.1 u.2.2.1 u.2.2.2.1 u.2.2.2.2 tt ac as) 0 0 := by
  intro sz
  refine xx_met (Qf := fun A => va_Qi (p_M_rule om mth tq to wc wl wb wk kk kf ku ec ew ea ed et ex cc ca cl ch uc ut ub ul uw tt ac as t b lv wt) (xx_B D vwCl (xT k) A (fun (u : Nat × (Nat → Int32) × (Nat → Int32) × (Nat → Int32) × (Nat → Int32)) => bM k om (nI 0) tq to wc wl wb wk kk kf ku ec ew ea ed et ex cc ca cl ch u.1 u.2.1 u.2.2.1 u.2.2.2.1 u.2.2.2.2 tt ac as)) A) (cc := cX6_rule) (maxL := 6) (ret := (some .int)) (by decide) rfl (Nat.le_of_ble_eq_true rfl) ?_
  intro p e s m below meth c A ls hx hb hr hts hown hlocks hin hml hA hS hP hD hK hN hl
  have hl : lv_has ls 6 [(0, .ref (om 0)), (1, .int t), (2, .int b), (3, .int lv), (4, .int wt)] := hl
  have hown : s.vm.findClass RX6 = some m.cls := hown
  have hinW := inX6
  refine lv_aload_n hx hb dX6_rule_0 rfl (lv_at hl 0 rfl) ?_
  refine lv_iconst (v := (nI 0)) hx hb dX6_rule_1 (by decide) ?_
  refine va_put (D := D) (ci := 6) (v := .int (nI 0)) (ty := .int) (C := RX6) (T := TX6) (N := 28) hx hb hts hinW tyX6 tyX6_ok nmX6 hown hK hP hD hS 0 rfl rfl 0 (by decide) (hts _ tw_376) (fun _ h9 => h9) rfl (by decide +kernel) rfl rfl (Nat.le_of_ble_eq_true rfl) dX6_rule_2 (fun H locs hP hD hS => ?_)
  have hP : va_P D vwCl (bM k om (nI 0) tq to wc wl wb wk kk kf ku ec ew ea ed et ex cc ca cl ch uc ut ub ul uw tt ac as) H := hP
  have hD : va_D A (bM k om (nI 0) tq to wc wl wb wk kk kf ku ec ew ea ed et ex cc ca cl ch uc ut ub ul uw tt ac as) := hD
  refine lv_iload_n hx hb dX6_rule_5 rfl (lv_at hl 1 rfl) ?_
  refine lv_iconst (v := (-1)) hx hb dX6_rule_6 (by decide) ?_
  refine lv_bipush (v := (nI 7)) hx hb dX6_rule_7 (by decide) ?_
  refine xx_calli (bM k om (nI 0) tq to wc wl wb wk kk kf ku ec ew ea ed et ex cc ca cl ch uc ut ub ul uw tt ac as) [] [0, 1, 2, 3, 4, 5, 6, 7, 8, 9, 10, 11, 12, 13, 14, 15, 16, 17, 18, 19] (va_runS (As := [.int t, .int (-1), .int (nI 7)]) (rest := []) ⟨hx, hb, hml, hown, hts⟩ (c_M_in l D k t (-1) (nI 7) H.size) (va_cwS 3 hts (xx_gS tw_465 tw_466 tw_8 tw_467) rfl rfl rfl (by decide +kernel) ⟨Nat.le_of_ble_eq_true rfl, Nat.le_of_ble_eq_true rfl⟩) (xx_preS hK hN hP hD [] (by decide) rfl) rfl rfl hl.1 rfl (lv_room (Nat.le_of_ble_eq_true rfl)) dX6_rule_9 ⟨Nat.le_of_ble_eq_true rfl, Nat.le_of_ble_eq_true rfl⟩) hP hD hS hA rfl rfl (by decide) (by decide) (fun r9 u9 H locs hw9 hP hD hS => ?_)
  rcases hw9 with ⟨rfl, hq9⟩ | ⟨rfl, hq9⟩
  · have hP : va_P D vwCl (bM k om (nI 0) tq to wc wl wb wk kk kf ku ec ew ea ed et ex cc ca cl ch uc ut ub ul uw tt ac as) H := hP
    have hD : va_D A (bM k om (nI 0) tq to wc wl wb wk kk kf ku ec ew ea ed et ex cc ca cl ch uc ut ub ul uw tt ac as) := hD
    refine lv_if_eq (tgt := 48) hx hb dX6_rule_12 (by decide) (fun c => absurd c (by decide)) (fun _ => ?_)
    refine lv_iload_n hx hb dX6_rule_15 rfl (lv_at hl 2 rfl) ?_
    refine lv_iconst (v := (-1)) hx hb dX6_rule_16 (by decide) ?_
    refine lv_bipush (v := (nI 7)) hx hb dX6_rule_17 (by decide) ?_
    refine xx_calli (bM k om (nI 0) tq to wc wl wb wk kk kf ku ec ew ea ed et ex cc ca cl ch uc ut ub ul uw tt ac as) [] [0, 1, 2, 3, 4, 5, 6, 7, 8, 9, 10, 11, 12, 13, 14, 15, 16, 17, 18, 19] (va_runS (As := [.int b, .int (-1), .int (nI 7)]) (rest := []) ⟨hx, hb, hml, hown, hts⟩ (c_M_in l D k b (-1) (nI 7) H.size) (va_cwS 3 hts (xx_gS tw_465 tw_466 tw_8 tw_467) rfl rfl rfl (by decide +kernel) ⟨Nat.le_of_ble_eq_true rfl, Nat.le_of_ble_eq_true rfl⟩) (xx_preS hK hN hP hD [] (by decide) rfl) rfl rfl hl.1 rfl (lv_room (Nat.le_of_ble_eq_true rfl)) dX6_rule_19 ⟨Nat.le_of_ble_eq_true rfl, Nat.le_of_ble_eq_true rfl⟩) hP hD hS hA rfl rfl (by decide) (by decide) (fun r19 u19 H locs hw19 hP hD hS => ?_)
    rcases hw19 with ⟨rfl, hq19⟩ | ⟨rfl, hq19⟩
    · have hP : va_P D vwCl (bM k om (nI 0) tq to wc wl wb wk kk kf ku ec ew ea ed et ex cc ca cl ch uc ut ub ul uw tt ac as) H := hP
      have hD : va_D A (bM k om (nI 0) tq to wc wl wb wk kk kf ku ec ew ea ed et ex cc ca cl ch uc ut ub ul uw tt ac as) := hD
      refine lv_if_eq (tgt := 48) hx hb dX6_rule_22 (by decide) (fun c => absurd c (by decide)) (fun _ => ?_)
      refine lv_iload_n hx hb dX6_rule_25 rfl (lv_at hl 3 rfl) ?_
      refine lv_iconst (v := (nI 0)) hx hb dX6_rule_26 (by decide) ?_
      refine lv_iconst (v := (nI 2)) hx hb dX6_rule_27 (by decide) ?_
      refine xx_calli (bM k om (nI 0) tq to wc wl wb wk kk kf ku ec ew ea ed et ex cc ca cl ch uc ut ub ul uw tt ac as) [] [0, 1, 2, 3, 4, 5, 6, 7, 8, 9, 10, 11, 12, 13, 14, 15, 16, 17, 18, 19] (va_runS (As := [.int lv, .int (nI 0), .int (nI 2)]) (rest := []) ⟨hx, hb, hml, hown, hts⟩ (c_M_in l D k lv (nI 0) (nI 2) H.size) (va_cwS 3 hts (xx_gS tw_465 tw_466 tw_8 tw_467) rfl rfl rfl (by decide +kernel) ⟨Nat.le_of_ble_eq_true rfl, Nat.le_of_ble_eq_true rfl⟩) (xx_preS hK hN hP hD [] (by decide) rfl) rfl rfl hl.1 rfl (lv_room (Nat.le_of_ble_eq_true rfl)) dX6_rule_28 ⟨Nat.le_of_ble_eq_true rfl, Nat.le_of_ble_eq_true rfl⟩) hP hD hS hA rfl rfl (by decide) (by decide) (fun r28 u28 H locs hw28 hP hD hS => ?_)
      rcases hw28 with ⟨rfl, hq28⟩ | ⟨rfl, hq28⟩
      · have hP : va_P D vwCl (bM k om (nI 0) tq to wc wl wb wk kk kf ku ec ew ea ed et ex cc ca cl ch uc ut ub ul uw tt ac as) H := hP
        have hD : va_D A (bM k om (nI 0) tq to wc wl wb wk kk kf ku ec ew ea ed et ex cc ca cl ch uc ut ub ul uw tt ac as) := hD
        refine lv_if_eq (tgt := 48) hx hb dX6_rule_31 (by decide) (fun c => absurd c (by decide)) (fun _ => ?_)
        refine lv_iload hx hb dX6_rule_34 (lv_at hl 4 rfl) ?_
        refine lv_iconst (v := (nI 1)) hx hb dX6_rule_36 (by decide) ?_
        refine lv_iconst (v := (nI 5)) hx hb dX6_rule_37 (by decide) ?_
        refine xx_calli (bM k om (nI 0) tq to wc wl wb wk kk kf ku ec ew ea ed et ex cc ca cl ch uc ut ub ul uw tt ac as) [] [0, 1, 2, 3, 4, 5, 6, 7, 8, 9, 10, 11, 12, 13, 14, 15, 16, 17, 18, 19] (va_runS (As := [.int wt, .int (nI 1), .int (nI 5)]) (rest := []) ⟨hx, hb, hml, hown, hts⟩ (c_M_in l D k wt (nI 1) (nI 5) H.size) (va_cwS 3 hts (xx_gS tw_465 tw_466 tw_8 tw_467) rfl rfl rfl (by decide +kernel) ⟨Nat.le_of_ble_eq_true rfl, Nat.le_of_ble_eq_true rfl⟩) (xx_preS hK hN hP hD [] (by decide) rfl) rfl rfl hl.1 rfl (lv_room (Nat.le_of_ble_eq_true rfl)) dX6_rule_38 ⟨Nat.le_of_ble_eq_true rfl, Nat.le_of_ble_eq_true rfl⟩) hP hD hS hA rfl rfl (by decide) (by decide) (fun r38 u38 H locs hw38 hP hD hS => ?_)
        rcases hw38 with ⟨rfl, hq38⟩ | ⟨rfl, hq38⟩
        · have hP : va_P D vwCl (bM k om (nI 0) tq to wc wl wb wk kk kf ku ec ew ea ed et ex cc ca cl ch uc ut ub ul uw tt ac as) H := hP
          have hD : va_D A (bM k om (nI 0) tq to wc wl wb wk kk kf ku ec ew ea ed et ex cc ca cl ch uc ut ub ul uw tt ac as) := hD
          refine lv_if_eq (tgt := 48) hx hb dX6_rule_41 (by decide) (fun c => absurd c (by decide)) (fun _ => ?_)
          refine lv_iconst (v := (nI 1)) hx hb dX6_rule_44 (by decide) ?_
          refine lv_goto (tgt := 49) hx hb dX6_rule_45 (by decide) ?_
          refine lv_istore (lv' := [(5, .int (nI 1)), (0, .ref (om 0)), (1, .int t), (2, .int b), (3, .int lv), (4, .int wt)]) hx hb dX6_rule_49 hl (by decide) rfl (fun ls hl => ?_)
          refine lv_iload hx hb dX6_rule_51 (lv_at hl 0 rfl) ?_
          refine lv_if_eq (tgt := 65) hx hb dX6_rule_53 (by decide) (fun c => absurd c (by decide)) (fun _ => ?_)
          refine lv_aload_n hx hb dX6_rule_56 rfl (lv_at hl 1 rfl) ?_
          refine va_get (D := D) (ci := 6) (v := .int (nI uc)) (C := RX6) (T := TX6) (N := 28) hx hb hts hinW hown hK hP 0 rfl rfl 20 (by decide) (hts _ tw_396) (fun _ h9 => h9) rfl dX6_rule_57 ?_
          refine lv_bipush (v := (nI 20)) hx hb dX6_rule_60 (by decide) ?_
          refine lv_icmp_ne (tgt := 67) hx hb dX6_rule_62 (by decide) (fun c62 => ?_) (fun c62 => ?_)
          · have c62 : ¬ uc = 20 := fun h => c62 ((nI_eq (by omega) (by omega)).mpr h)
            refine lv_aload_n hx hb dX6_rule_67 rfl (lv_at hl 1 rfl) ?_
            refine va_get (D := D) (ci := 6) (v := .ref (om 15)) (C := RX6) (T := TX6) (N := 28) hx hb hts hinW hown hK hP 0 rfl rfl 21 (by decide) (hts _ tw_397) (fun _ h9 => h9) rfl dX6_rule_68 ?_
            refine lv_aload_n hx hb dX6_rule_71 rfl (lv_at hl 1 rfl) ?_
            refine va_get (D := D) (ci := 6) (v := .int (nI uc)) (C := RX6) (T := TX6) (N := 28) hx hb hts hinW hown hK hP 0 rfl rfl 20 (by decide) (hts _ tw_396) (fun _ h9 => h9) rfl dX6_rule_72 ?_
            refine lv_iload_n hx hb dX6_rule_75 rfl (lv_at hl 2 rfl) ?_
            refine xx_iast (g := (upd ut uc t)) hx hb hK hP hD hS 15 0 rfl rfl (show uc < 20 by omega) (by decide) rfl dX6_rule_76 (fun H locs hP hD hS => ?_)
            have hP : va_P D vwCl (bM k om (nI 0) tq to wc wl wb wk kk kf ku ec ew ea ed et ex cc ca cl ch uc (upd ut uc t) ub ul uw tt ac as) H := hP
            have hD : va_D A (bM k om (nI 0) tq to wc wl wb wk kk kf ku ec ew ea ed et ex cc ca cl ch uc (upd ut uc t) ub ul uw tt ac as) := hD
            refine lv_aload_n hx hb dX6_rule_77 rfl (lv_at hl 1 rfl) ?_
            refine va_get (D := D) (ci := 6) (v := .ref (om 16)) (C := RX6) (T := TX6) (N := 28) hx hb hts hinW hown hK hP 0 rfl rfl 22 (by decide) (hts _ tw_398) (fun _ h9 => h9) rfl dX6_rule_78 ?_
            refine lv_aload_n hx hb dX6_rule_81 rfl (lv_at hl 1 rfl) ?_
            refine va_get (D := D) (ci := 6) (v := .int (nI uc)) (C := RX6) (T := TX6) (N := 28) hx hb hts hinW hown hK hP 0 rfl rfl 20 (by decide) (hts _ tw_396) (fun _ h9 => h9) rfl dX6_rule_82 ?_
            refine lv_iload_n hx hb dX6_rule_85 rfl (lv_at hl 3 rfl) ?_
            refine xx_iast (g := (upd ub uc b)) hx hb hK hP hD hS 16 0 rfl rfl (show uc < 20 by omega) (by decide) rfl dX6_rule_86 (fun H locs hP hD hS => ?_)
            have hP : va_P D vwCl (bM k om (nI 0) tq to wc wl wb wk kk kf ku ec ew ea ed et ex cc ca cl ch uc (upd ut uc t) (upd ub uc b) ul uw tt ac as) H := hP
            have hD : va_D A (bM k om (nI 0) tq to wc wl wb wk kk kf ku ec ew ea ed et ex cc ca cl ch uc (upd ut uc t) (upd ub uc b) ul uw tt ac as) := hD
            refine lv_aload_n hx hb dX6_rule_87 rfl (lv_at hl 1 rfl) ?_
            refine va_get (D := D) (ci := 6) (v := .ref (om 17)) (C := RX6) (T := TX6) (N := 28) hx hb hts hinW hown hK hP 0 rfl rfl 23 (by decide) (hts _ tw_399) (fun _ h9 => h9) rfl dX6_rule_88 ?_
            refine lv_aload_n hx hb dX6_rule_91 rfl (lv_at hl 1 rfl) ?_
            refine va_get (D := D) (ci := 6) (v := .int (nI uc)) (C := RX6) (T := TX6) (N := 28) hx hb hts hinW hown hK hP 0 rfl rfl 20 (by decide) (hts _ tw_396) (fun _ h9 => h9) rfl dX6_rule_92 ?_
            refine lv_iload_n hx hb dX6_rule_95 rfl (lv_at hl 4 rfl) ?_
            refine xx_iast (g := (upd ul uc lv)) hx hb hK hP hD hS 17 0 rfl rfl (show uc < 20 by omega) (by decide) rfl dX6_rule_96 (fun H locs hP hD hS => ?_)
            have hP : va_P D vwCl (bM k om (nI 0) tq to wc wl wb wk kk kf ku ec ew ea ed et ex cc ca cl ch uc (upd ut uc t) (upd ub uc b) (upd ul uc lv) uw tt ac as) H := hP
            have hD : va_D A (bM k om (nI 0) tq to wc wl wb wk kk kf ku ec ew ea ed et ex cc ca cl ch uc (upd ut uc t) (upd ub uc b) (upd ul uc lv) uw tt ac as) := hD
            refine lv_aload_n hx hb dX6_rule_97 rfl (lv_at hl 1 rfl) ?_
            refine va_get (D := D) (ci := 6) (v := .ref (om 18)) (C := RX6) (T := TX6) (N := 28) hx hb hts hinW hown hK hP 0 rfl rfl 24 (by decide) (hts _ tw_400) (fun _ h9 => h9) rfl dX6_rule_98 ?_
            refine lv_aload_n hx hb dX6_rule_101 rfl (lv_at hl 1 rfl) ?_
            refine va_get (D := D) (ci := 6) (v := .int (nI uc)) (C := RX6) (T := TX6) (N := 28) hx hb hts hinW hown hK hP 0 rfl rfl 20 (by decide) (hts _ tw_396) (fun _ h9 => h9) rfl dX6_rule_102 ?_
            refine lv_iload hx hb dX6_rule_105 (lv_at hl 5 rfl) ?_
            refine xx_iast (g := (upd uw uc wt)) hx hb hK hP hD hS 18 0 rfl rfl (show uc < 20 by omega) (by decide) rfl dX6_rule_107 (fun H locs hP hD hS => ?_)
            have hP : va_P D vwCl (bM k om (nI 0) tq to wc wl wb wk kk kf ku ec ew ea ed et ex cc ca cl ch uc (upd ut uc t) (upd ub uc b) (upd ul uc lv) (upd uw uc wt) tt ac as) H := hP
            have hD : va_D A (bM k om (nI 0) tq to wc wl wb wk kk kf ku ec ew ea ed et ex cc ca cl ch uc (upd ut uc t) (upd ub uc b) (upd ul uc lv) (upd uw uc wt) tt ac as) := hD
            refine lv_aload_n hx hb dX6_rule_108 rfl (lv_at hl 1 rfl) ?_
            refine lv_dup hx hb dX6_rule_109 rfl ?_
            refine va_get (D := D) (ci := 6) (v := .int (nI uc)) (C := RX6) (T := TX6) (N := 28) hx hb hts hinW hown hK hP 0 rfl rfl 20 (by decide) (hts _ tw_396) (fun _ h9 => h9) rfl dX6_rule_110 ?_
            refine lv_iconst (v := (nI 1)) hx hb dX6_rule_113 (by decide) ?_
            refine lv_iadd hx hb dX6_rule_114 ?_
            refine xx_topi (nI_add uc 1) ?_
            refine va_put (D := D) (ci := 6) (v := .int (nI (uc + 1))) (ty := .int) (C := RX6) (T := TX6) (N := 28) hx hb hts hinW tyX6 tyX6_ok nmX6 hown hK hP hD hS 0 rfl rfl 20 (by decide) (hts _ tw_396) (fun _ h9 => h9) rfl (by decide +kernel) rfl rfl (Nat.le_of_ble_eq_true rfl) dX6_rule_115 (fun H locs hP hD hS => ?_)
            have hP : va_P D vwCl (bM k om (nI 0) tq to wc wl wb wk kk kf ku ec ew ea ed et ex cc ca cl ch (uc + 1) (upd ut uc t) (upd ub uc b) (upd ul uc lv) (upd uw uc wt) tt ac as) H := hP
            have hD : va_D A (bM k om (nI 0) tq to wc wl wb wk kk kf ku ec ew ea ed et ex cc ca cl ch (uc + 1) (upd ut uc t) (upd ub uc b) (upd ul uc lv) (upd uw uc wt) tt ac as) := hD
            refine lv_aload_n hx hb dX6_rule_118 rfl (lv_at hl 1 rfl) ?_
            refine va_get (D := D) (ci := 6) (v := .int (nI (uc + 1))) (C := RX6) (T := TX6) (N := 28) hx hb hts hinW hown hK hP 0 rfl rfl 20 (by decide) (hts _ tw_396) (fun _ h9 => h9) rfl dX6_rule_119 ?_
            refine lv_iconst (v := (nI 1)) hx hb dX6_rule_122 (by decide) ?_
            refine lv_isub hx hb dX6_rule_123 ?_
            refine xx_topi (nI_pred uc) ?_
            refine xx_iret (uc + 1, (upd ut uc t), (upd ub uc b), (upd ul uc lv), (upd uw uc wt)) hx hb hr hlocks hS hK hP hD dX6_rule_124 ?_
            exact Or.inr ⟨rfl, ⟨(by omega), xx_inA.mp hq9, xx_inA.mp hq19, (xx_inN (by decide)).mp hq28, hq38.1, xx_nle hq38.2⟩, rfl⟩
          · have c62 : uc = 20 := (nI_eq (by omega) (by omega)).mp c62
            refine lv_iconst (v := (-1)) hx hb dX6_rule_65 (by decide) ?_
            refine xx_iret (uc, ut, ub, ul, uw) hx hb hr hlocks hS hK hP hD dX6_rule_66 ?_
            first | exact Or.inl ⟨rfl, fun h => absurd h.1 (by omega), rfl⟩ | exact Or.inl ⟨rfl, fun h => hq9 (xx_inA.mpr h.2.1), rfl⟩ | exact Or.inl ⟨rfl, fun h => hq19 (xx_inA.mpr h.2.2.1), rfl⟩ | exact Or.inl ⟨rfl, fun h => hq28 ((xx_inN (by decide)).mpr h.2.2.2.1), rfl⟩ | exact Or.inl ⟨rfl, fun h => hq38 ⟨h.2.2.2.2.1, xx_nlt h.2.2.2.2.2⟩, rfl⟩
        · have hP : va_P D vwCl (bM k om (nI 0) tq to wc wl wb wk kk kf ku ec ew ea ed et ex cc ca cl ch uc ut ub ul uw tt ac as) H := hP
          have hD : va_D A (bM k om (nI 0) tq to wc wl wb wk kk kf ku ec ew ea ed et ex cc ca cl ch uc ut ub ul uw tt ac as) := hD
          refine lv_if_eq (tgt := 48) hx hb dX6_rule_41 (by decide) (fun _ => ?_) (fun c => absurd c (by decide))
          refine lv_iconst (v := (nI 0)) hx hb dX6_rule_48 (by decide) ?_
          refine lv_istore (lv' := [(5, .int (nI 0)), (0, .ref (om 0)), (1, .int t), (2, .int b), (3, .int lv), (4, .int wt)]) hx hb dX6_rule_49 hl (by decide) rfl (fun ls hl => ?_)
          refine lv_iload hx hb dX6_rule_51 (lv_at hl 0 rfl) ?_
          refine lv_if_eq (tgt := 65) hx hb dX6_rule_53 (by decide) (fun _ => ?_) (fun c => absurd c (by decide))
          refine lv_iconst (v := (-1)) hx hb dX6_rule_65 (by decide) ?_
          refine xx_iret (uc, ut, ub, ul, uw) hx hb hr hlocks hS hK hP hD dX6_rule_66 ?_
          first | exact Or.inl ⟨rfl, fun h => absurd h.1 (by omega), rfl⟩ | exact Or.inl ⟨rfl, fun h => hq9 (xx_inA.mpr h.2.1), rfl⟩ | exact Or.inl ⟨rfl, fun h => hq19 (xx_inA.mpr h.2.2.1), rfl⟩ | exact Or.inl ⟨rfl, fun h => hq28 ((xx_inN (by decide)).mpr h.2.2.2.1), rfl⟩ | exact Or.inl ⟨rfl, fun h => hq38 ⟨h.2.2.2.2.1, xx_nlt h.2.2.2.2.2⟩, rfl⟩
      · have hP : va_P D vwCl (bM k om (nI 0) tq to wc wl wb wk kk kf ku ec ew ea ed et ex cc ca cl ch uc ut ub ul uw tt ac as) H := hP
        have hD : va_D A (bM k om (nI 0) tq to wc wl wb wk kk kf ku ec ew ea ed et ex cc ca cl ch uc ut ub ul uw tt ac as) := hD
        refine lv_if_eq (tgt := 48) hx hb dX6_rule_31 (by decide) (fun _ => ?_) (fun c => absurd c (by decide))
        refine lv_iconst (v := (nI 0)) hx hb dX6_rule_48 (by decide) ?_
        refine lv_istore (lv' := [(5, .int (nI 0)), (0, .ref (om 0)), (1, .int t), (2, .int b), (3, .int lv), (4, .int wt)]) hx hb dX6_rule_49 hl (by decide) rfl (fun ls hl => ?_)
        refine lv_iload hx hb dX6_rule_51 (lv_at hl 0 rfl) ?_
        refine lv_if_eq (tgt := 65) hx hb dX6_rule_53 (by decide) (fun _ => ?_) (fun c => absurd c (by decide))
        refine lv_iconst (v := (-1)) hx hb dX6_rule_65 (by decide) ?_
        refine xx_iret (uc, ut, ub, ul, uw) hx hb hr hlocks hS hK hP hD dX6_rule_66 ?_
        first | exact Or.inl ⟨rfl, fun h => absurd h.1 (by omega), rfl⟩ | exact Or.inl ⟨rfl, fun h => hq9 (xx_inA.mpr h.2.1), rfl⟩ | exact Or.inl ⟨rfl, fun h => hq19 (xx_inA.mpr h.2.2.1), rfl⟩ | exact Or.inl ⟨rfl, fun h => hq28 ((xx_inN (by decide)).mpr h.2.2.2.1), rfl⟩ | exact Or.inl ⟨rfl, fun h => hq38 ⟨h.2.2.2.2.1, xx_nlt h.2.2.2.2.2⟩, rfl⟩
    · have hP : va_P D vwCl (bM k om (nI 0) tq to wc wl wb wk kk kf ku ec ew ea ed et ex cc ca cl ch uc ut ub ul uw tt ac as) H := hP
      have hD : va_D A (bM k om (nI 0) tq to wc wl wb wk kk kf ku ec ew ea ed et ex cc ca cl ch uc ut ub ul uw tt ac as) := hD
      refine lv_if_eq (tgt := 48) hx hb dX6_rule_22 (by decide) (fun _ => ?_) (fun c => absurd c (by decide))
      refine lv_iconst (v := (nI 0)) hx hb dX6_rule_48 (by decide) ?_
      refine lv_istore (lv' := [(5, .int (nI 0)), (0, .ref (om 0)), (1, .int t), (2, .int b), (3, .int lv), (4, .int wt)]) hx hb dX6_rule_49 hl (by decide) rfl (fun ls hl => ?_)
      refine lv_iload hx hb dX6_rule_51 (lv_at hl 0 rfl) ?_
      refine lv_if_eq (tgt := 65) hx hb dX6_rule_53 (by decide) (fun _ => ?_) (fun c => absurd c (by decide))
      refine lv_iconst (v := (-1)) hx hb dX6_rule_65 (by decide) ?_
      refine xx_iret (uc, ut, ub, ul, uw) hx hb hr hlocks hS hK hP hD dX6_rule_66 ?_
      first | exact Or.inl ⟨rfl, fun h => absurd h.1 (by omega), rfl⟩ | exact Or.inl ⟨rfl, fun h => hq9 (xx_inA.mpr h.2.1), rfl⟩ | exact Or.inl ⟨rfl, fun h => hq19 (xx_inA.mpr h.2.2.1), rfl⟩ | exact Or.inl ⟨rfl, fun h => hq28 ((xx_inN (by decide)).mpr h.2.2.2.1), rfl⟩ | exact Or.inl ⟨rfl, fun h => hq38 ⟨h.2.2.2.2.1, xx_nlt h.2.2.2.2.2⟩, rfl⟩
  · have hP : va_P D vwCl (bM k om (nI 0) tq to wc wl wb wk kk kf ku ec ew ea ed et ex cc ca cl ch uc ut ub ul uw tt ac as) H := hP
    have hD : va_D A (bM k om (nI 0) tq to wc wl wb wk kk kf ku ec ew ea ed et ex cc ca cl ch uc ut ub ul uw tt ac as) := hD
    refine lv_if_eq (tgt := 48) hx hb dX6_rule_12 (by decide) (fun _ => ?_) (fun c => absurd c (by decide))
    refine lv_iconst (v := (nI 0)) hx hb dX6_rule_48 (by decide) ?_
    refine lv_istore (lv' := [(5, .int (nI 0)), (0, .ref (om 0)), (1, .int t), (2, .int b), (3, .int lv), (4, .int wt)]) hx hb dX6_rule_49 hl (by decide) rfl (fun ls hl => ?_)
    refine lv_iload hx hb dX6_rule_51 (lv_at hl 0 rfl) ?_
    refine lv_if_eq (tgt := 65) hx hb dX6_rule_53 (by decide) (fun _ => ?_) (fun c => absurd c (by decide))
    refine lv_iconst (v := (-1)) hx hb dX6_rule_65 (by decide) ?_
    refine xx_iret (uc, ut, ub, ul, uw) hx hb hr hlocks hS hK hP hD dX6_rule_66 ?_
    first | exact Or.inl ⟨rfl, fun h => absurd h.1 (by omega), rfl⟩ | exact Or.inl ⟨rfl, fun h => hq9 (xx_inA.mpr h.2.1), rfl⟩ | exact Or.inl ⟨rfl, fun h => hq19 (xx_inA.mpr h.2.2.1), rfl⟩ | exact Or.inl ⟨rfl, fun h => hq28 ((xx_inN (by decide)).mpr h.2.2.2.1), rfl⟩ | exact Or.inl ⟨rfl, fun h => hq38 ⟨h.2.2.2.2.1, xx_nlt h.2.2.2.2.2⟩, rfl⟩
