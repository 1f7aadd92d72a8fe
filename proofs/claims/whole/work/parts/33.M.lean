theorem dX6_many_0 : decode cX6_many 0 = .ok (.iconst 0, 1) := by decide +kernel
theorem dX6_many_1 : decode cX6_many 1 = .ok (.istore 6, 2) := by decide +kernel
theorem dX6_many_3 : decode cX6_many 3 = .ok (.iconst 0, 1) := by decide +kernel
theorem dX6_many_4 : decode cX6_many 4 = .ok (.istore 7, 2) := by decide +kernel
theorem dX6_many_6 : decode cX6_many 6 = .ok (.iload 7, 2) := by decide +kernel
theorem dX6_many_8 : decode cX6_many 8 = .ok (.aload_n 0, 1) := by decide +kernel
theorem dX6_many_9 : decode cX6_many 9 = .ok (.getfield 76, 3) := by decide +kernel
theorem dX6_many_12 : decode cX6_many 12 = .ok (.if_icmp .ge 82, 3) := by decide +kernel
theorem dX6_many_15 : decode cX6_many 15 = .ok (.iconst 0, 1) := by decide +kernel
theorem dX6_many_16 : decode cX6_many 16 = .ok (.istore 8, 2) := by decide +kernel
theorem dX6_many_18 : decode cX6_many 18 = .ok (.iconst 0, 1) := by decide +kernel
theorem dX6_many_19 : decode cX6_many 19 = .ok (.istore 9, 2) := by decide +kernel
theorem dX6_many_21 : decode cX6_many 21 = .ok (.iload 9, 2) := by decide +kernel
theorem dX6_many_23 : decode cX6_many 23 = .ok (.aload_n 0, 1) := by decide +kernel
theorem dX6_many_24 : decode cX6_many 24 = .ok (.getfield 99, 3) := by decide +kernel
theorem dX6_many_27 : decode cX6_many 27 = .ok (.if_icmp .ge 46, 3) := by decide +kernel
theorem dX6_many_30 : decode cX6_many 30 = .ok (.iload 8, 2) := by decide +kernel
theorem dX6_many_32 : decode cX6_many 32 = .ok (.ifCond .ne 28, 3) := by decide +kernel
theorem dX6_many_35 : decode cX6_many 35 = .ok (.aload_n 0, 1) := by decide +kernel
theorem dX6_many_36 : decode cX6_many 36 = .ok (.getfield 30, 3) := by decide +kernel
theorem dX6_many_39 : decode cX6_many 39 = .ok (.iload 9, 2) := by decide +kernel
theorem dX6_many_41 : decode cX6_many 41 = .ok (.iaload, 1) := by decide +kernel
theorem dX6_many_42 : decode cX6_many 42 = .ok (.iload 7, 2) := by decide +kernel
theorem dX6_many_44 : decode cX6_many 44 = .ok (.if_icmp .ne 20, 3) := by decide +kernel
theorem dX6_many_47 : decode cX6_many 47 = .ok (.aload_n 0, 1) := by decide +kernel
theorem dX6_many_48 : decode cX6_many 48 = .ok (.iload 9, 2) := by decide +kernel
theorem dX6_many_50 : decode cX6_many 50 = .ok (.lload_n 1, 1) := by decide +kernel
theorem dX6_many_51 : decode cX6_many 51 = .ok (.iload_n 3, 1) := by decide +kernel
theorem dX6_many_52 : decode cX6_many 52 = .ok (.lload 4, 2) := by decide +kernel
theorem dX6_many_54 : decode cX6_many 54 = .ok (.invokevirtual 140, 3) := by decide +kernel
theorem dX6_many_57 : decode cX6_many 57 = .ok (.ifCond .eq 7, 3) := by decide +kernel
theorem dX6_many_60 : decode cX6_many 60 = .ok (.iconst 1, 1) := by decide +kernel
theorem dX6_many_61 : decode cX6_many 61 = .ok (.goto 4, 3) := by decide +kernel
theorem dX6_many_64 : decode cX6_many 64 = .ok (.iconst 0, 1) := by decide +kernel
theorem dX6_many_65 : decode cX6_many 65 = .ok (.istore 8, 2) := by decide +kernel
theorem dX6_many_67 : decode cX6_many 67 = .ok (.iinc 9 1, 3) := by decide +kernel
theorem dX6_many_70 : decode cX6_many 70 = .ok (.goto (-49), 3) := by decide +kernel
theorem dX6_many_73 : decode cX6_many 73 = .ok (.iload 6, 2) := by decide +kernel
theorem dX6_many_75 : decode cX6_many 75 = .ok (.iload 8, 2) := by decide +kernel
theorem dX6_many_77 : decode cX6_many 77 = .ok (.ifCond .eq 7, 3) := by decide +kernel
theorem dX6_many_80 : decode cX6_many 80 = .ok (.iconst 1, 1) := by decide +kernel
theorem dX6_many_81 : decode cX6_many 81 = .ok (.goto 4, 3) := by decide +kernel
theorem dX6_many_84 : decode cX6_many 84 = .ok (.iconst 0, 1) := by decide +kernel
theorem dX6_many_85 : decode cX6_many 85 = .ok (.iadd, 1) := by decide +kernel
theorem dX6_many_86 : decode cX6_many 86 = .ok (.istore 6, 2) := by decide +kernel
theorem dX6_many_88 : decode cX6_many 88 = .ok (.iinc 7 1, 3) := by decide +kernel
theorem dX6_many_91 : decode cX6_many 91 = .ok (.goto (-85), 3) := by decide +kernel
theorem dX6_many_94 : decode cX6_many 94 = .ok (.iload 6, 2) := by decide +kernel
theorem dX6_many_96 : decode cX6_many 96 = .ok (.ireturn, 1) := by decide +kernel
theorem dX6_agreed_0 : decode cX6_agreed 0 = .ok (.iconst (-1), 1) := by decide +kernel
theorem dX6_agreed_1 : decode cX6_agreed 1 = .ok (.istore 6, 2) := by decide +kernel
theorem dX6_agreed_3 : decode cX6_agreed 3 = .ok (.iconst 0, 1) := by decide +kernel
theorem dX6_agreed_4 : decode cX6_agreed 4 = .ok (.istore 7, 2) := by decide +kernel
theorem dX6_agreed_6 : decode cX6_agreed 6 = .ok (.iload 7, 2) := by decide +kernel
theorem dX6_agreed_8 : decode cX6_agreed 8 = .ok (.aload_n 0, 1) := by decide +kernel
theorem dX6_agreed_9 : decode cX6_agreed 9 = .ok (.getfield 99, 3) := by decide +kernel
theorem dX6_agreed_12 : decode cX6_agreed 12 = .ok (.if_icmp .ge 58, 3) := by decide +kernel
theorem dX6_agreed_15 : decode cX6_agreed 15 = .ok (.aload_n 0, 1) := by decide +kernel
theorem dX6_agreed_16 : decode cX6_agreed 16 = .ok (.iload 7, 2) := by decide +kernel
theorem dX6_agreed_18 : decode cX6_agreed 18 = .ok (.lload_n 1, 1) := by decide +kernel
theorem dX6_agreed_19 : decode cX6_agreed 19 = .ok (.iload_n 3, 1) := by decide +kernel
theorem dX6_agreed_20 : decode cX6_agreed 20 = .ok (.lload 4, 2) := by decide +kernel
theorem dX6_agreed_22 : decode cX6_agreed 22 = .ok (.invokevirtual 140, 3) := by decide +kernel
theorem dX6_agreed_25 : decode cX6_agreed 25 = .ok (.ifCond .ne 6, 3) := by decide +kernel
theorem dX6_agreed_28 : decode cX6_agreed 28 = .ok (.goto 36, 3) := by decide +kernel
theorem dX6_agreed_31 : decode cX6_agreed 31 = .ok (.iload 6, 2) := by decide +kernel
theorem dX6_agreed_33 : decode cX6_agreed 33 = .ok (.iconst (-1), 1) := by decide +kernel
theorem dX6_agreed_34 : decode cX6_agreed 34 = .ok (.if_icmp .ne 10, 3) := by decide +kernel
theorem dX6_agreed_37 : decode cX6_agreed 37 = .ok (.iload 7, 2) := by decide +kernel
theorem dX6_agreed_39 : decode cX6_agreed 39 = .ok (.istore 6, 2) := by decide +kernel
theorem dX6_agreed_41 : decode cX6_agreed 41 = .ok (.goto 23, 3) := by decide +kernel
theorem dX6_agreed_44 : decode cX6_agreed 44 = .ok (.aload_n 0, 1) := by decide +kernel
theorem dX6_agreed_45 : decode cX6_agreed 45 = .ok (.getfield 36, 3) := by decide +kernel
theorem dX6_agreed_48 : decode cX6_agreed 48 = .ok (.iload 7, 2) := by decide +kernel
theorem dX6_agreed_50 : decode cX6_agreed 50 = .ok (.laload, 1) := by decide +kernel
theorem dX6_agreed_51 : decode cX6_agreed 51 = .ok (.aload_n 0, 1) := by decide +kernel
theorem dX6_agreed_52 : decode cX6_agreed 52 = .ok (.getfield 36, 3) := by decide +kernel
theorem dX6_agreed_55 : decode cX6_agreed 55 = .ok (.iload 6, 2) := by decide +kernel
theorem dX6_agreed_57 : decode cX6_agreed 57 = .ok (.laload, 1) := by decide +kernel
theorem dX6_agreed_58 : decode cX6_agreed 58 = .ok (.lcmp, 1) := by decide +kernel
theorem dX6_agreed_59 : decode cX6_agreed 59 = .ok (.ifCond .eq 5, 3) := by decide +kernel
theorem dX6_agreed_62 : decode cX6_agreed 62 = .ok (.iconst (-1), 1) := by decide +kernel
theorem dX6_agreed_63 : decode cX6_agreed 63 = .ok (.ireturn, 1) := by decide +kernel
theorem dX6_agreed_64 : decode cX6_agreed 64 = .ok (.iinc 7 1, 3) := by decide +kernel
theorem dX6_agreed_67 : decode cX6_agreed 67 = .ok (.goto (-61), 3) := by decide +kernel
theorem dX6_agreed_70 : decode cX6_agreed 70 = .ok (.iload 6, 2) := by decide +kernel
theorem dX6_agreed_72 : decode cX6_agreed 72 = .ok (.ireturn, 1) := by decide +kernel
theorem dX6_tell_0 : decode cX6_tell 0 = .ok (.aload_n 0, 1) := by decide +kernel
theorem dX6_tell_1 : decode cX6_tell 1 = .ok (.aload_n 0, 1) := by decide +kernel
theorem dX6_tell_2 : decode cX6_tell 2 = .ok (.getfield 36, 3) := by decide +kernel
theorem dX6_tell_5 : decode cX6_tell 5 = .ok (.iload 4, 2) := by decide +kernel
theorem dX6_tell_7 : decode cX6_tell 7 = .ok (.laload, 1) := by decide +kernel
theorem dX6_tell_8 : decode cX6_tell 8 = .ok (.putfield 144, 3) := by decide +kernel
theorem dX6_tell_11 : decode cX6_tell 11 = .ok (.aload_n 0, 1) := by decide +kernel
theorem dX6_tell_12 : decode cX6_tell 12 = .ok (.getfield 148, 3) := by decide +kernel
theorem dX6_tell_15 : decode cX6_tell 15 = .ok (.sipush 200, 3) := by decide +kernel
theorem dX6_tell_18 : decode cX6_tell 18 = .ok (.if_icmp .ne 4, 3) := by decide +kernel
theorem dX6_tell_21 : decode cX6_tell 21 = .ok (.return_, 1) := by decide +kernel
theorem dX6_tell_22 : decode cX6_tell 22 = .ok (.aload_n 0, 1) := by decide +kernel
theorem dX6_tell_23 : decode cX6_tell 23 = .ok (.getfield 66, 3) := by decide +kernel
theorem dX6_tell_26 : decode cX6_tell 26 = .ok (.iconst 5, 1) := by decide +kernel
theorem dX6_tell_27 : decode cX6_tell 27 = .ok (.aload_n 0, 1) := by decide +kernel
theorem dX6_tell_28 : decode cX6_tell 28 = .ok (.getfield 148, 3) := by decide +kernel
theorem dX6_tell_31 : decode cX6_tell 31 = .ok (.imul, 1) := by decide +kernel
theorem dX6_tell_32 : decode cX6_tell 32 = .ok (.iload_n 1, 1) := by decide +kernel
theorem dX6_tell_33 : decode cX6_tell 33 = .ok (.iastore, 1) := by decide +kernel
theorem dX6_tell_34 : decode cX6_tell 34 = .ok (.aload_n 0, 1) := by decide +kernel
theorem dX6_tell_35 : decode cX6_tell 35 = .ok (.getfield 66, 3) := by decide +kernel
theorem dX6_tell_38 : decode cX6_tell 38 = .ok (.iconst 5, 1) := by decide +kernel
theorem dX6_tell_39 : decode cX6_tell 39 = .ok (.aload_n 0, 1) := by decide +kernel
theorem dX6_tell_40 : decode cX6_tell 40 = .ok (.getfield 148, 3) := by decide +kernel
theorem dX6_tell_43 : decode cX6_tell 43 = .ok (.imul, 1) := by decide +kernel
theorem dX6_tell_44 : decode cX6_tell 44 = .ok (.iconst 1, 1) := by decide +kernel
theorem dX6_tell_45 : decode cX6_tell 45 = .ok (.iadd, 1) := by decide +kernel
theorem dX6_tell_46 : decode cX6_tell 46 = .ok (.iload_n 2, 1) := by decide +kernel
theorem dX6_tell_47 : decode cX6_tell 47 = .ok (.iastore, 1) := by decide +kernel
theorem dX6_tell_48 : decode cX6_tell 48 = .ok (.aload_n 0, 1) := by decide +kernel
theorem dX6_tell_49 : decode cX6_tell 49 = .ok (.getfield 66, 3) := by decide +kernel
theorem dX6_tell_52 : decode cX6_tell 52 = .ok (.iconst 5, 1) := by decide +kernel
theorem dX6_tell_53 : decode cX6_tell 53 = .ok (.aload_n 0, 1) := by decide +kernel
theorem dX6_tell_54 : decode cX6_tell 54 = .ok (.getfield 148, 3) := by decide +kernel
theorem dX6_tell_57 : decode cX6_tell 57 = .ok (.imul, 1) := by decide +kernel
theorem dX6_tell_58 : decode cX6_tell 58 = .ok (.iconst 2, 1) := by decide +kernel
theorem dX6_tell_59 : decode cX6_tell 59 = .ok (.iadd, 1) := by decide +kernel
theorem dX6_tell_60 : decode cX6_tell 60 = .ok (.aload_n 0, 1) := by decide +kernel
theorem dX6_tell_61 : decode cX6_tell 61 = .ok (.iload_n 1, 1) := by decide +kernel
theorem dX6_tell_62 : decode cX6_tell 62 = .ok (.iload_n 2, 1) := by decide +kernel
theorem dX6_tell_63 : decode cX6_tell 63 = .ok (.invokevirtual 132, 3) := by decide +kernel
theorem dX6_tell_66 : decode cX6_tell 66 = .ok (.iastore, 1) := by decide +kernel
theorem dX6_tell_67 : decode cX6_tell 67 = .ok (.aload_n 0, 1) := by decide +kernel
theorem dX6_tell_68 : decode cX6_tell 68 = .ok (.getfield 66, 3) := by decide +kernel
theorem dX6_tell_71 : decode cX6_tell 71 = .ok (.iconst 5, 1) := by decide +kernel
theorem dX6_tell_72 : decode cX6_tell 72 = .ok (.aload_n 0, 1) := by decide +kernel
theorem dX6_tell_73 : decode cX6_tell 73 = .ok (.getfield 148, 3) := by decide +kernel
theorem dX6_tell_76 : decode cX6_tell 76 = .ok (.imul, 1) := by decide +kernel
theorem dX6_tell_77 : decode cX6_tell 77 = .ok (.iconst 3, 1) := by decide +kernel
theorem dX6_tell_78 : decode cX6_tell 78 = .ok (.iadd, 1) := by decide +kernel
theorem dX6_tell_79 : decode cX6_tell 79 = .ok (.iload_n 3, 1) := by decide +kernel
theorem dX6_tell_80 : decode cX6_tell 80 = .ok (.iastore, 1) := by decide +kernel
theorem dX6_tell_81 : decode cX6_tell 81 = .ok (.aload_n 0, 1) := by decide +kernel
theorem dX6_tell_82 : decode cX6_tell 82 = .ok (.getfield 66, 3) := by decide +kernel
theorem dX6_tell_85 : decode cX6_tell 85 = .ok (.iconst 5, 1) := by decide +kernel
theorem dX6_tell_86 : decode cX6_tell 86 = .ok (.aload_n 0, 1) := by decide +kernel
theorem dX6_tell_87 : decode cX6_tell 87 = .ok (.getfield 148, 3) := by decide +kernel
theorem dX6_tell_90 : decode cX6_tell 90 = .ok (.imul, 1) := by decide +kernel
theorem dX6_tell_91 : decode cX6_tell 91 = .ok (.iconst 4, 1) := by decide +kernel
theorem dX6_tell_92 : decode cX6_tell 92 = .ok (.iadd, 1) := by decide +kernel
theorem dX6_tell_93 : decode cX6_tell 93 = .ok (.iload 4, 2) := by decide +kernel
theorem dX6_tell_95 : decode cX6_tell 95 = .ok (.iastore, 1) := by decide +kernel
theorem dX6_tell_96 : decode cX6_tell 96 = .ok (.aload_n 0, 1) := by decide +kernel
theorem dX6_tell_97 : decode cX6_tell 97 = .ok (.dup, 1) := by decide +kernel
theorem dX6_tell_98 : decode cX6_tell 98 = .ok (.getfield 148, 3) := by decide +kernel
theorem dX6_tell_101 : decode cX6_tell 101 = .ok (.iconst 1, 1) := by decide +kernel
theorem dX6_tell_102 : decode cX6_tell 102 = .ok (.iadd, 1) := by decide +kernel
theorem dX6_tell_103 : decode cX6_tell 103 = .ok (.putfield 148, 3) := by decide +kernel
theorem dX6_tell_106 : decode cX6_tell 106 = .ok (.return_, 1) := by decide +kernel
theorem dX6_levelFor_0 : decode cX6_levelFor 0 = .ok (.aload_n 0, 1) := by decide +kernel
theorem dX6_levelFor_1 : decode cX6_levelFor 1 = .ok (.iload_n 1, 1) := by decide +kernel
theorem dX6_levelFor_2 : decode cX6_levelFor 2 = .ok (.iload_n 2, 1) := by decide +kernel
theorem dX6_levelFor_3 : decode cX6_levelFor 3 = .ok (.invokevirtual 132, 3) := by decide +kernel
theorem dX6_levelFor_6 : decode cX6_levelFor 6 = .ok (.istore_n 3, 1) := by decide +kernel
theorem dX6_levelFor_7 : decode cX6_levelFor 7 = .ok (.iload_n 3, 1) := by decide +kernel
theorem dX6_levelFor_8 : decode cX6_levelFor 8 = .ok (.iconst (-1), 1) := by decide +kernel
theorem dX6_levelFor_9 : decode cX6_levelFor 9 = .ok (.if_icmp .ne 7, 3) := by decide +kernel
theorem dX6_levelFor_12 : decode cX6_levelFor 12 = .ok (.iconst 1, 1) := by decide +kernel
theorem dX6_levelFor_13 : decode cX6_levelFor 13 = .ok (.goto 9, 3) := by decide +kernel
theorem dX6_levelFor_16 : decode cX6_levelFor 16 = .ok (.aload_n 0, 1) := by decide +kernel
theorem dX6_levelFor_17 : decode cX6_levelFor 17 = .ok (.getfield 60, 3) := by decide +kernel
theorem dX6_levelFor_20 : decode cX6_levelFor 20 = .ok (.iload_n 3, 1) := by decide +kernel
theorem dX6_levelFor_21 : decode cX6_levelFor 21 = .ok (.iaload, 1) := by decide +kernel
theorem dX6_levelFor_22 : decode cX6_levelFor 22 = .ok (.ireturn, 1) := by decide +kernel
theorem dX6_counted_0 : decode cX6_counted 0 = .ok (.aload_n 0, 1) := by decide +kernel
theorem dX6_counted_1 : decode cX6_counted 1 = .ok (.iconst 0, 1) := by decide +kernel
theorem dX6_counted_2 : decode cX6_counted 2 = .ok (.putfield 73, 3) := by decide +kernel
theorem dX6_counted_5 : decode cX6_counted 5 = .ok (.iload_n 3, 1) := by decide +kernel
theorem dX6_counted_6 : decode cX6_counted 6 = .ok (.iload 4, 2) := by decide +kernel
theorem dX6_counted_8 : decode cX6_counted 8 = .ok (.invokestatic 128, 3) := by decide +kernel
theorem dX6_counted_11 : decode cX6_counted 11 = .ok (.ifCond .eq 20, 3) := by decide +kernel
theorem dX6_counted_14 : decode cX6_counted 14 = .ok (.aload_n 0, 1) := by decide +kernel
theorem dX6_counted_15 : decode cX6_counted 15 = .ok (.lload_n 1, 1) := by decide +kernel
theorem dX6_counted_16 : decode cX6_counted 16 = .ok (.aload_n 0, 1) := by decide +kernel
theorem dX6_counted_17 : decode cX6_counted 17 = .ok (.iload_n 3, 1) := by decide +kernel
theorem dX6_counted_18 : decode cX6_counted 18 = .ok (.iload 4, 2) := by decide +kernel
theorem dX6_counted_20 : decode cX6_counted 20 = .ok (.invokevirtual 159, 3) := by decide +kernel
theorem dX6_counted_23 : decode cX6_counted 23 = .ok (.lload 5, 2) := by decide +kernel
theorem dX6_counted_25 : decode cX6_counted 25 = .ok (.invokevirtual 162, 3) := by decide +kernel
theorem dX6_counted_28 : decode cX6_counted 28 = .ok (.goto 4, 3) := by decide +kernel
theorem dX6_counted_31 : decode cX6_counted 31 = .ok (.iconst (-1), 1) := by decide +kernel
theorem dX6_counted_32 : decode cX6_counted 32 = .ok (.ireturn, 1) := by decide +kernel
theorem dX6_clash_0 : decode cX6_clash 0 = .ok (.aload_n 0, 1) := by decide +kernel
theorem dX6_clash_1 : decode cX6_clash 1 = .ok (.iconst 0, 1) := by decide +kernel
theorem dX6_clash_2 : decode cX6_clash 2 = .ok (.putfield 73, 3) := by decide +kernel
theorem dX6_clash_5 : decode cX6_clash 5 = .ok (.iload_n 1, 1) := by decide +kernel
theorem dX6_clash_6 : decode cX6_clash 6 = .ok (.ifCond .lt 20, 3) := by decide +kernel
theorem dX6_clash_9 : decode cX6_clash 9 = .ok (.iload_n 1, 1) := by decide +kernel
theorem dX6_clash_10 : decode cX6_clash 10 = .ok (.aload_n 0, 1) := by decide +kernel
theorem dX6_clash_11 : decode cX6_clash 11 = .ok (.getfield 102, 3) := by decide +kernel
theorem dX6_clash_14 : decode cX6_clash 14 = .ok (.if_icmp .ge 12, 3) := by decide +kernel
theorem dX6_clash_17 : decode cX6_clash 17 = .ok (.iload_n 2, 1) := by decide +kernel
theorem dX6_clash_18 : decode cX6_clash 18 = .ok (.iconst 0, 1) := by decide +kernel
theorem dX6_clash_19 : decode cX6_clash 19 = .ok (.iconst 1, 1) := by decide +kernel
theorem dX6_clash_20 : decode cX6_clash 20 = .ok (.invokestatic 79, 3) := by decide +kernel
theorem dX6_clash_23 : decode cX6_clash 23 = .ok (.ifCond .ne 5, 3) := by decide +kernel
theorem dX6_clash_26 : decode cX6_clash 26 = .ok (.iconst (-1), 1) := by decide +kernel
theorem dX6_clash_27 : decode cX6_clash 27 = .ok (.ireturn, 1) := by decide +kernel
theorem dX6_clash_28 : decode cX6_clash 28 = .ok (.iload_n 2, 1) := by decide +kernel
theorem dX6_clash_29 : decode cX6_clash 29 = .ok (.ifCond .ne 12, 3) := by decide +kernel
theorem dX6_clash_32 : decode cX6_clash 32 = .ok (.aload_n 0, 1) := by decide +kernel
theorem dX6_clash_33 : decode cX6_clash 33 = .ok (.getfield 48, 3) := by decide +kernel
theorem dX6_clash_36 : decode cX6_clash 36 = .ok (.iload_n 1, 1) := by decide +kernel
theorem dX6_clash_37 : decode cX6_clash 37 = .ok (.iaload, 1) := by decide +kernel
theorem dX6_clash_38 : decode cX6_clash 38 = .ok (.goto 9, 3) := by decide +kernel
theorem dX6_clash_41 : decode cX6_clash 41 = .ok (.aload_n 0, 1) := by decide +kernel
theorem dX6_clash_42 : decode cX6_clash 42 = .ok (.getfield 51, 3) := by decide +kernel
theorem dX6_clash_45 : decode cX6_clash 45 = .ok (.iload_n 1, 1) := by decide +kernel
theorem dX6_clash_46 : decode cX6_clash 46 = .ok (.iaload, 1) := by decide +kernel
theorem dX6_clash_47 : decode cX6_clash 47 = .ok (.ireturn, 1) := by decide +kernel
theorem dX6_audit_0 : decode cX6_audit 0 = .ok (.aload_n 0, 1) := by decide +kernel
theorem dX6_audit_1 : decode cX6_audit 1 = .ok (.iconst 0, 1) := by decide +kernel
theorem dX6_audit_2 : decode cX6_audit 2 = .ok (.putfield 73, 3) := by decide +kernel
theorem dX6_audit_5 : decode cX6_audit 5 = .ok (.iload_n 1, 1) := by decide +kernel
theorem dX6_audit_6 : decode cX6_audit 6 = .ok (.ifCond .lt 20, 3) := by decide +kernel
theorem dX6_audit_9 : decode cX6_audit 9 = .ok (.iload_n 1, 1) := by decide +kernel
theorem dX6_audit_10 : decode cX6_audit 10 = .ok (.aload_n 0, 1) := by decide +kernel
theorem dX6_audit_11 : decode cX6_audit 11 = .ok (.getfield 148, 3) := by decide +kernel
theorem dX6_audit_14 : decode cX6_audit 14 = .ok (.if_icmp .ge 12, 3) := by decide +kernel
theorem dX6_audit_17 : decode cX6_audit 17 = .ok (.iload_n 2, 1) := by decide +kernel
theorem dX6_audit_18 : decode cX6_audit 18 = .ok (.iconst 0, 1) := by decide +kernel
theorem dX6_audit_19 : decode cX6_audit 19 = .ok (.iconst 4, 1) := by decide +kernel
theorem dX6_audit_20 : decode cX6_audit 20 = .ok (.invokestatic 79, 3) := by decide +kernel
theorem dX6_audit_23 : decode cX6_audit 23 = .ok (.ifCond .ne 7, 3) := by decide +kernel
theorem dX6_audit_26 : decode cX6_audit 26 = .ok (.iconst (-1), 1) := by decide +kernel
theorem dX6_audit_27 : decode cX6_audit 27 = .ok (.goto 13, 3) := by decide +kernel
theorem dX6_audit_30 : decode cX6_audit 30 = .ok (.aload_n 0, 1) := by decide +kernel
theorem dX6_audit_31 : decode cX6_audit 31 = .ok (.getfield 66, 3) := by decide +kernel
theorem dX6_audit_34 : decode cX6_audit 34 = .ok (.iconst 5, 1) := by decide +kernel
theorem dX6_audit_35 : decode cX6_audit 35 = .ok (.iload_n 1, 1) := by decide +kernel
theorem dX6_audit_36 : decode cX6_audit 36 = .ok (.imul, 1) := by decide +kernel
theorem dX6_audit_37 : decode cX6_audit 37 = .ok (.iload_n 2, 1) := by decide +kernel
theorem dX6_audit_38 : decode cX6_audit 38 = .ok (.iadd, 1) := by decide +kernel
theorem dX6_audit_39 : decode cX6_audit 39 = .ok (.iaload, 1) := by decide +kernel
theorem dX6_audit_40 : decode cX6_audit 40 = .ok (.ireturn, 1) := by decide +kernel
def p_M_many (om : Nat → Nat) (mth : Int32) (tq : Int32) (to : Bool) (wc : Nat) (wl : Nat → Int32) (wb : Nat → Bool) (wk : Nat → Nat) (kk : Nat → Int64) (kf : Nat → Int64) (ku : Nat → Int64) (ec : Nat) (ew : Nat → Nat) (ea : Nat → Int64) (ed : Nat → Int64) (et : Nat → Int64) (ex : Nat → Bool) (cc : Nat) (ca : Nat → Int64) (cl : Nat → Int32) (ch : Nat → Int32) (uc : Nat) (ut : Nat → Int32) (ub : Nat → Int32) (ul : Nat → Int32) (uw : Nat → Int32) (tt : Int64) (ac : Nat) (as : Nat → Int32) (a : Int64) (lv : Int32) (tm : Int64) : Int32 → Unit → Prop := fun r u => r = nI (xcnt (fun w => xany (fun z => decide (ew z = w ∧ (ex z = false ∧ ea z = a ∧ ¬ (tm < et z) ∧ ¬ (wl (ew z) < lv)))) ec) wc)
set_option maxHeartbeats 4000000 in
set_option maxRecDepth 100000 in
theorem c_M_many (l : Launch) (D : va_G) (k : Nat → ClassId) (om : Nat → Nat) (mth : Int32) (tq : Int32) (to : Bool) (wc : Nat) (wl : Nat → Int32) (wb : Nat → Bool) (wk : Nat → Nat) (kk : Nat → Int64) (kf : Nat → Int64) (ku : Nat → Int64) (ec : Nat) (ew : Nat → Nat) (ea : Nat → Int64) (ed : Nat → Int64) (et : Nat → Int64) (ex : Nat → Bool) (cc : Nat) (ca : Nat → Int64) (cl : Nat → Int32) (ch : Nat → Int32) (uc : Nat) (ut : Nat → Int32) (ub : Nat → Int32) (ul : Nat → Int32) (uw : Nat → Int32) (tt : Int64) (ac : Nat) (as : Nat → Int32) (a : Int64) (lv : Int32) (tm : Int64) (hwc : wc ≤ 12) (hec : ec ≤ 100) (hew : ∀ i, ew i < 12) : xx_Ci l yX6_many (.code yX6_many cX6_many 10 (some .int) :: xall) ({ frames := 1, cells := 0, slots := 0, locals := 26 } : Room) D vwCl (xT k) [.ref (om 0), .long a, .int lv, .long tm] (bM k om mth tq to wc wl wb wk kk kf ku ec ew ea ed et ex cc ca cl ch uc ut ub ul uw tt ac as) (p_M_many om mth tq to wc wl wb wk kk kf ku ec ew ea ed et ex cc ca cl ch uc ut ub ul uw tt ac as a lv tm) (fun (u : Unit) => bM k om mth tq to wc wl wb wk kk kf ku ec ew ea ed et ex cc ca cl ch uc ut ub ul uw tt ac as) 0 0 := by
  intro sz
  refine xx_met (Qf := fun A => va_Qi (p_M_many om mth tq to wc wl wb wk kk kf ku ec ew ea ed et ex cc ca cl ch uc ut ub ul uw tt ac as a lv tm) (xx_B D vwCl (xT k) A (fun (u : Unit) => bM k om mth tq to wc wl wb wk kk kf ku ec ew ea ed et ex cc ca cl ch uc ut ub ul uw tt ac as)) A) (cc := cX6_many) (maxL := 10) (ret := (some .int)) (by decide) rfl (Nat.le_of_ble_eq_true rfl) ?_
  intro p e s m below meth c A ls hx hb hr hts hown hlocks hin hml hA hS hP hD hK hN hl
  have hl : lv_has ls 10 [(0, .ref (om 0)), (1, .long a), (3, .int lv), (4, .long tm)] := hl
  have hown : s.vm.findClass RX6 = some m.cls := hown
  have hinW := inX6
  refine lv_iconst (v := (nI 0)) hx hb dX6_many_0 (by decide) ?_
  refine lv_istore (lv' := [(6, .int (nI 0)), (0, .ref (om 0)), (1, .long a), (3, .int lv), (4, .long tm)]) hx hb dX6_many_1 hl (by decide) rfl (fun ls hl => ?_)
  refine lv_iconst (v := (nI 0)) hx hb dX6_many_3 (by decide) ?_
  refine lv_istore (lv' := [(7, .int (nI 0)), (6, .int (nI 0)), (0, .ref (om 0)), (1, .long a), (3, .int lv), (4, .long tm)]) hx hb dX6_many_4 hl (by decide) rfl (fun ls hl => ?_)
  have loop6 : ∀ (dd : Nat) (w : Nat) (nn : Nat), wc + 1 ≤ w + dd → (w ≤ wc) → (nn = xcnt (fun w => xany (fun z => decide (ew z = w ∧ (ex z = false ∧ ea z = a ∧ ¬ (tm < et z) ∧ ¬ (wl (ew z) < lv)))) ec) w) → ∀ (H : Heap) (locs : List Loc) (ls : Array Slot), va_P D vwCl (bM k om mth tq to wc wl wb wk kk kf ku ec ew ea ed et ex cc ca cl ch uc ut ub ul uw tt ac as) H → va_D A (bM k om mth tq to wc wl wb wk kk kf ku ec ew ea ed et ex cc ca cl ch uc ut ub ul uw tt ac as) → va_S A s.heap H locs → lv_has ls 10 [(0, .ref (om 0)), (1, .long a), (3, .int lv), (4, .long tm), (6, .int (nI nn)), (7, .int (nI w))] → W p l e ({ frames := 1, cells := 0, slots := 0, locals := 26 } : Room) s m [.ref (om 0), .long a, .int lv, .long tm].toArray below meth c H locs 0 0 (MQ below (va_Qi (p_M_many om mth tq to wc wl wb wk kk kf ku ec ew ea ed et ex cc ca cl ch uc ut ub ul uw tt ac as a lv tm) (xx_B D vwCl (xT k) A (fun (u : Unit) => bM k om mth tq to wc wl wb wk kk kf ku ec ew ea ed et ex cc ca cl ch uc ut ub ul uw tt ac as)) A) [.ref (om 0), .long a, .int lv, .long tm].toArray s 0 0 A) (F0 m 6 ls []) := by
    intro dd
    induction dd with
    | zero =>
      intro w nn hm g2 g3
      exact absurd hm (by omega)
    | succ dd ih6 =>
      intro w nn hm g2 g3 H locs ls hP hD hS hl
      refine lv_iload hx hb dX6_many_6 (lv_at hl 5 rfl) ?_
      refine lv_aload_n hx hb dX6_many_8 rfl (lv_at hl 0 rfl) ?_
      refine va_get (D := D) (ci := 6) (v := .int (nI wc)) (C := RX6) (T := TX6) (N := 28) hx hb hts hinW hown hK hP 0 rfl rfl 3 (by decide) (hts _ tw_379) (fun _ h9 => h9) rfl dX6_many_9 ?_
      refine lv_icmp_ge (tgt := 94) hx hb dX6_many_12 (by decide) (fun c12 => ?_) (fun c12 => ?_)
      · have c12 : wc ≤ w := (nI_leI (by omega) (by omega)).mp c12
        refine lv_iload hx hb dX6_many_94 (lv_at hl 4 rfl) ?_
        refine xx_iret () hx hb hr hlocks hS hK hP hD dX6_many_96 ?_
        obtain rfl : w = wc := (by omega)
        subst g3
        exact rfl
      · have c12 : w < wc := Nat.lt_of_not_le (fun h => c12 ((nI_leI (by omega) (by omega)).mpr h))
        refine lv_iconst (v := (nI 0)) hx hb dX6_many_15 (by decide) ?_
        refine lv_istore (lv' := [(8, .int (nI 0)), (0, .ref (om 0)), (1, .long a), (3, .int lv), (4, .long tm), (6, .int (nI nn)), (7, .int (nI w))]) hx hb dX6_many_16 hl (by decide) rfl (fun ls hl => ?_)
        refine lv_iconst (v := (nI 0)) hx hb dX6_many_18 (by decide) ?_
        refine lv_istore (lv' := [(9, .int (nI 0)), (8, .int (nI 0)), (0, .ref (om 0)), (1, .long a), (3, .int lv), (4, .long tm), (6, .int (nI nn)), (7, .int (nI w))]) hx hb dX6_many_19 hl (by decide) rfl (fun ls hl => ?_)
        have loop21 : ∀ (dd : Nat) (i : Nat) (v : Int32), ec + 1 ≤ i + dd → (i ≤ ec) → (xb v (∃ z, z < i ∧ (ew z = w ∧ (ex z = false ∧ ea z = a ∧ ¬ (tm < et z) ∧ ¬ (wl (ew z) < lv))))) → ∀ (H : Heap) (locs : List Loc) (ls : Array Slot), va_P D vwCl (bM k om mth tq to wc wl wb wk kk kf ku ec ew ea ed et ex cc ca cl ch uc ut ub ul uw tt ac as) H → va_D A (bM k om mth tq to wc wl wb wk kk kf ku ec ew ea ed et ex cc ca cl ch uc ut ub ul uw tt ac as) → va_S A s.heap H locs → lv_has ls 10 [(0, .ref (om 0)), (1, .long a), (3, .int lv), (4, .long tm), (6, .int (nI nn)), (7, .int (nI w)), (8, .int v), (9, .int (nI i))] → W p l e ({ frames := 1, cells := 0, slots := 0, locals := 26 } : Room) s m [.ref (om 0), .long a, .int lv, .long tm].toArray below meth c H locs 0 0 (MQ below (va_Qi (p_M_many om mth tq to wc wl wb wk kk kf ku ec ew ea ed et ex cc ca cl ch uc ut ub ul uw tt ac as a lv tm) (xx_B D vwCl (xT k) A (fun (u : Unit) => bM k om mth tq to wc wl wb wk kk kf ku ec ew ea ed et ex cc ca cl ch uc ut ub ul uw tt ac as)) A) [.ref (om 0), .long a, .int lv, .long tm].toArray s 0 0 A) (F0 m 21 ls []) := by
          intro dd
          induction dd with
          | zero =>
            intro i v hm h2 h3
            exact absurd hm (by omega)
          | succ dd ih21 =>
            intro i v hm h2 h3 H locs ls hP hD hS hl
            refine lv_iload hx hb dX6_many_21 (lv_at hl 7 rfl) ?_
            refine lv_aload_n hx hb dX6_many_23 rfl (lv_at hl 0 rfl) ?_
            refine va_get (D := D) (ci := 6) (v := .int (nI ec)) (C := RX6) (T := TX6) (N := 28) hx hb hts hinW hown hK hP 0 rfl rfl 10 (by decide) (hts _ tw_386) (fun _ h9 => h9) rfl dX6_many_24 ?_
            refine lv_icmp_ge (tgt := 73) hx hb dX6_many_27 (by decide) (fun c27 => ?_) (fun c27 => ?_)
            · have c27 : ec ≤ i := (nI_leI (by omega) (by omega)).mp c27
              refine lv_iload hx hb dX6_many_73 (lv_at hl 4 rfl) ?_
              refine lv_iload hx hb dX6_many_75 (lv_at hl 6 rfl) ?_
              refine lv_if_eq (tgt := 84) hx hb dX6_many_77 (by decide) (fun c77 => ?_) (fun c77 => ?_)
              · refine lv_iconst (v := (nI 0)) hx hb dX6_many_84 (by decide) ?_
                refine lv_iadd hx hb dX6_many_85 ?_
                refine xx_topi (nI_add nn 0) ?_
                refine lv_istore (lv' := [(6, .int (nI (nn + 0))), (0, .ref (om 0)), (1, .long a), (3, .int lv), (4, .long tm), (7, .int (nI w)), (8, .int v), (9, .int (nI i))]) hx hb dX6_many_86 hl (by decide) rfl (fun ls hl => ?_)
                refine lv_iinc (v := (nI (w + 1))) (lv' := [(7, .int (nI (w + 1))), (6, .int (nI (nn + 0))), (0, .ref (om 0)), (1, .long a), (3, .int lv), (4, .long tm), (8, .int v), (9, .int (nI i))]) hx hb dX6_many_88 hl (k := 5) rfl (nI_1 w) (by decide) rfl (fun ls hl => ?_)
                refine lv_goto (tgt := 6) hx hb dX6_many_91 (by decide) ?_
                exact ih6 (w + 1) (nn + 0) (by omega) (by omega) (by have e9 : i = ec := (by omega); subst e9; subst g3; first | exact (xmany_yes (F := fun w z => ew z = w ∧ (ex z = false ∧ ea z = a ∧ ¬ (tm < et z) ∧ ¬ (wl (ew z) < lv))) h3 c77).symm | exact (xmany_no (F := fun w z => ew z = w ∧ (ex z = false ∧ ea z = a ∧ ¬ (tm < et z) ∧ ¬ (wl (ew z) < lv))) h3 c77).symm) H locs ls hP hD hS (lv_sub hl [2, 3, 4, 5, 1, 0] rfl)
              · refine lv_iconst (v := (nI 1)) hx hb dX6_many_80 (by decide) ?_
                refine lv_goto (tgt := 85) hx hb dX6_many_81 (by decide) ?_
                refine lv_iadd hx hb dX6_many_85 ?_
                refine xx_topi (nI_add nn 1) ?_
                refine lv_istore (lv' := [(6, .int (nI (nn + 1))), (0, .ref (om 0)), (1, .long a), (3, .int lv), (4, .long tm), (7, .int (nI w)), (8, .int v), (9, .int (nI i))]) hx hb dX6_many_86 hl (by decide) rfl (fun ls hl => ?_)
                refine lv_iinc (v := (nI (w + 1))) (lv' := [(7, .int (nI (w + 1))), (6, .int (nI (nn + 1))), (0, .ref (om 0)), (1, .long a), (3, .int lv), (4, .long tm), (8, .int v), (9, .int (nI i))]) hx hb dX6_many_88 hl (k := 5) rfl (nI_1 w) (by decide) rfl (fun ls hl => ?_)
                refine lv_goto (tgt := 6) hx hb dX6_many_91 (by decide) ?_
                exact ih6 (w + 1) (nn + 1) (by omega) (by omega) (by have e9 : i = ec := (by omega); subst e9; subst g3; first | exact (xmany_yes (F := fun w z => ew z = w ∧ (ex z = false ∧ ea z = a ∧ ¬ (tm < et z) ∧ ¬ (wl (ew z) < lv))) h3 c77).symm | exact (xmany_no (F := fun w z => ew z = w ∧ (ex z = false ∧ ea z = a ∧ ¬ (tm < et z) ∧ ¬ (wl (ew z) < lv))) h3 c77).symm) H locs ls hP hD hS (lv_sub hl [2, 3, 4, 5, 1, 0] rfl)
            · have c27 : i < ec := Nat.lt_of_not_le (fun h => c27 ((nI_leI (by omega) (by omega)).mpr h))
              refine lv_iload hx hb dX6_many_30 (lv_at hl 6 rfl) ?_
              refine lv_if_ne (tgt := 60) hx hb dX6_many_32 (by decide) (fun c32 => ?_) (fun c32 => ?_)
              · refine lv_iconst (v := (nI 1)) hx hb dX6_many_60 (by decide) ?_
                refine lv_goto (tgt := 65) hx hb dX6_many_61 (by decide) ?_
                refine lv_istore (lv' := [(8, .int (nI 1)), (0, .ref (om 0)), (1, .long a), (3, .int lv), (4, .long tm), (6, .int (nI nn)), (7, .int (nI w)), (9, .int (nI i))]) hx hb dX6_many_65 hl (by decide) rfl (fun ls hl => ?_)
                refine lv_iinc (v := (nI (i + 1))) (lv' := [(9, .int (nI (i + 1))), (8, .int (nI 1)), (0, .ref (om 0)), (1, .long a), (3, .int lv), (4, .long tm), (6, .int (nI nn)), (7, .int (nI w))]) hx hb dX6_many_67 hl (k := 7) rfl (nI_1 i) (by decide) rfl (fun ls hl => ?_)
                refine lv_goto (tgt := 21) hx hb dX6_many_70 (by decide) ?_
                exact ih21 (i + 1) (nI 1) (by omega) (by omega) (by first | exact xb_t (xa0_old (xb_pos h3 c32)) | exact xb_t (xa0_new (C := fun z => ew z = w ∧ (ex z = false ∧ ea z = a ∧ ¬ (tm < et z) ∧ ¬ (wl (ew z) < lv))) ⟨c44, hq54⟩) | exact xb_f (xa0_not (C := fun z => ew z = w ∧ (ex z = false ∧ ea z = a ∧ ¬ (tm < et z) ∧ ¬ (wl (ew z) < lv))) (xb_neg h3 c32) (fun h => c44 h.1)) | exact xb_f (xa0_not (C := fun z => ew z = w ∧ (ex z = false ∧ ea z = a ∧ ¬ (tm < et z) ∧ ¬ (wl (ew z) < lv))) (xb_neg h3 c32) (fun h => hq54 h.2))) H locs ls hP hD hS (lv_sub hl [2, 3, 4, 5, 6, 7, 1, 0] rfl)
              · refine lv_aload_n hx hb dX6_many_35 rfl (lv_at hl 0 rfl) ?_
                refine va_get (D := D) (ci := 6) (v := .ref (om 7)) (C := RX6) (T := TX6) (N := 28) hx hb hts hinW hown hK hP 0 rfl rfl 11 (by decide) (hts _ tw_387) (fun _ h9 => h9) rfl dX6_many_36 ?_
                refine lv_iload hx hb dX6_many_39 (lv_at hl 7 rfl) ?_
                refine xx_iald hx hb hK hP 7 0 rfl rfl (show i < 100 by omega) (by decide) dX6_many_41 ?_
                refine lv_iload hx hb dX6_many_42 (lv_at hl 5 rfl) ?_
                have hwi := hew i
                refine lv_icmp_ne (tgt := 64) hx hb dX6_many_44 (by decide) (fun c44 => ?_) (fun c44 => ?_)
                · have c44 : ¬ ew i = w := fun h => c44 ((nI_eq (by omega) (by omega)).mpr h)
                  refine lv_iconst (v := (nI 0)) hx hb dX6_many_64 (by decide) ?_
                  refine lv_istore (lv' := [(8, .int (nI 0)), (0, .ref (om 0)), (1, .long a), (3, .int lv), (4, .long tm), (6, .int (nI nn)), (7, .int (nI w)), (9, .int (nI i))]) hx hb dX6_many_65 hl (by decide) rfl (fun ls hl => ?_)
                  refine lv_iinc (v := (nI (i + 1))) (lv' := [(9, .int (nI (i + 1))), (8, .int (nI 0)), (0, .ref (om 0)), (1, .long a), (3, .int lv), (4, .long tm), (6, .int (nI nn)), (7, .int (nI w))]) hx hb dX6_many_67 hl (k := 7) rfl (nI_1 i) (by decide) rfl (fun ls hl => ?_)
                  refine lv_goto (tgt := 21) hx hb dX6_many_70 (by decide) ?_
                  exact ih21 (i + 1) (nI 0) (by omega) (by omega) (by first | exact xb_t (xa0_old (xb_pos h3 c32)) | exact xb_t (xa0_new (C := fun z => ew z = w ∧ (ex z = false ∧ ea z = a ∧ ¬ (tm < et z) ∧ ¬ (wl (ew z) < lv))) ⟨c44, hq54⟩) | exact xb_f (xa0_not (C := fun z => ew z = w ∧ (ex z = false ∧ ea z = a ∧ ¬ (tm < et z) ∧ ¬ (wl (ew z) < lv))) (xb_neg h3 c32) (fun h => c44 h.1)) | exact xb_f (xa0_not (C := fun z => ew z = w ∧ (ex z = false ∧ ea z = a ∧ ¬ (tm < et z) ∧ ¬ (wl (ew z) < lv))) (xb_neg h3 c32) (fun h => hq54 h.2))) H locs ls hP hD hS (lv_sub hl [2, 3, 4, 5, 6, 7, 1, 0] rfl)
                · have c44 : ew i = w := (nI_eq (by omega) (by omega)).mp c44
                  refine lv_aload_n hx hb dX6_many_47 rfl (lv_at hl 0 rfl) ?_
                  refine lv_iload hx hb dX6_many_48 (lv_at hl 7 rfl) ?_
                  refine lv_lload_n hx hb dX6_many_50 rfl (lv_at hl 1 rfl) ?_
                  refine lv_iload_n hx hb dX6_many_51 rfl (lv_at hl 2 rfl) ?_
                  refine lv_lload hx hb dX6_many_52 (lv_at hl 3 rfl) ?_
                  refine xx_calli ([]) [0, 1, 2, 3, 4, 5, 6, 7, 8, 9, 10, 11, 12, 13, 14, 15, 16, 17, 18, 19] [] (va_runV (As := [.int (nI i), .long a, .int lv, .long tm]) (rest := []) ⟨hx, hb, hml, hown, hts⟩ (c_M_counts l D k om mth tq to wc wl wb wk kk kf ku ec ew ea ed et ex cc ca cl ch uc ut ub ul uw tt ac as i a lv tm hec hew (by omega) H.size) (cwV 4 hts (xx_gV tw_559 tw_561 ts_15 tw_8 tw_562) rfl rfl rfl (by decide +kernel) ⟨Nat.le_of_ble_eq_true rfl, Nat.le_of_ble_eq_true rfl⟩) (xx_preV hK hN hP hD [0, 1, 2, 3, 4, 5, 6, 7, 8, 9, 10, 11, 12, 13, 14, 15, 16, 17, 18, 19] (by decide) rfl 6 0 rfl rfl) rfl rfl hl.1 rfl (lv_room (Nat.le_of_ble_eq_true rfl)) dX6_many_54 ⟨Nat.le_of_ble_eq_true rfl, Nat.le_of_ble_eq_true rfl⟩) hP hD hS hA rfl rfl (by decide) (by decide) (fun r54 u54 H locs hw54 hP hD hS => ?_)
                  rcases hw54 with ⟨rfl, hq54⟩ | ⟨rfl, hq54⟩
                  · have hP : va_P D vwCl (bM k om mth tq to wc wl wb wk kk kf ku ec ew ea ed et ex cc ca cl ch uc ut ub ul uw tt ac as) H := hP
                    have hD : va_D A (bM k om mth tq to wc wl wb wk kk kf ku ec ew ea ed et ex cc ca cl ch uc ut ub ul uw tt ac as) := hD
                    refine lv_if_eq (tgt := 64) hx hb dX6_many_57 (by decide) (fun c => absurd c (by decide)) (fun _ => ?_)
                    refine lv_iconst (v := (nI 1)) hx hb dX6_many_60 (by decide) ?_
                    refine lv_goto (tgt := 65) hx hb dX6_many_61 (by decide) ?_
                    refine lv_istore (lv' := [(8, .int (nI 1)), (0, .ref (om 0)), (1, .long a), (3, .int lv), (4, .long tm), (6, .int (nI nn)), (7, .int (nI w)), (9, .int (nI i))]) hx hb dX6_many_65 hl (by decide) rfl (fun ls hl => ?_)
                    refine lv_iinc (v := (nI (i + 1))) (lv' := [(9, .int (nI (i + 1))), (8, .int (nI 1)), (0, .ref (om 0)), (1, .long a), (3, .int lv), (4, .long tm), (6, .int (nI nn)), (7, .int (nI w))]) hx hb dX6_many_67 hl (k := 7) rfl (nI_1 i) (by decide) rfl (fun ls hl => ?_)
                    refine lv_goto (tgt := 21) hx hb dX6_many_70 (by decide) ?_
                    exact ih21 (i + 1) (nI 1) (by omega) (by omega) (by first | exact xb_t (xa0_old (xb_pos h3 c32)) | exact xb_t (xa0_new (C := fun z => ew z = w ∧ (ex z = false ∧ ea z = a ∧ ¬ (tm < et z) ∧ ¬ (wl (ew z) < lv))) ⟨c44, hq54⟩) | exact xb_f (xa0_not (C := fun z => ew z = w ∧ (ex z = false ∧ ea z = a ∧ ¬ (tm < et z) ∧ ¬ (wl (ew z) < lv))) (xb_neg h3 c32) (fun h => c44 h.1)) | exact xb_f (xa0_not (C := fun z => ew z = w ∧ (ex z = false ∧ ea z = a ∧ ¬ (tm < et z) ∧ ¬ (wl (ew z) < lv))) (xb_neg h3 c32) (fun h => hq54 h.2))) H locs ls hP hD hS (lv_sub hl [2, 3, 4, 5, 6, 7, 1, 0] rfl)
                  · have hP : va_P D vwCl (bM k om mth tq to wc wl wb wk kk kf ku ec ew ea ed et ex cc ca cl ch uc ut ub ul uw tt ac as) H := hP
                    have hD : va_D A (bM k om mth tq to wc wl wb wk kk kf ku ec ew ea ed et ex cc ca cl ch uc ut ub ul uw tt ac as) := hD
                    refine lv_if_eq (tgt := 64) hx hb dX6_many_57 (by decide) (fun _ => ?_) (fun c => absurd c (by decide))
                    refine lv_iconst (v := (nI 0)) hx hb dX6_many_64 (by decide) ?_
                    refine lv_istore (lv' := [(8, .int (nI 0)), (0, .ref (om 0)), (1, .long a), (3, .int lv), (4, .long tm), (6, .int (nI nn)), (7, .int (nI w)), (9, .int (nI i))]) hx hb dX6_many_65 hl (by decide) rfl (fun ls hl => ?_)
                    refine lv_iinc (v := (nI (i + 1))) (lv' := [(9, .int (nI (i + 1))), (8, .int (nI 0)), (0, .ref (om 0)), (1, .long a), (3, .int lv), (4, .long tm), (6, .int (nI nn)), (7, .int (nI w))]) hx hb dX6_many_67 hl (k := 7) rfl (nI_1 i) (by decide) rfl (fun ls hl => ?_)
                    refine lv_goto (tgt := 21) hx hb dX6_many_70 (by decide) ?_
                    exact ih21 (i + 1) (nI 0) (by omega) (by omega) (by first | exact xb_t (xa0_old (xb_pos h3 c32)) | exact xb_t (xa0_new (C := fun z => ew z = w ∧ (ex z = false ∧ ea z = a ∧ ¬ (tm < et z) ∧ ¬ (wl (ew z) < lv))) ⟨c44, hq54⟩) | exact xb_f (xa0_not (C := fun z => ew z = w ∧ (ex z = false ∧ ea z = a ∧ ¬ (tm < et z) ∧ ¬ (wl (ew z) < lv))) (xb_neg h3 c32) (fun h => c44 h.1)) | exact xb_f (xa0_not (C := fun z => ew z = w ∧ (ex z = false ∧ ea z = a ∧ ¬ (tm < et z) ∧ ¬ (wl (ew z) < lv))) (xb_neg h3 c32) (fun h => hq54 h.2))) H locs ls hP hD hS (lv_sub hl [2, 3, 4, 5, 6, 7, 1, 0] rfl)
        exact loop21 (ec + 1) 0 (nI 0) (by omega) (by omega) (by exact xb_f (fun ⟨z, z2, z3⟩ => absurd z2 (by omega))) H locs ls hP hD hS (lv_sub hl [2, 3, 4, 5, 6, 7, 1, 0] rfl)
  exact loop6 (wc + 1) 0 0 (by omega) (by omega) (by rfl) s.heap _ ls hP hD hS (lv_sub hl [2, 3, 4, 5, 1, 0] rfl)
def p_M_agreed (om : Nat → Nat) (mth : Int32) (tq : Int32) (to : Bool) (wc : Nat) (wl : Nat → Int32) (wb : Nat → Bool) (wk : Nat → Nat) (kk : Nat → Int64) (kf : Nat → Int64) (ku : Nat → Int64) (ec : Nat) (ew : Nat → Nat) (ea : Nat → Int64) (ed : Nat → Int64) (et : Nat → Int64) (ex : Nat → Bool) (cc : Nat) (ca : Nat → Int64) (cl : Nat → Int32) (ch : Nat → Int32) (uc : Nat) (ut : Nat → Int32) (ub : Nat → Int32) (ul : Nat → Int32) (uw : Nat → Int32) (tt : Int64) (ac : Nat) (as : Nat → Int32) (a : Int64) (lv : Int32) (tm : Int64) : Int32 → Unit → Prop := fun r u => (r = (-1) ∧ ((∀ j, j < ec → ¬ (ex j = false ∧ ea j = a ∧ ¬ (tm < et j) ∧ ¬ (wl (ew j) < lv))) ∨ ¬ (∀ i, i < ec → (ex i = false ∧ ea i = a ∧ ¬ (tm < et i) ∧ ¬ (wl (ew i) < lv)) → ∀ j, j < ec → (ex j = false ∧ ea j = a ∧ ¬ (tm < et j) ∧ ¬ (wl (ew j) < lv)) → ed i = ed j))) ∨ (∃ f, r = nI f ∧ (f < ec ∧ (ex f = false ∧ ea f = a ∧ ¬ (tm < et f) ∧ ¬ (wl (ew f) < lv)) ∧ (∀ j, j < f → ¬ (ex j = false ∧ ea j = a ∧ ¬ (tm < et j) ∧ ¬ (wl (ew j) < lv)))) ∧ (∀ i, i < ec → (ex i = false ∧ ea i = a ∧ ¬ (tm < et i) ∧ ¬ (wl (ew i) < lv)) → ∀ j, j < ec → (ex j = false ∧ ea j = a ∧ ¬ (tm < et j) ∧ ¬ (wl (ew j) < lv)) → ed i = ed j))
set_option maxHeartbeats 4000000 in
set_option maxRecDepth 100000 in
theorem c_M_agreed (l : Launch) (D : va_G) (k : Nat → ClassId) (om : Nat → Nat) (mth : Int32) (tq : Int32) (to : Bool) (wc : Nat) (wl : Nat → Int32) (wb : Nat → Bool) (wk : Nat → Nat) (kk : Nat → Int64) (kf : Nat → Int64) (ku : Nat → Int64) (ec : Nat) (ew : Nat → Nat) (ea : Nat → Int64) (ed : Nat → Int64) (et : Nat → Int64) (ex : Nat → Bool) (cc : Nat) (ca : Nat → Int64) (cl : Nat → Int32) (ch : Nat → Int32) (uc : Nat) (ut : Nat → Int32) (ub : Nat → Int32) (ul : Nat → Int32) (uw : Nat → Int32) (tt : Int64) (ac : Nat) (as : Nat → Int32) (a : Int64) (lv : Int32) (tm : Int64) (hec : ec ≤ 100) (hew : ∀ i, ew i < 12) : xx_Ci l yX6_agreed (.code yX6_agreed cX6_agreed 8 (some .int) :: xall) ({ frames := 1, cells := 0, slots := 0, locals := 26 } : Room) D vwCl (xT k) [.ref (om 0), .long a, .int lv, .long tm] (bM k om mth tq to wc wl wb wk kk kf ku ec ew ea ed et ex cc ca cl ch uc ut ub ul uw tt ac as) (p_M_agreed om mth tq to wc wl wb wk kk kf ku ec ew ea ed et ex cc ca cl ch uc ut ub ul uw tt ac as a lv tm) (fun (u : Unit) => bM k om mth tq to wc wl wb wk kk kf ku ec ew ea ed et ex cc ca cl ch uc ut ub ul uw tt ac as) 0 0 := by
  intro sz
  refine xx_met (Qf := fun A => va_Qi (p_M_agreed om mth tq to wc wl wb wk kk kf ku ec ew ea ed et ex cc ca cl ch uc ut ub ul uw tt ac as a lv tm) (xx_B D vwCl (xT k) A (fun (u : Unit) => bM k om mth tq to wc wl wb wk kk kf ku ec ew ea ed et ex cc ca cl ch uc ut ub ul uw tt ac as)) A) (cc := cX6_agreed) (maxL := 8) (ret := (some .int)) (by decide) rfl (Nat.le_of_ble_eq_true rfl) ?_
  intro p e s m below meth c A ls hx hb hr hts hown hlocks hin hml hA hS hP hD hK hN hl
  have hl : lv_has ls 8 [(0, .ref (om 0)), (1, .long a), (3, .int lv), (4, .long tm)] := hl
  have hown : s.vm.findClass RX6 = some m.cls := hown
  have hinW := inX6
  refine lv_iconst (v := (-1)) hx hb dX6_agreed_0 (by decide) ?_
  refine lv_istore (lv' := [(6, .int (-1)), (0, .ref (om 0)), (1, .long a), (3, .int lv), (4, .long tm)]) hx hb dX6_agreed_1 hl (by decide) rfl (fun ls hl => ?_)
  refine lv_iconst (v := (nI 0)) hx hb dX6_agreed_3 (by decide) ?_
  refine lv_istore (lv' := [(7, .int (nI 0)), (6, .int (-1)), (0, .ref (om 0)), (1, .long a), (3, .int lv), (4, .long tm)]) hx hb dX6_agreed_4 hl (by decide) rfl (fun ls hl => ?_)
  have loop6 : ∀ (dd : Nat) (i : Nat) (b6 : Int32), ec + 1 ≤ i + dd → (i ≤ ec) → ((b6 = (-1) ∧ ∀ j, j < i → ¬ (ex j = false ∧ ea j = a ∧ ¬ (tm < et j) ∧ ¬ (wl (ew j) < lv))) ∨ (∃ f, b6 = nI f ∧ f < i ∧ (ex f = false ∧ ea f = a ∧ ¬ (tm < et f) ∧ ¬ (wl (ew f) < lv)) ∧ (∀ j, j < f → ¬ (ex j = false ∧ ea j = a ∧ ¬ (tm < et j) ∧ ¬ (wl (ew j) < lv))) ∧ ∀ j, j < i → (ex j = false ∧ ea j = a ∧ ¬ (tm < et j) ∧ ¬ (wl (ew j) < lv)) → ed j = ed f)) → ∀ (H : Heap) (locs : List Loc) (ls : Array Slot), va_P D vwCl (bM k om mth tq to wc wl wb wk kk kf ku ec ew ea ed et ex cc ca cl ch uc ut ub ul uw tt ac as) H → va_D A (bM k om mth tq to wc wl wb wk kk kf ku ec ew ea ed et ex cc ca cl ch uc ut ub ul uw tt ac as) → va_S A s.heap H locs → lv_has ls 8 [(0, .ref (om 0)), (1, .long a), (3, .int lv), (4, .long tm), (6, .int b6), (7, .int (nI i))] → W p l e ({ frames := 1, cells := 0, slots := 0, locals := 26 } : Room) s m [.ref (om 0), .long a, .int lv, .long tm].toArray below meth c H locs 0 0 (MQ below (va_Qi (p_M_agreed om mth tq to wc wl wb wk kk kf ku ec ew ea ed et ex cc ca cl ch uc ut ub ul uw tt ac as a lv tm) (xx_B D vwCl (xT k) A (fun (u : Unit) => bM k om mth tq to wc wl wb wk kk kf ku ec ew ea ed et ex cc ca cl ch uc ut ub ul uw tt ac as)) A) [.ref (om 0), .long a, .int lv, .long tm].toArray s 0 0 A) (F0 m 6 ls []) := by
    intro dd
    induction dd with
    | zero =>
      intro i b6 hm h2 h3
      exact absurd hm (by omega)
    | succ dd ih6 =>
      intro i b6 hm h2 h3 H locs ls hP hD hS hl
      refine lv_iload hx hb dX6_agreed_6 (lv_at hl 5 rfl) ?_
      refine lv_aload_n hx hb dX6_agreed_8 rfl (lv_at hl 0 rfl) ?_
      refine va_get (D := D) (ci := 6) (v := .int (nI ec)) (C := RX6) (T := TX6) (N := 28) hx hb hts hinW hown hK hP 0 rfl rfl 10 (by decide) (hts _ tw_386) (fun _ h9 => h9) rfl dX6_agreed_9 ?_
      refine lv_icmp_ge (tgt := 70) hx hb dX6_agreed_12 (by decide) (fun c12 => ?_) (fun c12 => ?_)
      · have c12 : ec ≤ i := (nI_leI (by omega) (by omega)).mp c12
        refine lv_iload hx hb dX6_agreed_70 (lv_at hl 4 rfl) ?_
        refine xx_iret () hx hb hr hlocks hS hK hP hD dX6_agreed_72 ?_
        obtain rfl : i = ec := (by omega)
        exact xg_end (O := fun j => ex j = false ∧ ea j = a ∧ ¬ (tm < et j) ∧ ¬ (wl (ew j) < lv)) (ed := ed) h3
      · have c12 : i < ec := Nat.lt_of_not_le (fun h => c12 ((nI_leI (by omega) (by omega)).mpr h))
        refine lv_aload_n hx hb dX6_agreed_15 rfl (lv_at hl 0 rfl) ?_
        refine lv_iload hx hb dX6_agreed_16 (lv_at hl 5 rfl) ?_
        refine lv_lload_n hx hb dX6_agreed_18 rfl (lv_at hl 1 rfl) ?_
        refine lv_iload_n hx hb dX6_agreed_19 rfl (lv_at hl 2 rfl) ?_
        refine lv_lload hx hb dX6_agreed_20 (lv_at hl 3 rfl) ?_
        refine xx_calli ([]) [0, 1, 2, 3, 4, 5, 6, 7, 8, 9, 10, 11, 12, 13, 14, 15, 16, 17, 18, 19] [] (va_runV (As := [.int (nI i), .long a, .int lv, .long tm]) (rest := []) ⟨hx, hb, hml, hown, hts⟩ (c_M_counts l D k om mth tq to wc wl wb wk kk kf ku ec ew ea ed et ex cc ca cl ch uc ut ub ul uw tt ac as i a lv tm hec hew (by omega) H.size) (cwV 4 hts (xx_gV tw_559 tw_561 ts_15 tw_8 tw_562) rfl rfl rfl (by decide +kernel) ⟨Nat.le_of_ble_eq_true rfl, Nat.le_of_ble_eq_true rfl⟩) (xx_preV hK hN hP hD [0, 1, 2, 3, 4, 5, 6, 7, 8, 9, 10, 11, 12, 13, 14, 15, 16, 17, 18, 19] (by decide) rfl 6 0 rfl rfl) rfl rfl hl.1 rfl (lv_room (Nat.le_of_ble_eq_true rfl)) dX6_agreed_22 ⟨Nat.le_of_ble_eq_true rfl, Nat.le_of_ble_eq_true rfl⟩) hP hD hS hA rfl rfl (by decide) (by decide) (fun r22 u22 H locs hw22 hP hD hS => ?_)
        rcases hw22 with ⟨rfl, hq22⟩ | ⟨rfl, hq22⟩
        · have hP : va_P D vwCl (bM k om mth tq to wc wl wb wk kk kf ku ec ew ea ed et ex cc ca cl ch uc ut ub ul uw tt ac as) H := hP
          have hD : va_D A (bM k om mth tq to wc wl wb wk kk kf ku ec ew ea ed et ex cc ca cl ch uc ut ub ul uw tt ac as) := hD
          refine lv_if_ne (tgt := 31) hx hb dX6_agreed_25 (by decide) (fun _ => ?_) (fun c => absurd c (by decide))
          refine lv_iload hx hb dX6_agreed_31 (lv_at hl 4 rfl) ?_
          refine lv_iconst (v := (-1)) hx hb dX6_agreed_33 (by decide) ?_
          refine lv_icmp_ne (tgt := 44) hx hb dX6_agreed_34 (by decide) (fun c34 => ?_) (fun c34 => ?_)
          · obtain ⟨f, hff, hf1, hf2, hf3, hf4⟩ := h3.resolve_left (fun h => c34 h.1)
            subst hff
            refine lv_aload_n hx hb dX6_agreed_44 rfl (lv_at hl 0 rfl) ?_
            refine va_get (D := D) (ci := 6) (v := .ref (om 9)) (C := RX6) (T := TX6) (N := 28) hx hb hts hinW hown hK hP 0 rfl rfl 13 (by decide) (hts _ tw_389) (fun _ h9 => h9) rfl dX6_agreed_45 ?_
            refine lv_iload hx hb dX6_agreed_48 (lv_at hl 5 rfl) ?_
            refine xx_lald hx hb hK hP 9 2 rfl rfl (show i < 100 by omega) (by decide) dX6_agreed_50 ?_
            refine lv_aload_n hx hb dX6_agreed_51 rfl (lv_at hl 0 rfl) ?_
            refine va_get (D := D) (ci := 6) (v := .ref (om 9)) (C := RX6) (T := TX6) (N := 28) hx hb hts hinW hown hK hP 0 rfl rfl 13 (by decide) (hts _ tw_389) (fun _ h9 => h9) rfl dX6_agreed_52 ?_
            refine lv_iload hx hb dX6_agreed_55 (lv_at hl 4 rfl) ?_
            refine xx_lald hx hb hK hP 9 2 rfl rfl (show f < 100 by omega) (by decide) dX6_agreed_57 ?_
            refine W.lcmp hx hb dX6_agreed_58 ?_
            refine lv_if_eq (tgt := 64) hx hb dX6_agreed_59 (by decide) (fun c59 => ?_) (fun c59 => ?_)
            · have c59 : (ed i) = (ed f) := (lg_cmp_eq (ed i) (ed f)).mp c59
              refine lv_iinc (v := (nI (i + 1))) (lv' := [(7, .int (nI (i + 1))), (0, .ref (om 0)), (1, .long a), (3, .int lv), (4, .long tm), (6, .int (nI f))]) hx hb dX6_agreed_64 hl (k := 5) rfl (nI_1 i) (by decide) rfl (fun ls hl => ?_)
              refine lv_goto (tgt := 6) hx hb dX6_agreed_67 (by decide) ?_
              exact ih6 (i + 1) (nI f) (by omega) (by omega) (by first | exact xg_skip (O := fun j => ex j = false ∧ ea j = a ∧ ¬ (tm < et j) ∧ ¬ (wl (ew j) < lv)) (ed := ed) h3 hq22 | exact xg_new (O := fun j => ex j = false ∧ ea j = a ∧ ¬ (tm < et j) ∧ ¬ (wl (ew j) < lv)) (ed := ed) (by omega) h3 hq22 c34 | exact xg_same (O := fun j => ex j = false ∧ ea j = a ∧ ¬ (tm < et j) ∧ ¬ (wl (ew j) < lv)) (ed := ed) hf1 hf2 hf3 hf4 c59) H locs ls hP hD hS (lv_sub hl [1, 2, 3, 4, 5, 0] rfl)
            · have c59 : ¬ ((ed i) = (ed f)) := fun h => c59 ((lg_cmp_eq (ed i) (ed f)).mpr h)
              refine lv_iconst (v := (-1)) hx hb dX6_agreed_62 (by decide) ?_
              refine xx_iret () hx hb hr hlocks hS hK hP hD dX6_agreed_63 ?_
              exact Or.inl ⟨rfl, Or.inr (fun h => c59 (h i (by omega) hq22 f (by omega) hf2))⟩
          · refine lv_iload hx hb dX6_agreed_37 (lv_at hl 5 rfl) ?_
            refine lv_istore (lv' := [(6, .int (nI i)), (0, .ref (om 0)), (1, .long a), (3, .int lv), (4, .long tm), (7, .int (nI i))]) hx hb dX6_agreed_39 hl (by decide) rfl (fun ls hl => ?_)
            refine lv_goto (tgt := 64) hx hb dX6_agreed_41 (by decide) ?_
            refine lv_iinc (v := (nI (i + 1))) (lv' := [(7, .int (nI (i + 1))), (6, .int (nI i)), (0, .ref (om 0)), (1, .long a), (3, .int lv), (4, .long tm)]) hx hb dX6_agreed_64 hl (k := 5) rfl (nI_1 i) (by decide) rfl (fun ls hl => ?_)
            refine lv_goto (tgt := 6) hx hb dX6_agreed_67 (by decide) ?_
            exact ih6 (i + 1) (nI i) (by omega) (by omega) (by first | exact xg_skip (O := fun j => ex j = false ∧ ea j = a ∧ ¬ (tm < et j) ∧ ¬ (wl (ew j) < lv)) (ed := ed) h3 hq22 | exact xg_new (O := fun j => ex j = false ∧ ea j = a ∧ ¬ (tm < et j) ∧ ¬ (wl (ew j) < lv)) (ed := ed) (by omega) h3 hq22 c34 | exact xg_same (O := fun j => ex j = false ∧ ea j = a ∧ ¬ (tm < et j) ∧ ¬ (wl (ew j) < lv)) (ed := ed) hf1 hf2 hf3 hf4 c59) H locs ls hP hD hS (lv_sub hl [2, 3, 4, 5, 1, 0] rfl)
        · have hP : va_P D vwCl (bM k om mth tq to wc wl wb wk kk kf ku ec ew ea ed et ex cc ca cl ch uc ut ub ul uw tt ac as) H := hP
          have hD : va_D A (bM k om mth tq to wc wl wb wk kk kf ku ec ew ea ed et ex cc ca cl ch uc ut ub ul uw tt ac as) := hD
          refine lv_if_ne (tgt := 31) hx hb dX6_agreed_25 (by decide) (fun c => absurd c (by decide)) (fun _ => ?_)
          refine lv_goto (tgt := 64) hx hb dX6_agreed_28 (by decide) ?_
          refine lv_iinc (v := (nI (i + 1))) (lv' := [(7, .int (nI (i + 1))), (0, .ref (om 0)), (1, .long a), (3, .int lv), (4, .long tm), (6, .int b6)]) hx hb dX6_agreed_64 hl (k := 5) rfl (nI_1 i) (by decide) rfl (fun ls hl => ?_)
          refine lv_goto (tgt := 6) hx hb dX6_agreed_67 (by decide) ?_
          exact ih6 (i + 1) b6 (by omega) (by omega) (by first | exact xg_skip (O := fun j => ex j = false ∧ ea j = a ∧ ¬ (tm < et j) ∧ ¬ (wl (ew j) < lv)) (ed := ed) h3 hq22 | exact xg_new (O := fun j => ex j = false ∧ ea j = a ∧ ¬ (tm < et j) ∧ ¬ (wl (ew j) < lv)) (ed := ed) (by omega) h3 hq22 c34 | exact xg_same (O := fun j => ex j = false ∧ ea j = a ∧ ¬ (tm < et j) ∧ ¬ (wl (ew j) < lv)) (ed := ed) hf1 hf2 hf3 hf4 c59) H locs ls hP hD hS (lv_sub hl [1, 2, 3, 4, 5, 0] rfl)
  exact loop6 (ec + 1) 0 (-1) (by omega) (by omega) (by exact Or.inl ⟨rfl, fun j z => absurd z (by omega)⟩) s.heap _ ls hP hD hS (lv_sub hl [2, 3, 4, 5, 1, 0] rfl)
def p_M_tell (om : Nat → Nat) (mth : Int32) (tq : Int32) (to : Bool) (wc : Nat) (wl : Nat → Int32) (wb : Nat → Bool) (wk : Nat → Nat) (kk : Nat → Int64) (kf : Nat → Int64) (ku : Nat → Int64) (ec : Nat) (ew : Nat → Nat) (ea : Nat → Int64) (ed : Nat → Int64) (et : Nat → Int64) (ex : Nat → Bool) (cc : Nat) (ca : Nat → Int64) (cl : Nat → Int32) (ch : Nat → Int32) (uc : Nat) (ut : Nat → Int32) (ub : Nat → Int32) (ul : Nat → Int32) (uw : Nat → Int32) (tt : Int64) (ac : Nat) (as : Nat → Int32) (t : Int32) (b : Int32) (nn : Int32) (rr : Nat) : (Int64 × Nat × (Nat → Int32)) → Prop := fun u => u.1 = ed rr ∧ ((200 ≤ ac ∧ u.2 = (ac, as)) ∨ (ac < 200 ∧ ∃ q, p_M_ruleOf om mth tq to wc wl wb wk kk kf ku ec ew ea ed et ex cc ca cl ch uc ut ub ul uw (ed rr) ac (upd (upd as (ac * 5) t) (ac * 5 + 1) b) t b q () ∧ u.2 = (ac + 1, upd (upd (upd (upd (upd as (ac * 5) t) (ac * 5 + 1) b) (ac * 5 + 2) q) (ac * 5 + 3) nn) (ac * 5 + 4) (nI rr))))
set_option maxHeartbeats 4000000 in
set_option maxRecDepth 100000 in
theorem c_M_tell (l : Launch) (D : va_G) (k : Nat → ClassId) (om : Nat → Nat) (mth : Int32) (tq : Int32) (to : Bool) (wc : Nat) (wl : Nat → Int32) (wb : Nat → Bool) (wk : Nat → Nat) (kk : Nat → Int64) (kf : Nat → Int64) (ku : Nat → Int64) (ec : Nat) (ew : Nat → Nat) (ea : Nat → Int64) (ed : Nat → Int64) (et : Nat → Int64) (ex : Nat → Bool) (cc : Nat) (ca : Nat → Int64) (cl : Nat → Int32) (ch : Nat → Int32) (uc : Nat) (ut : Nat → Int32) (ub : Nat → Int32) (ul : Nat → Int32) (uw : Nat → Int32) (tt : Int64) (ac : Nat) (as : Nat → Int32) (t : Int32) (b : Int32) (nn : Int32) (rr : Nat) (hec : ec ≤ 100) (huc : uc ≤ 20) (hac : ac ≤ 200) (hrr : rr < ec) : xx_Cv l yX6_tell (.code yX6_tell cX6_tell 5 none :: xall) ({ frames := 2, cells := 0, slots := 0, locals := 50 } : Room) D vwCl (xT k) [.ref (om 0), .int t, .int b, .int nn, .int (nI rr)] (bM k om mth tq to wc wl wb wk kk kf ku ec ew ea ed et ex cc ca cl ch uc ut ub ul uw tt ac as) (p_M_tell om mth tq to wc wl wb wk kk kf ku ec ew ea ed et ex cc ca cl ch uc ut ub ul uw tt ac as t b nn rr) (fun (u : Int64 × Nat × (Nat → Int32)) => bM k om mth tq to wc wl wb wk kk kf ku ec ew ea ed et ex cc ca cl ch uc ut ub ul uw u.1 u.2.1 u.2.2) 0 0 := by
  intro sz
  refine xx_met (Qf := fun A => va_Qv (p_M_tell om mth tq to wc wl wb wk kk kf ku ec ew ea ed et ex cc ca cl ch uc ut ub ul uw tt ac as t b nn rr) (xx_B D vwCl (xT k) A (fun (u : Int64 × Nat × (Nat → Int32)) => bM k om mth tq to wc wl wb wk kk kf ku ec ew ea ed et ex cc ca cl ch uc ut ub ul uw u.1 u.2.1 u.2.2)) A) (cc := cX6_tell) (maxL := 5) (ret := none) (by decide) rfl (Nat.le_of_ble_eq_true rfl) ?_
  intro p e s m below meth c A ls hx hb hr hts hown hlocks hin hml hA hS hP hD hK hN hl
  have hl : lv_has ls 5 [(0, .ref (om 0)), (1, .int t), (2, .int b), (3, .int nn), (4, .int (nI rr))] := hl
  have hown : s.vm.findClass RX6 = some m.cls := hown
  have hinW := inX6
  refine lv_aload_n hx hb dX6_tell_0 rfl (lv_at hl 0 rfl) ?_
  refine lv_aload_n hx hb dX6_tell_1 rfl (lv_at hl 0 rfl) ?_
  refine va_get (D := D) (ci := 6) (v := .ref (om 9)) (C := RX6) (T := TX6) (N := 28) hx hb hts hinW hown hK hP 0 rfl rfl 13 (by decide) (hts _ tw_389) (fun _ h9 => h9) rfl dX6_tell_2 ?_
  refine lv_iload hx hb dX6_tell_5 (lv_at hl 4 rfl) ?_
  refine xx_lald hx hb hK hP 9 2 rfl rfl (show rr < 100 by omega) (by decide) dX6_tell_7 ?_
  refine va_put (D := D) (ci := 6) (v := .long (ed rr)) (ty := .long) (C := RX6) (T := TX6) (N := 28) hx hb hts hinW tyX6 tyX6_ok nmX6 hown hK hP hD hS 0 rfl rfl 25 (by decide) (hts _ tw_401) (fun _ h9 => h9) rfl (by decide +kernel) rfl rfl (Nat.le_of_ble_eq_true rfl) dX6_tell_8 (fun H locs hP hD hS => ?_)
  have hP : va_P D vwCl (bM k om mth tq to wc wl wb wk kk kf ku ec ew ea ed et ex cc ca cl ch uc ut ub ul uw (ed rr) ac as) H := hP
  have hD : va_D A (bM k om mth tq to wc wl wb wk kk kf ku ec ew ea ed et ex cc ca cl ch uc ut ub ul uw (ed rr) ac as) := hD
  refine lv_aload_n hx hb dX6_tell_11 rfl (lv_at hl 0 rfl) ?_
  refine va_get (D := D) (ci := 6) (v := .int (nI ac)) (C := RX6) (T := TX6) (N := 28) hx hb hts hinW hown hK hP 0 rfl rfl 26 (by decide) (hts _ tw_402) (fun _ h9 => h9) rfl dX6_tell_12 ?_
  refine lv_sipush (v := (nI 200)) hx hb dX6_tell_15 (by decide) ?_
  refine lv_icmp_ne (tgt := 22) hx hb dX6_tell_18 (by decide) (fun c18 => ?_) (fun c18 => ?_)
  · have c18 : ¬ ac = 200 := fun h => c18 ((nI_eq (by omega) (by omega)).mpr h)
    refine lv_aload_n hx hb dX6_tell_22 rfl (lv_at hl 0 rfl) ?_
    refine va_get (D := D) (ci := 6) (v := .ref (om 19)) (C := RX6) (T := TX6) (N := 28) hx hb hts hinW hown hK hP 0 rfl rfl 27 (by decide) (hts _ tw_403) (fun _ h9 => h9) rfl dX6_tell_23 ?_
    refine lv_iconst (v := (nI 5)) hx hb dX6_tell_26 (by decide) ?_
    refine lv_aload_n hx hb dX6_tell_27 rfl (lv_at hl 0 rfl) ?_
    refine va_get (D := D) (ci := 6) (v := .int (nI ac)) (C := RX6) (T := TX6) (N := 28) hx hb hts hinW hown hK hP 0 rfl rfl 26 (by decide) (hts _ tw_402) (fun _ h9 => h9) rfl dX6_tell_28 ?_
    refine lv_imul hx hb dX6_tell_31 ?_
    refine xx_topi (xx_mulc 5 ac) ?_
    refine lv_iload_n hx hb dX6_tell_32 rfl (lv_at hl 1 rfl) ?_
    refine xx_iast (g := (upd as (ac * 5) t)) hx hb hK hP hD hS 19 0 rfl rfl (show ac * 5 < 1000 by omega) (by decide) rfl dX6_tell_33 (fun H locs hP hD hS => ?_)
    have hP : va_P D vwCl (bM k om mth tq to wc wl wb wk kk kf ku ec ew ea ed et ex cc ca cl ch uc ut ub ul uw (ed rr) ac (upd as (ac * 5) t)) H := hP
    have hD : va_D A (bM k om mth tq to wc wl wb wk kk kf ku ec ew ea ed et ex cc ca cl ch uc ut ub ul uw (ed rr) ac (upd as (ac * 5) t)) := hD
    refine lv_aload_n hx hb dX6_tell_34 rfl (lv_at hl 0 rfl) ?_
    refine va_get (D := D) (ci := 6) (v := .ref (om 19)) (C := RX6) (T := TX6) (N := 28) hx hb hts hinW hown hK hP 0 rfl rfl 27 (by decide) (hts _ tw_403) (fun _ h9 => h9) rfl dX6_tell_35 ?_
    refine lv_iconst (v := (nI 5)) hx hb dX6_tell_38 (by decide) ?_
    refine lv_aload_n hx hb dX6_tell_39 rfl (lv_at hl 0 rfl) ?_
    refine va_get (D := D) (ci := 6) (v := .int (nI ac)) (C := RX6) (T := TX6) (N := 28) hx hb hts hinW hown hK hP 0 rfl rfl 26 (by decide) (hts _ tw_402) (fun _ h9 => h9) rfl dX6_tell_40 ?_
    refine lv_imul hx hb dX6_tell_43 ?_
    refine xx_topi (xx_mulc 5 ac) ?_
    refine lv_iconst (v := (nI 1)) hx hb dX6_tell_44 (by decide) ?_
    refine lv_iadd hx hb dX6_tell_45 ?_
    refine xx_topi (nI_add (ac * 5) 1) ?_
    refine lv_iload_n hx hb dX6_tell_46 rfl (lv_at hl 2 rfl) ?_
    refine xx_iast (g := (upd (upd as (ac * 5) t) ((ac * 5) + 1) b)) hx hb hK hP hD hS 19 0 rfl rfl (show (ac * 5) + 1 < 1000 by omega) (by decide) rfl dX6_tell_47 (fun H locs hP hD hS => ?_)
    have hP : va_P D vwCl (bM k om mth tq to wc wl wb wk kk kf ku ec ew ea ed et ex cc ca cl ch uc ut ub ul uw (ed rr) ac (upd (upd as (ac * 5) t) ((ac * 5) + 1) b)) H := hP
    have hD : va_D A (bM k om mth tq to wc wl wb wk kk kf ku ec ew ea ed et ex cc ca cl ch uc ut ub ul uw (ed rr) ac (upd (upd as (ac * 5) t) ((ac * 5) + 1) b)) := hD
    refine lv_aload_n hx hb dX6_tell_48 rfl (lv_at hl 0 rfl) ?_
    refine va_get (D := D) (ci := 6) (v := .ref (om 19)) (C := RX6) (T := TX6) (N := 28) hx hb hts hinW hown hK hP 0 rfl rfl 27 (by decide) (hts _ tw_403) (fun _ h9 => h9) rfl dX6_tell_49 ?_
    refine lv_iconst (v := (nI 5)) hx hb dX6_tell_52 (by decide) ?_
    refine lv_aload_n hx hb dX6_tell_53 rfl (lv_at hl 0 rfl) ?_
    refine va_get (D := D) (ci := 6) (v := .int (nI ac)) (C := RX6) (T := TX6) (N := 28) hx hb hts hinW hown hK hP 0 rfl rfl 26 (by decide) (hts _ tw_402) (fun _ h9 => h9) rfl dX6_tell_54 ?_
    refine lv_imul hx hb dX6_tell_57 ?_
    refine xx_topi (xx_mulc 5 ac) ?_
    refine lv_iconst (v := (nI 2)) hx hb dX6_tell_58 (by decide) ?_
    refine lv_iadd hx hb dX6_tell_59 ?_
    refine xx_topi (nI_add (ac * 5) 2) ?_
    refine lv_aload_n hx hb dX6_tell_60 rfl (lv_at hl 0 rfl) ?_
    refine lv_iload_n hx hb dX6_tell_61 rfl (lv_at hl 1 rfl) ?_
    refine lv_iload_n hx hb dX6_tell_62 rfl (lv_at hl 2 rfl) ?_
    refine xx_calli ([]) [0, 1, 2, 3, 4, 5, 6, 7, 8, 9, 10, 11, 12, 13, 14, 15, 16, 17, 18, 19] [] (va_runV (As := [.int t, .int b]) (rest := [.int (nI ((ac * 5) + 2)), .ref (om 19)]) ⟨hx, hb, hml, hown, hts⟩ (c_M_ruleOf l D k om mth tq to wc wl wb wk kk kf ku ec ew ea ed et ex cc ca cl ch uc ut ub ul uw (ed rr) ac (upd (upd as (ac * 5) t) ((ac * 5) + 1) b) t b (by omega) H.size) (cwV 2 hts (xx_gV tw_527 tw_529 ts_9 tw_8 tw_530) rfl rfl rfl (by decide +kernel) ⟨Nat.le_of_ble_eq_true rfl, Nat.le_of_ble_eq_true rfl⟩) (xx_preV hK hN hP hD [0, 1, 2, 3, 4, 5, 6, 7, 8, 9, 10, 11, 12, 13, 14, 15, 16, 17, 18, 19] (by decide) rfl 6 0 rfl rfl) rfl rfl hl.1 rfl (lv_room (Nat.le_of_ble_eq_true rfl)) dX6_tell_63 ⟨Nat.le_of_ble_eq_true rfl, Nat.le_of_ble_eq_true rfl⟩) hP hD hS hA rfl rfl (by decide) (by decide) (fun r63 u63 H locs hw63 hP hD hS => ?_)
    have hP : va_P D vwCl (bM k om mth tq to wc wl wb wk kk kf ku ec ew ea ed et ex cc ca cl ch uc ut ub ul uw (ed rr) ac (upd (upd as (ac * 5) t) ((ac * 5) + 1) b)) H := hP
    have hD : va_D A (bM k om mth tq to wc wl wb wk kk kf ku ec ew ea ed et ex cc ca cl ch uc ut ub ul uw (ed rr) ac (upd (upd as (ac * 5) t) ((ac * 5) + 1) b)) := hD
    refine xx_iast (g := (upd (upd (upd as (ac * 5) t) ((ac * 5) + 1) b) ((ac * 5) + 2) r63)) hx hb hK hP hD hS 19 0 rfl rfl (show (ac * 5) + 2 < 1000 by omega) (by decide) rfl dX6_tell_66 (fun H locs hP hD hS => ?_)
    have hP : va_P D vwCl (bM k om mth tq to wc wl wb wk kk kf ku ec ew ea ed et ex cc ca cl ch uc ut ub ul uw (ed rr) ac (upd (upd (upd as (ac * 5) t) ((ac * 5) + 1) b) ((ac * 5) + 2) r63)) H := hP
    have hD : va_D A (bM k om mth tq to wc wl wb wk kk kf ku ec ew ea ed et ex cc ca cl ch uc ut ub ul uw (ed rr) ac (upd (upd (upd as (ac * 5) t) ((ac * 5) + 1) b) ((ac * 5) + 2) r63)) := hD
    refine lv_aload_n hx hb dX6_tell_67 rfl (lv_at hl 0 rfl) ?_
    refine va_get (D := D) (ci := 6) (v := .ref (om 19)) (C := RX6) (T := TX6) (N := 28) hx hb hts hinW hown hK hP 0 rfl rfl 27 (by decide) (hts _ tw_403) (fun _ h9 => h9) rfl dX6_tell_68 ?_
    refine lv_iconst (v := (nI 5)) hx hb dX6_tell_71 (by decide) ?_
    refine lv_aload_n hx hb dX6_tell_72 rfl (lv_at hl 0 rfl) ?_
    refine va_get (D := D) (ci := 6) (v := .int (nI ac)) (C := RX6) (T := TX6) (N := 28) hx hb hts hinW hown hK hP 0 rfl rfl 26 (by decide) (hts _ tw_402) (fun _ h9 => h9) rfl dX6_tell_73 ?_
    refine lv_imul hx hb dX6_tell_76 ?_
    refine xx_topi (xx_mulc 5 ac) ?_
    refine lv_iconst (v := (nI 3)) hx hb dX6_tell_77 (by decide) ?_
    refine lv_iadd hx hb dX6_tell_78 ?_
    refine xx_topi (nI_add (ac * 5) 3) ?_
    refine lv_iload_n hx hb dX6_tell_79 rfl (lv_at hl 3 rfl) ?_
    refine xx_iast (g := (upd (upd (upd (upd as (ac * 5) t) ((ac * 5) + 1) b) ((ac * 5) + 2) r63) ((ac * 5) + 3) nn)) hx hb hK hP hD hS 19 0 rfl rfl (show (ac * 5) + 3 < 1000 by omega) (by decide) rfl dX6_tell_80 (fun H locs hP hD hS => ?_)
    have hP : va_P D vwCl (bM k om mth tq to wc wl wb wk kk kf ku ec ew ea ed et ex cc ca cl ch uc ut ub ul uw (ed rr) ac (upd (upd (upd (upd as (ac * 5) t) ((ac * 5) + 1) b) ((ac * 5) + 2) r63) ((ac * 5) + 3) nn)) H := hP
    have hD : va_D A (bM k om mth tq to wc wl wb wk kk kf ku ec ew ea ed et ex cc ca cl ch uc ut ub ul uw (ed rr) ac (upd (upd (upd (upd as (ac * 5) t) ((ac * 5) + 1) b) ((ac * 5) + 2) r63) ((ac * 5) + 3) nn)) := hD
    refine lv_aload_n hx hb dX6_tell_81 rfl (lv_at hl 0 rfl) ?_
    refine va_get (D := D) (ci := 6) (v := .ref (om 19)) (C := RX6) (T := TX6) (N := 28) hx hb hts hinW hown hK hP 0 rfl rfl 27 (by decide) (hts _ tw_403) (fun _ h9 => h9) rfl dX6_tell_82 ?_
    refine lv_iconst (v := (nI 5)) hx hb dX6_tell_85 (by decide) ?_
    refine lv_aload_n hx hb dX6_tell_86 rfl (lv_at hl 0 rfl) ?_
    refine va_get (D := D) (ci := 6) (v := .int (nI ac)) (C := RX6) (T := TX6) (N := 28) hx hb hts hinW hown hK hP 0 rfl rfl 26 (by decide) (hts _ tw_402) (fun _ h9 => h9) rfl dX6_tell_87 ?_
    refine lv_imul hx hb dX6_tell_90 ?_
    refine xx_topi (xx_mulc 5 ac) ?_
    refine lv_iconst (v := (nI 4)) hx hb dX6_tell_91 (by decide) ?_
    refine lv_iadd hx hb dX6_tell_92 ?_
    refine xx_topi (nI_add (ac * 5) 4) ?_
    refine lv_iload hx hb dX6_tell_93 (lv_at hl 4 rfl) ?_
    refine xx_iast (g := (upd (upd (upd (upd (upd as (ac * 5) t) ((ac * 5) + 1) b) ((ac * 5) + 2) r63) ((ac * 5) + 3) nn) ((ac * 5) + 4) (nI rr))) hx hb hK hP hD hS 19 0 rfl rfl (show (ac * 5) + 4 < 1000 by omega) (by decide) rfl dX6_tell_95 (fun H locs hP hD hS => ?_)
    have hP : va_P D vwCl (bM k om mth tq to wc wl wb wk kk kf ku ec ew ea ed et ex cc ca cl ch uc ut ub ul uw (ed rr) ac (upd (upd (upd (upd (upd as (ac * 5) t) ((ac * 5) + 1) b) ((ac * 5) + 2) r63) ((ac * 5) + 3) nn) ((ac * 5) + 4) (nI rr))) H := hP
    have hD : va_D A (bM k om mth tq to wc wl wb wk kk kf ku ec ew ea ed et ex cc ca cl ch uc ut ub ul uw (ed rr) ac (upd (upd (upd (upd (upd as (ac * 5) t) ((ac * 5) + 1) b) ((ac * 5) + 2) r63) ((ac * 5) + 3) nn) ((ac * 5) + 4) (nI rr))) := hD
    refine lv_aload_n hx hb dX6_tell_96 rfl (lv_at hl 0 rfl) ?_
    refine lv_dup hx hb dX6_tell_97 rfl ?_
    refine va_get (D := D) (ci := 6) (v := .int (nI ac)) (C := RX6) (T := TX6) (N := 28) hx hb hts hinW hown hK hP 0 rfl rfl 26 (by decide) (hts _ tw_402) (fun _ h9 => h9) rfl dX6_tell_98 ?_
    refine lv_iconst (v := (nI 1)) hx hb dX6_tell_101 (by decide) ?_
    refine lv_iadd hx hb dX6_tell_102 ?_
    refine xx_topi (nI_add ac 1) ?_
    refine va_put (D := D) (ci := 6) (v := .int (nI (ac + 1))) (ty := .int) (C := RX6) (T := TX6) (N := 28) hx hb hts hinW tyX6 tyX6_ok nmX6 hown hK hP hD hS 0 rfl rfl 26 (by decide) (hts _ tw_402) (fun _ h9 => h9) rfl (by decide +kernel) rfl rfl (Nat.le_of_ble_eq_true rfl) dX6_tell_103 (fun H locs hP hD hS => ?_)
    have hP : va_P D vwCl (bM k om mth tq to wc wl wb wk kk kf ku ec ew ea ed et ex cc ca cl ch uc ut ub ul uw (ed rr) (ac + 1) (upd (upd (upd (upd (upd as (ac * 5) t) ((ac * 5) + 1) b) ((ac * 5) + 2) r63) ((ac * 5) + 3) nn) ((ac * 5) + 4) (nI rr))) H := hP
    have hD : va_D A (bM k om mth tq to wc wl wb wk kk kf ku ec ew ea ed et ex cc ca cl ch uc ut ub ul uw (ed rr) (ac + 1) (upd (upd (upd (upd (upd as (ac * 5) t) ((ac * 5) + 1) b) ((ac * 5) + 2) r63) ((ac * 5) + 3) nn) ((ac * 5) + 4) (nI rr))) := hD
    refine xx_vret ((ed rr), ac + 1, (upd (upd (upd (upd (upd as (ac * 5) t) ((ac * 5) + 1) b) ((ac * 5) + 2) r63) ((ac * 5) + 3) nn) ((ac * 5) + 4) (nI rr))) hx hb hr hlocks hS hK hP hD dX6_tell_106 ?_
    exact ⟨rfl, Or.inr ⟨(by omega), r63, hw63, rfl⟩⟩
  · have c18 : ac = 200 := (nI_eq (by omega) (by omega)).mp c18
    refine xx_vret ((ed rr), ac, as) hx hb hr hlocks hS hK hP hD dX6_tell_21 ?_
    exact ⟨rfl, Or.inl ⟨(by omega), rfl⟩⟩
def p_M_levelFor (om : Nat → Nat) (mth : Int32) (tq : Int32) (to : Bool) (wc : Nat) (wl : Nat → Int32) (wb : Nat → Bool) (wk : Nat → Nat) (kk : Nat → Int64) (kf : Nat → Int64) (ku : Nat → Int64) (ec : Nat) (ew : Nat → Nat) (ea : Nat → Int64) (ed : Nat → Int64) (et : Nat → Int64) (ex : Nat → Bool) (cc : Nat) (ca : Nat → Int64) (cl : Nat → Int32) (ch : Nat → Int32) (uc : Nat) (ut : Nat → Int32) (ub : Nat → Int32) (ul : Nat → Int32) (uw : Nat → Int32) (tt : Int64) (ac : Nat) (as : Nat → Int32) (t : Int32) (b : Int32) : Int32 → Unit → Prop := fun r u => ∃ q, p_M_ruleOf om mth tq to wc wl wb wk kk kf ku ec ew ea ed et ex cc ca cl ch uc ut ub ul uw tt ac as t b q () ∧ ((q = (-1) ∧ r = nI 1) ∨ (∃ j, j < uc ∧ q = nI j ∧ r = ul j))
set_option maxHeartbeats 4000000 in
set_option maxRecDepth 100000 in
theorem c_M_levelFor (l : Launch) (D : va_G) (k : Nat → ClassId) (om : Nat → Nat) (mth : Int32) (tq : Int32) (to : Bool) (wc : Nat) (wl : Nat → Int32) (wb : Nat → Bool) (wk : Nat → Nat) (kk : Nat → Int64) (kf : Nat → Int64) (ku : Nat → Int64) (ec : Nat) (ew : Nat → Nat) (ea : Nat → Int64) (ed : Nat → Int64) (et : Nat → Int64) (ex : Nat → Bool) (cc : Nat) (ca : Nat → Int64) (cl : Nat → Int32) (ch : Nat → Int32) (uc : Nat) (ut : Nat → Int32) (ub : Nat → Int32) (ul : Nat → Int32) (uw : Nat → Int32) (tt : Int64) (ac : Nat) (as : Nat → Int32) (t : Int32) (b : Int32) (huc : uc ≤ 20) : xx_Ci l yX6_levelFor (.code yX6_levelFor cX6_levelFor 4 (some .int) :: xall) ({ frames := 2, cells := 0, slots := 0, locals := 50 } : Room) D vwCl (xT k) [.ref (om 0), .int t, .int b] (bM k om mth tq to wc wl wb wk kk kf ku ec ew ea ed et ex cc ca cl ch uc ut ub ul uw tt ac as) (p_M_levelFor om mth tq to wc wl wb wk kk kf ku ec ew ea ed et ex cc ca cl ch uc ut ub ul uw tt ac as t b) (fun (u : Unit) => bM k om mth tq to wc wl wb wk kk kf ku ec ew ea ed et ex cc ca cl ch uc ut ub ul uw tt ac as) 0 0 := by
  intro sz
  refine xx_met (Qf := fun A => va_Qi (p_M_levelFor om mth tq to wc wl wb wk kk kf ku ec ew ea ed et ex cc ca cl ch uc ut ub ul uw tt ac as t b) (xx_B D vwCl (xT k) A (fun (u : Unit) => bM k om mth tq to wc wl wb wk kk kf ku ec ew ea ed et ex cc ca cl ch uc ut ub ul uw tt ac as)) A) (cc := cX6_levelFor) (maxL := 4) (ret := (some .int)) (by decide) rfl (Nat.le_of_ble_eq_true rfl) ?_
  intro p e s m below meth c A ls hx hb hr hts hown hlocks hin hml hA hS hP hD hK hN hl
  have hl : lv_has ls 4 [(0, .ref (om 0)), (1, .int t), (2, .int b)] := hl
  have hown : s.vm.findClass RX6 = some m.cls := hown
  have hinW := inX6
  refine lv_aload_n hx hb dX6_levelFor_0 rfl (lv_at hl 0 rfl) ?_
  refine lv_iload_n hx hb dX6_levelFor_1 rfl (lv_at hl 1 rfl) ?_
  refine lv_iload_n hx hb dX6_levelFor_2 rfl (lv_at hl 2 rfl) ?_
  refine xx_calli ([]) [0, 1, 2, 3, 4, 5, 6, 7, 8, 9, 10, 11, 12, 13, 14, 15, 16, 17, 18, 19] [] (va_runV (As := [.int t, .int b]) (rest := []) ⟨hx, hb, hml, hown, hts⟩ (c_M_ruleOf l D k om mth tq to wc wl wb wk kk kf ku ec ew ea ed et ex cc ca cl ch uc ut ub ul uw tt ac as t b (by omega) s.heap.size) (cwV 2 hts (xx_gV tw_527 tw_529 ts_9 tw_8 tw_530) rfl rfl rfl (by decide +kernel) ⟨Nat.le_of_ble_eq_true rfl, Nat.le_of_ble_eq_true rfl⟩) (xx_preV hK hN hP hD [0, 1, 2, 3, 4, 5, 6, 7, 8, 9, 10, 11, 12, 13, 14, 15, 16, 17, 18, 19] (by decide) rfl 6 0 rfl rfl) rfl rfl hl.1 rfl (lv_room (Nat.le_of_ble_eq_true rfl)) dX6_levelFor_3 ⟨Nat.le_of_ble_eq_true rfl, Nat.le_of_ble_eq_true rfl⟩) hP hD hS hA rfl rfl (by decide) (by decide) (fun r3 u3 H locs hw3 hP hD hS => ?_)
  rcases hw3 with ⟨rfl, hq3⟩ | ⟨q3, rfl, hb3, ho3, hl3⟩
  · have hP : va_P D vwCl (bM k om mth tq to wc wl wb wk kk kf ku ec ew ea ed et ex cc ca cl ch uc ut ub ul uw tt ac as) H := hP
    have hD : va_D A (bM k om mth tq to wc wl wb wk kk kf ku ec ew ea ed et ex cc ca cl ch uc ut ub ul uw tt ac as) := hD
    refine lv_istore_n (lv' := [(3, .int (-1)), (0, .ref (om 0)), (1, .int t), (2, .int b)]) hx hb dX6_levelFor_6 rfl hl (by decide) rfl (fun ls hl => ?_)
    refine lv_iload_n hx hb dX6_levelFor_7 rfl (lv_at hl 0 rfl) ?_
    refine lv_iconst (v := (-1)) hx hb dX6_levelFor_8 (by decide) ?_
    refine lv_icmp_ne (tgt := 16) hx hb dX6_levelFor_9 (by decide) (fun c => absurd c (by decide)) (fun _ => ?_)
    refine lv_iconst (v := (nI 1)) hx hb dX6_levelFor_12 (by decide) ?_
    refine lv_goto (tgt := 22) hx hb dX6_levelFor_13 (by decide) ?_
    refine xx_iret () hx hb hr hlocks hS hK hP hD dX6_levelFor_22 ?_
    first | exact ⟨_, Or.inl ⟨rfl, hq3⟩, Or.inl ⟨rfl, rfl⟩⟩ | exact ⟨_, Or.inr ⟨q3, rfl, hb3, ho3, hl3⟩, Or.inr ⟨q3, hb3, rfl, rfl⟩⟩
  · have hP : va_P D vwCl (bM k om mth tq to wc wl wb wk kk kf ku ec ew ea ed et ex cc ca cl ch uc ut ub ul uw tt ac as) H := hP
    have hD : va_D A (bM k om mth tq to wc wl wb wk kk kf ku ec ew ea ed et ex cc ca cl ch uc ut ub ul uw tt ac as) := hD
    refine lv_istore_n (lv' := [(3, .int (nI q3)), (0, .ref (om 0)), (1, .int t), (2, .int b)]) hx hb dX6_levelFor_6 rfl hl (by decide) rfl (fun ls hl => ?_)
    refine lv_iload_n hx hb dX6_levelFor_7 rfl (lv_at hl 0 rfl) ?_
    refine lv_iconst (v := (-1)) hx hb dX6_levelFor_8 (by decide) ?_
    refine lv_icmp_ne (tgt := 16) hx hb dX6_levelFor_9 (by decide) (fun _ => ?_) (fun c => absurd c (xx_nm1 (by omega)))
    refine lv_aload_n hx hb dX6_levelFor_16 rfl (lv_at hl 1 rfl) ?_
    refine va_get (D := D) (ci := 6) (v := .ref (om 17)) (C := RX6) (T := TX6) (N := 28) hx hb hts hinW hown hK hP 0 rfl rfl 23 (by decide) (hts _ tw_399) (fun _ h9 => h9) rfl dX6_levelFor_17 ?_
    refine lv_iload_n hx hb dX6_levelFor_20 rfl (lv_at hl 0 rfl) ?_
    refine xx_iald hx hb hK hP 17 0 rfl rfl (show q3 < 20 by omega) (by decide) dX6_levelFor_21 ?_
    refine xx_iret () hx hb hr hlocks hS hK hP hD dX6_levelFor_22 ?_
    first | exact ⟨_, Or.inl ⟨rfl, hq3⟩, Or.inl ⟨rfl, rfl⟩⟩ | exact ⟨_, Or.inr ⟨q3, rfl, hb3, ho3, hl3⟩, Or.inr ⟨q3, hb3, rfl, rfl⟩⟩
def p_M_counted (om : Nat → Nat) (mth : Int32) (tq : Int32) (to : Bool) (wc : Nat) (wl : Nat → Int32) (wb : Nat → Bool) (wk : Nat → Nat) (kk : Nat → Int64) (kf : Nat → Int64) (ku : Nat → Int64) (ec : Nat) (ew : Nat → Nat) (ea : Nat → Int64) (ed : Nat → Int64) (et : Nat → Int64) (ex : Nat → Bool) (cc : Nat) (ca : Nat → Int64) (cl : Nat → Int32) (ch : Nat → Int32) (uc : Nat) (ut : Nat → Int32) (ub : Nat → Int32) (ul : Nat → Int32) (uw : Nat → Int32) (tt : Int64) (ac : Nat) (as : Nat → Int32) (a : Int64) (t : Int32) (b : Int32) (tm : Int64) : Int32 → Unit → Prop := fun r u => (r = (-1) ∧ ¬ (ixN 8 t ∧ ixN 8 b)) ∨ ((ixN 8 t ∧ ixN 8 b) ∧ ∃ lv, p_M_levelFor om (nI 0) tq to wc wl wb wk kk kf ku ec ew ea ed et ex cc ca cl ch uc ut ub ul uw tt ac as t b lv () ∧ r = nI (xcnt (fun w => xany (fun z => decide (ew z = w ∧ (ex z = false ∧ ea z = a ∧ ¬ (tm < et z) ∧ ¬ (wl (ew z) < lv)))) ec) wc))
set_option maxHeartbeats 4000000 in
set_option maxRecDepth 100000 in
theorem c_M_counted (l : Launch) (D : va_G) (k : Nat → ClassId) (om : Nat → Nat) (mth : Int32) (tq : Int32) (to : Bool) (wc : Nat) (wl : Nat → Int32) (wb : Nat → Bool) (wk : Nat → Nat) (kk : Nat → Int64) (kf : Nat → Int64) (ku : Nat → Int64) (ec : Nat) (ew : Nat → Nat) (ea : Nat → Int64) (ed : Nat → Int64) (et : Nat → Int64) (ex : Nat → Bool) (cc : Nat) (ca : Nat → Int64) (cl : Nat → Int32) (ch : Nat → Int32) (uc : Nat) (ut : Nat → Int32) (ub : Nat → Int32) (ul : Nat → Int32) (uw : Nat → Int32) (tt : Int64) (ac : Nat) (as : Nat → Int32) (a : Int64) (t : Int32) (b : Int32) (tm : Int64) (hwc : wc ≤ 12) (hec : ec ≤ 100) (hew : ∀ i, ew i < 12) (huc : uc ≤ 20) : xx_Ci l yX6_counted (.code yX6_counted cX6_counted 7 (some .int) :: xall) ({ frames := 3, cells := 0, slots := 0, locals := 73 } : Room) D vwCl (xT k) [.ref (om 0), .long a, .int t, .int b, .long tm] (bM k om mth tq to wc wl wb wk kk kf ku ec ew ea ed et ex cc ca cl ch uc ut ub ul uw tt ac as) (p_M_counted om mth tq to wc wl wb wk kk kf ku ec ew ea ed et ex cc ca cl ch uc ut ub ul uw tt ac as a t b tm) (fun (u : Unit) => bM k om (nI 0) tq to wc wl wb wk kk kf ku ec ew ea ed et ex cc ca cl ch uc ut ub ul uw tt ac as) 0 0 := by
  intro sz
  refine xx_met (Qf := fun A => va_Qi (p_M_counted om mth tq to wc wl wb wk kk kf ku ec ew ea ed et ex cc ca cl ch uc ut ub ul uw tt ac as a t b tm) (xx_B D vwCl (xT k) A (fun (u : Unit) => bM k om (nI 0) tq to wc wl wb wk kk kf ku ec ew ea ed et ex cc ca cl ch uc ut ub ul uw tt ac as)) A) (cc := cX6_counted) (maxL := 7) (ret := (some .int)) (by decide) rfl (Nat.le_of_ble_eq_true rfl) ?_
  intro p e s m below meth c A ls hx hb hr hts hown hlocks hin hml hA hS hP hD hK hN hl
  have hl : lv_has ls 7 [(0, .ref (om 0)), (1, .long a), (3, .int t), (4, .int b), (5, .long tm)] := hl
  have hown : s.vm.findClass RX6 = some m.cls := hown
  have hinW := inX6
  refine lv_aload_n hx hb dX6_counted_0 rfl (lv_at hl 0 rfl) ?_
  refine lv_iconst (v := (nI 0)) hx hb dX6_counted_1 (by decide) ?_
  refine va_put (D := D) (ci := 6) (v := .int (nI 0)) (ty := .int) (C := RX6) (T := TX6) (N := 28) hx hb hts hinW tyX6 tyX6_ok nmX6 hown hK hP hD hS 0 rfl rfl 0 (by decide) (hts _ tw_376) (fun _ h9 => h9) rfl (by decide +kernel) rfl rfl (Nat.le_of_ble_eq_true rfl) dX6_counted_2 (fun H locs hP hD hS => ?_)
  have hP : va_P D vwCl (bM k om (nI 0) tq to wc wl wb wk kk kf ku ec ew ea ed et ex cc ca cl ch uc ut ub ul uw tt ac as) H := hP
  have hD : va_D A (bM k om (nI 0) tq to wc wl wb wk kk kf ku ec ew ea ed et ex cc ca cl ch uc ut ub ul uw tt ac as) := hD
  refine lv_iload_n hx hb dX6_counted_5 rfl (lv_at hl 2 rfl) ?_
  refine lv_iload hx hb dX6_counted_6 (lv_at hl 3 rfl) ?_
  refine xx_calli (bM k om (nI 0) tq to wc wl wb wk kk kf ku ec ew ea ed et ex cc ca cl ch uc ut ub ul uw tt ac as) [] [0, 1, 2, 3, 4, 5, 6, 7, 8, 9, 10, 11, 12, 13, 14, 15, 16, 17, 18, 19] (va_runS (As := [.int t, .int b]) (rest := []) ⟨hx, hb, hml, hown, hts⟩ (c_M_isPlace l D k t b H.size) (va_cwS 2 hts (xx_gS tw_524 tw_525 tw_8 tw_526) rfl rfl rfl (by decide +kernel) ⟨Nat.le_of_ble_eq_true rfl, Nat.le_of_ble_eq_true rfl⟩) (xx_preS hK hN hP hD [] (by decide) rfl) rfl rfl hl.1 rfl (lv_room (Nat.le_of_ble_eq_true rfl)) dX6_counted_8 ⟨Nat.le_of_ble_eq_true rfl, Nat.le_of_ble_eq_true rfl⟩) hP hD hS hA rfl rfl (by decide) (by decide) (fun r8 u8 H locs hw8 hP hD hS => ?_)
  rcases hw8 with ⟨rfl, hq8⟩ | ⟨rfl, hq8⟩
  · have hP : va_P D vwCl (bM k om (nI 0) tq to wc wl wb wk kk kf ku ec ew ea ed et ex cc ca cl ch uc ut ub ul uw tt ac as) H := hP
    have hD : va_D A (bM k om (nI 0) tq to wc wl wb wk kk kf ku ec ew ea ed et ex cc ca cl ch uc ut ub ul uw tt ac as) := hD
    refine lv_if_eq (tgt := 31) hx hb dX6_counted_11 (by decide) (fun c => absurd c (by decide)) (fun _ => ?_)
    refine lv_aload_n hx hb dX6_counted_14 rfl (lv_at hl 0 rfl) ?_
    refine lv_lload_n hx hb dX6_counted_15 rfl (lv_at hl 1 rfl) ?_
    refine lv_aload_n hx hb dX6_counted_16 rfl (lv_at hl 0 rfl) ?_
    refine lv_iload_n hx hb dX6_counted_17 rfl (lv_at hl 2 rfl) ?_
    refine lv_iload hx hb dX6_counted_18 (lv_at hl 3 rfl) ?_
    refine xx_calli ([]) [0, 1, 2, 3, 4, 5, 6, 7, 8, 9, 10, 11, 12, 13, 14, 15, 16, 17, 18, 19] [] (va_runV (As := [.int t, .int b]) (rest := [.long a, .ref (om 0)]) ⟨hx, hb, hml, hown, hts⟩ (c_M_levelFor l D k om (nI 0) tq to wc wl wb wk kk kf ku ec ew ea ed et ex cc ca cl ch uc ut ub ul uw tt ac as t b (by omega) H.size) (cwV 2 hts (xx_gV tw_551 tw_553 ts_13 tw_8 tw_554) rfl rfl rfl (by decide +kernel) ⟨Nat.le_of_ble_eq_true rfl, Nat.le_of_ble_eq_true rfl⟩) (xx_preV hK hN hP hD [0, 1, 2, 3, 4, 5, 6, 7, 8, 9, 10, 11, 12, 13, 14, 15, 16, 17, 18, 19] (by decide) rfl 6 0 rfl rfl) rfl rfl hl.1 rfl (lv_room (Nat.le_of_ble_eq_true rfl)) dX6_counted_20 ⟨Nat.le_of_ble_eq_true rfl, Nat.le_of_ble_eq_true rfl⟩) hP hD hS hA rfl rfl (by decide) (by decide) (fun r20 u20 H locs hw20 hP hD hS => ?_)
    have hP : va_P D vwCl (bM k om (nI 0) tq to wc wl wb wk kk kf ku ec ew ea ed et ex cc ca cl ch uc ut ub ul uw tt ac as) H := hP
    have hD : va_D A (bM k om (nI 0) tq to wc wl wb wk kk kf ku ec ew ea ed et ex cc ca cl ch uc ut ub ul uw tt ac as) := hD
    refine lv_lload hx hb dX6_counted_23 (lv_at hl 4 rfl) ?_
    refine xx_calli ([]) [0, 1, 2, 3, 4, 5, 6, 7, 8, 9, 10, 11, 12, 13, 14, 15, 16, 17, 18, 19] [] (va_runV (As := [.long a, .int r20, .long tm]) (rest := []) ⟨hx, hb, hml, hown, hts⟩ (c_M_many l D k om (nI 0) tq to wc wl wb wk kk kf ku ec ew ea ed et ex cc ca cl ch uc ut ub ul uw tt ac as a r20 tm hwc hec hew H.size) (cwV 3 hts (xx_gV tw_555 tw_557 ts_14 tw_8 tw_558) rfl rfl rfl (by decide +kernel) ⟨Nat.le_of_ble_eq_true rfl, Nat.le_of_ble_eq_true rfl⟩) (xx_preV hK hN hP hD [0, 1, 2, 3, 4, 5, 6, 7, 8, 9, 10, 11, 12, 13, 14, 15, 16, 17, 18, 19] (by decide) rfl 6 0 rfl rfl) rfl rfl hl.1 rfl (lv_room (Nat.le_of_ble_eq_true rfl)) dX6_counted_25 ⟨Nat.le_of_ble_eq_true rfl, Nat.le_of_ble_eq_true rfl⟩) hP hD hS hA rfl rfl (by decide) (by decide) (fun r25 u25 H locs hw25 hP hD hS => ?_)
    obtain rfl := hw25
    have hP : va_P D vwCl (bM k om (nI 0) tq to wc wl wb wk kk kf ku ec ew ea ed et ex cc ca cl ch uc ut ub ul uw tt ac as) H := hP
    have hD : va_D A (bM k om (nI 0) tq to wc wl wb wk kk kf ku ec ew ea ed et ex cc ca cl ch uc ut ub ul uw tt ac as) := hD
    refine lv_goto (tgt := 32) hx hb dX6_counted_28 (by decide) ?_
    refine xx_iret () hx hb hr hlocks hS hK hP hD dX6_counted_32 ?_
    first | exact Or.inl ⟨rfl, hq8⟩ | exact Or.inr ⟨hq8, r20, hw20, rfl⟩
  · have hP : va_P D vwCl (bM k om (nI 0) tq to wc wl wb wk kk kf ku ec ew ea ed et ex cc ca cl ch uc ut ub ul uw tt ac as) H := hP
    have hD : va_D A (bM k om (nI 0) tq to wc wl wb wk kk kf ku ec ew ea ed et ex cc ca cl ch uc ut ub ul uw tt ac as) := hD
    refine lv_if_eq (tgt := 31) hx hb dX6_counted_11 (by decide) (fun _ => ?_) (fun c => absurd c (by decide))
    refine lv_iconst (v := (-1)) hx hb dX6_counted_31 (by decide) ?_
    refine xx_iret () hx hb hr hlocks hS hK hP hD dX6_counted_32 ?_
    first | exact Or.inl ⟨rfl, hq8⟩ | exact Or.inr ⟨hq8, r20, hw20, rfl⟩
def p_M_clash (om : Nat → Nat) (mth : Int32) (tq : Int32) (to : Bool) (wc : Nat) (wl : Nat → Int32) (wb : Nat → Bool) (wk : Nat → Nat) (kk : Nat → Int64) (kf : Nat → Int64) (ku : Nat → Int64) (ec : Nat) (ew : Nat → Nat) (ea : Nat → Int64) (ed : Nat → Int64) (et : Nat → Int64) (ex : Nat → Bool) (cc : Nat) (ca : Nat → Int64) (cl : Nat → Int32) (ch : Nat → Int32) (uc : Nat) (ut : Nat → Int32) (ub : Nat → Int32) (ul : Nat → Int32) (uw : Nat → Int32) (tt : Int64) (ac : Nat) (as : Nat → Int32) (x : Int32) (y : Int32) : Int32 → Unit → Prop := fun r u => (r = (-1) ∧ ¬ (ixN cc x ∧ (y = 0 ∨ y = 1))) ∨ (∃ j, j < cc ∧ x = nI j ∧ ((y = 0 ∧ r = cl j) ∨ (y = 1 ∧ r = ch j)))
set_option maxHeartbeats 4000000 in
set_option maxRecDepth 100000 in
theorem c_M_clash (l : Launch) (D : va_G) (k : Nat → ClassId) (om : Nat → Nat) (mth : Int32) (tq : Int32) (to : Bool) (wc : Nat) (wl : Nat → Int32) (wb : Nat → Bool) (wk : Nat → Nat) (kk : Nat → Int64) (kf : Nat → Int64) (ku : Nat → Int64) (ec : Nat) (ew : Nat → Nat) (ea : Nat → Int64) (ed : Nat → Int64) (et : Nat → Int64) (ex : Nat → Bool) (cc : Nat) (ca : Nat → Int64) (cl : Nat → Int32) (ch : Nat → Int32) (uc : Nat) (ut : Nat → Int32) (ub : Nat → Int32) (ul : Nat → Int32) (uw : Nat → Int32) (tt : Int64) (ac : Nat) (as : Nat → Int32) (x : Int32) (y : Int32) (hcc : cc ≤ 50) : xx_Ci l yX6_clash (.code yX6_clash cX6_clash 3 (some .int) :: xall) ({ frames := 1, cells := 0, slots := 0, locals := 22 } : Room) D vwCl (xT k) [.ref (om 0), .int x, .int y] (bM k om mth tq to wc wl wb wk kk kf ku ec ew ea ed et ex cc ca cl ch uc ut ub ul uw tt ac as) (p_M_clash om mth tq to wc wl wb wk kk kf ku ec ew ea ed et ex cc ca cl ch uc ut ub ul uw tt ac as x y) (fun (u : Unit) => bM k om (nI 0) tq to wc wl wb wk kk kf ku ec ew ea ed et ex cc ca cl ch uc ut ub ul uw tt ac as) 0 0 := by
  intro sz
  refine xx_met (Qf := fun A => va_Qi (p_M_clash om mth tq to wc wl wb wk kk kf ku ec ew ea ed et ex cc ca cl ch uc ut ub ul uw tt ac as x y) (xx_B D vwCl (xT k) A (fun (u : Unit) => bM k om (nI 0) tq to wc wl wb wk kk kf ku ec ew ea ed et ex cc ca cl ch uc ut ub ul uw tt ac as)) A) (cc := cX6_clash) (maxL := 3) (ret := (some .int)) (by decide) rfl (Nat.le_of_ble_eq_true rfl) ?_
  intro p e s m below meth c A ls hx hb hr hts hown hlocks hin hml hA hS hP hD hK hN hl
  have hl : lv_has ls 3 [(0, .ref (om 0)), (1, .int x), (2, .int y)] := hl
  have hown : s.vm.findClass RX6 = some m.cls := hown
  have hinW := inX6
  refine lv_aload_n hx hb dX6_clash_0 rfl (lv_at hl 0 rfl) ?_
  refine lv_iconst (v := (nI 0)) hx hb dX6_clash_1 (by decide) ?_
  refine va_put (D := D) (ci := 6) (v := .int (nI 0)) (ty := .int) (C := RX6) (T := TX6) (N := 28) hx hb hts hinW tyX6 tyX6_ok nmX6 hown hK hP hD hS 0 rfl rfl 0 (by decide) (hts _ tw_376) (fun _ h9 => h9) rfl (by decide +kernel) rfl rfl (Nat.le_of_ble_eq_true rfl) dX6_clash_2 (fun H locs hP hD hS => ?_)
  have hP : va_P D vwCl (bM k om (nI 0) tq to wc wl wb wk kk kf ku ec ew ea ed et ex cc ca cl ch uc ut ub ul uw tt ac as) H := hP
  have hD : va_D A (bM k om (nI 0) tq to wc wl wb wk kk kf ku ec ew ea ed et ex cc ca cl ch uc ut ub ul uw tt ac as) := hD
  refine lv_iload_n hx hb dX6_clash_5 rfl (lv_at hl 1 rfl) ?_
  refine lv_if_lt (tgt := 26) hx hb dX6_clash_6 (by decide) (fun c6 => ?_) (fun c6 => ?_)
  · refine lv_iconst (v := (-1)) hx hb dX6_clash_26 (by decide) ?_
    refine xx_iret () hx hb hr hlocks hS hK hP hD dX6_clash_27 ?_
    first | exact Or.inl ⟨rfl, fun h => xx_nix (by omega) (Or.inl c6) h.1⟩ | exact Or.inl ⟨rfl, fun h => xx_nix (by omega) (Or.inr c14) h.1⟩ | exact Or.inl ⟨rfl, fun h => hq20 (xx_in01.mpr h.2)⟩
  · refine lv_iload_n hx hb dX6_clash_9 rfl (lv_at hl 1 rfl) ?_
    refine lv_aload_n hx hb dX6_clash_10 rfl (lv_at hl 0 rfl) ?_
    refine va_get (D := D) (ci := 6) (v := .int (nI cc)) (C := RX6) (T := TX6) (N := 28) hx hb hts hinW hown hK hP 0 rfl rfl 16 (by decide) (hts _ tw_392) (fun _ h9 => h9) rfl dX6_clash_11 ?_
    refine lv_icmp_ge (tgt := 26) hx hb dX6_clash_14 (by decide) (fun c14 => ?_) (fun c14 => ?_)
    · refine lv_iconst (v := (-1)) hx hb dX6_clash_26 (by decide) ?_
      refine xx_iret () hx hb hr hlocks hS hK hP hD dX6_clash_27 ?_
      first | exact Or.inl ⟨rfl, fun h => xx_nix (by omega) (Or.inl c6) h.1⟩ | exact Or.inl ⟨rfl, fun h => xx_nix (by omega) (Or.inr c14) h.1⟩ | exact Or.inl ⟨rfl, fun h => hq20 (xx_in01.mpr h.2)⟩
    · refine lv_iload_n hx hb dX6_clash_17 rfl (lv_at hl 2 rfl) ?_
      refine lv_iconst (v := (nI 0)) hx hb dX6_clash_18 (by decide) ?_
      refine lv_iconst (v := (nI 1)) hx hb dX6_clash_19 (by decide) ?_
      refine xx_calli (bM k om (nI 0) tq to wc wl wb wk kk kf ku ec ew ea ed et ex cc ca cl ch uc ut ub ul uw tt ac as) [] [0, 1, 2, 3, 4, 5, 6, 7, 8, 9, 10, 11, 12, 13, 14, 15, 16, 17, 18, 19] (va_runS (As := [.int y, .int (nI 0), .int (nI 1)]) (rest := []) ⟨hx, hb, hml, hown, hts⟩ (c_M_in l D k y (nI 0) (nI 1) H.size) (va_cwS 3 hts (xx_gS tw_465 tw_466 tw_8 tw_467) rfl rfl rfl (by decide +kernel) ⟨Nat.le_of_ble_eq_true rfl, Nat.le_of_ble_eq_true rfl⟩) (xx_preS hK hN hP hD [] (by decide) rfl) rfl rfl hl.1 rfl (lv_room (Nat.le_of_ble_eq_true rfl)) dX6_clash_20 ⟨Nat.le_of_ble_eq_true rfl, Nat.le_of_ble_eq_true rfl⟩) hP hD hS hA rfl rfl (by decide) (by decide) (fun r20 u20 H locs hw20 hP hD hS => ?_)
      rcases hw20 with ⟨rfl, hq20⟩ | ⟨rfl, hq20⟩
      · have hP : va_P D vwCl (bM k om (nI 0) tq to wc wl wb wk kk kf ku ec ew ea ed et ex cc ca cl ch uc ut ub ul uw tt ac as) H := hP
        have hD : va_D A (bM k om (nI 0) tq to wc wl wb wk kk kf ku ec ew ea ed et ex cc ca cl ch uc ut ub ul uw tt ac as) := hD
        refine lv_if_ne (tgt := 28) hx hb dX6_clash_23 (by decide) (fun _ => ?_) (fun c => absurd c (by decide))
        obtain ⟨j, hj, hxj⟩ := xx_ix (n := cc) (by omega) c6 c14
        subst hxj
        refine lv_iload_n hx hb dX6_clash_28 rfl (lv_at hl 2 rfl) ?_
        refine lv_if_ne (tgt := 41) hx hb dX6_clash_29 (by decide) (fun c29 => ?_) (fun c29 => ?_)
        · refine lv_aload_n hx hb dX6_clash_41 rfl (lv_at hl 0 rfl) ?_
          refine va_get (D := D) (ci := 6) (v := .ref (om 14)) (C := RX6) (T := TX6) (N := 28) hx hb hts hinW hown hK hP 0 rfl rfl 19 (by decide) (hts _ tw_395) (fun _ h9 => h9) rfl dX6_clash_42 ?_
          refine lv_iload_n hx hb dX6_clash_45 rfl (lv_at hl 1 rfl) ?_
          refine xx_iald hx hb hK hP 14 0 rfl rfl (show j < 100 by omega) (by decide) dX6_clash_46 ?_
          refine xx_iret () hx hb hr hlocks hS hK hP hD dX6_clash_47 ?_
          first | exact Or.inr ⟨j, hj, rfl, Or.inl ⟨c29, rfl⟩⟩ | exact Or.inr ⟨j, hj, rfl, Or.inr ⟨(xx_in01.mp hq20).resolve_left c29, rfl⟩⟩
        · refine lv_aload_n hx hb dX6_clash_32 rfl (lv_at hl 0 rfl) ?_
          refine va_get (D := D) (ci := 6) (v := .ref (om 13)) (C := RX6) (T := TX6) (N := 28) hx hb hts hinW hown hK hP 0 rfl rfl 18 (by decide) (hts _ tw_394) (fun _ h9 => h9) rfl dX6_clash_33 ?_
          refine lv_iload_n hx hb dX6_clash_36 rfl (lv_at hl 1 rfl) ?_
          refine xx_iald hx hb hK hP 13 0 rfl rfl (show j < 100 by omega) (by decide) dX6_clash_37 ?_
          refine lv_goto (tgt := 47) hx hb dX6_clash_38 (by decide) ?_
          refine xx_iret () hx hb hr hlocks hS hK hP hD dX6_clash_47 ?_
          first | exact Or.inr ⟨j, hj, rfl, Or.inl ⟨c29, rfl⟩⟩ | exact Or.inr ⟨j, hj, rfl, Or.inr ⟨(xx_in01.mp hq20).resolve_left c29, rfl⟩⟩
      · have hP : va_P D vwCl (bM k om (nI 0) tq to wc wl wb wk kk kf ku ec ew ea ed et ex cc ca cl ch uc ut ub ul uw tt ac as) H := hP
        have hD : va_D A (bM k om (nI 0) tq to wc wl wb wk kk kf ku ec ew ea ed et ex cc ca cl ch uc ut ub ul uw tt ac as) := hD
        refine lv_if_ne (tgt := 28) hx hb dX6_clash_23 (by decide) (fun c => absurd c (by decide)) (fun _ => ?_)
        refine lv_iconst (v := (-1)) hx hb dX6_clash_26 (by decide) ?_
        refine xx_iret () hx hb hr hlocks hS hK hP hD dX6_clash_27 ?_
        first | exact Or.inl ⟨rfl, fun h => xx_nix (by omega) (Or.inl c6) h.1⟩ | exact Or.inl ⟨rfl, fun h => xx_nix (by omega) (Or.inr c14) h.1⟩ | exact Or.inl ⟨rfl, fun h => hq20 (xx_in01.mpr h.2)⟩
def p_M_audit (om : Nat → Nat) (mth : Int32) (tq : Int32) (to : Bool) (wc : Nat) (wl : Nat → Int32) (wb : Nat → Bool) (wk : Nat → Nat) (kk : Nat → Int64) (kf : Nat → Int64) (ku : Nat → Int64) (ec : Nat) (ew : Nat → Nat) (ea : Nat → Int64) (ed : Nat → Int64) (et : Nat → Int64) (ex : Nat → Bool) (cc : Nat) (ca : Nat → Int64) (cl : Nat → Int32) (ch : Nat → Int32) (uc : Nat) (ut : Nat → Int32) (ub : Nat → Int32) (ul : Nat → Int32) (uw : Nat → Int32) (tt : Int64) (ac : Nat) (as : Nat → Int32) (x : Int32) (y : Int32) : Int32 → Unit → Prop := fun r u => (r = (-1) ∧ ¬ (ixN ac x ∧ ixN 5 y)) ∨ (∃ j i, j < ac ∧ i < 5 ∧ x = nI j ∧ y = nI i ∧ r = as (j * 5 + i))
set_option maxHeartbeats 4000000 in
set_option maxRecDepth 100000 in
theorem c_M_audit (l : Launch) (D : va_G) (k : Nat → ClassId) (om : Nat → Nat) (mth : Int32) (tq : Int32) (to : Bool) (wc : Nat) (wl : Nat → Int32) (wb : Nat → Bool) (wk : Nat → Nat) (kk : Nat → Int64) (kf : Nat → Int64) (ku : Nat → Int64) (ec : Nat) (ew : Nat → Nat) (ea : Nat → Int64) (ed : Nat → Int64) (et : Nat → Int64) (ex : Nat → Bool) (cc : Nat) (ca : Nat → Int64) (cl : Nat → Int32) (ch : Nat → Int32) (uc : Nat) (ut : Nat → Int32) (ub : Nat → Int32) (ul : Nat → Int32) (uw : Nat → Int32) (tt : Int64) (ac : Nat) (as : Nat → Int32) (x : Int32) (y : Int32) (hac : ac ≤ 200) : xx_Ci l yX6_audit (.code yX6_audit cX6_audit 3 (some .int) :: xall) ({ frames := 1, cells := 0, slots := 0, locals := 22 } : Room) D vwCl (xT k) [.ref (om 0), .int x, .int y] (bM k om mth tq to wc wl wb wk kk kf ku ec ew ea ed et ex cc ca cl ch uc ut ub ul uw tt ac as) (p_M_audit om mth tq to wc wl wb wk kk kf ku ec ew ea ed et ex cc ca cl ch uc ut ub ul uw tt ac as x y) (fun (u : Unit) => bM k om (nI 0) tq to wc wl wb wk kk kf ku ec ew ea ed et ex cc ca cl ch uc ut ub ul uw tt ac as) 0 0 := by
  intro sz
  refine xx_met (Qf := fun A => va_Qi (p_M_audit om mth tq to wc wl wb wk kk kf ku ec ew ea ed et ex cc ca cl ch uc ut ub ul uw tt ac as x y) (xx_B D vwCl (xT k) A (fun (u : Unit) => bM k om (nI 0) tq to wc wl wb wk kk kf ku ec ew ea ed et ex cc ca cl ch uc ut ub ul uw tt ac as)) A) (cc := cX6_audit) (maxL := 3) (ret := (some .int)) (by decide) rfl (Nat.le_of_ble_eq_true rfl) ?_
  intro p e s m below meth c A ls hx hb hr hts hown hlocks hin hml hA hS hP hD hK hN hl
  have hl : lv_has ls 3 [(0, .ref (om 0)), (1, .int x), (2, .int y)] := hl
  have hown : s.vm.findClass RX6 = some m.cls := hown
  have hinW := inX6
  refine lv_aload_n hx hb dX6_audit_0 rfl (lv_at hl 0 rfl) ?_
  refine lv_iconst (v := (nI 0)) hx hb dX6_audit_1 (by decide) ?_
  refine va_put (D := D) (ci := 6) (v := .int (nI 0)) (ty := .int) (C := RX6) (T := TX6) (N := 28) hx hb hts hinW tyX6 tyX6_ok nmX6 hown hK hP hD hS 0 rfl rfl 0 (by decide) (hts _ tw_376) (fun _ h9 => h9) rfl (by decide +kernel) rfl rfl (Nat.le_of_ble_eq_true rfl) dX6_audit_2 (fun H locs hP hD hS => ?_)
  have hP : va_P D vwCl (bM k om (nI 0) tq to wc wl wb wk kk kf ku ec ew ea ed et ex cc ca cl ch uc ut ub ul uw tt ac as) H := hP
  have hD : va_D A (bM k om (nI 0) tq to wc wl wb wk kk kf ku ec ew ea ed et ex cc ca cl ch uc ut ub ul uw tt ac as) := hD
  refine lv_iload_n hx hb dX6_audit_5 rfl (lv_at hl 1 rfl) ?_
  refine lv_if_lt (tgt := 26) hx hb dX6_audit_6 (by decide) (fun c6 => ?_) (fun c6 => ?_)
  · refine lv_iconst (v := (-1)) hx hb dX6_audit_26 (by decide) ?_
    refine lv_goto (tgt := 40) hx hb dX6_audit_27 (by decide) ?_
    refine xx_iret () hx hb hr hlocks hS hK hP hD dX6_audit_40 ?_
    first | exact Or.inl ⟨rfl, fun h => xx_nix (by omega) (Or.inl c6) h.1⟩ | exact Or.inl ⟨rfl, fun h => xx_nix (by omega) (Or.inr c14) h.1⟩ | exact Or.inl ⟨rfl, fun h => hq20 ((xx_inN (n := 4) (by decide)).mpr h.2)⟩ | exact Or.inr ⟨j, i, hj, hi, rfl, rfl, rfl⟩
  · refine lv_iload_n hx hb dX6_audit_9 rfl (lv_at hl 1 rfl) ?_
    refine lv_aload_n hx hb dX6_audit_10 rfl (lv_at hl 0 rfl) ?_
    refine va_get (D := D) (ci := 6) (v := .int (nI ac)) (C := RX6) (T := TX6) (N := 28) hx hb hts hinW hown hK hP 0 rfl rfl 26 (by decide) (hts _ tw_402) (fun _ h9 => h9) rfl dX6_audit_11 ?_
    refine lv_icmp_ge (tgt := 26) hx hb dX6_audit_14 (by decide) (fun c14 => ?_) (fun c14 => ?_)
    · refine lv_iconst (v := (-1)) hx hb dX6_audit_26 (by decide) ?_
      refine lv_goto (tgt := 40) hx hb dX6_audit_27 (by decide) ?_
      refine xx_iret () hx hb hr hlocks hS hK hP hD dX6_audit_40 ?_
      first | exact Or.inl ⟨rfl, fun h => xx_nix (by omega) (Or.inl c6) h.1⟩ | exact Or.inl ⟨rfl, fun h => xx_nix (by omega) (Or.inr c14) h.1⟩ | exact Or.inl ⟨rfl, fun h => hq20 ((xx_inN (n := 4) (by decide)).mpr h.2)⟩ | exact Or.inr ⟨j, i, hj, hi, rfl, rfl, rfl⟩
    · refine lv_iload_n hx hb dX6_audit_17 rfl (lv_at hl 2 rfl) ?_
      refine lv_iconst (v := (nI 0)) hx hb dX6_audit_18 (by decide) ?_
      refine lv_iconst (v := (nI 4)) hx hb dX6_audit_19 (by decide) ?_
      refine xx_calli (bM k om (nI 0) tq to wc wl wb wk kk kf ku ec ew ea ed et ex cc ca cl ch uc ut ub ul uw tt ac as) [] [0, 1, 2, 3, 4, 5, 6, 7, 8, 9, 10, 11, 12, 13, 14, 15, 16, 17, 18, 19] (va_runS (As := [.int y, .int (nI 0), .int (nI 4)]) (rest := []) ⟨hx, hb, hml, hown, hts⟩ (c_M_in l D k y (nI 0) (nI 4) H.size) (va_cwS 3 hts (xx_gS tw_465 tw_466 tw_8 tw_467) rfl rfl rfl (by decide +kernel) ⟨Nat.le_of_ble_eq_true rfl, Nat.le_of_ble_eq_true rfl⟩) (xx_preS hK hN hP hD [] (by decide) rfl) rfl rfl hl.1 rfl (lv_room (Nat.le_of_ble_eq_true rfl)) dX6_audit_20 ⟨Nat.le_of_ble_eq_true rfl, Nat.le_of_ble_eq_true rfl⟩) hP hD hS hA rfl rfl (by decide) (by decide) (fun r20 u20 H locs hw20 hP hD hS => ?_)
      rcases hw20 with ⟨rfl, hq20⟩ | ⟨rfl, hq20⟩
      · have hP : va_P D vwCl (bM k om (nI 0) tq to wc wl wb wk kk kf ku ec ew ea ed et ex cc ca cl ch uc ut ub ul uw tt ac as) H := hP
        have hD : va_D A (bM k om (nI 0) tq to wc wl wb wk kk kf ku ec ew ea ed et ex cc ca cl ch uc ut ub ul uw tt ac as) := hD
        refine lv_if_ne (tgt := 30) hx hb dX6_audit_23 (by decide) (fun _ => ?_) (fun c => absurd c (by decide))
        obtain ⟨j, hj, hxj⟩ := xx_ix (n := ac) (by omega) c6 c14
        subst hxj
        obtain ⟨i, hi, hxi⟩ := (xx_inN (n := 4) (by decide)).mp hq20
        subst hxi
        refine lv_aload_n hx hb dX6_audit_30 rfl (lv_at hl 0 rfl) ?_
        refine va_get (D := D) (ci := 6) (v := .ref (om 19)) (C := RX6) (T := TX6) (N := 28) hx hb hts hinW hown hK hP 0 rfl rfl 27 (by decide) (hts _ tw_403) (fun _ h9 => h9) rfl dX6_audit_31 ?_
        refine lv_iconst (v := (nI 5)) hx hb dX6_audit_34 (by decide) ?_
        refine lv_iload_n hx hb dX6_audit_35 rfl (lv_at hl 1 rfl) ?_
        refine lv_imul hx hb dX6_audit_36 ?_
        refine xx_topi (xx_mulc 5 j) ?_
        refine lv_iload_n hx hb dX6_audit_37 rfl (lv_at hl 2 rfl) ?_
        refine lv_iadd hx hb dX6_audit_38 ?_
        refine xx_topi (nI_add (j * 5) i) ?_
        refine xx_iald hx hb hK hP 19 0 rfl rfl (show (j * 5) + i < 1000 by omega) (by decide) dX6_audit_39 ?_
        refine xx_iret () hx hb hr hlocks hS hK hP hD dX6_audit_40 ?_
        first | exact Or.inl ⟨rfl, fun h => xx_nix (by omega) (Or.inl c6) h.1⟩ | exact Or.inl ⟨rfl, fun h => xx_nix (by omega) (Or.inr c14) h.1⟩ | exact Or.inl ⟨rfl, fun h => hq20 ((xx_inN (n := 4) (by decide)).mpr h.2)⟩ | exact Or.inr ⟨j, i, hj, hi, rfl, rfl, rfl⟩
      · have hP : va_P D vwCl (bM k om (nI 0) tq to wc wl wb wk kk kf ku ec ew ea ed et ex cc ca cl ch uc ut ub ul uw tt ac as) H := hP
        have hD : va_D A (bM k om (nI 0) tq to wc wl wb wk kk kf ku ec ew ea ed et ex cc ca cl ch uc ut ub ul uw tt ac as) := hD
        refine lv_if_ne (tgt := 30) hx hb dX6_audit_23 (by decide) (fun c => absurd c (by decide)) (fun _ => ?_)
        refine lv_iconst (v := (-1)) hx hb dX6_audit_26 (by decide) ?_
        refine lv_goto (tgt := 40) hx hb dX6_audit_27 (by decide) ?_
        refine xx_iret () hx hb hr hlocks hS hK hP hD dX6_audit_40 ?_
        first | exact Or.inl ⟨rfl, fun h => xx_nix (by omega) (Or.inl c6) h.1⟩ | exact Or.inl ⟨rfl, fun h => xx_nix (by omega) (Or.inr c14) h.1⟩ | exact Or.inl ⟨rfl, fun h => hq20 ((xx_inN (n := 4) (by decide)).mpr h.2)⟩ | exact Or.inr ⟨j, i, hj, hi, rfl, rfl, rfl⟩
