theorem dX2_isStanding_0 : decode cX2_isStanding 0 = .ok (.iload_n 1, 1) := by decide +kernel
theorem dX2_isStanding_1 : decode cX2_isStanding 1 = .ok (.ifCond .lt 24, 3) := by decide +kernel
theorem dX2_isStanding_4 : decode cX2_isStanding 4 = .ok (.iload_n 1, 1) := by decide +kernel
theorem dX2_isStanding_5 : decode cX2_isStanding 5 = .ok (.aload_n 0, 1) := by decide +kernel
theorem dX2_isStanding_6 : decode cX2_isStanding 6 = .ok (.getfield 32, 3) := by decide +kernel
theorem dX2_isStanding_9 : decode cX2_isStanding 9 = .ok (.if_icmp .ge 16, 3) := by decide +kernel
theorem dX2_isStanding_12 : decode cX2_isStanding 12 = .ok (.aload_n 0, 1) := by decide +kernel
theorem dX2_isStanding_13 : decode cX2_isStanding 13 = .ok (.getfield 28, 3) := by decide +kernel
theorem dX2_isStanding_16 : decode cX2_isStanding 16 = .ok (.iload_n 1, 1) := by decide +kernel
theorem dX2_isStanding_17 : decode cX2_isStanding 17 = .ok (.baload, 1) := by decide +kernel
theorem dX2_isStanding_18 : decode cX2_isStanding 18 = .ok (.ifCond .ne 7, 3) := by decide +kernel
theorem dX2_isStanding_21 : decode cX2_isStanding 21 = .ok (.iconst 1, 1) := by decide +kernel
theorem dX2_isStanding_22 : decode cX2_isStanding 22 = .ok (.goto 4, 3) := by decide +kernel
theorem dX2_isStanding_25 : decode cX2_isStanding 25 = .ok (.iconst 0, 1) := by decide +kernel
theorem dX2_isStanding_26 : decode cX2_isStanding 26 = .ok (.ireturn, 1) := by decide +kernel
theorem dX2_digestOf_0 : decode cX2_digestOf 0 = .ok (.iload_n 1, 1) := by decide +kernel
theorem dX2_digestOf_1 : decode cX2_digestOf 1 = .ok (.ifCond .lt 20, 3) := by decide +kernel
theorem dX2_digestOf_4 : decode cX2_digestOf 4 = .ok (.iload_n 1, 1) := by decide +kernel
theorem dX2_digestOf_5 : decode cX2_digestOf 5 = .ok (.aload_n 0, 1) := by decide +kernel
theorem dX2_digestOf_6 : decode cX2_digestOf 6 = .ok (.getfield 32, 3) := by decide +kernel
theorem dX2_digestOf_9 : decode cX2_digestOf 9 = .ok (.if_icmp .ge 12, 3) := by decide +kernel
theorem dX2_digestOf_12 : decode cX2_digestOf 12 = .ok (.aload_n 0, 1) := by decide +kernel
theorem dX2_digestOf_13 : decode cX2_digestOf 13 = .ok (.getfield 22, 3) := by decide +kernel
theorem dX2_digestOf_16 : decode cX2_digestOf 16 = .ok (.iload_n 1, 1) := by decide +kernel
theorem dX2_digestOf_17 : decode cX2_digestOf 17 = .ok (.laload, 1) := by decide +kernel
theorem dX2_digestOf_18 : decode cX2_digestOf 18 = .ok (.goto 4, 3) := by decide +kernel
theorem dX2_digestOf_21 : decode cX2_digestOf 21 = .ok (.lconst 0, 1) := by decide +kernel
theorem dX2_digestOf_22 : decode cX2_digestOf 22 = .ok (.lreturn, 1) := by decide +kernel
theorem dX2_add_0 : decode cX2_add 0 = .ok (.aload_n 0, 1) := by decide +kernel
theorem dX2_add_1 : decode cX2_add 1 = .ok (.getfield 32, 3) := by decide +kernel
theorem dX2_add_4 : decode cX2_add 4 = .ok (.bipush 100, 2) := by decide +kernel
theorem dX2_add_6 : decode cX2_add 6 = .ok (.if_icmp .lt 5, 3) := by decide +kernel
theorem dX2_add_9 : decode cX2_add 9 = .ok (.iconst (-1), 1) := by decide +kernel
theorem dX2_add_10 : decode cX2_add 10 = .ok (.ireturn, 1) := by decide +kernel
theorem dX2_add_11 : decode cX2_add 11 = .ok (.aload_n 0, 1) := by decide +kernel
theorem dX2_add_12 : decode cX2_add 12 = .ok (.getfield 32, 3) := by decide +kernel
theorem dX2_add_15 : decode cX2_add 15 = .ok (.istore 9, 2) := by decide +kernel
theorem dX2_add_17 : decode cX2_add 17 = .ok (.aload_n 0, 1) := by decide +kernel
theorem dX2_add_18 : decode cX2_add 18 = .ok (.getfield 9, 3) := by decide +kernel
theorem dX2_add_21 : decode cX2_add 21 = .ok (.iload 9, 2) := by decide +kernel
theorem dX2_add_23 : decode cX2_add 23 = .ok (.iload_n 1, 1) := by decide +kernel
theorem dX2_add_24 : decode cX2_add 24 = .ok (.iastore, 1) := by decide +kernel
theorem dX2_add_25 : decode cX2_add 25 = .ok (.aload_n 0, 1) := by decide +kernel
theorem dX2_add_26 : decode cX2_add 26 = .ok (.getfield 15, 3) := by decide +kernel
theorem dX2_add_29 : decode cX2_add 29 = .ok (.iload 9, 2) := by decide +kernel
theorem dX2_add_31 : decode cX2_add 31 = .ok (.iload_n 2, 1) := by decide +kernel
theorem dX2_add_32 : decode cX2_add 32 = .ok (.iastore, 1) := by decide +kernel
theorem dX2_add_33 : decode cX2_add 33 = .ok (.aload_n 0, 1) := by decide +kernel
theorem dX2_add_34 : decode cX2_add 34 = .ok (.getfield 18, 3) := by decide +kernel
theorem dX2_add_37 : decode cX2_add 37 = .ok (.iload 9, 2) := by decide +kernel
theorem dX2_add_39 : decode cX2_add 39 = .ok (.lload_n 3, 1) := by decide +kernel
theorem dX2_add_40 : decode cX2_add 40 = .ok (.lastore, 1) := by decide +kernel
theorem dX2_add_41 : decode cX2_add 41 = .ok (.aload_n 0, 1) := by decide +kernel
theorem dX2_add_42 : decode cX2_add 42 = .ok (.getfield 22, 3) := by decide +kernel
theorem dX2_add_45 : decode cX2_add 45 = .ok (.iload 9, 2) := by decide +kernel
theorem dX2_add_47 : decode cX2_add 47 = .ok (.lload 5, 2) := by decide +kernel
theorem dX2_add_49 : decode cX2_add 49 = .ok (.lastore, 1) := by decide +kernel
theorem dX2_add_50 : decode cX2_add 50 = .ok (.aload_n 0, 1) := by decide +kernel
theorem dX2_add_51 : decode cX2_add 51 = .ok (.getfield 25, 3) := by decide +kernel
theorem dX2_add_54 : decode cX2_add 54 = .ok (.iload 9, 2) := by decide +kernel
theorem dX2_add_56 : decode cX2_add 56 = .ok (.lload 7, 2) := by decide +kernel
theorem dX2_add_58 : decode cX2_add 58 = .ok (.lastore, 1) := by decide +kernel
theorem dX2_add_59 : decode cX2_add 59 = .ok (.aload_n 0, 1) := by decide +kernel
theorem dX2_add_60 : decode cX2_add 60 = .ok (.dup, 1) := by decide +kernel
theorem dX2_add_61 : decode cX2_add 61 = .ok (.getfield 32, 3) := by decide +kernel
theorem dX2_add_64 : decode cX2_add 64 = .ok (.iconst 1, 1) := by decide +kernel
theorem dX2_add_65 : decode cX2_add 65 = .ok (.iadd, 1) := by decide +kernel
theorem dX2_add_66 : decode cX2_add 66 = .ok (.putfield 32, 3) := by decide +kernel
theorem dX2_add_69 : decode cX2_add 69 = .ok (.iload 9, 2) := by decide +kernel
theorem dX2_add_71 : decode cX2_add 71 = .ok (.ireturn, 1) := by decide +kernel
theorem dX2_hasLike_0 : decode cX2_hasLike 0 = .ok (.iconst 0, 1) := by decide +kernel
theorem dX2_hasLike_1 : decode cX2_hasLike 1 = .ok (.istore 6, 2) := by decide +kernel
theorem dX2_hasLike_3 : decode cX2_hasLike 3 = .ok (.iload 6, 2) := by decide +kernel
theorem dX2_hasLike_5 : decode cX2_hasLike 5 = .ok (.aload_n 0, 1) := by decide +kernel
theorem dX2_hasLike_6 : decode cX2_hasLike 6 = .ok (.getfield 32, 3) := by decide +kernel
theorem dX2_hasLike_9 : decode cX2_hasLike 9 = .ok (.if_icmp .ge 69, 3) := by decide +kernel
theorem dX2_hasLike_12 : decode cX2_hasLike 12 = .ok (.aload_n 0, 1) := by decide +kernel
theorem dX2_hasLike_13 : decode cX2_hasLike 13 = .ok (.getfield 9, 3) := by decide +kernel
theorem dX2_hasLike_16 : decode cX2_hasLike 16 = .ok (.iload 6, 2) := by decide +kernel
theorem dX2_hasLike_18 : decode cX2_hasLike 18 = .ok (.iaload, 1) := by decide +kernel
theorem dX2_hasLike_19 : decode cX2_hasLike 19 = .ok (.iload_n 1, 1) := by decide +kernel
theorem dX2_hasLike_20 : decode cX2_hasLike 20 = .ok (.if_icmp .ne 32, 3) := by decide +kernel
theorem dX2_hasLike_23 : decode cX2_hasLike 23 = .ok (.aload_n 0, 1) := by decide +kernel
theorem dX2_hasLike_24 : decode cX2_hasLike 24 = .ok (.getfield 18, 3) := by decide +kernel
theorem dX2_hasLike_27 : decode cX2_hasLike 27 = .ok (.iload 6, 2) := by decide +kernel
theorem dX2_hasLike_29 : decode cX2_hasLike 29 = .ok (.laload, 1) := by decide +kernel
theorem dX2_hasLike_30 : decode cX2_hasLike 30 = .ok (.lload_n 2, 1) := by decide +kernel
theorem dX2_hasLike_31 : decode cX2_hasLike 31 = .ok (.lcmp, 1) := by decide +kernel
theorem dX2_hasLike_32 : decode cX2_hasLike 32 = .ok (.ifCond .ne 20, 3) := by decide +kernel
theorem dX2_hasLike_35 : decode cX2_hasLike 35 = .ok (.aload_n 0, 1) := by decide +kernel
theorem dX2_hasLike_36 : decode cX2_hasLike 36 = .ok (.getfield 22, 3) := by decide +kernel
theorem dX2_hasLike_39 : decode cX2_hasLike 39 = .ok (.iload 6, 2) := by decide +kernel
theorem dX2_hasLike_41 : decode cX2_hasLike 41 = .ok (.laload, 1) := by decide +kernel
theorem dX2_hasLike_42 : decode cX2_hasLike 42 = .ok (.lload 4, 2) := by decide +kernel
theorem dX2_hasLike_44 : decode cX2_hasLike 44 = .ok (.lcmp, 1) := by decide +kernel
theorem dX2_hasLike_45 : decode cX2_hasLike 45 = .ok (.ifCond .ne 7, 3) := by decide +kernel
theorem dX2_hasLike_48 : decode cX2_hasLike 48 = .ok (.iconst 1, 1) := by decide +kernel
theorem dX2_hasLike_49 : decode cX2_hasLike 49 = .ok (.goto 4, 3) := by decide +kernel
theorem dX2_hasLike_52 : decode cX2_hasLike 52 = .ok (.iconst 0, 1) := by decide +kernel
theorem dX2_hasLike_53 : decode cX2_hasLike 53 = .ok (.istore 7, 2) := by decide +kernel
theorem dX2_hasLike_55 : decode cX2_hasLike 55 = .ok (.iload 7, 2) := by decide +kernel
theorem dX2_hasLike_57 : decode cX2_hasLike 57 = .ok (.ifCond .eq 15, 3) := by decide +kernel
theorem dX2_hasLike_60 : decode cX2_hasLike 60 = .ok (.aload_n 0, 1) := by decide +kernel
theorem dX2_hasLike_61 : decode cX2_hasLike 61 = .ok (.getfield 28, 3) := by decide +kernel
theorem dX2_hasLike_64 : decode cX2_hasLike 64 = .ok (.iload 6, 2) := by decide +kernel
theorem dX2_hasLike_66 : decode cX2_hasLike 66 = .ok (.baload, 1) := by decide +kernel
theorem dX2_hasLike_67 : decode cX2_hasLike 67 = .ok (.ifCond .ne 5, 3) := by decide +kernel
theorem dX2_hasLike_70 : decode cX2_hasLike 70 = .ok (.iconst 1, 1) := by decide +kernel
theorem dX2_hasLike_71 : decode cX2_hasLike 71 = .ok (.ireturn, 1) := by decide +kernel
theorem dX2_hasLike_72 : decode cX2_hasLike 72 = .ok (.iinc 6 1, 3) := by decide +kernel
theorem dX2_hasLike_75 : decode cX2_hasLike 75 = .ok (.goto (-72), 3) := by decide +kernel
theorem dX2_hasLike_78 : decode cX2_hasLike 78 = .ok (.iconst 0, 1) := by decide +kernel
theorem dX2_hasLike_79 : decode cX2_hasLike 79 = .ok (.ireturn, 1) := by decide +kernel
theorem dX2_dropAllOf_0 : decode cX2_dropAllOf 0 = .ok (.iconst 0, 1) := by decide +kernel
theorem dX2_dropAllOf_1 : decode cX2_dropAllOf 1 = .ok (.istore_n 2, 1) := by decide +kernel
theorem dX2_dropAllOf_2 : decode cX2_dropAllOf 2 = .ok (.iconst 0, 1) := by decide +kernel
theorem dX2_dropAllOf_3 : decode cX2_dropAllOf 3 = .ok (.istore_n 3, 1) := by decide +kernel
theorem dX2_dropAllOf_4 : decode cX2_dropAllOf 4 = .ok (.iload_n 3, 1) := by decide +kernel
theorem dX2_dropAllOf_5 : decode cX2_dropAllOf 5 = .ok (.aload_n 0, 1) := by decide +kernel
theorem dX2_dropAllOf_6 : decode cX2_dropAllOf 6 = .ok (.getfield 32, 3) := by decide +kernel
theorem dX2_dropAllOf_9 : decode cX2_dropAllOf 9 = .ok (.if_icmp .ge 38, 3) := by decide +kernel
theorem dX2_dropAllOf_12 : decode cX2_dropAllOf 12 = .ok (.aload_n 0, 1) := by decide +kernel
theorem dX2_dropAllOf_13 : decode cX2_dropAllOf 13 = .ok (.getfield 9, 3) := by decide +kernel
theorem dX2_dropAllOf_16 : decode cX2_dropAllOf 16 = .ok (.iload_n 3, 1) := by decide +kernel
theorem dX2_dropAllOf_17 : decode cX2_dropAllOf 17 = .ok (.iaload, 1) := by decide +kernel
theorem dX2_dropAllOf_18 : decode cX2_dropAllOf 18 = .ok (.iload_n 1, 1) := by decide +kernel
theorem dX2_dropAllOf_19 : decode cX2_dropAllOf 19 = .ok (.if_icmp .ne 22, 3) := by decide +kernel
theorem dX2_dropAllOf_22 : decode cX2_dropAllOf 22 = .ok (.aload_n 0, 1) := by decide +kernel
theorem dX2_dropAllOf_23 : decode cX2_dropAllOf 23 = .ok (.getfield 28, 3) := by decide +kernel
theorem dX2_dropAllOf_26 : decode cX2_dropAllOf 26 = .ok (.iload_n 3, 1) := by decide +kernel
theorem dX2_dropAllOf_27 : decode cX2_dropAllOf 27 = .ok (.baload, 1) := by decide +kernel
theorem dX2_dropAllOf_28 : decode cX2_dropAllOf 28 = .ok (.ifCond .ne 13, 3) := by decide +kernel
theorem dX2_dropAllOf_31 : decode cX2_dropAllOf 31 = .ok (.aload_n 0, 1) := by decide +kernel
theorem dX2_dropAllOf_32 : decode cX2_dropAllOf 32 = .ok (.getfield 28, 3) := by decide +kernel
theorem dX2_dropAllOf_35 : decode cX2_dropAllOf 35 = .ok (.iload_n 3, 1) := by decide +kernel
theorem dX2_dropAllOf_36 : decode cX2_dropAllOf 36 = .ok (.iconst 1, 1) := by decide +kernel
theorem dX2_dropAllOf_37 : decode cX2_dropAllOf 37 = .ok (.bastore, 1) := by decide +kernel
theorem dX2_dropAllOf_38 : decode cX2_dropAllOf 38 = .ok (.iinc 2 1, 3) := by decide +kernel
theorem dX2_dropAllOf_41 : decode cX2_dropAllOf 41 = .ok (.iinc 3 1, 3) := by decide +kernel
theorem dX2_dropAllOf_44 : decode cX2_dropAllOf 44 = .ok (.goto (-40), 3) := by decide +kernel
theorem dX2_dropAllOf_47 : decode cX2_dropAllOf 47 = .ok (.iload_n 2, 1) := by decide +kernel
theorem dX2_dropAllOf_48 : decode cX2_dropAllOf 48 = .ok (.ireturn, 1) := by decide +kernel
theorem dX2_firstAgainst_0 : decode cX2_firstAgainst 0 = .ok (.aload_n 0, 1) := by decide +kernel
theorem dX2_firstAgainst_1 : decode cX2_firstAgainst 1 = .ok (.iload_n 1, 1) := by decide +kernel
theorem dX2_firstAgainst_2 : decode cX2_firstAgainst 2 = .ok (.invokevirtual 36, 3) := by decide +kernel
theorem dX2_firstAgainst_5 : decode cX2_firstAgainst 5 = .ok (.ifCond .eq 12, 3) := by decide +kernel
theorem dX2_firstAgainst_8 : decode cX2_firstAgainst 8 = .ok (.aload_n 0, 1) := by decide +kernel
theorem dX2_firstAgainst_9 : decode cX2_firstAgainst 9 = .ok (.getfield 15, 3) := by decide +kernel
theorem dX2_firstAgainst_12 : decode cX2_firstAgainst 12 = .ok (.iload_n 1, 1) := by decide +kernel
theorem dX2_firstAgainst_13 : decode cX2_firstAgainst 13 = .ok (.iaload, 1) := by decide +kernel
theorem dX2_firstAgainst_14 : decode cX2_firstAgainst 14 = .ok (.ifCond .ne 5, 3) := by decide +kernel
theorem dX2_firstAgainst_17 : decode cX2_firstAgainst 17 = .ok (.iconst (-1), 1) := by decide +kernel
theorem dX2_firstAgainst_18 : decode cX2_firstAgainst 18 = .ok (.ireturn, 1) := by decide +kernel
theorem dX2_firstAgainst_19 : decode cX2_firstAgainst 19 = .ok (.iconst 0, 1) := by decide +kernel
theorem dX2_firstAgainst_20 : decode cX2_firstAgainst 20 = .ok (.istore_n 2, 1) := by decide +kernel
theorem dX2_firstAgainst_21 : decode cX2_firstAgainst 21 = .ok (.iload_n 2, 1) := by decide +kernel
theorem dX2_firstAgainst_22 : decode cX2_firstAgainst 22 = .ok (.iload_n 1, 1) := by decide +kernel
theorem dX2_firstAgainst_23 : decode cX2_firstAgainst 23 = .ok (.if_icmp .ge 71, 3) := by decide +kernel
theorem dX2_firstAgainst_26 : decode cX2_firstAgainst 26 = .ok (.aload_n 0, 1) := by decide +kernel
theorem dX2_firstAgainst_27 : decode cX2_firstAgainst 27 = .ok (.getfield 18, 3) := by decide +kernel
theorem dX2_firstAgainst_30 : decode cX2_firstAgainst 30 = .ok (.iload_n 2, 1) := by decide +kernel
theorem dX2_firstAgainst_31 : decode cX2_firstAgainst 31 = .ok (.laload, 1) := by decide +kernel
theorem dX2_firstAgainst_32 : decode cX2_firstAgainst 32 = .ok (.aload_n 0, 1) := by decide +kernel
theorem dX2_firstAgainst_33 : decode cX2_firstAgainst 33 = .ok (.getfield 18, 3) := by decide +kernel
theorem dX2_firstAgainst_36 : decode cX2_firstAgainst 36 = .ok (.iload_n 1, 1) := by decide +kernel
theorem dX2_firstAgainst_37 : decode cX2_firstAgainst 37 = .ok (.laload, 1) := by decide +kernel
theorem dX2_firstAgainst_38 : decode cX2_firstAgainst 38 = .ok (.lcmp, 1) := by decide +kernel
theorem dX2_firstAgainst_39 : decode cX2_firstAgainst 39 = .ok (.ifCond .ne 23, 3) := by decide +kernel
theorem dX2_firstAgainst_42 : decode cX2_firstAgainst 42 = .ok (.aload_n 0, 1) := by decide +kernel
theorem dX2_firstAgainst_43 : decode cX2_firstAgainst 43 = .ok (.getfield 22, 3) := by decide +kernel
theorem dX2_firstAgainst_46 : decode cX2_firstAgainst 46 = .ok (.iload_n 2, 1) := by decide +kernel
theorem dX2_firstAgainst_47 : decode cX2_firstAgainst 47 = .ok (.laload, 1) := by decide +kernel
theorem dX2_firstAgainst_48 : decode cX2_firstAgainst 48 = .ok (.aload_n 0, 1) := by decide +kernel
theorem dX2_firstAgainst_49 : decode cX2_firstAgainst 49 = .ok (.getfield 22, 3) := by decide +kernel
theorem dX2_firstAgainst_52 : decode cX2_firstAgainst 52 = .ok (.iload_n 1, 1) := by decide +kernel
theorem dX2_firstAgainst_53 : decode cX2_firstAgainst 53 = .ok (.laload, 1) := by decide +kernel
theorem dX2_firstAgainst_54 : decode cX2_firstAgainst 54 = .ok (.lcmp, 1) := by decide +kernel
theorem dX2_firstAgainst_55 : decode cX2_firstAgainst 55 = .ok (.ifCond .eq 7, 3) := by decide +kernel
theorem dX2_firstAgainst_58 : decode cX2_firstAgainst 58 = .ok (.iconst 1, 1) := by decide +kernel
theorem dX2_firstAgainst_59 : decode cX2_firstAgainst 59 = .ok (.goto 4, 3) := by decide +kernel
theorem dX2_firstAgainst_62 : decode cX2_firstAgainst 62 = .ok (.iconst 0, 1) := by decide +kernel
theorem dX2_firstAgainst_63 : decode cX2_firstAgainst 63 = .ok (.istore_n 3, 1) := by decide +kernel
theorem dX2_firstAgainst_64 : decode cX2_firstAgainst 64 = .ok (.iload_n 3, 1) := by decide +kernel
theorem dX2_firstAgainst_65 : decode cX2_firstAgainst 65 = .ok (.ifCond .eq 23, 3) := by decide +kernel
theorem dX2_firstAgainst_68 : decode cX2_firstAgainst 68 = .ok (.aload_n 0, 1) := by decide +kernel
theorem dX2_firstAgainst_69 : decode cX2_firstAgainst 69 = .ok (.getfield 28, 3) := by decide +kernel
theorem dX2_firstAgainst_72 : decode cX2_firstAgainst 72 = .ok (.iload_n 2, 1) := by decide +kernel
theorem dX2_firstAgainst_73 : decode cX2_firstAgainst 73 = .ok (.baload, 1) := by decide +kernel
theorem dX2_firstAgainst_74 : decode cX2_firstAgainst 74 = .ok (.ifCond .ne 14, 3) := by decide +kernel
theorem dX2_firstAgainst_77 : decode cX2_firstAgainst 77 = .ok (.aload_n 0, 1) := by decide +kernel
theorem dX2_firstAgainst_78 : decode cX2_firstAgainst 78 = .ok (.getfield 15, 3) := by decide +kernel
theorem dX2_firstAgainst_81 : decode cX2_firstAgainst 81 = .ok (.iload_n 2, 1) := by decide +kernel
theorem dX2_firstAgainst_82 : decode cX2_firstAgainst 82 = .ok (.iaload, 1) := by decide +kernel
theorem dX2_firstAgainst_83 : decode cX2_firstAgainst 83 = .ok (.ifCond .eq 5, 3) := by decide +kernel
theorem dX2_firstAgainst_86 : decode cX2_firstAgainst 86 = .ok (.iload_n 2, 1) := by decide +kernel
theorem dX2_firstAgainst_87 : decode cX2_firstAgainst 87 = .ok (.ireturn, 1) := by decide +kernel
theorem dX2_firstAgainst_88 : decode cX2_firstAgainst 88 = .ok (.iinc 2 1, 3) := by decide +kernel
theorem dX2_firstAgainst_91 : decode cX2_firstAgainst 91 = .ok (.goto (-70), 3) := by decide +kernel
theorem dX2_firstAgainst_94 : decode cX2_firstAgainst 94 = .ok (.iconst (-1), 1) := by decide +kernel
theorem dX2_firstAgainst_95 : decode cX2_firstAgainst 95 = .ok (.ireturn, 1) := by decide +kernel
theorem dX2_counts_0 : decode cX2_counts 0 = .ok (.aload_n 0, 1) := by decide +kernel
theorem dX2_counts_1 : decode cX2_counts 1 = .ok (.iload_n 1, 1) := by decide +kernel
theorem dX2_counts_2 : decode cX2_counts 2 = .ok (.invokevirtual 36, 3) := by decide +kernel
theorem dX2_counts_5 : decode cX2_counts 5 = .ok (.ifCond .eq 41, 3) := by decide +kernel
theorem dX2_counts_8 : decode cX2_counts 8 = .ok (.aload_n 0, 1) := by decide +kernel
theorem dX2_counts_9 : decode cX2_counts 9 = .ok (.getfield 18, 3) := by decide +kernel
theorem dX2_counts_12 : decode cX2_counts 12 = .ok (.iload_n 1, 1) := by decide +kernel
theorem dX2_counts_13 : decode cX2_counts 13 = .ok (.laload, 1) := by decide +kernel
theorem dX2_counts_14 : decode cX2_counts 14 = .ok (.lload_n 2, 1) := by decide +kernel
theorem dX2_counts_15 : decode cX2_counts 15 = .ok (.lcmp, 1) := by decide +kernel
theorem dX2_counts_16 : decode cX2_counts 16 = .ok (.ifCond .ne 30, 3) := by decide +kernel
theorem dX2_counts_19 : decode cX2_counts 19 = .ok (.aload_n 0, 1) := by decide +kernel
theorem dX2_counts_20 : decode cX2_counts 20 = .ok (.getfield 15, 3) := by decide +kernel
theorem dX2_counts_23 : decode cX2_counts 23 = .ok (.iload_n 1, 1) := by decide +kernel
theorem dX2_counts_24 : decode cX2_counts 24 = .ok (.iaload, 1) := by decide +kernel
theorem dX2_counts_25 : decode cX2_counts 25 = .ok (.iload 4, 2) := by decide +kernel
theorem dX2_counts_27 : decode cX2_counts 27 = .ok (.if_icmp .lt 19, 3) := by decide +kernel
theorem dX2_counts_30 : decode cX2_counts 30 = .ok (.aload_n 0, 1) := by decide +kernel
theorem dX2_counts_31 : decode cX2_counts 31 = .ok (.getfield 25, 3) := by decide +kernel
theorem dX2_counts_34 : decode cX2_counts 34 = .ok (.iload_n 1, 1) := by decide +kernel
theorem dX2_counts_35 : decode cX2_counts 35 = .ok (.laload, 1) := by decide +kernel
theorem dX2_counts_36 : decode cX2_counts 36 = .ok (.lload 5, 2) := by decide +kernel
theorem dX2_counts_38 : decode cX2_counts 38 = .ok (.lcmp, 1) := by decide +kernel
theorem dX2_counts_39 : decode cX2_counts 39 = .ok (.ifCond .gt 7, 3) := by decide +kernel
theorem dX2_counts_42 : decode cX2_counts 42 = .ok (.iconst 1, 1) := by decide +kernel
theorem dX2_counts_43 : decode cX2_counts 43 = .ok (.goto 4, 3) := by decide +kernel
theorem dX2_counts_46 : decode cX2_counts 46 = .ok (.iconst 0, 1) := by decide +kernel
theorem dX2_counts_47 : decode cX2_counts 47 = .ok (.ireturn, 1) := by decide +kernel
def p_E_stand (oe : Nat → Nat) (ec : Nat) (ew : Nat → Nat) (el : Nat → Int32) (ea : Nat → Int64) (ed : Nat → Int64) (et : Nat → Int64) (ex : Nat → Bool) (x : Int32) : Int32 → Unit → Prop := fun r u => xb r (∃ j, j < ec ∧ x = nI j ∧ ex j = false)
set_option maxHeartbeats 4000000 in
set_option maxRecDepth 100000 in
theorem c_E_stand (l : Launch) (D : va_G) (k : Nat → ClassId) (oe : Nat → Nat) (ec : Nat) (ew : Nat → Nat) (el : Nat → Int32) (ea : Nat → Int64) (ed : Nat → Int64) (et : Nat → Int64) (ex : Nat → Bool) (x : Int32) (hec : ec ≤ 100) : xx_Ci l yX2_isStanding (.code yX2_isStanding cX2_isStanding 2 (some .boolean) :: xall) ({ frames := 0, cells := 0, slots := 0, locals := 0 } : Room) D vwCl (xT k) [.ref (oe 0), .int x] (bE k oe ec ew el ea ed et ex) (p_E_stand oe ec ew el ea ed et ex x) (fun (u : Unit) => bE k oe ec ew el ea ed et ex) 0 0 := by
  intro sz
  refine xx_met (Qf := fun A => va_Qi (p_E_stand oe ec ew el ea ed et ex x) (xx_B D vwCl (xT k) A (fun (u : Unit) => bE k oe ec ew el ea ed et ex)) A) (cc := cX2_isStanding) (maxL := 2) (ret := (some .boolean)) (by decide) rfl (Nat.le_of_ble_eq_true rfl) ?_
  intro p e s m below meth c A ls hx hb hr hts hown hlocks hin hml hA hS hP hD hK hN hl
  have hl : lv_has ls 2 [(0, .ref (oe 0)), (1, .int x)] := hl
  have hown : s.vm.findClass RX2 = some m.cls := hown
  have hinW := inX2
  refine lv_iload_n hx hb dX2_isStanding_0 rfl (lv_at hl 1 rfl) ?_
  refine lv_if_lt (tgt := 25) hx hb dX2_isStanding_1 (by decide) (fun c1 => ?_) (fun c1 => ?_)
  · refine lv_iconst (v := (nI 0)) hx hb dX2_isStanding_25 (by decide) ?_
    refine xx_zret () hx hb hr hlocks rfl hS hK hP hD dX2_isStanding_26 ?_
    first | exact xb_f (xx_none (xx_nix (by omega) (Or.inl c1))) | exact xb_t ⟨j, hj, rfl, c18⟩ | exact xb_f (xx_one (P := fun j => ex j = false) (by omega) hj (fun h => xx_tf c18 h)) | exact xb_f (xx_none (xx_nix (by omega) (Or.inr c9)))
  · refine lv_iload_n hx hb dX2_isStanding_4 rfl (lv_at hl 1 rfl) ?_
    refine lv_aload_n hx hb dX2_isStanding_5 rfl (lv_at hl 0 rfl) ?_
    refine va_get (D := D) (ci := 2) (v := .int (nI ec)) (C := RX2) (T := TX2) (N := 7) hx hb hts hinW hown hK hP 0 rfl rfl 6 (by decide) (hts _ tw_67) (fun _ h9 => h9) rfl dX2_isStanding_6 ?_
    refine lv_icmp_ge (tgt := 25) hx hb dX2_isStanding_9 (by decide) (fun c9 => ?_) (fun c9 => ?_)
    · refine lv_iconst (v := (nI 0)) hx hb dX2_isStanding_25 (by decide) ?_
      refine xx_zret () hx hb hr hlocks rfl hS hK hP hD dX2_isStanding_26 ?_
      first | exact xb_f (xx_none (xx_nix (by omega) (Or.inl c1))) | exact xb_t ⟨j, hj, rfl, c18⟩ | exact xb_f (xx_one (P := fun j => ex j = false) (by omega) hj (fun h => xx_tf c18 h)) | exact xb_f (xx_none (xx_nix (by omega) (Or.inr c9)))
    · obtain ⟨j, hj, hxj⟩ := xx_ix (n := ec) (by omega) c1 c9
      subst hxj
      refine lv_aload_n hx hb dX2_isStanding_12 rfl (lv_at hl 0 rfl) ?_
      refine va_get (D := D) (ci := 2) (v := .ref (oe 6)) (C := RX2) (T := TX2) (N := 7) hx hb hts hinW hown hK hP 0 rfl rfl 5 (by decide) (hts _ tw_66) (fun _ h9 => h9) rfl dX2_isStanding_13 ?_
      refine lv_iload_n hx hb dX2_isStanding_16 rfl (lv_at hl 1 rfl) ?_
      refine xx_zald hx hb hK hP 6 1 rfl rfl (show j < 100 by omega) (by decide) dX2_isStanding_17 ?_
      refine lv_if_ne (tgt := 25) hx hb dX2_isStanding_18 (by decide) (fun c18 => ?_) (fun c18 => ?_)
      · have c18 : ex j = true := bI_ne c18
        refine lv_iconst (v := (nI 0)) hx hb dX2_isStanding_25 (by decide) ?_
        refine xx_zret () hx hb hr hlocks rfl hS hK hP hD dX2_isStanding_26 ?_
        first | exact xb_f (xx_none (xx_nix (by omega) (Or.inl c1))) | exact xb_t ⟨j, hj, rfl, c18⟩ | exact xb_f (xx_one (P := fun j => ex j = false) (by omega) hj (fun h => xx_tf c18 h)) | exact xb_f (xx_none (xx_nix (by omega) (Or.inr c9)))
      · have c18 : ex j = false := bI_eq c18
        refine lv_iconst (v := (nI 1)) hx hb dX2_isStanding_21 (by decide) ?_
        refine lv_goto (tgt := 26) hx hb dX2_isStanding_22 (by decide) ?_
        refine xx_zret () hx hb hr hlocks rfl hS hK hP hD dX2_isStanding_26 ?_
        first | exact xb_f (xx_none (xx_nix (by omega) (Or.inl c1))) | exact xb_t ⟨j, hj, rfl, c18⟩ | exact xb_f (xx_one (P := fun j => ex j = false) (by omega) hj (fun h => xx_tf c18 h)) | exact xb_f (xx_none (xx_nix (by omega) (Or.inr c9)))
def p_E_digest (oe : Nat → Nat) (ec : Nat) (ew : Nat → Nat) (el : Nat → Int32) (ea : Nat → Int64) (ed : Nat → Int64) (et : Nat → Int64) (ex : Nat → Bool) (x : Int32) : Int64 → Unit → Prop := fun r u => (∃ j, j < ec ∧ x = nI j ∧ r = ed j) ∨ (¬ ixN ec x ∧ r = 0)
set_option maxHeartbeats 4000000 in
set_option maxRecDepth 100000 in
theorem c_E_digest (l : Launch) (D : va_G) (k : Nat → ClassId) (oe : Nat → Nat) (ec : Nat) (ew : Nat → Nat) (el : Nat → Int32) (ea : Nat → Int64) (ed : Nat → Int64) (et : Nat → Int64) (ex : Nat → Bool) (x : Int32) (hec : ec ≤ 100) : xx_Cl l yX2_digestOf (.code yX2_digestOf cX2_digestOf 2 (some .long) :: xall) ({ frames := 0, cells := 0, slots := 0, locals := 0 } : Room) D vwCl (xT k) [.ref (oe 0), .int x] (bE k oe ec ew el ea ed et ex) (p_E_digest oe ec ew el ea ed et ex x) (fun (u : Unit) => bE k oe ec ew el ea ed et ex) 0 0 := by
  intro sz
  refine xx_met (Qf := fun A => va_Ql (p_E_digest oe ec ew el ea ed et ex x) (xx_B D vwCl (xT k) A (fun (u : Unit) => bE k oe ec ew el ea ed et ex)) A) (cc := cX2_digestOf) (maxL := 2) (ret := (some .long)) (by decide) rfl (Nat.le_of_ble_eq_true rfl) ?_
  intro p e s m below meth c A ls hx hb hr hts hown hlocks hin hml hA hS hP hD hK hN hl
  have hl : lv_has ls 2 [(0, .ref (oe 0)), (1, .int x)] := hl
  have hown : s.vm.findClass RX2 = some m.cls := hown
  have hinW := inX2
  refine lv_iload_n hx hb dX2_digestOf_0 rfl (lv_at hl 1 rfl) ?_
  refine lv_if_lt (tgt := 21) hx hb dX2_digestOf_1 (by decide) (fun c1 => ?_) (fun c1 => ?_)
  · refine lv_lconst (v := 0) hx hb dX2_digestOf_21 (by decide) ?_
    refine xx_lret () hx hb hr hlocks hS hK hP hD dX2_digestOf_22 ?_
    first | exact Or.inr ⟨xx_nix (by omega) (Or.inl c1), rfl⟩ | exact Or.inl ⟨j, hj, rfl, rfl⟩ | exact Or.inr ⟨xx_nix (by omega) (Or.inr c9), rfl⟩
  · refine lv_iload_n hx hb dX2_digestOf_4 rfl (lv_at hl 1 rfl) ?_
    refine lv_aload_n hx hb dX2_digestOf_5 rfl (lv_at hl 0 rfl) ?_
    refine va_get (D := D) (ci := 2) (v := .int (nI ec)) (C := RX2) (T := TX2) (N := 7) hx hb hts hinW hown hK hP 0 rfl rfl 6 (by decide) (hts _ tw_67) (fun _ h9 => h9) rfl dX2_digestOf_6 ?_
    refine lv_icmp_ge (tgt := 21) hx hb dX2_digestOf_9 (by decide) (fun c9 => ?_) (fun c9 => ?_)
    · refine lv_lconst (v := 0) hx hb dX2_digestOf_21 (by decide) ?_
      refine xx_lret () hx hb hr hlocks hS hK hP hD dX2_digestOf_22 ?_
      first | exact Or.inr ⟨xx_nix (by omega) (Or.inl c1), rfl⟩ | exact Or.inl ⟨j, hj, rfl, rfl⟩ | exact Or.inr ⟨xx_nix (by omega) (Or.inr c9), rfl⟩
    · obtain ⟨j, hj, hxj⟩ := xx_ix (n := ec) (by omega) c1 c9
      subst hxj
      refine lv_aload_n hx hb dX2_digestOf_12 rfl (lv_at hl 0 rfl) ?_
      refine va_get (D := D) (ci := 2) (v := .ref (oe 4)) (C := RX2) (T := TX2) (N := 7) hx hb hts hinW hown hK hP 0 rfl rfl 3 (by decide) (hts _ tw_64) (fun _ h9 => h9) rfl dX2_digestOf_13 ?_
      refine lv_iload_n hx hb dX2_digestOf_16 rfl (lv_at hl 1 rfl) ?_
      refine xx_lald hx hb hK hP 4 2 rfl rfl (show j < 100 by omega) (by decide) dX2_digestOf_17 ?_
      refine lv_goto (tgt := 22) hx hb dX2_digestOf_18 (by decide) ?_
      refine xx_lret () hx hb hr hlocks hS hK hP hD dX2_digestOf_22 ?_
      first | exact Or.inr ⟨xx_nix (by omega) (Or.inl c1), rfl⟩ | exact Or.inl ⟨j, hj, rfl, rfl⟩ | exact Or.inr ⟨xx_nix (by omega) (Or.inr c9), rfl⟩
def p_E_add (oe : Nat → Nat) (ec : Nat) (ew : Nat → Nat) (el : Nat → Int32) (ea : Nat → Int64) (ed : Nat → Int64) (et : Nat → Int64) (ex : Nat → Bool) (w : Nat) (lv : Int32) (a : Int64) (d : Int64) (t : Int64) : Int32 → (Nat × (Nat → Nat) × (Nat → Int32) × (Nat → Int64) × (Nat → Int64) × (Nat → Int64)) → Prop := fun r u => (r = (-1) ∧ 100 ≤ ec ∧ u = (ec, ew, el, ea, ed, et)) ∨ (r = nI ec ∧ ec < 100 ∧ u = (ec + 1, xu_N ew ec w, upd el ec lv, vp_updL ea ec a, vp_updL ed ec d, vp_updL et ec t))
set_option maxHeartbeats 4000000 in
set_option maxRecDepth 100000 in
theorem c_E_add (l : Launch) (D : va_G) (k : Nat → ClassId) (oe : Nat → Nat) (ec : Nat) (ew : Nat → Nat) (el : Nat → Int32) (ea : Nat → Int64) (ed : Nat → Int64) (et : Nat → Int64) (ex : Nat → Bool) (w : Nat) (lv : Int32) (a : Int64) (d : Int64) (t : Int64) (hec : ec ≤ 100) : xx_Ci l yX2_add (.code yX2_add cX2_add 10 (some .int) :: xall) ({ frames := 0, cells := 0, slots := 0, locals := 0 } : Room) D vwCl (xT k) [.ref (oe 0), .int (nI w), .int lv, .long a, .long d, .long t] (bE k oe ec ew el ea ed et ex) (p_E_add oe ec ew el ea ed et ex w lv a d t) (fun (u : Nat × (Nat → Nat) × (Nat → Int32) × (Nat → Int64) × (Nat → Int64) × (Nat → Int64)) => bE k oe u.1 u.2.1 u.2.2.1 u.2.2.2.1 u.2.2.2.2.1 u.2.2.2.2.2 ex) 0 0 := by
  intro sz
  refine xx_met (Qf := fun A => va_Qi (p_E_add oe ec ew el ea ed et ex w lv a d t) (xx_B D vwCl (xT k) A (fun (u : Nat × (Nat → Nat) × (Nat → Int32) × (Nat → Int64) × (Nat → Int64) × (Nat → Int64)) => bE k oe u.1 u.2.1 u.2.2.1 u.2.2.2.1 u.2.2.2.2.1 u.2.2.2.2.2 ex)) A) (cc := cX2_add) (maxL := 10) (ret := (some .int)) (by decide) rfl (Nat.le_of_ble_eq_true rfl) ?_
  intro p e s m below meth c A ls hx hb hr hts hown hlocks hin hml hA hS hP hD hK hN hl
  have hl : lv_has ls 10 [(0, .ref (oe 0)), (1, .int (nI w)), (2, .int lv), (3, .long a), (5, .long d), (7, .long t)] := hl
  have hown : s.vm.findClass RX2 = some m.cls := hown
  have hinW := inX2
  refine lv_aload_n hx hb dX2_add_0 rfl (lv_at hl 0 rfl) ?_
  refine va_get (D := D) (ci := 2) (v := .int (nI ec)) (C := RX2) (T := TX2) (N := 7) hx hb hts hinW hown hK hP 0 rfl rfl 6 (by decide) (hts _ tw_67) (fun _ h9 => h9) rfl dX2_add_1 ?_
  refine lv_bipush (v := (nI 100)) hx hb dX2_add_4 (by decide) ?_
  refine lv_icmp_lt (tgt := 11) hx hb dX2_add_6 (by decide) (fun c6 => ?_) (fun c6 => ?_)
  · have c6 : ec < 100 := (nI_ltI (by omega) (by omega)).mp c6
    refine lv_aload_n hx hb dX2_add_11 rfl (lv_at hl 0 rfl) ?_
    refine va_get (D := D) (ci := 2) (v := .int (nI ec)) (C := RX2) (T := TX2) (N := 7) hx hb hts hinW hown hK hP 0 rfl rfl 6 (by decide) (hts _ tw_67) (fun _ h9 => h9) rfl dX2_add_12 ?_
    refine lv_istore (lv' := [(9, .int (nI ec)), (0, .ref (oe 0)), (1, .int (nI w)), (2, .int lv), (3, .long a), (5, .long d), (7, .long t)]) hx hb dX2_add_15 hl (by decide) rfl (fun ls hl => ?_)
    refine lv_aload_n hx hb dX2_add_17 rfl (lv_at hl 1 rfl) ?_
    refine va_get (D := D) (ci := 2) (v := .ref (oe 1)) (C := RX2) (T := TX2) (N := 7) hx hb hts hinW hown hK hP 0 rfl rfl 0 (by decide) (hts _ tw_61) (fun _ h9 => h9) rfl dX2_add_18 ?_
    refine lv_iload hx hb dX2_add_21 (lv_at hl 0 rfl) ?_
    refine lv_iload_n hx hb dX2_add_23 rfl (lv_at hl 2 rfl) ?_
    refine xx_iast (g := (fun z9 => nI ((xu_N ew ec w) z9))) hx hb hK hP hD hS 1 0 rfl rfl (show ec < 100 by omega) (by decide) (xx_updN ew ec w) dX2_add_24 (fun H locs hP hD hS => ?_)
    have hP : va_P D vwCl (bE k oe ec (xu_N ew ec w) el ea ed et ex) H := hP
    have hD : va_D A (bE k oe ec (xu_N ew ec w) el ea ed et ex) := hD
    refine lv_aload_n hx hb dX2_add_25 rfl (lv_at hl 1 rfl) ?_
    refine va_get (D := D) (ci := 2) (v := .ref (oe 2)) (C := RX2) (T := TX2) (N := 7) hx hb hts hinW hown hK hP 0 rfl rfl 1 (by decide) (hts _ tw_62) (fun _ h9 => h9) rfl dX2_add_26 ?_
    refine lv_iload hx hb dX2_add_29 (lv_at hl 0 rfl) ?_
    refine lv_iload_n hx hb dX2_add_31 rfl (lv_at hl 3 rfl) ?_
    refine xx_iast (g := (upd el ec lv)) hx hb hK hP hD hS 2 0 rfl rfl (show ec < 100 by omega) (by decide) rfl dX2_add_32 (fun H locs hP hD hS => ?_)
    have hP : va_P D vwCl (bE k oe ec (xu_N ew ec w) (upd el ec lv) ea ed et ex) H := hP
    have hD : va_D A (bE k oe ec (xu_N ew ec w) (upd el ec lv) ea ed et ex) := hD
    refine lv_aload_n hx hb dX2_add_33 rfl (lv_at hl 1 rfl) ?_
    refine va_get (D := D) (ci := 2) (v := .ref (oe 3)) (C := RX2) (T := TX2) (N := 7) hx hb hts hinW hown hK hP 0 rfl rfl 2 (by decide) (hts _ tw_63) (fun _ h9 => h9) rfl dX2_add_34 ?_
    refine lv_iload hx hb dX2_add_37 (lv_at hl 0 rfl) ?_
    refine lv_lload_n hx hb dX2_add_39 rfl (lv_at hl 4 rfl) ?_
    refine xx_last (g := (vp_updL ea ec a)) hx hb hK hP hD hS 3 2 rfl rfl (show ec < 100 by omega) (by decide) rfl dX2_add_40 (fun H locs hP hD hS => ?_)
    have hP : va_P D vwCl (bE k oe ec (xu_N ew ec w) (upd el ec lv) (vp_updL ea ec a) ed et ex) H := hP
    have hD : va_D A (bE k oe ec (xu_N ew ec w) (upd el ec lv) (vp_updL ea ec a) ed et ex) := hD
    refine lv_aload_n hx hb dX2_add_41 rfl (lv_at hl 1 rfl) ?_
    refine va_get (D := D) (ci := 2) (v := .ref (oe 4)) (C := RX2) (T := TX2) (N := 7) hx hb hts hinW hown hK hP 0 rfl rfl 3 (by decide) (hts _ tw_64) (fun _ h9 => h9) rfl dX2_add_42 ?_
    refine lv_iload hx hb dX2_add_45 (lv_at hl 0 rfl) ?_
    refine lv_lload hx hb dX2_add_47 (lv_at hl 5 rfl) ?_
    refine xx_last (g := (vp_updL ed ec d)) hx hb hK hP hD hS 4 2 rfl rfl (show ec < 100 by omega) (by decide) rfl dX2_add_49 (fun H locs hP hD hS => ?_)
    have hP : va_P D vwCl (bE k oe ec (xu_N ew ec w) (upd el ec lv) (vp_updL ea ec a) (vp_updL ed ec d) et ex) H := hP
    have hD : va_D A (bE k oe ec (xu_N ew ec w) (upd el ec lv) (vp_updL ea ec a) (vp_updL ed ec d) et ex) := hD
    refine lv_aload_n hx hb dX2_add_50 rfl (lv_at hl 1 rfl) ?_
    refine va_get (D := D) (ci := 2) (v := .ref (oe 5)) (C := RX2) (T := TX2) (N := 7) hx hb hts hinW hown hK hP 0 rfl rfl 4 (by decide) (hts _ tw_65) (fun _ h9 => h9) rfl dX2_add_51 ?_
    refine lv_iload hx hb dX2_add_54 (lv_at hl 0 rfl) ?_
    refine lv_lload hx hb dX2_add_56 (lv_at hl 6 rfl) ?_
    refine xx_last (g := (vp_updL et ec t)) hx hb hK hP hD hS 5 2 rfl rfl (show ec < 100 by omega) (by decide) rfl dX2_add_58 (fun H locs hP hD hS => ?_)
    have hP : va_P D vwCl (bE k oe ec (xu_N ew ec w) (upd el ec lv) (vp_updL ea ec a) (vp_updL ed ec d) (vp_updL et ec t) ex) H := hP
    have hD : va_D A (bE k oe ec (xu_N ew ec w) (upd el ec lv) (vp_updL ea ec a) (vp_updL ed ec d) (vp_updL et ec t) ex) := hD
    refine lv_aload_n hx hb dX2_add_59 rfl (lv_at hl 1 rfl) ?_
    refine lv_dup hx hb dX2_add_60 rfl ?_
    refine va_get (D := D) (ci := 2) (v := .int (nI ec)) (C := RX2) (T := TX2) (N := 7) hx hb hts hinW hown hK hP 0 rfl rfl 6 (by decide) (hts _ tw_67) (fun _ h9 => h9) rfl dX2_add_61 ?_
    refine lv_iconst (v := (nI 1)) hx hb dX2_add_64 (by decide) ?_
    refine lv_iadd hx hb dX2_add_65 ?_
    refine xx_topi (nI_add ec 1) ?_
    refine va_put (D := D) (ci := 2) (v := .int (nI (ec + 1))) (ty := .int) (C := RX2) (T := TX2) (N := 7) hx hb hts hinW tyX2 tyX2_ok nmX2 hown hK hP hD hS 0 rfl rfl 6 (by decide) (hts _ tw_67) (fun _ h9 => h9) rfl (by decide +kernel) rfl rfl (Nat.le_of_ble_eq_true rfl) dX2_add_66 (fun H locs hP hD hS => ?_)
    have hP : va_P D vwCl (bE k oe (ec + 1) (xu_N ew ec w) (upd el ec lv) (vp_updL ea ec a) (vp_updL ed ec d) (vp_updL et ec t) ex) H := hP
    have hD : va_D A (bE k oe (ec + 1) (xu_N ew ec w) (upd el ec lv) (vp_updL ea ec a) (vp_updL ed ec d) (vp_updL et ec t) ex) := hD
    refine lv_iload hx hb dX2_add_69 (lv_at hl 0 rfl) ?_
    refine xx_iret (ec + 1, (xu_N ew ec w), (upd el ec lv), (vp_updL ea ec a), (vp_updL ed ec d), (vp_updL et ec t)) hx hb hr hlocks hS hK hP hD dX2_add_71 ?_
    exact Or.inr ⟨rfl, c6, rfl⟩
  · have c6 : 100 ≤ ec := Nat.le_of_not_lt (fun h => c6 ((nI_ltI (by omega) (by omega)).mpr h))
    refine lv_iconst (v := (-1)) hx hb dX2_add_9 (by decide) ?_
    refine xx_iret (ec, ew, el, ea, ed, et) hx hb hr hlocks hS hK hP hD dX2_add_10 ?_
    exact Or.inl ⟨rfl, c6, rfl⟩
def p_E_like (oe : Nat → Nat) (ec : Nat) (ew : Nat → Nat) (el : Nat → Int32) (ea : Nat → Int64) (ed : Nat → Int64) (et : Nat → Int64) (ex : Nat → Bool) (w : Nat) (a : Int64) (d : Int64) : Int32 → Unit → Prop := fun r u => xb r (∃ i, i < ec ∧ (ew i = w ∧ ea i = a ∧ ed i = d ∧ ex i = false))
set_option maxHeartbeats 4000000 in
set_option maxRecDepth 100000 in
theorem c_E_like (l : Launch) (D : va_G) (k : Nat → ClassId) (oe : Nat → Nat) (ec : Nat) (ew : Nat → Nat) (el : Nat → Int32) (ea : Nat → Int64) (ed : Nat → Int64) (et : Nat → Int64) (ex : Nat → Bool) (w : Nat) (a : Int64) (d : Int64) (hec : ec ≤ 100) (hew : ∀ i, ew i < 12) (hw : w < 12) : xx_Ci l yX2_hasLike (.code yX2_hasLike cX2_hasLike 8 (some .boolean) :: xall) ({ frames := 0, cells := 0, slots := 0, locals := 0 } : Room) D vwCl (xT k) [.ref (oe 0), .int (nI w), .long a, .long d] (bE k oe ec ew el ea ed et ex) (p_E_like oe ec ew el ea ed et ex w a d) (fun (u : Unit) => bE k oe ec ew el ea ed et ex) 0 0 := by
  intro sz
  refine xx_met (Qf := fun A => va_Qi (p_E_like oe ec ew el ea ed et ex w a d) (xx_B D vwCl (xT k) A (fun (u : Unit) => bE k oe ec ew el ea ed et ex)) A) (cc := cX2_hasLike) (maxL := 8) (ret := (some .boolean)) (by decide) rfl (Nat.le_of_ble_eq_true rfl) ?_
  intro p e s m below meth c A ls hx hb hr hts hown hlocks hin hml hA hS hP hD hK hN hl
  have hl : lv_has ls 8 [(0, .ref (oe 0)), (1, .int (nI w)), (2, .long a), (4, .long d)] := hl
  have hown : s.vm.findClass RX2 = some m.cls := hown
  have hinW := inX2
  refine lv_iconst (v := (nI 0)) hx hb dX2_hasLike_0 (by decide) ?_
  refine lv_istore (lv' := [(6, .int (nI 0)), (0, .ref (oe 0)), (1, .int (nI w)), (2, .long a), (4, .long d)]) hx hb dX2_hasLike_1 hl (by decide) rfl (fun ls hl => ?_)
  have loop3 : ∀ (dd : Nat) (i : Nat), ec + 1 ≤ i + dd → (i ≤ ec) → (∀ j, j < i → ¬ (ew j = w ∧ ea j = a ∧ ed j = d ∧ ex j = false)) → ∀ (H : Heap) (locs : List Loc) (ls : Array Slot), va_P D vwCl (bE k oe ec ew el ea ed et ex) H → va_D A (bE k oe ec ew el ea ed et ex) → va_S A s.heap H locs → lv_has ls 8 [(0, .ref (oe 0)), (1, .int (nI w)), (2, .long a), (4, .long d), (6, .int (nI i))] → W p l e ({ frames := 0, cells := 0, slots := 0, locals := 0 } : Room) s m [.ref (oe 0), .int (nI w), .long a, .long d].toArray below meth c H locs 0 0 (MQ below (va_Qi (p_E_like oe ec ew el ea ed et ex w a d) (xx_B D vwCl (xT k) A (fun (u : Unit) => bE k oe ec ew el ea ed et ex)) A) [.ref (oe 0), .int (nI w), .long a, .long d].toArray s 0 0 A) (F0 m 3 ls []) := by
    intro dd
    induction dd with
    | zero =>
      intro i hm h2 h3
      exact absurd hm (by omega)
    | succ dd ih3 =>
      intro i hm h2 h3 H locs ls hP hD hS hl
      refine lv_iload hx hb dX2_hasLike_3 (lv_at hl 4 rfl) ?_
      refine lv_aload_n hx hb dX2_hasLike_5 rfl (lv_at hl 0 rfl) ?_
      refine va_get (D := D) (ci := 2) (v := .int (nI ec)) (C := RX2) (T := TX2) (N := 7) hx hb hts hinW hown hK hP 0 rfl rfl 6 (by decide) (hts _ tw_67) (fun _ h9 => h9) rfl dX2_hasLike_6 ?_
      refine lv_icmp_ge (tgt := 78) hx hb dX2_hasLike_9 (by decide) (fun c9 => ?_) (fun c9 => ?_)
      · have c9 : ec ≤ i := (nI_leI (by omega) (by omega)).mp c9
        refine lv_iconst (v := (nI 0)) hx hb dX2_hasLike_78 (by decide) ?_
        refine xx_zret () hx hb hr hlocks rfl hS hK hP hD dX2_hasLike_79 ?_
        exact xb_f (fun ⟨j, z1, z3⟩ => h3 j (by omega) z3)
      · have c9 : i < ec := Nat.lt_of_not_le (fun h => c9 ((nI_leI (by omega) (by omega)).mpr h))
        refine lv_aload_n hx hb dX2_hasLike_12 rfl (lv_at hl 0 rfl) ?_
        refine va_get (D := D) (ci := 2) (v := .ref (oe 1)) (C := RX2) (T := TX2) (N := 7) hx hb hts hinW hown hK hP 0 rfl rfl 0 (by decide) (hts _ tw_61) (fun _ h9 => h9) rfl dX2_hasLike_13 ?_
        refine lv_iload hx hb dX2_hasLike_16 (lv_at hl 4 rfl) ?_
        refine xx_iald hx hb hK hP 1 0 rfl rfl (show i < 100 by omega) (by decide) dX2_hasLike_18 ?_
        refine lv_iload_n hx hb dX2_hasLike_19 rfl (lv_at hl 1 rfl) ?_
        have hwi := hew i
        refine lv_icmp_ne (tgt := 52) hx hb dX2_hasLike_20 (by decide) (fun c20 => ?_) (fun c20 => ?_)
        · have c20 : ¬ ew i = w := fun h => c20 ((nI_eq (by omega) (by omega)).mpr h)
          refine lv_iconst (v := (nI 0)) hx hb dX2_hasLike_52 (by decide) ?_
          refine lv_istore (lv' := [(7, .int (nI 0)), (0, .ref (oe 0)), (1, .int (nI w)), (2, .long a), (4, .long d), (6, .int (nI i))]) hx hb dX2_hasLike_53 hl (by decide) rfl (fun ls hl => ?_)
          refine lv_iload hx hb dX2_hasLike_55 (lv_at hl 0 rfl) ?_
          refine lv_if_eq (tgt := 72) hx hb dX2_hasLike_57 (by decide) (fun _ => ?_) (fun c => absurd c (by decide))
          refine lv_iinc (v := (nI (i + 1))) (lv' := [(6, .int (nI (i + 1))), (7, .int (nI 0)), (0, .ref (oe 0)), (1, .int (nI w)), (2, .long a), (4, .long d)]) hx hb dX2_hasLike_72 hl (k := 5) rfl (nI_1 i) (by decide) rfl (fun ls hl => ?_)
          refine lv_goto (tgt := 3) hx hb dX2_hasLike_75 (by decide) ?_
          exact ih3 (i + 1) (by omega) (by omega) (by intro j z1 z3; rcases Nat.lt_or_ge j i with z | z; exact h3 j z z3; obtain rfl : j = i := (by omega); first | exact c20 z3.1 | exact c32 z3.2.1 | exact c45 z3.2.2.1 | exact xx_tf c67 z3.2.2.2) H locs ls hP hD hS (lv_sub hl [2, 3, 4, 5, 0] rfl)
        · have c20 : ew i = w := (nI_eq (by omega) (by omega)).mp c20
          refine lv_aload_n hx hb dX2_hasLike_23 rfl (lv_at hl 0 rfl) ?_
          refine va_get (D := D) (ci := 2) (v := .ref (oe 3)) (C := RX2) (T := TX2) (N := 7) hx hb hts hinW hown hK hP 0 rfl rfl 2 (by decide) (hts _ tw_63) (fun _ h9 => h9) rfl dX2_hasLike_24 ?_
          refine lv_iload hx hb dX2_hasLike_27 (lv_at hl 4 rfl) ?_
          refine xx_lald hx hb hK hP 3 2 rfl rfl (show i < 100 by omega) (by decide) dX2_hasLike_29 ?_
          refine lv_lload_n hx hb dX2_hasLike_30 rfl (lv_at hl 2 rfl) ?_
          refine W.lcmp hx hb dX2_hasLike_31 ?_
          refine lv_if_ne (tgt := 52) hx hb dX2_hasLike_32 (by decide) (fun c32 => ?_) (fun c32 => ?_)
          · have c32 : ¬ ((ea i) = a) := fun h => c32 ((lg_cmp_eq (ea i) a).mpr h)
            refine lv_iconst (v := (nI 0)) hx hb dX2_hasLike_52 (by decide) ?_
            refine lv_istore (lv' := [(7, .int (nI 0)), (0, .ref (oe 0)), (1, .int (nI w)), (2, .long a), (4, .long d), (6, .int (nI i))]) hx hb dX2_hasLike_53 hl (by decide) rfl (fun ls hl => ?_)
            refine lv_iload hx hb dX2_hasLike_55 (lv_at hl 0 rfl) ?_
            refine lv_if_eq (tgt := 72) hx hb dX2_hasLike_57 (by decide) (fun _ => ?_) (fun c => absurd c (by decide))
            refine lv_iinc (v := (nI (i + 1))) (lv' := [(6, .int (nI (i + 1))), (7, .int (nI 0)), (0, .ref (oe 0)), (1, .int (nI w)), (2, .long a), (4, .long d)]) hx hb dX2_hasLike_72 hl (k := 5) rfl (nI_1 i) (by decide) rfl (fun ls hl => ?_)
            refine lv_goto (tgt := 3) hx hb dX2_hasLike_75 (by decide) ?_
            exact ih3 (i + 1) (by omega) (by omega) (by intro j z1 z3; rcases Nat.lt_or_ge j i with z | z; exact h3 j z z3; obtain rfl : j = i := (by omega); first | exact c20 z3.1 | exact c32 z3.2.1 | exact c45 z3.2.2.1 | exact xx_tf c67 z3.2.2.2) H locs ls hP hD hS (lv_sub hl [2, 3, 4, 5, 0] rfl)
          · have c32 : (ea i) = a := (lg_cmp_eq (ea i) a).mp c32
            refine lv_aload_n hx hb dX2_hasLike_35 rfl (lv_at hl 0 rfl) ?_
            refine va_get (D := D) (ci := 2) (v := .ref (oe 4)) (C := RX2) (T := TX2) (N := 7) hx hb hts hinW hown hK hP 0 rfl rfl 3 (by decide) (hts _ tw_64) (fun _ h9 => h9) rfl dX2_hasLike_36 ?_
            refine lv_iload hx hb dX2_hasLike_39 (lv_at hl 4 rfl) ?_
            refine xx_lald hx hb hK hP 4 2 rfl rfl (show i < 100 by omega) (by decide) dX2_hasLike_41 ?_
            refine lv_lload hx hb dX2_hasLike_42 (lv_at hl 3 rfl) ?_
            refine W.lcmp hx hb dX2_hasLike_44 ?_
            refine lv_if_ne (tgt := 52) hx hb dX2_hasLike_45 (by decide) (fun c45 => ?_) (fun c45 => ?_)
            · have c45 : ¬ ((ed i) = d) := fun h => c45 ((lg_cmp_eq (ed i) d).mpr h)
              refine lv_iconst (v := (nI 0)) hx hb dX2_hasLike_52 (by decide) ?_
              refine lv_istore (lv' := [(7, .int (nI 0)), (0, .ref (oe 0)), (1, .int (nI w)), (2, .long a), (4, .long d), (6, .int (nI i))]) hx hb dX2_hasLike_53 hl (by decide) rfl (fun ls hl => ?_)
              refine lv_iload hx hb dX2_hasLike_55 (lv_at hl 0 rfl) ?_
              refine lv_if_eq (tgt := 72) hx hb dX2_hasLike_57 (by decide) (fun _ => ?_) (fun c => absurd c (by decide))
              refine lv_iinc (v := (nI (i + 1))) (lv' := [(6, .int (nI (i + 1))), (7, .int (nI 0)), (0, .ref (oe 0)), (1, .int (nI w)), (2, .long a), (4, .long d)]) hx hb dX2_hasLike_72 hl (k := 5) rfl (nI_1 i) (by decide) rfl (fun ls hl => ?_)
              refine lv_goto (tgt := 3) hx hb dX2_hasLike_75 (by decide) ?_
              exact ih3 (i + 1) (by omega) (by omega) (by intro j z1 z3; rcases Nat.lt_or_ge j i with z | z; exact h3 j z z3; obtain rfl : j = i := (by omega); first | exact c20 z3.1 | exact c32 z3.2.1 | exact c45 z3.2.2.1 | exact xx_tf c67 z3.2.2.2) H locs ls hP hD hS (lv_sub hl [2, 3, 4, 5, 0] rfl)
            · have c45 : (ed i) = d := (lg_cmp_eq (ed i) d).mp c45
              refine lv_iconst (v := (nI 1)) hx hb dX2_hasLike_48 (by decide) ?_
              refine lv_goto (tgt := 53) hx hb dX2_hasLike_49 (by decide) ?_
              refine lv_istore (lv' := [(7, .int (nI 1)), (0, .ref (oe 0)), (1, .int (nI w)), (2, .long a), (4, .long d), (6, .int (nI i))]) hx hb dX2_hasLike_53 hl (by decide) rfl (fun ls hl => ?_)
              refine lv_iload hx hb dX2_hasLike_55 (lv_at hl 0 rfl) ?_
              refine lv_if_eq (tgt := 72) hx hb dX2_hasLike_57 (by decide) (fun c => absurd c (by decide)) (fun _ => ?_)
              refine lv_aload_n hx hb dX2_hasLike_60 rfl (lv_at hl 1 rfl) ?_
              refine va_get (D := D) (ci := 2) (v := .ref (oe 6)) (C := RX2) (T := TX2) (N := 7) hx hb hts hinW hown hK hP 0 rfl rfl 5 (by decide) (hts _ tw_66) (fun _ h9 => h9) rfl dX2_hasLike_61 ?_
              refine lv_iload hx hb dX2_hasLike_64 (lv_at hl 5 rfl) ?_
              refine xx_zald hx hb hK hP 6 1 rfl rfl (show i < 100 by omega) (by decide) dX2_hasLike_66 ?_
              refine lv_if_ne (tgt := 72) hx hb dX2_hasLike_67 (by decide) (fun c67 => ?_) (fun c67 => ?_)
              · have c67 : ex i = true := bI_ne c67
                refine lv_iinc (v := (nI (i + 1))) (lv' := [(6, .int (nI (i + 1))), (7, .int (nI 1)), (0, .ref (oe 0)), (1, .int (nI w)), (2, .long a), (4, .long d)]) hx hb dX2_hasLike_72 hl (k := 5) rfl (nI_1 i) (by decide) rfl (fun ls hl => ?_)
                refine lv_goto (tgt := 3) hx hb dX2_hasLike_75 (by decide) ?_
                exact ih3 (i + 1) (by omega) (by omega) (by intro j z1 z3; rcases Nat.lt_or_ge j i with z | z; exact h3 j z z3; obtain rfl : j = i := (by omega); first | exact c20 z3.1 | exact c32 z3.2.1 | exact c45 z3.2.2.1 | exact xx_tf c67 z3.2.2.2) H locs ls hP hD hS (lv_sub hl [2, 3, 4, 5, 0] rfl)
              · have c67 : ex i = false := bI_eq c67
                refine lv_iconst (v := (nI 1)) hx hb dX2_hasLike_70 (by decide) ?_
                refine xx_zret () hx hb hr hlocks rfl hS hK hP hD dX2_hasLike_71 ?_
                exact xb_t ⟨i, c9, c20, c32, c45, c67⟩
  exact loop3 (ec + 1) 0 (by omega) (by omega) (by intro j z1; exact absurd z1 (by omega)) s.heap _ ls hP hD hS (lv_sub hl [1, 2, 3, 4, 0] rfl)
def p_E_drop (oe : Nat → Nat) (ec : Nat) (ew : Nat → Nat) (el : Nat → Int32) (ea : Nat → Int64) (ed : Nat → Int64) (et : Nat → Int64) (ex : Nat → Bool) (w : Nat) : Int32 → (Nat → Bool) → Prop := fun r u => r = nI (xcnt (fun j => decide (ew j = w) && !ex j) ec) ∧ u = xd_drop ew ex w ec
set_option maxHeartbeats 4000000 in
set_option maxRecDepth 100000 in
theorem c_E_drop (l : Launch) (D : va_G) (k : Nat → ClassId) (oe : Nat → Nat) (ec : Nat) (ew : Nat → Nat) (el : Nat → Int32) (ea : Nat → Int64) (ed : Nat → Int64) (et : Nat → Int64) (ex : Nat → Bool) (w : Nat) (hec : ec ≤ 100) (hew : ∀ i, ew i < 12) (hw : w < 12) : xx_Ci l yX2_dropAllOf (.code yX2_dropAllOf cX2_dropAllOf 4 (some .int) :: xall) ({ frames := 0, cells := 0, slots := 0, locals := 0 } : Room) D vwCl (xT k) [.ref (oe 0), .int (nI w)] (bE k oe ec ew el ea ed et ex) (p_E_drop oe ec ew el ea ed et ex w) (fun (u : Nat → Bool) => bE k oe ec ew el ea ed et u) 0 0 := by
  intro sz
  refine xx_met (Qf := fun A => va_Qi (p_E_drop oe ec ew el ea ed et ex w) (xx_B D vwCl (xT k) A (fun (u : Nat → Bool) => bE k oe ec ew el ea ed et u)) A) (cc := cX2_dropAllOf) (maxL := 4) (ret := (some .int)) (by decide) rfl (Nat.le_of_ble_eq_true rfl) ?_
  intro p e s m below meth c A ls hx hb hr hts hown hlocks hin hml hA hS hP hD hK hN hl
  have hl : lv_has ls 4 [(0, .ref (oe 0)), (1, .int (nI w))] := hl
  have hown : s.vm.findClass RX2 = some m.cls := hown
  have hinW := inX2
  refine lv_iconst (v := (nI 0)) hx hb dX2_dropAllOf_0 (by decide) ?_
  refine lv_istore_n (lv' := [(2, .int (nI 0)), (0, .ref (oe 0)), (1, .int (nI w))]) hx hb dX2_dropAllOf_1 rfl hl (by decide) rfl (fun ls hl => ?_)
  refine lv_iconst (v := (nI 0)) hx hb dX2_dropAllOf_2 (by decide) ?_
  refine lv_istore_n (lv' := [(3, .int (nI 0)), (2, .int (nI 0)), (0, .ref (oe 0)), (1, .int (nI w))]) hx hb dX2_dropAllOf_3 rfl hl (by decide) rfl (fun ls hl => ?_)
  have loop4 : ∀ (dd : Nat) (i : Nat) (mn : Nat) (f : Nat → Bool), ec + 1 ≤ i + dd → (i ≤ ec) → (f = xd_drop ew ex w i) → (mn = xcnt (fun j => decide (ew j = w) && !ex j) i) → ∀ (H : Heap) (locs : List Loc) (ls : Array Slot), va_P D vwCl (bE k oe ec ew el ea ed et f) H → va_D A (bE k oe ec ew el ea ed et f) → va_S A s.heap H locs → lv_has ls 4 [(0, .ref (oe 0)), (1, .int (nI w)), (2, .int (nI mn)), (3, .int (nI i))] → W p l e ({ frames := 0, cells := 0, slots := 0, locals := 0 } : Room) s m [.ref (oe 0), .int (nI w)].toArray below meth c H locs 0 0 (MQ below (va_Qi (p_E_drop oe ec ew el ea ed et ex w) (xx_B D vwCl (xT k) A (fun (u : Nat → Bool) => bE k oe ec ew el ea ed et u)) A) [.ref (oe 0), .int (nI w)].toArray s 0 0 A) (F0 m 4 ls []) := by
    intro dd
    induction dd with
    | zero =>
      intro i mn f hm h2 hf hm2
      exact absurd hm (by omega)
    | succ dd ih4 =>
      intro i mn f hm h2 hf hm2 H locs ls hP hD hS hl
      refine lv_iload_n hx hb dX2_dropAllOf_4 rfl (lv_at hl 3 rfl) ?_
      refine lv_aload_n hx hb dX2_dropAllOf_5 rfl (lv_at hl 0 rfl) ?_
      refine va_get (D := D) (ci := 2) (v := .int (nI ec)) (C := RX2) (T := TX2) (N := 7) hx hb hts hinW hown hK hP 0 rfl rfl 6 (by decide) (hts _ tw_67) (fun _ h9 => h9) rfl dX2_dropAllOf_6 ?_
      refine lv_icmp_ge (tgt := 47) hx hb dX2_dropAllOf_9 (by decide) (fun c9 => ?_) (fun c9 => ?_)
      · have c9 : ec ≤ i := (nI_leI (by omega) (by omega)).mp c9
        refine lv_iload_n hx hb dX2_dropAllOf_47 rfl (lv_at hl 2 rfl) ?_
        refine xx_iret f hx hb hr hlocks hS hK hP hD dX2_dropAllOf_48 ?_
        obtain rfl : i = ec := by omega
        exact ⟨by rw [hm2], hf⟩
      · have c9 : i < ec := Nat.lt_of_not_le (fun h => c9 ((nI_leI (by omega) (by omega)).mpr h))
        refine lv_aload_n hx hb dX2_dropAllOf_12 rfl (lv_at hl 0 rfl) ?_
        refine va_get (D := D) (ci := 2) (v := .ref (oe 1)) (C := RX2) (T := TX2) (N := 7) hx hb hts hinW hown hK hP 0 rfl rfl 0 (by decide) (hts _ tw_61) (fun _ h9 => h9) rfl dX2_dropAllOf_13 ?_
        refine lv_iload_n hx hb dX2_dropAllOf_16 rfl (lv_at hl 3 rfl) ?_
        refine xx_iald hx hb hK hP 1 0 rfl rfl (show i < 100 by omega) (by decide) dX2_dropAllOf_17 ?_
        refine lv_iload_n hx hb dX2_dropAllOf_18 rfl (lv_at hl 1 rfl) ?_
        have hwi := hew i
        refine lv_icmp_ne (tgt := 41) hx hb dX2_dropAllOf_19 (by decide) (fun c19 => ?_) (fun c19 => ?_)
        · have c19 : ¬ ew i = w := fun h => c19 ((nI_eq (by omega) (by omega)).mpr h)
          refine lv_iinc (v := (nI (i + 1))) (lv' := [(3, .int (nI (i + 1))), (0, .ref (oe 0)), (1, .int (nI w)), (2, .int (nI mn))]) hx hb dX2_dropAllOf_41 hl (k := 3) rfl (nI_1 i) (by decide) rfl (fun ls hl => ?_)
          refine lv_goto (tgt := 4) hx hb dX2_dropAllOf_44 (by decide) ?_
          exact ih4 (i + 1) mn f (by omega) (by omega) (by subst hf; first | exact (xd_skip c19).symm | exact (xd_skip2 ((xd_self ew ex w i).symm.trans c28)).symm | exact xd_put c19) (by subst hf; subst hm2; first | exact (xcnt_no1 c19).symm | exact (xcnt_no2 ((xd_self ew ex w i).symm.trans c28)).symm | exact (xcnt_yes2 c19 ((xd_self ew ex w i).symm.trans c28)).symm) H locs ls hP hD hS (lv_sub hl [1, 2, 3, 0] rfl)
        · have c19 : ew i = w := (nI_eq (by omega) (by omega)).mp c19
          refine lv_aload_n hx hb dX2_dropAllOf_22 rfl (lv_at hl 0 rfl) ?_
          refine va_get (D := D) (ci := 2) (v := .ref (oe 6)) (C := RX2) (T := TX2) (N := 7) hx hb hts hinW hown hK hP 0 rfl rfl 5 (by decide) (hts _ tw_66) (fun _ h9 => h9) rfl dX2_dropAllOf_23 ?_
          refine lv_iload_n hx hb dX2_dropAllOf_26 rfl (lv_at hl 3 rfl) ?_
          refine xx_zald hx hb hK hP 6 1 rfl rfl (show i < 100 by omega) (by decide) dX2_dropAllOf_27 ?_
          refine lv_if_ne (tgt := 41) hx hb dX2_dropAllOf_28 (by decide) (fun c28 => ?_) (fun c28 => ?_)
          · have c28 : f i = true := bI_ne c28
            refine lv_iinc (v := (nI (i + 1))) (lv' := [(3, .int (nI (i + 1))), (0, .ref (oe 0)), (1, .int (nI w)), (2, .int (nI mn))]) hx hb dX2_dropAllOf_41 hl (k := 3) rfl (nI_1 i) (by decide) rfl (fun ls hl => ?_)
            refine lv_goto (tgt := 4) hx hb dX2_dropAllOf_44 (by decide) ?_
            exact ih4 (i + 1) mn f (by omega) (by omega) (by subst hf; first | exact (xd_skip c19).symm | exact (xd_skip2 ((xd_self ew ex w i).symm.trans c28)).symm | exact xd_put c19) (by subst hf; subst hm2; first | exact (xcnt_no1 c19).symm | exact (xcnt_no2 ((xd_self ew ex w i).symm.trans c28)).symm | exact (xcnt_yes2 c19 ((xd_self ew ex w i).symm.trans c28)).symm) H locs ls hP hD hS (lv_sub hl [1, 2, 3, 0] rfl)
          · have c28 : f i = false := bI_eq c28
            refine lv_aload_n hx hb dX2_dropAllOf_31 rfl (lv_at hl 0 rfl) ?_
            refine va_get (D := D) (ci := 2) (v := .ref (oe 6)) (C := RX2) (T := TX2) (N := 7) hx hb hts hinW hown hK hP 0 rfl rfl 5 (by decide) (hts _ tw_66) (fun _ h9 => h9) rfl dX2_dropAllOf_32 ?_
            refine lv_iload_n hx hb dX2_dropAllOf_35 rfl (lv_at hl 3 rfl) ?_
            refine lv_iconst (v := (nI 1)) hx hb dX2_dropAllOf_36 (by decide) ?_
            refine xx_zast (g := (fun z9 => bI ((xu_B f i true) z9))) hx hb hK hP hD hS 6 1 rfl rfl (show i < 100 by omega) (by decide) (by decide) (xx_updB f i true) dX2_dropAllOf_37 (fun H locs hP hD hS => ?_)
            have hP : va_P D vwCl (bE k oe ec ew el ea ed et (xu_B f i true)) H := hP
            have hD : va_D A (bE k oe ec ew el ea ed et (xu_B f i true)) := hD
            refine lv_iinc (v := (nI (mn + 1))) (lv' := [(2, .int (nI (mn + 1))), (0, .ref (oe 0)), (1, .int (nI w)), (3, .int (nI i))]) hx hb dX2_dropAllOf_38 hl (k := 2) rfl (nI_1 mn) (by decide) rfl (fun ls hl => ?_)
            refine lv_iinc (v := (nI (i + 1))) (lv' := [(3, .int (nI (i + 1))), (2, .int (nI (mn + 1))), (0, .ref (oe 0)), (1, .int (nI w))]) hx hb dX2_dropAllOf_41 hl (k := 3) rfl (nI_1 i) (by decide) rfl (fun ls hl => ?_)
            refine lv_goto (tgt := 4) hx hb dX2_dropAllOf_44 (by decide) ?_
            exact ih4 (i + 1) (mn + 1) (xu_B f i true) (by omega) (by omega) (by subst hf; first | exact (xd_skip c19).symm | exact (xd_skip2 ((xd_self ew ex w i).symm.trans c28)).symm | exact xd_put c19) (by subst hf; subst hm2; first | exact (xcnt_no1 c19).symm | exact (xcnt_no2 ((xd_self ew ex w i).symm.trans c28)).symm | exact (xcnt_yes2 c19 ((xd_self ew ex w i).symm.trans c28)).symm) H locs ls hP hD hS (lv_sub hl [2, 3, 1, 0] rfl)
  exact loop4 (ec + 1) 0 0 ex (by omega) (by omega) (by exact (xd_zero ew ex w).symm) (by rfl) s.heap _ ls hP hD hS (lv_sub hl [2, 3, 1, 0] rfl)
def p_E_against (oe : Nat → Nat) (ec : Nat) (ew : Nat → Nat) (el : Nat → Int32) (ea : Nat → Int64) (ed : Nat → Int64) (et : Nat → Int64) (ex : Nat → Bool) (mm : Nat) : Int32 → Unit → Prop := fun r u => (r = (-1) ∧ ¬ ∃ i, i < mm ∧ (ex mm = false ∧ ¬ el mm = 0) ∧ (ea i = ea mm ∧ ¬ ed i = ed mm ∧ ex i = false ∧ ¬ el i = 0)) ∨ (∃ i, i < mm ∧ r = nI i ∧ (ex mm = false ∧ ¬ el mm = 0) ∧ (ea i = ea mm ∧ ¬ ed i = ed mm ∧ ex i = false ∧ ¬ el i = 0) ∧ ∀ j, j < i → ¬ (ea j = ea mm ∧ ¬ ed j = ed mm ∧ ex j = false ∧ ¬ el j = 0))
set_option maxHeartbeats 4000000 in
set_option maxRecDepth 100000 in
theorem c_E_against (l : Launch) (D : va_G) (k : Nat → ClassId) (oe : Nat → Nat) (ec : Nat) (ew : Nat → Nat) (el : Nat → Int32) (ea : Nat → Int64) (ed : Nat → Int64) (et : Nat → Int64) (ex : Nat → Bool) (mm : Nat) (hec : ec ≤ 100) (hm1 : mm < ec) : xx_Ci l yX2_firstAgainst (.code yX2_firstAgainst cX2_firstAgainst 4 (some .int) :: xall) ({ frames := 1, cells := 0, slots := 0, locals := 21 } : Room) D vwCl (xT k) [.ref (oe 0), .int (nI mm)] (bE k oe ec ew el ea ed et ex) (p_E_against oe ec ew el ea ed et ex mm) (fun (u : Unit) => bE k oe ec ew el ea ed et ex) 0 0 := by
  intro sz
  refine xx_met (Qf := fun A => va_Qi (p_E_against oe ec ew el ea ed et ex mm) (xx_B D vwCl (xT k) A (fun (u : Unit) => bE k oe ec ew el ea ed et ex)) A) (cc := cX2_firstAgainst) (maxL := 4) (ret := (some .int)) (by decide) rfl (Nat.le_of_ble_eq_true rfl) ?_
  intro p e s m below meth c A ls hx hb hr hts hown hlocks hin hml hA hS hP hD hK hN hl
  have hl : lv_has ls 4 [(0, .ref (oe 0)), (1, .int (nI mm))] := hl
  have hown : s.vm.findClass RX2 = some m.cls := hown
  have hinW := inX2
  refine lv_aload_n hx hb dX2_firstAgainst_0 rfl (lv_at hl 0 rfl) ?_
  refine lv_iload_n hx hb dX2_firstAgainst_1 rfl (lv_at hl 1 rfl) ?_
  refine xx_calli ([]) [0, 1, 2, 3, 4, 5, 6] [] (va_runV (As := [.int (nI mm)]) (rest := []) ⟨hx, hb, hml, hown, hts⟩ (c_E_stand l D k oe ec ew el ea ed et ex (nI mm) (by omega) s.heap.size) (cwV 1 hts (xx_gV tw_235 tw_236 tw_237 tw_4 tw_238) rfl rfl rfl (by decide +kernel) ⟨Nat.le_of_ble_eq_true rfl, Nat.le_of_ble_eq_true rfl⟩) (xx_preV hK hN hP hD [0, 1, 2, 3, 4, 5, 6] (by decide) rfl 2 0 rfl rfl) rfl rfl hl.1 rfl (lv_room (Nat.le_of_ble_eq_true rfl)) dX2_firstAgainst_2 ⟨Nat.le_of_ble_eq_true rfl, Nat.le_of_ble_eq_true rfl⟩) hP hD hS hA rfl rfl (by decide) (by decide) (fun r2 u2 H locs hw2 hP hD hS => ?_)
  rcases hw2 with ⟨rfl, j2, hj2, hx2, hb2⟩ | ⟨rfl, hq2⟩
  · have hx2 : mm = j2 := (nI_eq (by omega) (by omega)).mp hx2
    subst hx2
    have hP : va_P D vwCl (bE k oe ec ew el ea ed et ex) H := hP
    have hD : va_D A (bE k oe ec ew el ea ed et ex) := hD
    refine lv_if_eq (tgt := 17) hx hb dX2_firstAgainst_5 (by decide) (fun c => absurd c (by decide)) (fun _ => ?_)
    refine lv_aload_n hx hb dX2_firstAgainst_8 rfl (lv_at hl 0 rfl) ?_
    refine va_get (D := D) (ci := 2) (v := .ref (oe 2)) (C := RX2) (T := TX2) (N := 7) hx hb hts hinW hown hK hP 0 rfl rfl 1 (by decide) (hts _ tw_62) (fun _ h9 => h9) rfl dX2_firstAgainst_9 ?_
    refine lv_iload_n hx hb dX2_firstAgainst_12 rfl (lv_at hl 1 rfl) ?_
    refine xx_iald hx hb hK hP 2 0 rfl rfl (show mm < 100 by omega) (by decide) dX2_firstAgainst_13 ?_
    refine lv_if_ne (tgt := 19) hx hb dX2_firstAgainst_14 (by decide) (fun c14 => ?_) (fun c14 => ?_)
    · refine lv_iconst (v := (nI 0)) hx hb dX2_firstAgainst_19 (by decide) ?_
      refine lv_istore_n (lv' := [(2, .int (nI 0)), (0, .ref (oe 0)), (1, .int (nI mm))]) hx hb dX2_firstAgainst_20 rfl hl (by decide) rfl (fun ls hl => ?_)
      have loop21 : ∀ (dd : Nat) (i : Nat), mm + 1 ≤ i + dd → (i ≤ mm) → (∀ j, j < i → ¬ (ea j = ea mm ∧ ¬ ed j = ed mm ∧ ex j = false ∧ ¬ el j = 0)) → ∀ (H : Heap) (locs : List Loc) (ls : Array Slot), va_P D vwCl (bE k oe ec ew el ea ed et ex) H → va_D A (bE k oe ec ew el ea ed et ex) → va_S A s.heap H locs → lv_has ls 4 [(0, .ref (oe 0)), (1, .int (nI mm)), (2, .int (nI i))] → W p l e ({ frames := 1, cells := 0, slots := 0, locals := 21 } : Room) s m [.ref (oe 0), .int (nI mm)].toArray below meth c H locs 0 0 (MQ below (va_Qi (p_E_against oe ec ew el ea ed et ex mm) (xx_B D vwCl (xT k) A (fun (u : Unit) => bE k oe ec ew el ea ed et ex)) A) [.ref (oe 0), .int (nI mm)].toArray s 0 0 A) (F0 m 21 ls []) := by
        intro dd
        induction dd with
        | zero =>
          intro i hm h2 h3
          exact absurd hm (by omega)
        | succ dd ih21 =>
          intro i hm h2 h3 H locs ls hP hD hS hl
          refine lv_iload_n hx hb dX2_firstAgainst_21 rfl (lv_at hl 2 rfl) ?_
          refine lv_iload_n hx hb dX2_firstAgainst_22 rfl (lv_at hl 1 rfl) ?_
          refine lv_icmp_ge (tgt := 94) hx hb dX2_firstAgainst_23 (by decide) (fun c23 => ?_) (fun c23 => ?_)
          · have c23 : mm ≤ i := (nI_leI (by omega) (by omega)).mp c23
            refine lv_iconst (v := (-1)) hx hb dX2_firstAgainst_94 (by decide) ?_
            refine xx_iret () hx hb hr hlocks hS hK hP hD dX2_firstAgainst_95 ?_
            exact Or.inl ⟨rfl, fun ⟨j, z1, z2, z3⟩ => h3 j (by omega) z3⟩
          · have c23 : i < mm := Nat.lt_of_not_le (fun h => c23 ((nI_leI (by omega) (by omega)).mpr h))
            refine lv_aload_n hx hb dX2_firstAgainst_26 rfl (lv_at hl 0 rfl) ?_
            refine va_get (D := D) (ci := 2) (v := .ref (oe 3)) (C := RX2) (T := TX2) (N := 7) hx hb hts hinW hown hK hP 0 rfl rfl 2 (by decide) (hts _ tw_63) (fun _ h9 => h9) rfl dX2_firstAgainst_27 ?_
            refine lv_iload_n hx hb dX2_firstAgainst_30 rfl (lv_at hl 2 rfl) ?_
            refine xx_lald hx hb hK hP 3 2 rfl rfl (show i < 100 by omega) (by decide) dX2_firstAgainst_31 ?_
            refine lv_aload_n hx hb dX2_firstAgainst_32 rfl (lv_at hl 0 rfl) ?_
            refine va_get (D := D) (ci := 2) (v := .ref (oe 3)) (C := RX2) (T := TX2) (N := 7) hx hb hts hinW hown hK hP 0 rfl rfl 2 (by decide) (hts _ tw_63) (fun _ h9 => h9) rfl dX2_firstAgainst_33 ?_
            refine lv_iload_n hx hb dX2_firstAgainst_36 rfl (lv_at hl 1 rfl) ?_
            refine xx_lald hx hb hK hP 3 2 rfl rfl (show mm < 100 by omega) (by decide) dX2_firstAgainst_37 ?_
            refine W.lcmp hx hb dX2_firstAgainst_38 ?_
            refine lv_if_ne (tgt := 62) hx hb dX2_firstAgainst_39 (by decide) (fun c39 => ?_) (fun c39 => ?_)
            · have c39 : ¬ ((ea i) = (ea mm)) := fun h => c39 ((lg_cmp_eq (ea i) (ea mm)).mpr h)
              refine lv_iconst (v := (nI 0)) hx hb dX2_firstAgainst_62 (by decide) ?_
              refine lv_istore_n (lv' := [(3, .int (nI 0)), (0, .ref (oe 0)), (1, .int (nI mm)), (2, .int (nI i))]) hx hb dX2_firstAgainst_63 rfl hl (by decide) rfl (fun ls hl => ?_)
              refine lv_iload_n hx hb dX2_firstAgainst_64 rfl (lv_at hl 0 rfl) ?_
              refine lv_if_eq (tgt := 88) hx hb dX2_firstAgainst_65 (by decide) (fun _ => ?_) (fun c => absurd c (by decide))
              refine lv_iinc (v := (nI (i + 1))) (lv' := [(2, .int (nI (i + 1))), (3, .int (nI 0)), (0, .ref (oe 0)), (1, .int (nI mm))]) hx hb dX2_firstAgainst_88 hl (k := 3) rfl (nI_1 i) (by decide) rfl (fun ls hl => ?_)
              refine lv_goto (tgt := 21) hx hb dX2_firstAgainst_91 (by decide) ?_
              exact ih21 (i + 1) (by omega) (by omega) (by intro j z1 z3; rcases Nat.lt_or_ge j i with z | z; exact h3 j z z3; obtain rfl : j = i := (by omega); first | exact c39 z3.1 | exact z3.2.1 c55 | exact xx_tf c74 z3.2.2.1 | exact z3.2.2.2 c83) H locs ls hP hD hS (lv_sub hl [2, 3, 0] rfl)
            · have c39 : (ea i) = (ea mm) := (lg_cmp_eq (ea i) (ea mm)).mp c39
              refine lv_aload_n hx hb dX2_firstAgainst_42 rfl (lv_at hl 0 rfl) ?_
              refine va_get (D := D) (ci := 2) (v := .ref (oe 4)) (C := RX2) (T := TX2) (N := 7) hx hb hts hinW hown hK hP 0 rfl rfl 3 (by decide) (hts _ tw_64) (fun _ h9 => h9) rfl dX2_firstAgainst_43 ?_
              refine lv_iload_n hx hb dX2_firstAgainst_46 rfl (lv_at hl 2 rfl) ?_
              refine xx_lald hx hb hK hP 4 2 rfl rfl (show i < 100 by omega) (by decide) dX2_firstAgainst_47 ?_
              refine lv_aload_n hx hb dX2_firstAgainst_48 rfl (lv_at hl 0 rfl) ?_
              refine va_get (D := D) (ci := 2) (v := .ref (oe 4)) (C := RX2) (T := TX2) (N := 7) hx hb hts hinW hown hK hP 0 rfl rfl 3 (by decide) (hts _ tw_64) (fun _ h9 => h9) rfl dX2_firstAgainst_49 ?_
              refine lv_iload_n hx hb dX2_firstAgainst_52 rfl (lv_at hl 1 rfl) ?_
              refine xx_lald hx hb hK hP 4 2 rfl rfl (show mm < 100 by omega) (by decide) dX2_firstAgainst_53 ?_
              refine W.lcmp hx hb dX2_firstAgainst_54 ?_
              refine lv_if_eq (tgt := 62) hx hb dX2_firstAgainst_55 (by decide) (fun c55 => ?_) (fun c55 => ?_)
              · have c55 : (ed i) = (ed mm) := (lg_cmp_eq (ed i) (ed mm)).mp c55
                refine lv_iconst (v := (nI 0)) hx hb dX2_firstAgainst_62 (by decide) ?_
                refine lv_istore_n (lv' := [(3, .int (nI 0)), (0, .ref (oe 0)), (1, .int (nI mm)), (2, .int (nI i))]) hx hb dX2_firstAgainst_63 rfl hl (by decide) rfl (fun ls hl => ?_)
                refine lv_iload_n hx hb dX2_firstAgainst_64 rfl (lv_at hl 0 rfl) ?_
                refine lv_if_eq (tgt := 88) hx hb dX2_firstAgainst_65 (by decide) (fun _ => ?_) (fun c => absurd c (by decide))
                refine lv_iinc (v := (nI (i + 1))) (lv' := [(2, .int (nI (i + 1))), (3, .int (nI 0)), (0, .ref (oe 0)), (1, .int (nI mm))]) hx hb dX2_firstAgainst_88 hl (k := 3) rfl (nI_1 i) (by decide) rfl (fun ls hl => ?_)
                refine lv_goto (tgt := 21) hx hb dX2_firstAgainst_91 (by decide) ?_
                exact ih21 (i + 1) (by omega) (by omega) (by intro j z1 z3; rcases Nat.lt_or_ge j i with z | z; exact h3 j z z3; obtain rfl : j = i := (by omega); first | exact c39 z3.1 | exact z3.2.1 c55 | exact xx_tf c74 z3.2.2.1 | exact z3.2.2.2 c83) H locs ls hP hD hS (lv_sub hl [2, 3, 0] rfl)
              · have c55 : ¬ ((ed i) = (ed mm)) := fun h => c55 ((lg_cmp_eq (ed i) (ed mm)).mpr h)
                refine lv_iconst (v := (nI 1)) hx hb dX2_firstAgainst_58 (by decide) ?_
                refine lv_goto (tgt := 63) hx hb dX2_firstAgainst_59 (by decide) ?_
                refine lv_istore_n (lv' := [(3, .int (nI 1)), (0, .ref (oe 0)), (1, .int (nI mm)), (2, .int (nI i))]) hx hb dX2_firstAgainst_63 rfl hl (by decide) rfl (fun ls hl => ?_)
                refine lv_iload_n hx hb dX2_firstAgainst_64 rfl (lv_at hl 0 rfl) ?_
                refine lv_if_eq (tgt := 88) hx hb dX2_firstAgainst_65 (by decide) (fun c => absurd c (by decide)) (fun _ => ?_)
                refine lv_aload_n hx hb dX2_firstAgainst_68 rfl (lv_at hl 1 rfl) ?_
                refine va_get (D := D) (ci := 2) (v := .ref (oe 6)) (C := RX2) (T := TX2) (N := 7) hx hb hts hinW hown hK hP 0 rfl rfl 5 (by decide) (hts _ tw_66) (fun _ h9 => h9) rfl dX2_firstAgainst_69 ?_
                refine lv_iload_n hx hb dX2_firstAgainst_72 rfl (lv_at hl 3 rfl) ?_
                refine xx_zald hx hb hK hP 6 1 rfl rfl (show i < 100 by omega) (by decide) dX2_firstAgainst_73 ?_
                refine lv_if_ne (tgt := 88) hx hb dX2_firstAgainst_74 (by decide) (fun c74 => ?_) (fun c74 => ?_)
                · have c74 : ex i = true := bI_ne c74
                  refine lv_iinc (v := (nI (i + 1))) (lv' := [(2, .int (nI (i + 1))), (3, .int (nI 1)), (0, .ref (oe 0)), (1, .int (nI mm))]) hx hb dX2_firstAgainst_88 hl (k := 3) rfl (nI_1 i) (by decide) rfl (fun ls hl => ?_)
                  refine lv_goto (tgt := 21) hx hb dX2_firstAgainst_91 (by decide) ?_
                  exact ih21 (i + 1) (by omega) (by omega) (by intro j z1 z3; rcases Nat.lt_or_ge j i with z | z; exact h3 j z z3; obtain rfl : j = i := (by omega); first | exact c39 z3.1 | exact z3.2.1 c55 | exact xx_tf c74 z3.2.2.1 | exact z3.2.2.2 c83) H locs ls hP hD hS (lv_sub hl [2, 3, 0] rfl)
                · have c74 : ex i = false := bI_eq c74
                  refine lv_aload_n hx hb dX2_firstAgainst_77 rfl (lv_at hl 1 rfl) ?_
                  refine va_get (D := D) (ci := 2) (v := .ref (oe 2)) (C := RX2) (T := TX2) (N := 7) hx hb hts hinW hown hK hP 0 rfl rfl 1 (by decide) (hts _ tw_62) (fun _ h9 => h9) rfl dX2_firstAgainst_78 ?_
                  refine lv_iload_n hx hb dX2_firstAgainst_81 rfl (lv_at hl 3 rfl) ?_
                  refine xx_iald hx hb hK hP 2 0 rfl rfl (show i < 100 by omega) (by decide) dX2_firstAgainst_82 ?_
                  refine lv_if_eq (tgt := 88) hx hb dX2_firstAgainst_83 (by decide) (fun c83 => ?_) (fun c83 => ?_)
                  · refine lv_iinc (v := (nI (i + 1))) (lv' := [(2, .int (nI (i + 1))), (3, .int (nI 1)), (0, .ref (oe 0)), (1, .int (nI mm))]) hx hb dX2_firstAgainst_88 hl (k := 3) rfl (nI_1 i) (by decide) rfl (fun ls hl => ?_)
                    refine lv_goto (tgt := 21) hx hb dX2_firstAgainst_91 (by decide) ?_
                    exact ih21 (i + 1) (by omega) (by omega) (by intro j z1 z3; rcases Nat.lt_or_ge j i with z | z; exact h3 j z z3; obtain rfl : j = i := (by omega); first | exact c39 z3.1 | exact z3.2.1 c55 | exact xx_tf c74 z3.2.2.1 | exact z3.2.2.2 c83) H locs ls hP hD hS (lv_sub hl [2, 3, 0] rfl)
                  · refine lv_iload_n hx hb dX2_firstAgainst_86 rfl (lv_at hl 3 rfl) ?_
                    refine xx_iret () hx hb hr hlocks hS hK hP hD dX2_firstAgainst_87 ?_
                    exact Or.inr ⟨i, c23, rfl, ⟨hb2, c14⟩, ⟨c39, c55, c74, c83⟩, h3⟩
      exact loop21 (mm + 1) 0 (by omega) (by omega) (by intro j z1; exact absurd z1 (by omega)) H locs ls hP hD hS (lv_sub hl [1, 2, 0] rfl)
    · refine lv_iconst (v := (-1)) hx hb dX2_firstAgainst_17 (by decide) ?_
      refine xx_iret () hx hb hr hlocks hS hK hP hD dX2_firstAgainst_18 ?_
      first | exact Or.inl ⟨rfl, fun ⟨i, z1, z2, z3⟩ => hq2 ⟨mm, hm1, rfl, z2.1⟩⟩ | exact Or.inl ⟨rfl, fun ⟨i, z1, z2, z3⟩ => z2.2 c14⟩
  · have hP : va_P D vwCl (bE k oe ec ew el ea ed et ex) H := hP
    have hD : va_D A (bE k oe ec ew el ea ed et ex) := hD
    refine lv_if_eq (tgt := 17) hx hb dX2_firstAgainst_5 (by decide) (fun _ => ?_) (fun c => absurd c (by decide))
    refine lv_iconst (v := (-1)) hx hb dX2_firstAgainst_17 (by decide) ?_
    refine xx_iret () hx hb hr hlocks hS hK hP hD dX2_firstAgainst_18 ?_
    first | exact Or.inl ⟨rfl, fun ⟨i, z1, z2, z3⟩ => hq2 ⟨mm, hm1, rfl, z2.1⟩⟩ | exact Or.inl ⟨rfl, fun ⟨i, z1, z2, z3⟩ => z2.2 c14⟩
def p_E_counts (oe : Nat → Nat) (ec : Nat) (ew : Nat → Nat) (el : Nat → Int32) (ea : Nat → Int64) (ed : Nat → Int64) (et : Nat → Int64) (ex : Nat → Bool) (i : Nat) (a : Int64) (lv : Int32) (tm : Int64) : Int32 → Unit → Prop := fun r u => xb r (ex i = false ∧ ea i = a ∧ ¬ (el i < lv) ∧ ¬ (tm < et i))
set_option maxHeartbeats 4000000 in
set_option maxRecDepth 100000 in
theorem c_E_counts (l : Launch) (D : va_G) (k : Nat → ClassId) (oe : Nat → Nat) (ec : Nat) (ew : Nat → Nat) (el : Nat → Int32) (ea : Nat → Int64) (ed : Nat → Int64) (et : Nat → Int64) (ex : Nat → Bool) (i : Nat) (a : Int64) (lv : Int32) (tm : Int64) (hec : ec ≤ 100) (hi : i < ec) : xx_Ci l yX2_counts (.code yX2_counts cX2_counts 7 (some .boolean) :: xall) ({ frames := 1, cells := 0, slots := 0, locals := 21 } : Room) D vwCl (xT k) [.ref (oe 0), .int (nI i), .long a, .int lv, .long tm] (bE k oe ec ew el ea ed et ex) (p_E_counts oe ec ew el ea ed et ex i a lv tm) (fun (u : Unit) => bE k oe ec ew el ea ed et ex) 0 0 := by
  intro sz
  refine xx_met (Qf := fun A => va_Qi (p_E_counts oe ec ew el ea ed et ex i a lv tm) (xx_B D vwCl (xT k) A (fun (u : Unit) => bE k oe ec ew el ea ed et ex)) A) (cc := cX2_counts) (maxL := 7) (ret := (some .boolean)) (by decide) rfl (Nat.le_of_ble_eq_true rfl) ?_
  intro p e s m below meth c A ls hx hb hr hts hown hlocks hin hml hA hS hP hD hK hN hl
  have hl : lv_has ls 7 [(0, .ref (oe 0)), (1, .int (nI i)), (2, .long a), (4, .int lv), (5, .long tm)] := hl
  have hown : s.vm.findClass RX2 = some m.cls := hown
  have hinW := inX2
  refine lv_aload_n hx hb dX2_counts_0 rfl (lv_at hl 0 rfl) ?_
  refine lv_iload_n hx hb dX2_counts_1 rfl (lv_at hl 1 rfl) ?_
  refine xx_calli ([]) [0, 1, 2, 3, 4, 5, 6] [] (va_runV (As := [.int (nI i)]) (rest := []) ⟨hx, hb, hml, hown, hts⟩ (c_E_stand l D k oe ec ew el ea ed et ex (nI i) (by omega) s.heap.size) (cwV 1 hts (xx_gV tw_235 tw_236 tw_237 tw_4 tw_238) rfl rfl rfl (by decide +kernel) ⟨Nat.le_of_ble_eq_true rfl, Nat.le_of_ble_eq_true rfl⟩) (xx_preV hK hN hP hD [0, 1, 2, 3, 4, 5, 6] (by decide) rfl 2 0 rfl rfl) rfl rfl hl.1 rfl (lv_room (Nat.le_of_ble_eq_true rfl)) dX2_counts_2 ⟨Nat.le_of_ble_eq_true rfl, Nat.le_of_ble_eq_true rfl⟩) hP hD hS hA rfl rfl (by decide) (by decide) (fun r2 u2 H locs hw2 hP hD hS => ?_)
  rcases hw2 with ⟨rfl, j2, hj2, hx2, hb2⟩ | ⟨rfl, hq2⟩
  · have hx2 : i = j2 := (nI_eq (by omega) (by omega)).mp hx2
    subst hx2
    have hP : va_P D vwCl (bE k oe ec ew el ea ed et ex) H := hP
    have hD : va_D A (bE k oe ec ew el ea ed et ex) := hD
    refine lv_if_eq (tgt := 46) hx hb dX2_counts_5 (by decide) (fun c => absurd c (by decide)) (fun _ => ?_)
    refine lv_aload_n hx hb dX2_counts_8 rfl (lv_at hl 0 rfl) ?_
    refine va_get (D := D) (ci := 2) (v := .ref (oe 3)) (C := RX2) (T := TX2) (N := 7) hx hb hts hinW hown hK hP 0 rfl rfl 2 (by decide) (hts _ tw_63) (fun _ h9 => h9) rfl dX2_counts_9 ?_
    refine lv_iload_n hx hb dX2_counts_12 rfl (lv_at hl 1 rfl) ?_
    refine xx_lald hx hb hK hP 3 2 rfl rfl (show i < 100 by omega) (by decide) dX2_counts_13 ?_
    refine lv_lload_n hx hb dX2_counts_14 rfl (lv_at hl 2 rfl) ?_
    refine W.lcmp hx hb dX2_counts_15 ?_
    refine lv_if_ne (tgt := 46) hx hb dX2_counts_16 (by decide) (fun c16 => ?_) (fun c16 => ?_)
    · have c16 : ¬ ((ea i) = a) := fun h => c16 ((lg_cmp_eq (ea i) a).mpr h)
      refine lv_iconst (v := (nI 0)) hx hb dX2_counts_46 (by decide) ?_
      refine xx_zret () hx hb hr hlocks rfl hS hK hP hD dX2_counts_47 ?_
      first | exact xb_f (fun h => hq2 ⟨i, hi, rfl, h.1⟩) | exact xb_f (fun h => c16 h.2.1) | exact xb_f (fun h => h.2.2.1 c27) | exact xb_f (fun h => h.2.2.2 c39) | exact xb_t ⟨hb2, c16, c27, c39⟩
    · have c16 : (ea i) = a := (lg_cmp_eq (ea i) a).mp c16
      refine lv_aload_n hx hb dX2_counts_19 rfl (lv_at hl 0 rfl) ?_
      refine va_get (D := D) (ci := 2) (v := .ref (oe 2)) (C := RX2) (T := TX2) (N := 7) hx hb hts hinW hown hK hP 0 rfl rfl 1 (by decide) (hts _ tw_62) (fun _ h9 => h9) rfl dX2_counts_20 ?_
      refine lv_iload_n hx hb dX2_counts_23 rfl (lv_at hl 1 rfl) ?_
      refine xx_iald hx hb hK hP 2 0 rfl rfl (show i < 100 by omega) (by decide) dX2_counts_24 ?_
      refine lv_iload hx hb dX2_counts_25 (lv_at hl 3 rfl) ?_
      refine lv_icmp_lt (tgt := 46) hx hb dX2_counts_27 (by decide) (fun c27 => ?_) (fun c27 => ?_)
      · refine lv_iconst (v := (nI 0)) hx hb dX2_counts_46 (by decide) ?_
        refine xx_zret () hx hb hr hlocks rfl hS hK hP hD dX2_counts_47 ?_
        first | exact xb_f (fun h => hq2 ⟨i, hi, rfl, h.1⟩) | exact xb_f (fun h => c16 h.2.1) | exact xb_f (fun h => h.2.2.1 c27) | exact xb_f (fun h => h.2.2.2 c39) | exact xb_t ⟨hb2, c16, c27, c39⟩
      · refine lv_aload_n hx hb dX2_counts_30 rfl (lv_at hl 0 rfl) ?_
        refine va_get (D := D) (ci := 2) (v := .ref (oe 5)) (C := RX2) (T := TX2) (N := 7) hx hb hts hinW hown hK hP 0 rfl rfl 4 (by decide) (hts _ tw_65) (fun _ h9 => h9) rfl dX2_counts_31 ?_
        refine lv_iload_n hx hb dX2_counts_34 rfl (lv_at hl 1 rfl) ?_
        refine xx_lald hx hb hK hP 5 2 rfl rfl (show i < 100 by omega) (by decide) dX2_counts_35 ?_
        refine lv_lload hx hb dX2_counts_36 (lv_at hl 4 rfl) ?_
        refine W.lcmp hx hb dX2_counts_38 ?_
        refine lv_if_gt (tgt := 46) hx hb dX2_counts_39 (by decide) (fun c39 => ?_) (fun c39 => ?_)
        · have c39 : tm < (et i) := (lg_cmp_gt (et i) tm).mp c39
          refine lv_iconst (v := (nI 0)) hx hb dX2_counts_46 (by decide) ?_
          refine xx_zret () hx hb hr hlocks rfl hS hK hP hD dX2_counts_47 ?_
          first | exact xb_f (fun h => hq2 ⟨i, hi, rfl, h.1⟩) | exact xb_f (fun h => c16 h.2.1) | exact xb_f (fun h => h.2.2.1 c27) | exact xb_f (fun h => h.2.2.2 c39) | exact xb_t ⟨hb2, c16, c27, c39⟩
        · have c39 : ¬ (tm < (et i)) := fun h => c39 ((lg_cmp_gt (et i) tm).mpr h)
          refine lv_iconst (v := (nI 1)) hx hb dX2_counts_42 (by decide) ?_
          refine lv_goto (tgt := 47) hx hb dX2_counts_43 (by decide) ?_
          refine xx_zret () hx hb hr hlocks rfl hS hK hP hD dX2_counts_47 ?_
          first | exact xb_f (fun h => hq2 ⟨i, hi, rfl, h.1⟩) | exact xb_f (fun h => c16 h.2.1) | exact xb_f (fun h => h.2.2.1 c27) | exact xb_f (fun h => h.2.2.2 c39) | exact xb_t ⟨hb2, c16, c27, c39⟩
  · have hP : va_P D vwCl (bE k oe ec ew el ea ed et ex) H := hP
    have hD : va_D A (bE k oe ec ew el ea ed et ex) := hD
    refine lv_if_eq (tgt := 46) hx hb dX2_counts_5 (by decide) (fun _ => ?_) (fun c => absurd c (by decide))
    refine lv_iconst (v := (nI 0)) hx hb dX2_counts_46 (by decide) ?_
    refine xx_zret () hx hb hr hlocks rfl hS hK hP hD dX2_counts_47 ?_
    first | exact xb_f (fun h => hq2 ⟨i, hi, rfl, h.1⟩) | exact xb_f (fun h => c16 h.2.1) | exact xb_f (fun h => h.2.2.1 c27) | exact xb_f (fun h => h.2.2.2 c39) | exact xb_t ⟨hb2, c16, c27, c39⟩
