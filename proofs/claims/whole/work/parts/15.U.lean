theorem dX3_add_0 : decode cX3_add 0 = .ok (.aload_n 0, 1) := by decide +kernel
theorem dX3_add_1 : decode cX3_add 1 = .ok (.getfield 24, 3) := by decide +kernel
theorem dX3_add_4 : decode cX3_add 4 = .ok (.bipush 20, 2) := by decide +kernel
theorem dX3_add_6 : decode cX3_add 6 = .ok (.if_icmp .ge 17, 3) := by decide +kernel
theorem dX3_add_9 : decode cX3_add 9 = .ok (.iload_n 1, 1) := by decide +kernel
theorem dX3_add_10 : decode cX3_add 10 = .ok (.invokestatic 28, 3) := by decide +kernel
theorem dX3_add_13 : decode cX3_add 13 = .ok (.ifCond .eq 10, 3) := by decide +kernel
theorem dX3_add_16 : decode cX3_add 16 = .ok (.iload_n 2, 1) := by decide +kernel
theorem dX3_add_17 : decode cX3_add 17 = .ok (.invokestatic 28, 3) := by decide +kernel
theorem dX3_add_20 : decode cX3_add 20 = .ok (.ifCond .ne 5, 3) := by decide +kernel
theorem dX3_add_23 : decode cX3_add 23 = .ok (.iconst (-1), 1) := by decide +kernel
theorem dX3_add_24 : decode cX3_add 24 = .ok (.ireturn, 1) := by decide +kernel
theorem dX3_add_25 : decode cX3_add 25 = .ok (.iload_n 3, 1) := by decide +kernel
theorem dX3_add_26 : decode cX3_add 26 = .ok (.invokestatic 32, 3) := by decide +kernel
theorem dX3_add_29 : decode cX3_add 29 = .ok (.ifCond .eq 15, 3) := by decide +kernel
theorem dX3_add_32 : decode cX3_add 32 = .ok (.iload 4, 2) := by decide +kernel
theorem dX3_add_34 : decode cX3_add 34 = .ok (.iconst 1, 1) := by decide +kernel
theorem dX3_add_35 : decode cX3_add 35 = .ok (.if_icmp .lt 9, 3) := by decide +kernel
theorem dX3_add_38 : decode cX3_add 38 = .ok (.iload 4, 2) := by decide +kernel
theorem dX3_add_40 : decode cX3_add 40 = .ok (.iconst 5, 1) := by decide +kernel
theorem dX3_add_41 : decode cX3_add 41 = .ok (.if_icmp .le 5, 3) := by decide +kernel
theorem dX3_add_44 : decode cX3_add 44 = .ok (.iconst (-1), 1) := by decide +kernel
theorem dX3_add_45 : decode cX3_add 45 = .ok (.ireturn, 1) := by decide +kernel
theorem dX3_add_46 : decode cX3_add 46 = .ok (.aload_n 0, 1) := by decide +kernel
theorem dX3_add_47 : decode cX3_add 47 = .ok (.getfield 24, 3) := by decide +kernel
theorem dX3_add_50 : decode cX3_add 50 = .ok (.istore 5, 2) := by decide +kernel
theorem dX3_add_52 : decode cX3_add 52 = .ok (.aload_n 0, 1) := by decide +kernel
theorem dX3_add_53 : decode cX3_add 53 = .ok (.getfield 9, 3) := by decide +kernel
theorem dX3_add_56 : decode cX3_add 56 = .ok (.iload 5, 2) := by decide +kernel
theorem dX3_add_58 : decode cX3_add 58 = .ok (.iload_n 1, 1) := by decide +kernel
theorem dX3_add_59 : decode cX3_add 59 = .ok (.iastore, 1) := by decide +kernel
theorem dX3_add_60 : decode cX3_add 60 = .ok (.aload_n 0, 1) := by decide +kernel
theorem dX3_add_61 : decode cX3_add 61 = .ok (.getfield 15, 3) := by decide +kernel
theorem dX3_add_64 : decode cX3_add 64 = .ok (.iload 5, 2) := by decide +kernel
theorem dX3_add_66 : decode cX3_add 66 = .ok (.iload_n 2, 1) := by decide +kernel
theorem dX3_add_67 : decode cX3_add 67 = .ok (.iastore, 1) := by decide +kernel
theorem dX3_add_68 : decode cX3_add 68 = .ok (.aload_n 0, 1) := by decide +kernel
theorem dX3_add_69 : decode cX3_add 69 = .ok (.getfield 18, 3) := by decide +kernel
theorem dX3_add_72 : decode cX3_add 72 = .ok (.iload 5, 2) := by decide +kernel
theorem dX3_add_74 : decode cX3_add 74 = .ok (.iload_n 3, 1) := by decide +kernel
theorem dX3_add_75 : decode cX3_add 75 = .ok (.iastore, 1) := by decide +kernel
theorem dX3_add_76 : decode cX3_add 76 = .ok (.aload_n 0, 1) := by decide +kernel
theorem dX3_add_77 : decode cX3_add 77 = .ok (.getfield 21, 3) := by decide +kernel
theorem dX3_add_80 : decode cX3_add 80 = .ok (.iload 5, 2) := by decide +kernel
theorem dX3_add_82 : decode cX3_add 82 = .ok (.iload 4, 2) := by decide +kernel
theorem dX3_add_84 : decode cX3_add 84 = .ok (.iastore, 1) := by decide +kernel
theorem dX3_add_85 : decode cX3_add 85 = .ok (.aload_n 0, 1) := by decide +kernel
theorem dX3_add_86 : decode cX3_add 86 = .ok (.dup, 1) := by decide +kernel
theorem dX3_add_87 : decode cX3_add 87 = .ok (.getfield 24, 3) := by decide +kernel
theorem dX3_add_90 : decode cX3_add 90 = .ok (.iconst 1, 1) := by decide +kernel
theorem dX3_add_91 : decode cX3_add 91 = .ok (.iadd, 1) := by decide +kernel
theorem dX3_add_92 : decode cX3_add 92 = .ok (.putfield 24, 3) := by decide +kernel
theorem dX3_add_95 : decode cX3_add 95 = .ok (.iload 5, 2) := by decide +kernel
theorem dX3_add_97 : decode cX3_add 97 = .ok (.ireturn, 1) := by decide +kernel
theorem dX3_has_0 : decode cX3_has 0 = .ok (.iload_n 1, 1) := by decide +kernel
theorem dX3_has_1 : decode cX3_has 1 = .ok (.ifCond .lt 15, 3) := by decide +kernel
theorem dX3_has_4 : decode cX3_has 4 = .ok (.iload_n 1, 1) := by decide +kernel
theorem dX3_has_5 : decode cX3_has 5 = .ok (.aload_n 0, 1) := by decide +kernel
theorem dX3_has_6 : decode cX3_has 6 = .ok (.getfield 24, 3) := by decide +kernel
theorem dX3_has_9 : decode cX3_has 9 = .ok (.if_icmp .ge 7, 3) := by decide +kernel
theorem dX3_has_12 : decode cX3_has 12 = .ok (.iconst 1, 1) := by decide +kernel
theorem dX3_has_13 : decode cX3_has 13 = .ok (.goto 4, 3) := by decide +kernel
theorem dX3_has_16 : decode cX3_has 16 = .ok (.iconst 0, 1) := by decide +kernel
theorem dX3_has_17 : decode cX3_has 17 = .ok (.ireturn, 1) := by decide +kernel
theorem dX3_levelOf_0 : decode cX3_levelOf 0 = .ok (.aload_n 0, 1) := by decide +kernel
theorem dX3_levelOf_1 : decode cX3_levelOf 1 = .ok (.iload_n 1, 1) := by decide +kernel
theorem dX3_levelOf_2 : decode cX3_levelOf 2 = .ok (.invokevirtual 39, 3) := by decide +kernel
theorem dX3_levelOf_5 : decode cX3_levelOf 5 = .ok (.ifCond .eq 12, 3) := by decide +kernel
theorem dX3_levelOf_8 : decode cX3_levelOf 8 = .ok (.aload_n 0, 1) := by decide +kernel
theorem dX3_levelOf_9 : decode cX3_levelOf 9 = .ok (.getfield 18, 3) := by decide +kernel
theorem dX3_levelOf_12 : decode cX3_levelOf 12 = .ok (.iload_n 1, 1) := by decide +kernel
theorem dX3_levelOf_13 : decode cX3_levelOf 13 = .ok (.iaload, 1) := by decide +kernel
theorem dX3_levelOf_14 : decode cX3_levelOf 14 = .ok (.goto 4, 3) := by decide +kernel
theorem dX3_levelOf_17 : decode cX3_levelOf 17 = .ok (.iconst 1, 1) := by decide +kernel
theorem dX3_levelOf_18 : decode cX3_levelOf 18 = .ok (.ireturn, 1) := by decide +kernel
theorem dX3_wantedOf_0 : decode cX3_wantedOf 0 = .ok (.aload_n 0, 1) := by decide +kernel
theorem dX3_wantedOf_1 : decode cX3_wantedOf 1 = .ok (.iload_n 1, 1) := by decide +kernel
theorem dX3_wantedOf_2 : decode cX3_wantedOf 2 = .ok (.invokevirtual 39, 3) := by decide +kernel
theorem dX3_wantedOf_5 : decode cX3_wantedOf 5 = .ok (.ifCond .eq 12, 3) := by decide +kernel
theorem dX3_wantedOf_8 : decode cX3_wantedOf 8 = .ok (.aload_n 0, 1) := by decide +kernel
theorem dX3_wantedOf_9 : decode cX3_wantedOf 9 = .ok (.getfield 21, 3) := by decide +kernel
theorem dX3_wantedOf_12 : decode cX3_wantedOf 12 = .ok (.iload_n 1, 1) := by decide +kernel
theorem dX3_wantedOf_13 : decode cX3_wantedOf 13 = .ok (.iaload, 1) := by decide +kernel
theorem dX3_wantedOf_14 : decode cX3_wantedOf 14 = .ok (.goto 4, 3) := by decide +kernel
theorem dX3_wantedOf_17 : decode cX3_wantedOf 17 = .ok (.iload_n 2, 1) := by decide +kernel
theorem dX3_wantedOf_18 : decode cX3_wantedOf 18 = .ok (.ireturn, 1) := by decide +kernel
theorem dX3_rankFor_0 : decode cX3_rankFor 0 = .ok (.aload_n 0, 1) := by decide +kernel
theorem dX3_rankFor_1 : decode cX3_rankFor 1 = .ok (.iload_n 1, 1) := by decide +kernel
theorem dX3_rankFor_2 : decode cX3_rankFor 2 = .ok (.invokevirtual 39, 3) := by decide +kernel
theorem dX3_rankFor_5 : decode cX3_rankFor 5 = .ok (.ifCond .ne 5, 3) := by decide +kernel
theorem dX3_rankFor_8 : decode cX3_rankFor 8 = .ok (.iconst (-1), 1) := by decide +kernel
theorem dX3_rankFor_9 : decode cX3_rankFor 9 = .ok (.ireturn, 1) := by decide +kernel
theorem dX3_rankFor_10 : decode cX3_rankFor 10 = .ok (.aload_n 0, 1) := by decide +kernel
theorem dX3_rankFor_11 : decode cX3_rankFor 11 = .ok (.getfield 9, 3) := by decide +kernel
theorem dX3_rankFor_14 : decode cX3_rankFor 14 = .ok (.iload_n 1, 1) := by decide +kernel
theorem dX3_rankFor_15 : decode cX3_rankFor 15 = .ok (.iaload, 1) := by decide +kernel
theorem dX3_rankFor_16 : decode cX3_rankFor 16 = .ok (.iconst (-1), 1) := by decide +kernel
theorem dX3_rankFor_17 : decode cX3_rankFor 17 = .ok (.if_icmp .ne 7, 3) := by decide +kernel
theorem dX3_rankFor_20 : decode cX3_rankFor 20 = .ok (.iconst 1, 1) := by decide +kernel
theorem dX3_rankFor_21 : decode cX3_rankFor 21 = .ok (.goto 4, 3) := by decide +kernel
theorem dX3_rankFor_24 : decode cX3_rankFor 24 = .ok (.iconst 0, 1) := by decide +kernel
theorem dX3_rankFor_25 : decode cX3_rankFor 25 = .ok (.istore 4, 2) := by decide +kernel
theorem dX3_rankFor_27 : decode cX3_rankFor 27 = .ok (.aload_n 0, 1) := by decide +kernel
theorem dX3_rankFor_28 : decode cX3_rankFor 28 = .ok (.getfield 15, 3) := by decide +kernel
theorem dX3_rankFor_31 : decode cX3_rankFor 31 = .ok (.iload_n 1, 1) := by decide +kernel
theorem dX3_rankFor_32 : decode cX3_rankFor 32 = .ok (.iaload, 1) := by decide +kernel
theorem dX3_rankFor_33 : decode cX3_rankFor 33 = .ok (.iconst (-1), 1) := by decide +kernel
theorem dX3_rankFor_34 : decode cX3_rankFor 34 = .ok (.if_icmp .ne 7, 3) := by decide +kernel
theorem dX3_rankFor_37 : decode cX3_rankFor 37 = .ok (.iconst 1, 1) := by decide +kernel
theorem dX3_rankFor_38 : decode cX3_rankFor 38 = .ok (.goto 4, 3) := by decide +kernel
theorem dX3_rankFor_41 : decode cX3_rankFor 41 = .ok (.iconst 0, 1) := by decide +kernel
theorem dX3_rankFor_42 : decode cX3_rankFor 42 = .ok (.istore 5, 2) := by decide +kernel
theorem dX3_rankFor_44 : decode cX3_rankFor 44 = .ok (.iload 4, 2) := by decide +kernel
theorem dX3_rankFor_46 : decode cX3_rankFor 46 = .ok (.ifCond .ne 13, 3) := by decide +kernel
theorem dX3_rankFor_49 : decode cX3_rankFor 49 = .ok (.aload_n 0, 1) := by decide +kernel
theorem dX3_rankFor_50 : decode cX3_rankFor 50 = .ok (.getfield 9, 3) := by decide +kernel
theorem dX3_rankFor_53 : decode cX3_rankFor 53 = .ok (.iload_n 1, 1) := by decide +kernel
theorem dX3_rankFor_54 : decode cX3_rankFor 54 = .ok (.iaload, 1) := by decide +kernel
theorem dX3_rankFor_55 : decode cX3_rankFor 55 = .ok (.iload_n 2, 1) := by decide +kernel
theorem dX3_rankFor_56 : decode cX3_rankFor 56 = .ok (.if_icmp .ne 7, 3) := by decide +kernel
theorem dX3_rankFor_59 : decode cX3_rankFor 59 = .ok (.iconst 1, 1) := by decide +kernel
theorem dX3_rankFor_60 : decode cX3_rankFor 60 = .ok (.goto 4, 3) := by decide +kernel
theorem dX3_rankFor_63 : decode cX3_rankFor 63 = .ok (.iconst 0, 1) := by decide +kernel
theorem dX3_rankFor_64 : decode cX3_rankFor 64 = .ok (.istore 6, 2) := by decide +kernel
theorem dX3_rankFor_66 : decode cX3_rankFor 66 = .ok (.iload 5, 2) := by decide +kernel
theorem dX3_rankFor_68 : decode cX3_rankFor 68 = .ok (.ifCond .ne 13, 3) := by decide +kernel
theorem dX3_rankFor_71 : decode cX3_rankFor 71 = .ok (.aload_n 0, 1) := by decide +kernel
theorem dX3_rankFor_72 : decode cX3_rankFor 72 = .ok (.getfield 15, 3) := by decide +kernel
theorem dX3_rankFor_75 : decode cX3_rankFor 75 = .ok (.iload_n 1, 1) := by decide +kernel
theorem dX3_rankFor_76 : decode cX3_rankFor 76 = .ok (.iaload, 1) := by decide +kernel
theorem dX3_rankFor_77 : decode cX3_rankFor 77 = .ok (.iload_n 3, 1) := by decide +kernel
theorem dX3_rankFor_78 : decode cX3_rankFor 78 = .ok (.if_icmp .ne 7, 3) := by decide +kernel
theorem dX3_rankFor_81 : decode cX3_rankFor 81 = .ok (.iconst 1, 1) := by decide +kernel
theorem dX3_rankFor_82 : decode cX3_rankFor 82 = .ok (.goto 4, 3) := by decide +kernel
theorem dX3_rankFor_85 : decode cX3_rankFor 85 = .ok (.iconst 0, 1) := by decide +kernel
theorem dX3_rankFor_86 : decode cX3_rankFor 86 = .ok (.istore 7, 2) := by decide +kernel
theorem dX3_rankFor_88 : decode cX3_rankFor 88 = .ok (.iload 6, 2) := by decide +kernel
theorem dX3_rankFor_90 : decode cX3_rankFor 90 = .ok (.ifCond .eq 8, 3) := by decide +kernel
theorem dX3_rankFor_93 : decode cX3_rankFor 93 = .ok (.iload 7, 2) := by decide +kernel
theorem dX3_rankFor_95 : decode cX3_rankFor 95 = .ok (.ifCond .ne 5, 3) := by decide +kernel
theorem dX3_rankFor_98 : decode cX3_rankFor 98 = .ok (.iconst (-1), 1) := by decide +kernel
theorem dX3_rankFor_99 : decode cX3_rankFor 99 = .ok (.ireturn, 1) := by decide +kernel
theorem dX3_rankFor_100 : decode cX3_rankFor 100 = .ok (.iload 4, 2) := by decide +kernel
theorem dX3_rankFor_102 : decode cX3_rankFor 102 = .ok (.ifCond .eq 7, 3) := by decide +kernel
theorem dX3_rankFor_105 : decode cX3_rankFor 105 = .ok (.iconst 0, 1) := by decide +kernel
theorem dX3_rankFor_106 : decode cX3_rankFor 106 = .ok (.goto 4, 3) := by decide +kernel
theorem dX3_rankFor_109 : decode cX3_rankFor 109 = .ok (.iconst 2, 1) := by decide +kernel
theorem dX3_rankFor_110 : decode cX3_rankFor 110 = .ok (.iload 5, 2) := by decide +kernel
theorem dX3_rankFor_112 : decode cX3_rankFor 112 = .ok (.ifCond .eq 7, 3) := by decide +kernel
theorem dX3_rankFor_115 : decode cX3_rankFor 115 = .ok (.iconst 0, 1) := by decide +kernel
theorem dX3_rankFor_116 : decode cX3_rankFor 116 = .ok (.goto 4, 3) := by decide +kernel
theorem dX3_rankFor_119 : decode cX3_rankFor 119 = .ok (.iconst 1, 1) := by decide +kernel
theorem dX3_rankFor_120 : decode cX3_rankFor 120 = .ok (.iadd, 1) := by decide +kernel
theorem dX3_rankFor_121 : decode cX3_rankFor 121 = .ok (.ireturn, 1) := by decide +kernel
theorem dX3_best_0 : decode cX3_best 0 = .ok (.iconst (-1), 1) := by decide +kernel
theorem dX3_best_1 : decode cX3_best 1 = .ok (.istore_n 3, 1) := by decide +kernel
theorem dX3_best_2 : decode cX3_best 2 = .ok (.iconst 0, 1) := by decide +kernel
theorem dX3_best_3 : decode cX3_best 3 = .ok (.istore 4, 2) := by decide +kernel
theorem dX3_best_5 : decode cX3_best 5 = .ok (.iconst 0, 1) := by decide +kernel
theorem dX3_best_6 : decode cX3_best 6 = .ok (.istore 5, 2) := by decide +kernel
theorem dX3_best_8 : decode cX3_best 8 = .ok (.iload 5, 2) := by decide +kernel
theorem dX3_best_10 : decode cX3_best 10 = .ok (.aload_n 0, 1) := by decide +kernel
theorem dX3_best_11 : decode cX3_best 11 = .ok (.getfield 24, 3) := by decide +kernel
theorem dX3_best_14 : decode cX3_best 14 = .ok (.if_icmp .ge 39, 3) := by decide +kernel
theorem dX3_best_17 : decode cX3_best 17 = .ok (.aload_n 0, 1) := by decide +kernel
theorem dX3_best_18 : decode cX3_best 18 = .ok (.iload 5, 2) := by decide +kernel
theorem dX3_best_20 : decode cX3_best 20 = .ok (.iload_n 1, 1) := by decide +kernel
theorem dX3_best_21 : decode cX3_best 21 = .ok (.iload_n 2, 1) := by decide +kernel
theorem dX3_best_22 : decode cX3_best 22 = .ok (.invokevirtual 35, 3) := by decide +kernel
theorem dX3_best_25 : decode cX3_best 25 = .ok (.istore 6, 2) := by decide +kernel
theorem dX3_best_27 : decode cX3_best 27 = .ok (.iload 6, 2) := by decide +kernel
theorem dX3_best_29 : decode cX3_best 29 = .ok (.iconst (-1), 1) := by decide +kernel
theorem dX3_best_30 : decode cX3_best 30 = .ok (.if_icmp .eq 17, 3) := by decide +kernel
theorem dX3_best_33 : decode cX3_best 33 = .ok (.iload 6, 2) := by decide +kernel
theorem dX3_best_35 : decode cX3_best 35 = .ok (.iload 4, 2) := by decide +kernel
theorem dX3_best_37 : decode cX3_best 37 = .ok (.if_icmp .lt 10, 3) := by decide +kernel
theorem dX3_best_40 : decode cX3_best 40 = .ok (.iload 5, 2) := by decide +kernel
theorem dX3_best_42 : decode cX3_best 42 = .ok (.istore_n 3, 1) := by decide +kernel
theorem dX3_best_43 : decode cX3_best 43 = .ok (.iload 6, 2) := by decide +kernel
theorem dX3_best_45 : decode cX3_best 45 = .ok (.istore 4, 2) := by decide +kernel
theorem dX3_best_47 : decode cX3_best 47 = .ok (.iinc 5 1, 3) := by decide +kernel
theorem dX3_best_50 : decode cX3_best 50 = .ok (.goto (-42), 3) := by decide +kernel
theorem dX3_best_53 : decode cX3_best 53 = .ok (.iload_n 3, 1) := by decide +kernel
theorem dX3_best_54 : decode cX3_best 54 = .ok (.ireturn, 1) := by decide +kernel
def p_U_add (ou : Nat → Nat) (uc : Nat) (ut : Nat → Int32) (ub : Nat → Int32) (ul : Nat → Int32) (uw : Nat → Int32) (t : Int32) (b : Int32) (lv : Int32) (wt : Int32) : Int32 → (Nat × (Nat → Int32) × (Nat → Int32) × (Nat → Int32) × (Nat → Int32)) → Prop := fun r u => (r = (-1) ∧ ¬ (uc < 20 ∧ (t = (-1) ∨ ixN 8 t) ∧ (b = (-1) ∨ ixN 8 b) ∧ ixN 3 lv ∧ ¬ (wt < nI 1) ∧ wt ≤ nI 5) ∧ u = (uc, ut, ub, ul, uw)) ∨ (r = nI uc ∧ (uc < 20 ∧ (t = (-1) ∨ ixN 8 t) ∧ (b = (-1) ∨ ixN 8 b) ∧ ixN 3 lv ∧ ¬ (wt < nI 1) ∧ wt ≤ nI 5) ∧ u = (uc + 1, upd ut uc t, upd ub uc b, upd ul uc lv, upd uw uc wt))
set_option maxHeartbeats 4000000 in
set_option maxRecDepth 100000 in
theorem c_U_add (l : Launch) (D : va_G) (k : Nat → ClassId) (ou : Nat → Nat) (uc : Nat) (ut : Nat → Int32) (ub : Nat → Int32) (ul : Nat → Int32) (uw : Nat → Int32) (t : Int32) (b : Int32) (lv : Int32) (wt : Int32) (huc : uc ≤ 20) : xx_Ci l yX3_add (.code yX3_add cX3_add 6 (some .int) :: xall) ({ frames := 2, cells := 0, slots := 0, locals := 40 } : Room) D vwCl (xT k) [.ref (ou 0), .int t, .int b, .int lv, .int wt] (bU k ou uc ut ub ul uw) (p_U_add ou uc ut ub ul uw t b lv wt) (fun (u : Nat × (Nat → Int32) × (Nat → Int32) × (Nat → Int32) × (Nat → Int32)) => bU k ou u.1 u.2.1 u.2.2.1 u.2.2.2.1 u.2.2.2.2) 0 0 := by
  intro sz
  refine xx_met (Qf := fun A => va_Qi (p_U_add ou uc ut ub ul uw t b lv wt) (xx_B D vwCl (xT k) A (fun (u : Nat × (Nat → Int32) × (Nat → Int32) × (Nat → Int32) × (Nat → Int32)) => bU k ou u.1 u.2.1 u.2.2.1 u.2.2.2.1 u.2.2.2.2)) A) (cc := cX3_add) (maxL := 6) (ret := (some .int)) (by decide) rfl (Nat.le_of_ble_eq_true rfl) ?_
  intro p e s m below meth c A ls hx hb hr hts hown hlocks hin hml hA hS hP hD hK hN hl
  have hl : lv_has ls 6 [(0, .ref (ou 0)), (1, .int t), (2, .int b), (3, .int lv), (4, .int wt)] := hl
  have hown : s.vm.findClass RX3 = some m.cls := hown
  have hinW := inX3
  refine lv_aload_n hx hb dX3_add_0 rfl (lv_at hl 0 rfl) ?_
  refine va_get (D := D) (ci := 3) (v := .int (nI uc)) (C := RX3) (T := TX3) (N := 5) hx hb hts hinW hown hK hP 0 rfl rfl 4 (by decide) (hts _ tw_112) (fun _ h9 => h9) rfl dX3_add_1 ?_
  refine lv_bipush (v := (nI 20)) hx hb dX3_add_4 (by decide) ?_
  refine lv_icmp_ge (tgt := 23) hx hb dX3_add_6 (by decide) (fun c6 => ?_) (fun c6 => ?_)
  · have c6 : 20 ≤ uc := (nI_leI (by omega) (by omega)).mp c6
    refine lv_iconst (v := (-1)) hx hb dX3_add_23 (by decide) ?_
    refine xx_iret (uc, ut, ub, ul, uw) hx hb hr hlocks hS hK hP hD dX3_add_24 ?_
    first | exact Or.inl ⟨rfl, fun h => absurd h.1 (by omega), rfl⟩ | exact Or.inl ⟨rfl, fun h => hq10 h.2.1, rfl⟩ | exact Or.inl ⟨rfl, fun h => hq17 h.2.2.1, rfl⟩
  · have c6 : uc < 20 := Nat.lt_of_not_le (fun h => c6 ((nI_leI (by omega) (by omega)).mpr h))
    refine lv_iload_n hx hb dX3_add_9 rfl (lv_at hl 1 rfl) ?_
    refine xx_calli (bU k ou uc ut ub ul uw) [] [0, 1, 2, 3, 4] (va_runSN (As := [.int t]) (rest := []) ⟨hx, hb, hml, hown, hts⟩ (c_isAny l D k t s.heap.size) ⟨va_cnB 1 hts (xx_gc tw_270) rfl rfl rfl (hN (RX3, 28, yX5_isPlaceOrAny, "TrustRows") (by decide +kernel)) (hts _ tw_1) (by decide +kernel) ⟨Nat.le_of_ble_eq_true rfl, Nat.le_of_ble_eq_true rfl⟩, hts _ tw_269, trivial⟩ (xx_preS hK hN hP hD [] (by decide) rfl) rfl rfl hl.1 rfl (lv_room (Nat.le_of_ble_eq_true rfl)) dX3_add_10 ⟨Nat.le_of_ble_eq_true rfl, Nat.le_of_ble_eq_true rfl⟩) hP hD hS hA rfl rfl (by decide) (by decide) (fun r10 u10 H locs hw10 hP hD hS => ?_)
    rcases hw10 with ⟨rfl, hq10⟩ | ⟨rfl, hq10⟩
    · have hP : va_P D vwCl (bU k ou uc ut ub ul uw) H := hP
      have hD : va_D A (bU k ou uc ut ub ul uw) := hD
      refine lv_if_eq (tgt := 23) hx hb dX3_add_13 (by decide) (fun c => absurd c (by decide)) (fun _ => ?_)
      refine lv_iload_n hx hb dX3_add_16 rfl (lv_at hl 2 rfl) ?_
      refine xx_calli (bU k ou uc ut ub ul uw) [] [0, 1, 2, 3, 4] (va_runSN (As := [.int b]) (rest := []) ⟨hx, hb, hml, hown, hts⟩ (c_isAny l D k b H.size) ⟨va_cnB 1 hts (xx_gc tw_270) rfl rfl rfl (hN (RX3, 28, yX5_isPlaceOrAny, "TrustRows") (by decide +kernel)) (hts _ tw_1) (by decide +kernel) ⟨Nat.le_of_ble_eq_true rfl, Nat.le_of_ble_eq_true rfl⟩, hts _ tw_269, trivial⟩ (xx_preS hK hN hP hD [] (by decide) rfl) rfl rfl hl.1 rfl (lv_room (Nat.le_of_ble_eq_true rfl)) dX3_add_17 ⟨Nat.le_of_ble_eq_true rfl, Nat.le_of_ble_eq_true rfl⟩) hP hD hS hA rfl rfl (by decide) (by decide) (fun r17 u17 H locs hw17 hP hD hS => ?_)
      rcases hw17 with ⟨rfl, hq17⟩ | ⟨rfl, hq17⟩
      · have hP : va_P D vwCl (bU k ou uc ut ub ul uw) H := hP
        have hD : va_D A (bU k ou uc ut ub ul uw) := hD
        refine lv_if_ne (tgt := 25) hx hb dX3_add_20 (by decide) (fun _ => ?_) (fun c => absurd c (by decide))
        refine lv_iload_n hx hb dX3_add_25 rfl (lv_at hl 3 rfl) ?_
        refine xx_calli (bU k ou uc ut ub ul uw) [] [0, 1, 2, 3, 4] (va_runSN (As := [.int lv]) (rest := []) ⟨hx, hb, hml, hown, hts⟩ (c_isLevel l D k lv H.size) ⟨va_cnB 1 hts (xx_gc tw_172) rfl rfl rfl (hN (RX3, 32, yX5_isLevel, "TrustRows") (by decide +kernel)) (hts _ tw_1) (by decide +kernel) ⟨Nat.le_of_ble_eq_true rfl, Nat.le_of_ble_eq_true rfl⟩, hts _ tw_171, trivial⟩ (xx_preS hK hN hP hD [] (by decide) rfl) rfl rfl hl.1 rfl (lv_room (Nat.le_of_ble_eq_true rfl)) dX3_add_26 ⟨Nat.le_of_ble_eq_true rfl, Nat.le_of_ble_eq_true rfl⟩) hP hD hS hA rfl rfl (by decide) (by decide) (fun r26 u26 H locs hw26 hP hD hS => ?_)
        rcases hw26 with ⟨rfl, hq26⟩ | ⟨rfl, hq26⟩
        · have hP : va_P D vwCl (bU k ou uc ut ub ul uw) H := hP
          have hD : va_D A (bU k ou uc ut ub ul uw) := hD
          refine lv_if_eq (tgt := 44) hx hb dX3_add_29 (by decide) (fun c => absurd c (by decide)) (fun _ => ?_)
          refine lv_iload hx hb dX3_add_32 (lv_at hl 4 rfl) ?_
          refine lv_iconst (v := (nI 1)) hx hb dX3_add_34 (by decide) ?_
          refine lv_icmp_lt (tgt := 44) hx hb dX3_add_35 (by decide) (fun c35 => ?_) (fun c35 => ?_)
          · refine lv_iconst (v := (-1)) hx hb dX3_add_44 (by decide) ?_
            refine xx_iret (uc, ut, ub, ul, uw) hx hb hr hlocks hS hK hP hD dX3_add_45 ?_
            first | exact Or.inl ⟨rfl, fun h => hq26 h.2.2.2.1, rfl⟩ | exact Or.inl ⟨rfl, fun h => h.2.2.2.2.1 c35, rfl⟩ | exact Or.inl ⟨rfl, fun h => c41 h.2.2.2.2.2, rfl⟩
          · refine lv_iload hx hb dX3_add_38 (lv_at hl 4 rfl) ?_
            refine lv_iconst (v := (nI 5)) hx hb dX3_add_40 (by decide) ?_
            refine lv_icmp_le (tgt := 46) hx hb dX3_add_41 (by decide) (fun c41 => ?_) (fun c41 => ?_)
            · refine lv_aload_n hx hb dX3_add_46 rfl (lv_at hl 0 rfl) ?_
              refine va_get (D := D) (ci := 3) (v := .int (nI uc)) (C := RX3) (T := TX3) (N := 5) hx hb hts hinW hown hK hP 0 rfl rfl 4 (by decide) (hts _ tw_112) (fun _ h9 => h9) rfl dX3_add_47 ?_
              refine lv_istore (lv' := [(5, .int (nI uc)), (0, .ref (ou 0)), (1, .int t), (2, .int b), (3, .int lv), (4, .int wt)]) hx hb dX3_add_50 hl (by decide) rfl (fun ls hl => ?_)
              refine lv_aload_n hx hb dX3_add_52 rfl (lv_at hl 1 rfl) ?_
              refine va_get (D := D) (ci := 3) (v := .ref (ou 1)) (C := RX3) (T := TX3) (N := 5) hx hb hts hinW hown hK hP 0 rfl rfl 0 (by decide) (hts _ tw_108) (fun _ h9 => h9) rfl dX3_add_53 ?_
              refine lv_iload hx hb dX3_add_56 (lv_at hl 0 rfl) ?_
              refine lv_iload_n hx hb dX3_add_58 rfl (lv_at hl 2 rfl) ?_
              refine xx_iast (g := (upd ut uc t)) hx hb hK hP hD hS 1 0 rfl rfl (show uc < 20 by omega) (by decide) rfl dX3_add_59 (fun H locs hP hD hS => ?_)
              have hP : va_P D vwCl (bU k ou uc (upd ut uc t) ub ul uw) H := hP
              have hD : va_D A (bU k ou uc (upd ut uc t) ub ul uw) := hD
              refine lv_aload_n hx hb dX3_add_60 rfl (lv_at hl 1 rfl) ?_
              refine va_get (D := D) (ci := 3) (v := .ref (ou 2)) (C := RX3) (T := TX3) (N := 5) hx hb hts hinW hown hK hP 0 rfl rfl 1 (by decide) (hts _ tw_109) (fun _ h9 => h9) rfl dX3_add_61 ?_
              refine lv_iload hx hb dX3_add_64 (lv_at hl 0 rfl) ?_
              refine lv_iload_n hx hb dX3_add_66 rfl (lv_at hl 3 rfl) ?_
              refine xx_iast (g := (upd ub uc b)) hx hb hK hP hD hS 2 0 rfl rfl (show uc < 20 by omega) (by decide) rfl dX3_add_67 (fun H locs hP hD hS => ?_)
              have hP : va_P D vwCl (bU k ou uc (upd ut uc t) (upd ub uc b) ul uw) H := hP
              have hD : va_D A (bU k ou uc (upd ut uc t) (upd ub uc b) ul uw) := hD
              refine lv_aload_n hx hb dX3_add_68 rfl (lv_at hl 1 rfl) ?_
              refine va_get (D := D) (ci := 3) (v := .ref (ou 3)) (C := RX3) (T := TX3) (N := 5) hx hb hts hinW hown hK hP 0 rfl rfl 2 (by decide) (hts _ tw_110) (fun _ h9 => h9) rfl dX3_add_69 ?_
              refine lv_iload hx hb dX3_add_72 (lv_at hl 0 rfl) ?_
              refine lv_iload_n hx hb dX3_add_74 rfl (lv_at hl 4 rfl) ?_
              refine xx_iast (g := (upd ul uc lv)) hx hb hK hP hD hS 3 0 rfl rfl (show uc < 20 by omega) (by decide) rfl dX3_add_75 (fun H locs hP hD hS => ?_)
              have hP : va_P D vwCl (bU k ou uc (upd ut uc t) (upd ub uc b) (upd ul uc lv) uw) H := hP
              have hD : va_D A (bU k ou uc (upd ut uc t) (upd ub uc b) (upd ul uc lv) uw) := hD
              refine lv_aload_n hx hb dX3_add_76 rfl (lv_at hl 1 rfl) ?_
              refine va_get (D := D) (ci := 3) (v := .ref (ou 4)) (C := RX3) (T := TX3) (N := 5) hx hb hts hinW hown hK hP 0 rfl rfl 3 (by decide) (hts _ tw_111) (fun _ h9 => h9) rfl dX3_add_77 ?_
              refine lv_iload hx hb dX3_add_80 (lv_at hl 0 rfl) ?_
              refine lv_iload hx hb dX3_add_82 (lv_at hl 5 rfl) ?_
              refine xx_iast (g := (upd uw uc wt)) hx hb hK hP hD hS 4 0 rfl rfl (show uc < 20 by omega) (by decide) rfl dX3_add_84 (fun H locs hP hD hS => ?_)
              have hP : va_P D vwCl (bU k ou uc (upd ut uc t) (upd ub uc b) (upd ul uc lv) (upd uw uc wt)) H := hP
              have hD : va_D A (bU k ou uc (upd ut uc t) (upd ub uc b) (upd ul uc lv) (upd uw uc wt)) := hD
              refine lv_aload_n hx hb dX3_add_85 rfl (lv_at hl 1 rfl) ?_
              refine lv_dup hx hb dX3_add_86 rfl ?_
              refine va_get (D := D) (ci := 3) (v := .int (nI uc)) (C := RX3) (T := TX3) (N := 5) hx hb hts hinW hown hK hP 0 rfl rfl 4 (by decide) (hts _ tw_112) (fun _ h9 => h9) rfl dX3_add_87 ?_
              refine lv_iconst (v := (nI 1)) hx hb dX3_add_90 (by decide) ?_
              refine lv_iadd hx hb dX3_add_91 ?_
              refine xx_topi (nI_add uc 1) ?_
              refine va_put (D := D) (ci := 3) (v := .int (nI (uc + 1))) (ty := .int) (C := RX3) (T := TX3) (N := 5) hx hb hts hinW tyX3 tyX3_ok nmX3 hown hK hP hD hS 0 rfl rfl 4 (by decide) (hts _ tw_112) (fun _ h9 => h9) rfl (by decide +kernel) rfl rfl (Nat.le_of_ble_eq_true rfl) dX3_add_92 (fun H locs hP hD hS => ?_)
              have hP : va_P D vwCl (bU k ou (uc + 1) (upd ut uc t) (upd ub uc b) (upd ul uc lv) (upd uw uc wt)) H := hP
              have hD : va_D A (bU k ou (uc + 1) (upd ut uc t) (upd ub uc b) (upd ul uc lv) (upd uw uc wt)) := hD
              refine lv_iload hx hb dX3_add_95 (lv_at hl 0 rfl) ?_
              refine xx_iret (uc + 1, (upd ut uc t), (upd ub uc b), (upd ul uc lv), (upd uw uc wt)) hx hb hr hlocks hS hK hP hD dX3_add_97 ?_
              exact Or.inr ⟨rfl, ⟨c6, hq10, hq17, hq26, c35, c41⟩, rfl⟩
            · refine lv_iconst (v := (-1)) hx hb dX3_add_44 (by decide) ?_
              refine xx_iret (uc, ut, ub, ul, uw) hx hb hr hlocks hS hK hP hD dX3_add_45 ?_
              first | exact Or.inl ⟨rfl, fun h => hq26 h.2.2.2.1, rfl⟩ | exact Or.inl ⟨rfl, fun h => h.2.2.2.2.1 c35, rfl⟩ | exact Or.inl ⟨rfl, fun h => c41 h.2.2.2.2.2, rfl⟩
        · have hP : va_P D vwCl (bU k ou uc ut ub ul uw) H := hP
          have hD : va_D A (bU k ou uc ut ub ul uw) := hD
          refine lv_if_eq (tgt := 44) hx hb dX3_add_29 (by decide) (fun _ => ?_) (fun c => absurd c (by decide))
          refine lv_iconst (v := (-1)) hx hb dX3_add_44 (by decide) ?_
          refine xx_iret (uc, ut, ub, ul, uw) hx hb hr hlocks hS hK hP hD dX3_add_45 ?_
          first | exact Or.inl ⟨rfl, fun h => hq26 h.2.2.2.1, rfl⟩ | exact Or.inl ⟨rfl, fun h => h.2.2.2.2.1 c35, rfl⟩ | exact Or.inl ⟨rfl, fun h => c41 h.2.2.2.2.2, rfl⟩
      · have hP : va_P D vwCl (bU k ou uc ut ub ul uw) H := hP
        have hD : va_D A (bU k ou uc ut ub ul uw) := hD
        refine lv_if_ne (tgt := 25) hx hb dX3_add_20 (by decide) (fun c => absurd c (by decide)) (fun _ => ?_)
        refine lv_iconst (v := (-1)) hx hb dX3_add_23 (by decide) ?_
        refine xx_iret (uc, ut, ub, ul, uw) hx hb hr hlocks hS hK hP hD dX3_add_24 ?_
        first | exact Or.inl ⟨rfl, fun h => absurd h.1 (by omega), rfl⟩ | exact Or.inl ⟨rfl, fun h => hq10 h.2.1, rfl⟩ | exact Or.inl ⟨rfl, fun h => hq17 h.2.2.1, rfl⟩
    · have hP : va_P D vwCl (bU k ou uc ut ub ul uw) H := hP
      have hD : va_D A (bU k ou uc ut ub ul uw) := hD
      refine lv_if_eq (tgt := 23) hx hb dX3_add_13 (by decide) (fun _ => ?_) (fun c => absurd c (by decide))
      refine lv_iconst (v := (-1)) hx hb dX3_add_23 (by decide) ?_
      refine xx_iret (uc, ut, ub, ul, uw) hx hb hr hlocks hS hK hP hD dX3_add_24 ?_
      first | exact Or.inl ⟨rfl, fun h => absurd h.1 (by omega), rfl⟩ | exact Or.inl ⟨rfl, fun h => hq10 h.2.1, rfl⟩ | exact Or.inl ⟨rfl, fun h => hq17 h.2.2.1, rfl⟩
def p_U_has (ou : Nat → Nat) (uc : Nat) (ut : Nat → Int32) (ub : Nat → Int32) (ul : Nat → Int32) (uw : Nat → Int32) (x : Int32) : Int32 → Unit → Prop := fun r u => xb r (ixN uc x)
set_option maxHeartbeats 4000000 in
set_option maxRecDepth 100000 in
theorem c_U_has (l : Launch) (D : va_G) (k : Nat → ClassId) (ou : Nat → Nat) (uc : Nat) (ut : Nat → Int32) (ub : Nat → Int32) (ul : Nat → Int32) (uw : Nat → Int32) (x : Int32) (huc : uc ≤ 20) : xx_Ci l yX3_has (.code yX3_has cX3_has 2 (some .boolean) :: xall) ({ frames := 0, cells := 0, slots := 0, locals := 0 } : Room) D vwCl (xT k) [.ref (ou 0), .int x] (bU k ou uc ut ub ul uw) (p_U_has ou uc ut ub ul uw x) (fun (u : Unit) => bU k ou uc ut ub ul uw) 0 0 := by
  intro sz
  refine xx_met (Qf := fun A => va_Qi (p_U_has ou uc ut ub ul uw x) (xx_B D vwCl (xT k) A (fun (u : Unit) => bU k ou uc ut ub ul uw)) A) (cc := cX3_has) (maxL := 2) (ret := (some .boolean)) (by decide) rfl (Nat.le_of_ble_eq_true rfl) ?_
  intro p e s m below meth c A ls hx hb hr hts hown hlocks hin hml hA hS hP hD hK hN hl
  have hl : lv_has ls 2 [(0, .ref (ou 0)), (1, .int x)] := hl
  have hown : s.vm.findClass RX3 = some m.cls := hown
  have hinW := inX3
  refine lv_iload_n hx hb dX3_has_0 rfl (lv_at hl 1 rfl) ?_
  refine lv_if_lt (tgt := 16) hx hb dX3_has_1 (by decide) (fun c1 => ?_) (fun c1 => ?_)
  · refine lv_iconst (v := (nI 0)) hx hb dX3_has_16 (by decide) ?_
    refine xx_zret () hx hb hr hlocks rfl hS hK hP hD dX3_has_17 ?_
    first | exact xb_f (xx_nix (by omega) (Or.inl c1)) | exact xb_f (xx_nix (by omega) (Or.inr c9)) | exact xb_t (xx_ix (by omega) c1 c9)
  · refine lv_iload_n hx hb dX3_has_4 rfl (lv_at hl 1 rfl) ?_
    refine lv_aload_n hx hb dX3_has_5 rfl (lv_at hl 0 rfl) ?_
    refine va_get (D := D) (ci := 3) (v := .int (nI uc)) (C := RX3) (T := TX3) (N := 5) hx hb hts hinW hown hK hP 0 rfl rfl 4 (by decide) (hts _ tw_112) (fun _ h9 => h9) rfl dX3_has_6 ?_
    refine lv_icmp_ge (tgt := 16) hx hb dX3_has_9 (by decide) (fun c9 => ?_) (fun c9 => ?_)
    · refine lv_iconst (v := (nI 0)) hx hb dX3_has_16 (by decide) ?_
      refine xx_zret () hx hb hr hlocks rfl hS hK hP hD dX3_has_17 ?_
      first | exact xb_f (xx_nix (by omega) (Or.inl c1)) | exact xb_f (xx_nix (by omega) (Or.inr c9)) | exact xb_t (xx_ix (by omega) c1 c9)
    · refine lv_iconst (v := (nI 1)) hx hb dX3_has_12 (by decide) ?_
      refine lv_goto (tgt := 17) hx hb dX3_has_13 (by decide) ?_
      refine xx_zret () hx hb hr hlocks rfl hS hK hP hD dX3_has_17 ?_
      first | exact xb_f (xx_nix (by omega) (Or.inl c1)) | exact xb_f (xx_nix (by omega) (Or.inr c9)) | exact xb_t (xx_ix (by omega) c1 c9)
def p_U_level (ou : Nat → Nat) (uc : Nat) (ut : Nat → Int32) (ub : Nat → Int32) (ul : Nat → Int32) (uw : Nat → Int32) (x : Int32) : Int32 → Unit → Prop := fun r u => (∃ j, j < uc ∧ x = nI j ∧ r = ul j) ∨ (¬ ixN uc x ∧ r = nI 1)
set_option maxHeartbeats 4000000 in
set_option maxRecDepth 100000 in
theorem c_U_level (l : Launch) (D : va_G) (k : Nat → ClassId) (ou : Nat → Nat) (uc : Nat) (ut : Nat → Int32) (ub : Nat → Int32) (ul : Nat → Int32) (uw : Nat → Int32) (x : Int32) (huc : uc ≤ 20) : xx_Ci l yX3_levelOf (.code yX3_levelOf cX3_levelOf 2 (some .int) :: xall) ({ frames := 1, cells := 0, slots := 0, locals := 21 } : Room) D vwCl (xT k) [.ref (ou 0), .int x] (bU k ou uc ut ub ul uw) (p_U_level ou uc ut ub ul uw x) (fun (u : Unit) => bU k ou uc ut ub ul uw) 0 0 := by
  intro sz
  refine xx_met (Qf := fun A => va_Qi (p_U_level ou uc ut ub ul uw x) (xx_B D vwCl (xT k) A (fun (u : Unit) => bU k ou uc ut ub ul uw)) A) (cc := cX3_levelOf) (maxL := 2) (ret := (some .int)) (by decide) rfl (Nat.le_of_ble_eq_true rfl) ?_
  intro p e s m below meth c A ls hx hb hr hts hown hlocks hin hml hA hS hP hD hK hN hl
  have hl : lv_has ls 2 [(0, .ref (ou 0)), (1, .int x)] := hl
  have hown : s.vm.findClass RX3 = some m.cls := hown
  have hinW := inX3
  refine lv_aload_n hx hb dX3_levelOf_0 rfl (lv_at hl 0 rfl) ?_
  refine lv_iload_n hx hb dX3_levelOf_1 rfl (lv_at hl 1 rfl) ?_
  refine xx_calli ([]) [0, 1, 2, 3, 4] [] (va_runV (As := [.int x]) (rest := []) ⟨hx, hb, hml, hown, hts⟩ (c_U_has l D k ou uc ut ub ul uw x (by omega) s.heap.size) (cwV 1 hts (xx_gV tw_287 tw_289 ts_2 tw_6 tw_290) rfl rfl rfl (by decide +kernel) ⟨Nat.le_of_ble_eq_true rfl, Nat.le_of_ble_eq_true rfl⟩) (xx_preV hK hN hP hD [0, 1, 2, 3, 4] (by decide) rfl 3 0 rfl rfl) rfl rfl hl.1 rfl (lv_room (Nat.le_of_ble_eq_true rfl)) dX3_levelOf_2 ⟨Nat.le_of_ble_eq_true rfl, Nat.le_of_ble_eq_true rfl⟩) hP hD hS hA rfl rfl (by decide) (by decide) (fun r2 u2 H locs hw2 hP hD hS => ?_)
  rcases hw2 with ⟨rfl, j2, hj2, hx2⟩ | ⟨rfl, hq2⟩
  · subst hx2
    have hP : va_P D vwCl (bU k ou uc ut ub ul uw) H := hP
    have hD : va_D A (bU k ou uc ut ub ul uw) := hD
    refine lv_if_eq (tgt := 17) hx hb dX3_levelOf_5 (by decide) (fun c => absurd c (by decide)) (fun _ => ?_)
    refine lv_aload_n hx hb dX3_levelOf_8 rfl (lv_at hl 0 rfl) ?_
    refine va_get (D := D) (ci := 3) (v := .ref (ou 3)) (C := RX3) (T := TX3) (N := 5) hx hb hts hinW hown hK hP 0 rfl rfl 2 (by decide) (hts _ tw_110) (fun _ h9 => h9) rfl dX3_levelOf_9 ?_
    refine lv_iload_n hx hb dX3_levelOf_12 rfl (lv_at hl 1 rfl) ?_
    refine xx_iald hx hb hK hP 3 0 rfl rfl (show j2 < 20 by omega) (by decide) dX3_levelOf_13 ?_
    refine lv_goto (tgt := 18) hx hb dX3_levelOf_14 (by decide) ?_
    refine xx_iret () hx hb hr hlocks hS hK hP hD dX3_levelOf_18 ?_
    first | exact Or.inl ⟨j2, hj2, rfl, rfl⟩ | exact Or.inr ⟨hq2, rfl⟩
  · have hP : va_P D vwCl (bU k ou uc ut ub ul uw) H := hP
    have hD : va_D A (bU k ou uc ut ub ul uw) := hD
    refine lv_if_eq (tgt := 17) hx hb dX3_levelOf_5 (by decide) (fun _ => ?_) (fun c => absurd c (by decide))
    refine lv_iconst (v := (nI 1)) hx hb dX3_levelOf_17 (by decide) ?_
    refine xx_iret () hx hb hr hlocks hS hK hP hD dX3_levelOf_18 ?_
    first | exact Or.inl ⟨j2, hj2, rfl, rfl⟩ | exact Or.inr ⟨hq2, rfl⟩
def p_U_wanted (ou : Nat → Nat) (uc : Nat) (ut : Nat → Int32) (ub : Nat → Int32) (ul : Nat → Int32) (uw : Nat → Int32) (x : Int32) (q : Int32) : Int32 → Unit → Prop := fun r u => (∃ j, j < uc ∧ x = nI j ∧ r = uw j) ∨ (¬ ixN uc x ∧ r = q)
set_option maxHeartbeats 4000000 in
set_option maxRecDepth 100000 in
theorem c_U_wanted (l : Launch) (D : va_G) (k : Nat → ClassId) (ou : Nat → Nat) (uc : Nat) (ut : Nat → Int32) (ub : Nat → Int32) (ul : Nat → Int32) (uw : Nat → Int32) (x : Int32) (q : Int32) (huc : uc ≤ 20) : xx_Ci l yX3_wantedOf (.code yX3_wantedOf cX3_wantedOf 3 (some .int) :: xall) ({ frames := 1, cells := 0, slots := 0, locals := 21 } : Room) D vwCl (xT k) [.ref (ou 0), .int x, .int q] (bU k ou uc ut ub ul uw) (p_U_wanted ou uc ut ub ul uw x q) (fun (u : Unit) => bU k ou uc ut ub ul uw) 0 0 := by
  intro sz
  refine xx_met (Qf := fun A => va_Qi (p_U_wanted ou uc ut ub ul uw x q) (xx_B D vwCl (xT k) A (fun (u : Unit) => bU k ou uc ut ub ul uw)) A) (cc := cX3_wantedOf) (maxL := 3) (ret := (some .int)) (by decide) rfl (Nat.le_of_ble_eq_true rfl) ?_
  intro p e s m below meth c A ls hx hb hr hts hown hlocks hin hml hA hS hP hD hK hN hl
  have hl : lv_has ls 3 [(0, .ref (ou 0)), (1, .int x), (2, .int q)] := hl
  have hown : s.vm.findClass RX3 = some m.cls := hown
  have hinW := inX3
  refine lv_aload_n hx hb dX3_wantedOf_0 rfl (lv_at hl 0 rfl) ?_
  refine lv_iload_n hx hb dX3_wantedOf_1 rfl (lv_at hl 1 rfl) ?_
  refine xx_calli ([]) [0, 1, 2, 3, 4] [] (va_runV (As := [.int x]) (rest := []) ⟨hx, hb, hml, hown, hts⟩ (c_U_has l D k ou uc ut ub ul uw x (by omega) s.heap.size) (cwV 1 hts (xx_gV tw_287 tw_289 ts_2 tw_6 tw_290) rfl rfl rfl (by decide +kernel) ⟨Nat.le_of_ble_eq_true rfl, Nat.le_of_ble_eq_true rfl⟩) (xx_preV hK hN hP hD [0, 1, 2, 3, 4] (by decide) rfl 3 0 rfl rfl) rfl rfl hl.1 rfl (lv_room (Nat.le_of_ble_eq_true rfl)) dX3_wantedOf_2 ⟨Nat.le_of_ble_eq_true rfl, Nat.le_of_ble_eq_true rfl⟩) hP hD hS hA rfl rfl (by decide) (by decide) (fun r2 u2 H locs hw2 hP hD hS => ?_)
  rcases hw2 with ⟨rfl, j2, hj2, hx2⟩ | ⟨rfl, hq2⟩
  · subst hx2
    have hP : va_P D vwCl (bU k ou uc ut ub ul uw) H := hP
    have hD : va_D A (bU k ou uc ut ub ul uw) := hD
    refine lv_if_eq (tgt := 17) hx hb dX3_wantedOf_5 (by decide) (fun c => absurd c (by decide)) (fun _ => ?_)
    refine lv_aload_n hx hb dX3_wantedOf_8 rfl (lv_at hl 0 rfl) ?_
    refine va_get (D := D) (ci := 3) (v := .ref (ou 4)) (C := RX3) (T := TX3) (N := 5) hx hb hts hinW hown hK hP 0 rfl rfl 3 (by decide) (hts _ tw_111) (fun _ h9 => h9) rfl dX3_wantedOf_9 ?_
    refine lv_iload_n hx hb dX3_wantedOf_12 rfl (lv_at hl 1 rfl) ?_
    refine xx_iald hx hb hK hP 4 0 rfl rfl (show j2 < 20 by omega) (by decide) dX3_wantedOf_13 ?_
    refine lv_goto (tgt := 18) hx hb dX3_wantedOf_14 (by decide) ?_
    refine xx_iret () hx hb hr hlocks hS hK hP hD dX3_wantedOf_18 ?_
    first | exact Or.inl ⟨j2, hj2, rfl, rfl⟩ | exact Or.inr ⟨hq2, rfl⟩
  · have hP : va_P D vwCl (bU k ou uc ut ub ul uw) H := hP
    have hD : va_D A (bU k ou uc ut ub ul uw) := hD
    refine lv_if_eq (tgt := 17) hx hb dX3_wantedOf_5 (by decide) (fun _ => ?_) (fun c => absurd c (by decide))
    refine lv_iload_n hx hb dX3_wantedOf_17 rfl (lv_at hl 2 rfl) ?_
    refine xx_iret () hx hb hr hlocks hS hK hP hD dX3_wantedOf_18 ?_
    first | exact Or.inl ⟨j2, hj2, rfl, rfl⟩ | exact Or.inr ⟨hq2, rfl⟩
def p_U_rank (ou : Nat → Nat) (uc : Nat) (ut : Nat → Int32) (ub : Nat → Int32) (ul : Nat → Int32) (uw : Nat → Int32) (i : Nat) (t : Int32) (b : Int32) : Int32 → Unit → Prop := fun r u => (((ut i = (-1) ∨ ut i = t) ∧ (ub i = (-1) ∨ ub i = b)) ∧ r = nI (xs_rank (ut i) (ub i))) ∨ (¬ ((ut i = (-1) ∨ ut i = t) ∧ (ub i = (-1) ∨ ub i = b)) ∧ r = (-1))
set_option maxHeartbeats 4000000 in
set_option maxRecDepth 100000 in
theorem c_U_rank (l : Launch) (D : va_G) (k : Nat → ClassId) (ou : Nat → Nat) (uc : Nat) (ut : Nat → Int32) (ub : Nat → Int32) (ul : Nat → Int32) (uw : Nat → Int32) (i : Nat) (t : Int32) (b : Int32) (huc : uc ≤ 20) (hi : i < uc) : xx_Ci l yX3_rankFor (.code yX3_rankFor cX3_rankFor 8 (some .int) :: xall) ({ frames := 1, cells := 0, slots := 0, locals := 21 } : Room) D vwCl (xT k) [.ref (ou 0), .int (nI i), .int t, .int b] (bU k ou uc ut ub ul uw) (p_U_rank ou uc ut ub ul uw i t b) (fun (u : Unit) => bU k ou uc ut ub ul uw) 0 0 := by
  intro sz
  refine xx_met (Qf := fun A => va_Qi (p_U_rank ou uc ut ub ul uw i t b) (xx_B D vwCl (xT k) A (fun (u : Unit) => bU k ou uc ut ub ul uw)) A) (cc := cX3_rankFor) (maxL := 8) (ret := (some .int)) (by decide) rfl (Nat.le_of_ble_eq_true rfl) ?_
  intro p e s m below meth c A ls hx hb hr hts hown hlocks hin hml hA hS hP hD hK hN hl
  have hl : lv_has ls 8 [(0, .ref (ou 0)), (1, .int (nI i)), (2, .int t), (3, .int b)] := hl
  have hown : s.vm.findClass RX3 = some m.cls := hown
  have hinW := inX3
  refine lv_aload_n hx hb dX3_rankFor_0 rfl (lv_at hl 0 rfl) ?_
  refine lv_iload_n hx hb dX3_rankFor_1 rfl (lv_at hl 1 rfl) ?_
  refine xx_calli ([]) [0, 1, 2, 3, 4] [] (va_runV (As := [.int (nI i)]) (rest := []) ⟨hx, hb, hml, hown, hts⟩ (c_U_has l D k ou uc ut ub ul uw (nI i) (by omega) s.heap.size) (cwV 1 hts (xx_gV tw_287 tw_289 ts_2 tw_6 tw_290) rfl rfl rfl (by decide +kernel) ⟨Nat.le_of_ble_eq_true rfl, Nat.le_of_ble_eq_true rfl⟩) (xx_preV hK hN hP hD [0, 1, 2, 3, 4] (by decide) rfl 3 0 rfl rfl) rfl rfl hl.1 rfl (lv_room (Nat.le_of_ble_eq_true rfl)) dX3_rankFor_2 ⟨Nat.le_of_ble_eq_true rfl, Nat.le_of_ble_eq_true rfl⟩) hP hD hS hA rfl rfl (by decide) (by decide) (fun r2 u2 H locs hw2 hP hD hS => ?_)
  rcases hw2 with ⟨rfl, j2, hj2, hx2⟩ | ⟨rfl, hq2⟩
  · have hx2 : i = j2 := (nI_eq (by omega) (by omega)).mp hx2
    subst hx2
    have hP : va_P D vwCl (bU k ou uc ut ub ul uw) H := hP
    have hD : va_D A (bU k ou uc ut ub ul uw) := hD
    refine lv_if_ne (tgt := 10) hx hb dX3_rankFor_5 (by decide) (fun _ => ?_) (fun c => absurd c (by decide))
    refine lv_aload_n hx hb dX3_rankFor_10 rfl (lv_at hl 0 rfl) ?_
    refine va_get (D := D) (ci := 3) (v := .ref (ou 1)) (C := RX3) (T := TX3) (N := 5) hx hb hts hinW hown hK hP 0 rfl rfl 0 (by decide) (hts _ tw_108) (fun _ h9 => h9) rfl dX3_rankFor_11 ?_
    refine lv_iload_n hx hb dX3_rankFor_14 rfl (lv_at hl 1 rfl) ?_
    refine xx_iald hx hb hK hP 1 0 rfl rfl (show i < 20 by omega) (by decide) dX3_rankFor_15 ?_
    refine lv_iconst (v := (-1)) hx hb dX3_rankFor_16 (by decide) ?_
    refine lv_icmp_ne (tgt := 24) hx hb dX3_rankFor_17 (by decide) (fun c17 => ?_) (fun c17 => ?_)
    · refine lv_iconst (v := (nI 0)) hx hb dX3_rankFor_24 (by decide) ?_
      refine lv_istore (lv' := [(4, .int (nI 0)), (0, .ref (ou 0)), (1, .int (nI i)), (2, .int t), (3, .int b)]) hx hb dX3_rankFor_25 hl (by decide) rfl (fun ls hl => ?_)
      refine lv_aload_n hx hb dX3_rankFor_27 rfl (lv_at hl 1 rfl) ?_
      refine va_get (D := D) (ci := 3) (v := .ref (ou 2)) (C := RX3) (T := TX3) (N := 5) hx hb hts hinW hown hK hP 0 rfl rfl 1 (by decide) (hts _ tw_109) (fun _ h9 => h9) rfl dX3_rankFor_28 ?_
      refine lv_iload_n hx hb dX3_rankFor_31 rfl (lv_at hl 2 rfl) ?_
      refine xx_iald hx hb hK hP 2 0 rfl rfl (show i < 20 by omega) (by decide) dX3_rankFor_32 ?_
      refine lv_iconst (v := (-1)) hx hb dX3_rankFor_33 (by decide) ?_
      refine lv_icmp_ne (tgt := 41) hx hb dX3_rankFor_34 (by decide) (fun c34 => ?_) (fun c34 => ?_)
      · refine lv_iconst (v := (nI 0)) hx hb dX3_rankFor_41 (by decide) ?_
        refine lv_istore (lv' := [(5, .int (nI 0)), (4, .int (nI 0)), (0, .ref (ou 0)), (1, .int (nI i)), (2, .int t), (3, .int b)]) hx hb dX3_rankFor_42 hl (by decide) rfl (fun ls hl => ?_)
        refine lv_iload hx hb dX3_rankFor_44 (lv_at hl 1 rfl) ?_
        refine lv_if_ne (tgt := 59) hx hb dX3_rankFor_46 (by decide) (fun c => absurd c (by decide)) (fun _ => ?_)
        refine lv_aload_n hx hb dX3_rankFor_49 rfl (lv_at hl 2 rfl) ?_
        refine va_get (D := D) (ci := 3) (v := .ref (ou 1)) (C := RX3) (T := TX3) (N := 5) hx hb hts hinW hown hK hP 0 rfl rfl 0 (by decide) (hts _ tw_108) (fun _ h9 => h9) rfl dX3_rankFor_50 ?_
        refine lv_iload_n hx hb dX3_rankFor_53 rfl (lv_at hl 3 rfl) ?_
        refine xx_iald hx hb hK hP 1 0 rfl rfl (show i < 20 by omega) (by decide) dX3_rankFor_54 ?_
        refine lv_iload_n hx hb dX3_rankFor_55 rfl (lv_at hl 4 rfl) ?_
        refine lv_icmp_ne (tgt := 63) hx hb dX3_rankFor_56 (by decide) (fun c56 => ?_) (fun c56 => ?_)
        · refine lv_iconst (v := (nI 0)) hx hb dX3_rankFor_63 (by decide) ?_
          refine lv_istore (lv' := [(6, .int (nI 0)), (5, .int (nI 0)), (4, .int (nI 0)), (0, .ref (ou 0)), (1, .int (nI i)), (2, .int t), (3, .int b)]) hx hb dX3_rankFor_64 hl (by decide) rfl (fun ls hl => ?_)
          refine lv_iload hx hb dX3_rankFor_66 (lv_at hl 1 rfl) ?_
          refine lv_if_ne (tgt := 81) hx hb dX3_rankFor_68 (by decide) (fun c => absurd c (by decide)) (fun _ => ?_)
          refine lv_aload_n hx hb dX3_rankFor_71 rfl (lv_at hl 3 rfl) ?_
          refine va_get (D := D) (ci := 3) (v := .ref (ou 2)) (C := RX3) (T := TX3) (N := 5) hx hb hts hinW hown hK hP 0 rfl rfl 1 (by decide) (hts _ tw_109) (fun _ h9 => h9) rfl dX3_rankFor_72 ?_
          refine lv_iload_n hx hb dX3_rankFor_75 rfl (lv_at hl 4 rfl) ?_
          refine xx_iald hx hb hK hP 2 0 rfl rfl (show i < 20 by omega) (by decide) dX3_rankFor_76 ?_
          refine lv_iload_n hx hb dX3_rankFor_77 rfl (lv_at hl 6 rfl) ?_
          refine lv_icmp_ne (tgt := 85) hx hb dX3_rankFor_78 (by decide) (fun c78 => ?_) (fun c78 => ?_)
          · refine lv_iconst (v := (nI 0)) hx hb dX3_rankFor_85 (by decide) ?_
            refine lv_istore (lv' := [(7, .int (nI 0)), (6, .int (nI 0)), (5, .int (nI 0)), (4, .int (nI 0)), (0, .ref (ou 0)), (1, .int (nI i)), (2, .int t), (3, .int b)]) hx hb dX3_rankFor_86 hl (by decide) rfl (fun ls hl => ?_)
            refine lv_iload hx hb dX3_rankFor_88 (lv_at hl 1 rfl) ?_
            refine lv_if_eq (tgt := 98) hx hb dX3_rankFor_90 (by decide) (fun _ => ?_) (fun c => absurd c (by decide))
            refine lv_iconst (v := (-1)) hx hb dX3_rankFor_98 (by decide) ?_
            refine xx_iret () hx hb hr hlocks hS hK hP hD dX3_rankFor_99 ?_
            first | exact Or.inr ⟨fun h => h.1.elim c17 c56, rfl⟩ | exact Or.inr ⟨fun h => h.2.elim c34 c78, rfl⟩
          · refine lv_iconst (v := (nI 1)) hx hb dX3_rankFor_81 (by decide) ?_
            refine lv_goto (tgt := 86) hx hb dX3_rankFor_82 (by decide) ?_
            refine lv_istore (lv' := [(7, .int (nI 1)), (6, .int (nI 0)), (5, .int (nI 0)), (4, .int (nI 0)), (0, .ref (ou 0)), (1, .int (nI i)), (2, .int t), (3, .int b)]) hx hb dX3_rankFor_86 hl (by decide) rfl (fun ls hl => ?_)
            refine lv_iload hx hb dX3_rankFor_88 (lv_at hl 1 rfl) ?_
            refine lv_if_eq (tgt := 98) hx hb dX3_rankFor_90 (by decide) (fun _ => ?_) (fun c => absurd c (by decide))
            refine lv_iconst (v := (-1)) hx hb dX3_rankFor_98 (by decide) ?_
            refine xx_iret () hx hb hr hlocks hS hK hP hD dX3_rankFor_99 ?_
            first | exact Or.inr ⟨fun h => h.1.elim c17 c56, rfl⟩ | exact Or.inr ⟨fun h => h.2.elim c34 c78, rfl⟩
        · refine lv_iconst (v := (nI 1)) hx hb dX3_rankFor_59 (by decide) ?_
          refine lv_goto (tgt := 64) hx hb dX3_rankFor_60 (by decide) ?_
          refine lv_istore (lv' := [(6, .int (nI 1)), (5, .int (nI 0)), (4, .int (nI 0)), (0, .ref (ou 0)), (1, .int (nI i)), (2, .int t), (3, .int b)]) hx hb dX3_rankFor_64 hl (by decide) rfl (fun ls hl => ?_)
          refine lv_iload hx hb dX3_rankFor_66 (lv_at hl 1 rfl) ?_
          refine lv_if_ne (tgt := 81) hx hb dX3_rankFor_68 (by decide) (fun c => absurd c (by decide)) (fun _ => ?_)
          refine lv_aload_n hx hb dX3_rankFor_71 rfl (lv_at hl 3 rfl) ?_
          refine va_get (D := D) (ci := 3) (v := .ref (ou 2)) (C := RX3) (T := TX3) (N := 5) hx hb hts hinW hown hK hP 0 rfl rfl 1 (by decide) (hts _ tw_109) (fun _ h9 => h9) rfl dX3_rankFor_72 ?_
          refine lv_iload_n hx hb dX3_rankFor_75 rfl (lv_at hl 4 rfl) ?_
          refine xx_iald hx hb hK hP 2 0 rfl rfl (show i < 20 by omega) (by decide) dX3_rankFor_76 ?_
          refine lv_iload_n hx hb dX3_rankFor_77 rfl (lv_at hl 6 rfl) ?_
          refine lv_icmp_ne (tgt := 85) hx hb dX3_rankFor_78 (by decide) (fun c78 => ?_) (fun c78 => ?_)
          · refine lv_iconst (v := (nI 0)) hx hb dX3_rankFor_85 (by decide) ?_
            refine lv_istore (lv' := [(7, .int (nI 0)), (6, .int (nI 1)), (5, .int (nI 0)), (4, .int (nI 0)), (0, .ref (ou 0)), (1, .int (nI i)), (2, .int t), (3, .int b)]) hx hb dX3_rankFor_86 hl (by decide) rfl (fun ls hl => ?_)
            refine lv_iload hx hb dX3_rankFor_88 (lv_at hl 1 rfl) ?_
            refine lv_if_eq (tgt := 98) hx hb dX3_rankFor_90 (by decide) (fun c => absurd c (by decide)) (fun _ => ?_)
            refine lv_iload hx hb dX3_rankFor_93 (lv_at hl 0 rfl) ?_
            refine lv_if_ne (tgt := 100) hx hb dX3_rankFor_95 (by decide) (fun c => absurd c (by decide)) (fun _ => ?_)
            refine lv_iconst (v := (-1)) hx hb dX3_rankFor_98 (by decide) ?_
            refine xx_iret () hx hb hr hlocks hS hK hP hD dX3_rankFor_99 ?_
            first | exact Or.inr ⟨fun h => h.1.elim c17 c56, rfl⟩ | exact Or.inr ⟨fun h => h.2.elim c34 c78, rfl⟩
          · refine lv_iconst (v := (nI 1)) hx hb dX3_rankFor_81 (by decide) ?_
            refine lv_goto (tgt := 86) hx hb dX3_rankFor_82 (by decide) ?_
            refine lv_istore (lv' := [(7, .int (nI 1)), (6, .int (nI 1)), (5, .int (nI 0)), (4, .int (nI 0)), (0, .ref (ou 0)), (1, .int (nI i)), (2, .int t), (3, .int b)]) hx hb dX3_rankFor_86 hl (by decide) rfl (fun ls hl => ?_)
            refine lv_iload hx hb dX3_rankFor_88 (lv_at hl 1 rfl) ?_
            refine lv_if_eq (tgt := 98) hx hb dX3_rankFor_90 (by decide) (fun c => absurd c (by decide)) (fun _ => ?_)
            refine lv_iload hx hb dX3_rankFor_93 (lv_at hl 0 rfl) ?_
            refine lv_if_ne (tgt := 100) hx hb dX3_rankFor_95 (by decide) (fun _ => ?_) (fun c => absurd c (by decide))
            refine lv_iload hx hb dX3_rankFor_100 (lv_at hl 3 rfl) ?_
            refine lv_if_eq (tgt := 109) hx hb dX3_rankFor_102 (by decide) (fun _ => ?_) (fun c => absurd c (by decide))
            refine lv_iconst (v := (nI 2)) hx hb dX3_rankFor_109 (by decide) ?_
            refine lv_iload hx hb dX3_rankFor_110 (lv_at hl 2 rfl) ?_
            refine lv_if_eq (tgt := 119) hx hb dX3_rankFor_112 (by decide) (fun _ => ?_) (fun c => absurd c (by decide))
            refine lv_iconst (v := (nI 1)) hx hb dX3_rankFor_119 (by decide) ?_
            refine lv_iadd hx hb dX3_rankFor_120 ?_
            refine xx_topi (y := (nI 3)) (by decide) ?_
            refine xx_iret () hx hb hr hlocks hS hK hP hD dX3_rankFor_121 ?_
            first | exact Or.inl ⟨⟨Or.inl c17, Or.inl c34⟩, xs_rank_aa c17 c34⟩ | exact Or.inl ⟨⟨Or.inl c17, Or.inr c78⟩, xs_rank_an c17 c34⟩ | exact Or.inl ⟨⟨Or.inr c56, Or.inl c34⟩, xs_rank_na c17 c34⟩ | exact Or.inl ⟨⟨Or.inr c56, Or.inr c78⟩, xs_rank_nn c17 c34⟩
      · refine lv_iconst (v := (nI 1)) hx hb dX3_rankFor_37 (by decide) ?_
        refine lv_goto (tgt := 42) hx hb dX3_rankFor_38 (by decide) ?_
        refine lv_istore (lv' := [(5, .int (nI 1)), (4, .int (nI 0)), (0, .ref (ou 0)), (1, .int (nI i)), (2, .int t), (3, .int b)]) hx hb dX3_rankFor_42 hl (by decide) rfl (fun ls hl => ?_)
        refine lv_iload hx hb dX3_rankFor_44 (lv_at hl 1 rfl) ?_
        refine lv_if_ne (tgt := 59) hx hb dX3_rankFor_46 (by decide) (fun c => absurd c (by decide)) (fun _ => ?_)
        refine lv_aload_n hx hb dX3_rankFor_49 rfl (lv_at hl 2 rfl) ?_
        refine va_get (D := D) (ci := 3) (v := .ref (ou 1)) (C := RX3) (T := TX3) (N := 5) hx hb hts hinW hown hK hP 0 rfl rfl 0 (by decide) (hts _ tw_108) (fun _ h9 => h9) rfl dX3_rankFor_50 ?_
        refine lv_iload_n hx hb dX3_rankFor_53 rfl (lv_at hl 3 rfl) ?_
        refine xx_iald hx hb hK hP 1 0 rfl rfl (show i < 20 by omega) (by decide) dX3_rankFor_54 ?_
        refine lv_iload_n hx hb dX3_rankFor_55 rfl (lv_at hl 4 rfl) ?_
        refine lv_icmp_ne (tgt := 63) hx hb dX3_rankFor_56 (by decide) (fun c56 => ?_) (fun c56 => ?_)
        · refine lv_iconst (v := (nI 0)) hx hb dX3_rankFor_63 (by decide) ?_
          refine lv_istore (lv' := [(6, .int (nI 0)), (5, .int (nI 1)), (4, .int (nI 0)), (0, .ref (ou 0)), (1, .int (nI i)), (2, .int t), (3, .int b)]) hx hb dX3_rankFor_64 hl (by decide) rfl (fun ls hl => ?_)
          refine lv_iload hx hb dX3_rankFor_66 (lv_at hl 1 rfl) ?_
          refine lv_if_ne (tgt := 81) hx hb dX3_rankFor_68 (by decide) (fun _ => ?_) (fun c => absurd c (by decide))
          refine lv_iconst (v := (nI 1)) hx hb dX3_rankFor_81 (by decide) ?_
          refine lv_goto (tgt := 86) hx hb dX3_rankFor_82 (by decide) ?_
          refine lv_istore (lv' := [(7, .int (nI 1)), (6, .int (nI 0)), (5, .int (nI 1)), (4, .int (nI 0)), (0, .ref (ou 0)), (1, .int (nI i)), (2, .int t), (3, .int b)]) hx hb dX3_rankFor_86 hl (by decide) rfl (fun ls hl => ?_)
          refine lv_iload hx hb dX3_rankFor_88 (lv_at hl 1 rfl) ?_
          refine lv_if_eq (tgt := 98) hx hb dX3_rankFor_90 (by decide) (fun _ => ?_) (fun c => absurd c (by decide))
          refine lv_iconst (v := (-1)) hx hb dX3_rankFor_98 (by decide) ?_
          refine xx_iret () hx hb hr hlocks hS hK hP hD dX3_rankFor_99 ?_
          first | exact Or.inr ⟨fun h => h.1.elim c17 c56, rfl⟩ | exact Or.inr ⟨fun h => h.2.elim c34 c78, rfl⟩
        · refine lv_iconst (v := (nI 1)) hx hb dX3_rankFor_59 (by decide) ?_
          refine lv_goto (tgt := 64) hx hb dX3_rankFor_60 (by decide) ?_
          refine lv_istore (lv' := [(6, .int (nI 1)), (5, .int (nI 1)), (4, .int (nI 0)), (0, .ref (ou 0)), (1, .int (nI i)), (2, .int t), (3, .int b)]) hx hb dX3_rankFor_64 hl (by decide) rfl (fun ls hl => ?_)
          refine lv_iload hx hb dX3_rankFor_66 (lv_at hl 1 rfl) ?_
          refine lv_if_ne (tgt := 81) hx hb dX3_rankFor_68 (by decide) (fun _ => ?_) (fun c => absurd c (by decide))
          refine lv_iconst (v := (nI 1)) hx hb dX3_rankFor_81 (by decide) ?_
          refine lv_goto (tgt := 86) hx hb dX3_rankFor_82 (by decide) ?_
          refine lv_istore (lv' := [(7, .int (nI 1)), (6, .int (nI 1)), (5, .int (nI 1)), (4, .int (nI 0)), (0, .ref (ou 0)), (1, .int (nI i)), (2, .int t), (3, .int b)]) hx hb dX3_rankFor_86 hl (by decide) rfl (fun ls hl => ?_)
          refine lv_iload hx hb dX3_rankFor_88 (lv_at hl 1 rfl) ?_
          refine lv_if_eq (tgt := 98) hx hb dX3_rankFor_90 (by decide) (fun c => absurd c (by decide)) (fun _ => ?_)
          refine lv_iload hx hb dX3_rankFor_93 (lv_at hl 0 rfl) ?_
          refine lv_if_ne (tgt := 100) hx hb dX3_rankFor_95 (by decide) (fun _ => ?_) (fun c => absurd c (by decide))
          refine lv_iload hx hb dX3_rankFor_100 (lv_at hl 3 rfl) ?_
          refine lv_if_eq (tgt := 109) hx hb dX3_rankFor_102 (by decide) (fun _ => ?_) (fun c => absurd c (by decide))
          refine lv_iconst (v := (nI 2)) hx hb dX3_rankFor_109 (by decide) ?_
          refine lv_iload hx hb dX3_rankFor_110 (lv_at hl 2 rfl) ?_
          refine lv_if_eq (tgt := 119) hx hb dX3_rankFor_112 (by decide) (fun c => absurd c (by decide)) (fun _ => ?_)
          refine lv_iconst (v := (nI 0)) hx hb dX3_rankFor_115 (by decide) ?_
          refine lv_goto (tgt := 120) hx hb dX3_rankFor_116 (by decide) ?_
          refine lv_iadd hx hb dX3_rankFor_120 ?_
          refine xx_topi (y := (nI 2)) (by decide) ?_
          refine xx_iret () hx hb hr hlocks hS hK hP hD dX3_rankFor_121 ?_
          first | exact Or.inl ⟨⟨Or.inl c17, Or.inl c34⟩, xs_rank_aa c17 c34⟩ | exact Or.inl ⟨⟨Or.inl c17, Or.inr c78⟩, xs_rank_an c17 c34⟩ | exact Or.inl ⟨⟨Or.inr c56, Or.inl c34⟩, xs_rank_na c17 c34⟩ | exact Or.inl ⟨⟨Or.inr c56, Or.inr c78⟩, xs_rank_nn c17 c34⟩
    · refine lv_iconst (v := (nI 1)) hx hb dX3_rankFor_20 (by decide) ?_
      refine lv_goto (tgt := 25) hx hb dX3_rankFor_21 (by decide) ?_
      refine lv_istore (lv' := [(4, .int (nI 1)), (0, .ref (ou 0)), (1, .int (nI i)), (2, .int t), (3, .int b)]) hx hb dX3_rankFor_25 hl (by decide) rfl (fun ls hl => ?_)
      refine lv_aload_n hx hb dX3_rankFor_27 rfl (lv_at hl 1 rfl) ?_
      refine va_get (D := D) (ci := 3) (v := .ref (ou 2)) (C := RX3) (T := TX3) (N := 5) hx hb hts hinW hown hK hP 0 rfl rfl 1 (by decide) (hts _ tw_109) (fun _ h9 => h9) rfl dX3_rankFor_28 ?_
      refine lv_iload_n hx hb dX3_rankFor_31 rfl (lv_at hl 2 rfl) ?_
      refine xx_iald hx hb hK hP 2 0 rfl rfl (show i < 20 by omega) (by decide) dX3_rankFor_32 ?_
      refine lv_iconst (v := (-1)) hx hb dX3_rankFor_33 (by decide) ?_
      refine lv_icmp_ne (tgt := 41) hx hb dX3_rankFor_34 (by decide) (fun c34 => ?_) (fun c34 => ?_)
      · refine lv_iconst (v := (nI 0)) hx hb dX3_rankFor_41 (by decide) ?_
        refine lv_istore (lv' := [(5, .int (nI 0)), (4, .int (nI 1)), (0, .ref (ou 0)), (1, .int (nI i)), (2, .int t), (3, .int b)]) hx hb dX3_rankFor_42 hl (by decide) rfl (fun ls hl => ?_)
        refine lv_iload hx hb dX3_rankFor_44 (lv_at hl 1 rfl) ?_
        refine lv_if_ne (tgt := 59) hx hb dX3_rankFor_46 (by decide) (fun _ => ?_) (fun c => absurd c (by decide))
        refine lv_iconst (v := (nI 1)) hx hb dX3_rankFor_59 (by decide) ?_
        refine lv_goto (tgt := 64) hx hb dX3_rankFor_60 (by decide) ?_
        refine lv_istore (lv' := [(6, .int (nI 1)), (5, .int (nI 0)), (4, .int (nI 1)), (0, .ref (ou 0)), (1, .int (nI i)), (2, .int t), (3, .int b)]) hx hb dX3_rankFor_64 hl (by decide) rfl (fun ls hl => ?_)
        refine lv_iload hx hb dX3_rankFor_66 (lv_at hl 1 rfl) ?_
        refine lv_if_ne (tgt := 81) hx hb dX3_rankFor_68 (by decide) (fun c => absurd c (by decide)) (fun _ => ?_)
        refine lv_aload_n hx hb dX3_rankFor_71 rfl (lv_at hl 3 rfl) ?_
        refine va_get (D := D) (ci := 3) (v := .ref (ou 2)) (C := RX3) (T := TX3) (N := 5) hx hb hts hinW hown hK hP 0 rfl rfl 1 (by decide) (hts _ tw_109) (fun _ h9 => h9) rfl dX3_rankFor_72 ?_
        refine lv_iload_n hx hb dX3_rankFor_75 rfl (lv_at hl 4 rfl) ?_
        refine xx_iald hx hb hK hP 2 0 rfl rfl (show i < 20 by omega) (by decide) dX3_rankFor_76 ?_
        refine lv_iload_n hx hb dX3_rankFor_77 rfl (lv_at hl 6 rfl) ?_
        refine lv_icmp_ne (tgt := 85) hx hb dX3_rankFor_78 (by decide) (fun c78 => ?_) (fun c78 => ?_)
        · refine lv_iconst (v := (nI 0)) hx hb dX3_rankFor_85 (by decide) ?_
          refine lv_istore (lv' := [(7, .int (nI 0)), (6, .int (nI 1)), (5, .int (nI 0)), (4, .int (nI 1)), (0, .ref (ou 0)), (1, .int (nI i)), (2, .int t), (3, .int b)]) hx hb dX3_rankFor_86 hl (by decide) rfl (fun ls hl => ?_)
          refine lv_iload hx hb dX3_rankFor_88 (lv_at hl 1 rfl) ?_
          refine lv_if_eq (tgt := 98) hx hb dX3_rankFor_90 (by decide) (fun c => absurd c (by decide)) (fun _ => ?_)
          refine lv_iload hx hb dX3_rankFor_93 (lv_at hl 0 rfl) ?_
          refine lv_if_ne (tgt := 100) hx hb dX3_rankFor_95 (by decide) (fun c => absurd c (by decide)) (fun _ => ?_)
          refine lv_iconst (v := (-1)) hx hb dX3_rankFor_98 (by decide) ?_
          refine xx_iret () hx hb hr hlocks hS hK hP hD dX3_rankFor_99 ?_
          first | exact Or.inr ⟨fun h => h.1.elim c17 c56, rfl⟩ | exact Or.inr ⟨fun h => h.2.elim c34 c78, rfl⟩
        · refine lv_iconst (v := (nI 1)) hx hb dX3_rankFor_81 (by decide) ?_
          refine lv_goto (tgt := 86) hx hb dX3_rankFor_82 (by decide) ?_
          refine lv_istore (lv' := [(7, .int (nI 1)), (6, .int (nI 1)), (5, .int (nI 0)), (4, .int (nI 1)), (0, .ref (ou 0)), (1, .int (nI i)), (2, .int t), (3, .int b)]) hx hb dX3_rankFor_86 hl (by decide) rfl (fun ls hl => ?_)
          refine lv_iload hx hb dX3_rankFor_88 (lv_at hl 1 rfl) ?_
          refine lv_if_eq (tgt := 98) hx hb dX3_rankFor_90 (by decide) (fun c => absurd c (by decide)) (fun _ => ?_)
          refine lv_iload hx hb dX3_rankFor_93 (lv_at hl 0 rfl) ?_
          refine lv_if_ne (tgt := 100) hx hb dX3_rankFor_95 (by decide) (fun _ => ?_) (fun c => absurd c (by decide))
          refine lv_iload hx hb dX3_rankFor_100 (lv_at hl 3 rfl) ?_
          refine lv_if_eq (tgt := 109) hx hb dX3_rankFor_102 (by decide) (fun c => absurd c (by decide)) (fun _ => ?_)
          refine lv_iconst (v := (nI 0)) hx hb dX3_rankFor_105 (by decide) ?_
          refine lv_goto (tgt := 110) hx hb dX3_rankFor_106 (by decide) ?_
          refine lv_iload hx hb dX3_rankFor_110 (lv_at hl 2 rfl) ?_
          refine lv_if_eq (tgt := 119) hx hb dX3_rankFor_112 (by decide) (fun _ => ?_) (fun c => absurd c (by decide))
          refine lv_iconst (v := (nI 1)) hx hb dX3_rankFor_119 (by decide) ?_
          refine lv_iadd hx hb dX3_rankFor_120 ?_
          refine xx_topi (y := (nI 1)) (by decide) ?_
          refine xx_iret () hx hb hr hlocks hS hK hP hD dX3_rankFor_121 ?_
          first | exact Or.inl ⟨⟨Or.inl c17, Or.inl c34⟩, xs_rank_aa c17 c34⟩ | exact Or.inl ⟨⟨Or.inl c17, Or.inr c78⟩, xs_rank_an c17 c34⟩ | exact Or.inl ⟨⟨Or.inr c56, Or.inl c34⟩, xs_rank_na c17 c34⟩ | exact Or.inl ⟨⟨Or.inr c56, Or.inr c78⟩, xs_rank_nn c17 c34⟩
      · refine lv_iconst (v := (nI 1)) hx hb dX3_rankFor_37 (by decide) ?_
        refine lv_goto (tgt := 42) hx hb dX3_rankFor_38 (by decide) ?_
        refine lv_istore (lv' := [(5, .int (nI 1)), (4, .int (nI 1)), (0, .ref (ou 0)), (1, .int (nI i)), (2, .int t), (3, .int b)]) hx hb dX3_rankFor_42 hl (by decide) rfl (fun ls hl => ?_)
        refine lv_iload hx hb dX3_rankFor_44 (lv_at hl 1 rfl) ?_
        refine lv_if_ne (tgt := 59) hx hb dX3_rankFor_46 (by decide) (fun _ => ?_) (fun c => absurd c (by decide))
        refine lv_iconst (v := (nI 1)) hx hb dX3_rankFor_59 (by decide) ?_
        refine lv_goto (tgt := 64) hx hb dX3_rankFor_60 (by decide) ?_
        refine lv_istore (lv' := [(6, .int (nI 1)), (5, .int (nI 1)), (4, .int (nI 1)), (0, .ref (ou 0)), (1, .int (nI i)), (2, .int t), (3, .int b)]) hx hb dX3_rankFor_64 hl (by decide) rfl (fun ls hl => ?_)
        refine lv_iload hx hb dX3_rankFor_66 (lv_at hl 1 rfl) ?_
        refine lv_if_ne (tgt := 81) hx hb dX3_rankFor_68 (by decide) (fun _ => ?_) (fun c => absurd c (by decide))
        refine lv_iconst (v := (nI 1)) hx hb dX3_rankFor_81 (by decide) ?_
        refine lv_goto (tgt := 86) hx hb dX3_rankFor_82 (by decide) ?_
        refine lv_istore (lv' := [(7, .int (nI 1)), (6, .int (nI 1)), (5, .int (nI 1)), (4, .int (nI 1)), (0, .ref (ou 0)), (1, .int (nI i)), (2, .int t), (3, .int b)]) hx hb dX3_rankFor_86 hl (by decide) rfl (fun ls hl => ?_)
        refine lv_iload hx hb dX3_rankFor_88 (lv_at hl 1 rfl) ?_
        refine lv_if_eq (tgt := 98) hx hb dX3_rankFor_90 (by decide) (fun c => absurd c (by decide)) (fun _ => ?_)
        refine lv_iload hx hb dX3_rankFor_93 (lv_at hl 0 rfl) ?_
        refine lv_if_ne (tgt := 100) hx hb dX3_rankFor_95 (by decide) (fun _ => ?_) (fun c => absurd c (by decide))
        refine lv_iload hx hb dX3_rankFor_100 (lv_at hl 3 rfl) ?_
        refine lv_if_eq (tgt := 109) hx hb dX3_rankFor_102 (by decide) (fun c => absurd c (by decide)) (fun _ => ?_)
        refine lv_iconst (v := (nI 0)) hx hb dX3_rankFor_105 (by decide) ?_
        refine lv_goto (tgt := 110) hx hb dX3_rankFor_106 (by decide) ?_
        refine lv_iload hx hb dX3_rankFor_110 (lv_at hl 2 rfl) ?_
        refine lv_if_eq (tgt := 119) hx hb dX3_rankFor_112 (by decide) (fun c => absurd c (by decide)) (fun _ => ?_)
        refine lv_iconst (v := (nI 0)) hx hb dX3_rankFor_115 (by decide) ?_
        refine lv_goto (tgt := 120) hx hb dX3_rankFor_116 (by decide) ?_
        refine lv_iadd hx hb dX3_rankFor_120 ?_
        refine xx_topi (y := (nI 0)) (by decide) ?_
        refine xx_iret () hx hb hr hlocks hS hK hP hD dX3_rankFor_121 ?_
        first | exact Or.inl ⟨⟨Or.inl c17, Or.inl c34⟩, xs_rank_aa c17 c34⟩ | exact Or.inl ⟨⟨Or.inl c17, Or.inr c78⟩, xs_rank_an c17 c34⟩ | exact Or.inl ⟨⟨Or.inr c56, Or.inl c34⟩, xs_rank_na c17 c34⟩ | exact Or.inl ⟨⟨Or.inr c56, Or.inr c78⟩, xs_rank_nn c17 c34⟩
  · have hP : va_P D vwCl (bU k ou uc ut ub ul uw) H := hP
    have hD : va_D A (bU k ou uc ut ub ul uw) := hD
    exact absurd ⟨i, hi, rfl⟩ hq2
def p_U_best (ou : Nat → Nat) (uc : Nat) (ut : Nat → Int32) (ub : Nat → Int32) (ul : Nat → Int32) (uw : Nat → Int32) (t : Int32) (b : Int32) : Int32 → Unit → Prop := fun r u => (r = (-1) ∧ ∀ j, j < uc → ¬ ((ut j = (-1) ∨ ut j = t) ∧ (ub j = (-1) ∨ ub j = b))) ∨ (∃ q, r = nI q ∧ q < uc ∧ ((ut q = (-1) ∨ ut q = t) ∧ (ub q = (-1) ∨ ub q = b)) ∧ ∀ j, j < uc → ((ut j = (-1) ∨ ut j = t) ∧ (ub j = (-1) ∨ ub j = b)) → xs_rank (ut j) (ub j) ≤ xs_rank (ut q) (ub q) ∧ (q < j → xs_rank (ut j) (ub j) < xs_rank (ut q) (ub q)))
set_option maxHeartbeats 4000000 in
set_option maxRecDepth 100000 in
theorem c_U_best (l : Launch) (D : va_G) (k : Nat → ClassId) (ou : Nat → Nat) (uc : Nat) (ut : Nat → Int32) (ub : Nat → Int32) (ul : Nat → Int32) (uw : Nat → Int32) (t : Int32) (b : Int32) (huc : uc ≤ 20) : xx_Ci l yX3_best (.code yX3_best cX3_best 7 (some .int) :: xall) ({ frames := 2, cells := 0, slots := 0, locals := 48 } : Room) D vwCl (xT k) [.ref (ou 0), .int t, .int b] (bU k ou uc ut ub ul uw) (p_U_best ou uc ut ub ul uw t b) (fun (u : Unit) => bU k ou uc ut ub ul uw) 0 0 := by
  intro sz
  refine xx_met (Qf := fun A => va_Qi (p_U_best ou uc ut ub ul uw t b) (xx_B D vwCl (xT k) A (fun (u : Unit) => bU k ou uc ut ub ul uw)) A) (cc := cX3_best) (maxL := 7) (ret := (some .int)) (by decide) rfl (Nat.le_of_ble_eq_true rfl) ?_
  intro p e s m below meth c A ls hx hb hr hts hown hlocks hin hml hA hS hP hD hK hN hl
  have hl : lv_has ls 7 [(0, .ref (ou 0)), (1, .int t), (2, .int b)] := hl
  have hown : s.vm.findClass RX3 = some m.cls := hown
  have hinW := inX3
  refine lv_iconst (v := (-1)) hx hb dX3_best_0 (by decide) ?_
  refine lv_istore_n (lv' := [(3, .int (-1)), (0, .ref (ou 0)), (1, .int t), (2, .int b)]) hx hb dX3_best_1 rfl hl (by decide) rfl (fun ls hl => ?_)
  refine lv_iconst (v := (nI 0)) hx hb dX3_best_2 (by decide) ?_
  refine lv_istore (lv' := [(4, .int (nI 0)), (3, .int (-1)), (0, .ref (ou 0)), (1, .int t), (2, .int b)]) hx hb dX3_best_3 hl (by decide) rfl (fun ls hl => ?_)
  refine lv_iconst (v := (nI 0)) hx hb dX3_best_5 (by decide) ?_
  refine lv_istore (lv' := [(5, .int (nI 0)), (4, .int (nI 0)), (3, .int (-1)), (0, .ref (ou 0)), (1, .int t), (2, .int b)]) hx hb dX3_best_6 hl (by decide) rfl (fun ls hl => ?_)
  have loop8 : ∀ (dd : Nat) (i : Nat) (mr : Nat) (b3 : Int32), uc + 1 ≤ i + dd → (i ≤ uc) → (mr ≤ 3) → ((b3 = (-1) ∧ mr = 0 ∧ ∀ j, j < i → ¬ ((ut j = (-1) ∨ ut j = t) ∧ (ub j = (-1) ∨ ub j = b))) ∨ (∃ q, b3 = nI q ∧ mr = xs_rank (ut q) (ub q) ∧ q < i ∧ ((ut q = (-1) ∨ ut q = t) ∧ (ub q = (-1) ∨ ub q = b)) ∧ ∀ j, j < i → ((ut j = (-1) ∨ ut j = t) ∧ (ub j = (-1) ∨ ub j = b)) → xs_rank (ut j) (ub j) ≤ xs_rank (ut q) (ub q) ∧ (q < j → xs_rank (ut j) (ub j) < xs_rank (ut q) (ub q)))) → ∀ (H : Heap) (locs : List Loc) (ls : Array Slot), va_P D vwCl (bU k ou uc ut ub ul uw) H → va_D A (bU k ou uc ut ub ul uw) → va_S A s.heap H locs → lv_has ls 7 [(0, .ref (ou 0)), (1, .int t), (2, .int b), (3, .int b3), (4, .int (nI mr)), (5, .int (nI i))] → W p l e ({ frames := 2, cells := 0, slots := 0, locals := 48 } : Room) s m [.ref (ou 0), .int t, .int b].toArray below meth c H locs 0 0 (MQ below (va_Qi (p_U_best ou uc ut ub ul uw t b) (xx_B D vwCl (xT k) A (fun (u : Unit) => bU k ou uc ut ub ul uw)) A) [.ref (ou 0), .int t, .int b].toArray s 0 0 A) (F0 m 8 ls []) := by
    intro dd
    induction dd with
    | zero =>
      intro i mr b3 hm h2 h4 h3
      exact absurd hm (by omega)
    | succ dd ih8 =>
      intro i mr b3 hm h2 h4 h3 H locs ls hP hD hS hl
      refine lv_iload hx hb dX3_best_8 (lv_at hl 5 rfl) ?_
      refine lv_aload_n hx hb dX3_best_10 rfl (lv_at hl 0 rfl) ?_
      refine va_get (D := D) (ci := 3) (v := .int (nI uc)) (C := RX3) (T := TX3) (N := 5) hx hb hts hinW hown hK hP 0 rfl rfl 4 (by decide) (hts _ tw_112) (fun _ h9 => h9) rfl dX3_best_11 ?_
      refine lv_icmp_ge (tgt := 53) hx hb dX3_best_14 (by decide) (fun c14 => ?_) (fun c14 => ?_)
      · have c14 : uc ≤ i := (nI_leI (by omega) (by omega)).mp c14
        refine lv_iload_n hx hb dX3_best_53 rfl (lv_at hl 3 rfl) ?_
        refine xx_iret () hx hb hr hlocks hS hK hP hD dX3_best_54 ?_
        obtain rfl : i = uc := by omega
        rcases h3 with ⟨h31, h32, h33⟩ | ⟨q, h31, h32, h33⟩
        · exact Or.inl ⟨h31, h33⟩
        · exact Or.inr ⟨q, h31, h33⟩
      · have c14 : i < uc := Nat.lt_of_not_le (fun h => c14 ((nI_leI (by omega) (by omega)).mpr h))
        refine lv_aload_n hx hb dX3_best_17 rfl (lv_at hl 0 rfl) ?_
        refine lv_iload hx hb dX3_best_18 (lv_at hl 5 rfl) ?_
        refine lv_iload_n hx hb dX3_best_20 rfl (lv_at hl 1 rfl) ?_
        refine lv_iload_n hx hb dX3_best_21 rfl (lv_at hl 2 rfl) ?_
        refine xx_calli ([]) [0, 1, 2, 3, 4] [] (va_runV (As := [.int (nI i), .int t, .int b]) (rest := []) ⟨hx, hb, hml, hown, hts⟩ (c_U_rank l D k ou uc ut ub ul uw i t b (by omega) (by omega) H.size) (cwV 3 hts (xx_gV tw_283 tw_285 ts_1 tw_6 tw_286) rfl rfl rfl (by decide +kernel) ⟨Nat.le_of_ble_eq_true rfl, Nat.le_of_ble_eq_true rfl⟩) (xx_preV hK hN hP hD [0, 1, 2, 3, 4] (by decide) rfl 3 0 rfl rfl) rfl rfl hl.1 rfl (lv_room (Nat.le_of_ble_eq_true rfl)) dX3_best_22 ⟨Nat.le_of_ble_eq_true rfl, Nat.le_of_ble_eq_true rfl⟩) hP hD hS hA rfl rfl (by decide) (by decide) (fun r22 u22 H locs hw22 hP hD hS => ?_)
        rcases hw22 with ⟨hf22, rfl⟩ | ⟨hf22, rfl⟩
        · have hk22 := xs_rank_le (ut i) (ub i)
          have hP : va_P D vwCl (bU k ou uc ut ub ul uw) H := hP
          have hD : va_D A (bU k ou uc ut ub ul uw) := hD
          refine lv_istore (lv' := [(6, .int (nI (xs_rank (ut i) (ub i)))), (0, .ref (ou 0)), (1, .int t), (2, .int b), (3, .int b3), (4, .int (nI mr)), (5, .int (nI i))]) hx hb dX3_best_25 hl (by decide) rfl (fun ls hl => ?_)
          refine lv_iload hx hb dX3_best_27 (lv_at hl 0 rfl) ?_
          refine lv_iconst (v := (-1)) hx hb dX3_best_29 (by decide) ?_
          refine lv_icmp_eq (tgt := 47) hx hb dX3_best_30 (by decide) (fun c => absurd c (xx_nm1 (by omega))) (fun _ => ?_)
          refine lv_iload hx hb dX3_best_33 (lv_at hl 0 rfl) ?_
          refine lv_iload hx hb dX3_best_35 (lv_at hl 5 rfl) ?_
          refine lv_icmp_lt (tgt := 47) hx hb dX3_best_37 (by decide) (fun c37 => ?_) (fun c37 => ?_)
          · have c37 : xs_rank (ut i) (ub i) < mr := (nI_ltI (by omega) (by omega)).mp c37
            refine lv_iinc (v := (nI (i + 1))) (lv' := [(5, .int (nI (i + 1))), (6, .int (nI (xs_rank (ut i) (ub i)))), (0, .ref (ou 0)), (1, .int t), (2, .int b), (3, .int b3), (4, .int (nI mr))]) hx hb dX3_best_47 hl (k := 6) rfl (nI_1 i) (by decide) rfl (fun ls hl => ?_)
            refine lv_goto (tgt := 8) hx hb dX3_best_50 (by decide) ?_
            exact ih8 (i + 1) mr b3 (by omega) (by omega) (by omega) (by first | exact xq_skip (O := fun j => (ut j = (-1) ∨ ut j = t) ∧ (ub j = (-1) ∨ ub j = b)) (R := fun j => xs_rank (ut j) (ub j)) h3 hf22 | exact xq_new (O := fun j => (ut j = (-1) ∨ ut j = t) ∧ (ub j = (-1) ∨ ub j = b)) (R := fun j => xs_rank (ut j) (ub j)) h3 hf22 c37 | exact xq_old (O := fun j => (ut j = (-1) ∨ ut j = t) ∧ (ub j = (-1) ∨ ub j = b)) (R := fun j => xs_rank (ut j) (ub j)) h3 hf22 c37) H locs ls hP hD hS (lv_sub hl [2, 3, 4, 5, 6, 0] rfl)
          · have c37 : mr ≤ xs_rank (ut i) (ub i) := Nat.le_of_not_lt (fun h => c37 ((nI_ltI (by omega) (by omega)).mpr h))
            refine lv_iload hx hb dX3_best_40 (lv_at hl 6 rfl) ?_
            refine lv_istore_n (lv' := [(3, .int (nI i)), (6, .int (nI (xs_rank (ut i) (ub i)))), (0, .ref (ou 0)), (1, .int t), (2, .int b), (4, .int (nI mr)), (5, .int (nI i))]) hx hb dX3_best_42 rfl hl (by decide) rfl (fun ls hl => ?_)
            refine lv_iload hx hb dX3_best_43 (lv_at hl 1 rfl) ?_
            refine lv_istore (lv' := [(4, .int (nI (xs_rank (ut i) (ub i)))), (3, .int (nI i)), (6, .int (nI (xs_rank (ut i) (ub i)))), (0, .ref (ou 0)), (1, .int t), (2, .int b), (5, .int (nI i))]) hx hb dX3_best_45 hl (by decide) rfl (fun ls hl => ?_)
            refine lv_iinc (v := (nI (i + 1))) (lv' := [(5, .int (nI (i + 1))), (4, .int (nI (xs_rank (ut i) (ub i)))), (3, .int (nI i)), (6, .int (nI (xs_rank (ut i) (ub i)))), (0, .ref (ou 0)), (1, .int t), (2, .int b)]) hx hb dX3_best_47 hl (k := 6) rfl (nI_1 i) (by decide) rfl (fun ls hl => ?_)
            refine lv_goto (tgt := 8) hx hb dX3_best_50 (by decide) ?_
            exact ih8 (i + 1) (xs_rank (ut i) (ub i)) (nI i) (by omega) (by omega) (by omega) (by first | exact xq_skip (O := fun j => (ut j = (-1) ∨ ut j = t) ∧ (ub j = (-1) ∨ ub j = b)) (R := fun j => xs_rank (ut j) (ub j)) h3 hf22 | exact xq_new (O := fun j => (ut j = (-1) ∨ ut j = t) ∧ (ub j = (-1) ∨ ub j = b)) (R := fun j => xs_rank (ut j) (ub j)) h3 hf22 c37 | exact xq_old (O := fun j => (ut j = (-1) ∨ ut j = t) ∧ (ub j = (-1) ∨ ub j = b)) (R := fun j => xs_rank (ut j) (ub j)) h3 hf22 c37) H locs ls hP hD hS (lv_sub hl [4, 5, 6, 2, 1, 0] rfl)
        · have hP : va_P D vwCl (bU k ou uc ut ub ul uw) H := hP
          have hD : va_D A (bU k ou uc ut ub ul uw) := hD
          refine lv_istore (lv' := [(6, .int (-1)), (0, .ref (ou 0)), (1, .int t), (2, .int b), (3, .int b3), (4, .int (nI mr)), (5, .int (nI i))]) hx hb dX3_best_25 hl (by decide) rfl (fun ls hl => ?_)
          refine lv_iload hx hb dX3_best_27 (lv_at hl 0 rfl) ?_
          refine lv_iconst (v := (-1)) hx hb dX3_best_29 (by decide) ?_
          refine lv_icmp_eq (tgt := 47) hx hb dX3_best_30 (by decide) (fun _ => ?_) (fun c => absurd c (by decide))
          refine lv_iinc (v := (nI (i + 1))) (lv' := [(5, .int (nI (i + 1))), (6, .int (-1)), (0, .ref (ou 0)), (1, .int t), (2, .int b), (3, .int b3), (4, .int (nI mr))]) hx hb dX3_best_47 hl (k := 6) rfl (nI_1 i) (by decide) rfl (fun ls hl => ?_)
          refine lv_goto (tgt := 8) hx hb dX3_best_50 (by decide) ?_
          exact ih8 (i + 1) mr b3 (by omega) (by omega) (by omega) (by first | exact xq_skip (O := fun j => (ut j = (-1) ∨ ut j = t) ∧ (ub j = (-1) ∨ ub j = b)) (R := fun j => xs_rank (ut j) (ub j)) h3 hf22 | exact xq_new (O := fun j => (ut j = (-1) ∨ ut j = t) ∧ (ub j = (-1) ∨ ub j = b)) (R := fun j => xs_rank (ut j) (ub j)) h3 hf22 c37 | exact xq_old (O := fun j => (ut j = (-1) ∨ ut j = t) ∧ (ub j = (-1) ∨ ub j = b)) (R := fun j => xs_rank (ut j) (ub j)) h3 hf22 c37) H locs ls hP hD hS (lv_sub hl [2, 3, 4, 5, 6, 0] rfl)
  exact loop8 (uc + 1) 0 0 (-1) (by omega) (by omega) (by omega) (by exact Or.inl ⟨rfl, rfl, fun j z => absurd z (by omega)⟩) s.heap _ ls hP hD hS (lv_sub hl [3, 4, 5, 2, 1, 0] rfl)
