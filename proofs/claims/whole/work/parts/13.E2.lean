theorem dX2_latestOwn_0 : decode cX2_latestOwn 0 = .ok (.iconst (-1), 1) := by decide +kernel
theorem dX2_latestOwn_1 : decode cX2_latestOwn 1 = .ok (.istore 5, 2) := by decide +kernel
theorem dX2_latestOwn_3 : decode cX2_latestOwn 3 = .ok (.lconst 0, 1) := by decide +kernel
theorem dX2_latestOwn_4 : decode cX2_latestOwn 4 = .ok (.lstore 6, 2) := by decide +kernel
theorem dX2_latestOwn_6 : decode cX2_latestOwn 6 = .ok (.iconst 0, 1) := by decide +kernel
theorem dX2_latestOwn_7 : decode cX2_latestOwn 7 = .ok (.istore 8, 2) := by decide +kernel
theorem dX2_latestOwn_9 : decode cX2_latestOwn 9 = .ok (.iload 8, 2) := by decide +kernel
theorem dX2_latestOwn_11 : decode cX2_latestOwn 11 = .ok (.aload_n 0, 1) := by decide +kernel
theorem dX2_latestOwn_12 : decode cX2_latestOwn 12 = .ok (.getfield 32, 3) := by decide +kernel
theorem dX2_latestOwn_15 : decode cX2_latestOwn 15 = .ok (.if_icmp .ge 75, 3) := by decide +kernel
theorem dX2_latestOwn_18 : decode cX2_latestOwn 18 = .ok (.aload_n 0, 1) := by decide +kernel
theorem dX2_latestOwn_19 : decode cX2_latestOwn 19 = .ok (.getfield 15, 3) := by decide +kernel
theorem dX2_latestOwn_22 : decode cX2_latestOwn 22 = .ok (.iload 8, 2) := by decide +kernel
theorem dX2_latestOwn_24 : decode cX2_latestOwn 24 = .ok (.iaload, 1) := by decide +kernel
theorem dX2_latestOwn_25 : decode cX2_latestOwn 25 = .ok (.ifCond .ne 19, 3) := by decide +kernel
theorem dX2_latestOwn_28 : decode cX2_latestOwn 28 = .ok (.aload_n 0, 1) := by decide +kernel
theorem dX2_latestOwn_29 : decode cX2_latestOwn 29 = .ok (.iload 8, 2) := by decide +kernel
theorem dX2_latestOwn_31 : decode cX2_latestOwn 31 = .ok (.lload_n 1, 1) := by decide +kernel
theorem dX2_latestOwn_32 : decode cX2_latestOwn 32 = .ok (.iconst 0, 1) := by decide +kernel
theorem dX2_latestOwn_33 : decode cX2_latestOwn 33 = .ok (.lload_n 3, 1) := by decide +kernel
theorem dX2_latestOwn_34 : decode cX2_latestOwn 34 = .ok (.invokevirtual 40, 3) := by decide +kernel
theorem dX2_latestOwn_37 : decode cX2_latestOwn 37 = .ok (.ifCond .eq 7, 3) := by decide +kernel
theorem dX2_latestOwn_40 : decode cX2_latestOwn 40 = .ok (.iconst 1, 1) := by decide +kernel
theorem dX2_latestOwn_41 : decode cX2_latestOwn 41 = .ok (.goto 4, 3) := by decide +kernel
theorem dX2_latestOwn_44 : decode cX2_latestOwn 44 = .ok (.iconst 0, 1) := by decide +kernel
theorem dX2_latestOwn_45 : decode cX2_latestOwn 45 = .ok (.istore 9, 2) := by decide +kernel
theorem dX2_latestOwn_47 : decode cX2_latestOwn 47 = .ok (.iload 9, 2) := by decide +kernel
theorem dX2_latestOwn_49 : decode cX2_latestOwn 49 = .ok (.ifCond .eq 35, 3) := by decide +kernel
theorem dX2_latestOwn_52 : decode cX2_latestOwn 52 = .ok (.iload 5, 2) := by decide +kernel
theorem dX2_latestOwn_54 : decode cX2_latestOwn 54 = .ok (.iconst (-1), 1) := by decide +kernel
theorem dX2_latestOwn_55 : decode cX2_latestOwn 55 = .ok (.if_icmp .eq 16, 3) := by decide +kernel
theorem dX2_latestOwn_58 : decode cX2_latestOwn 58 = .ok (.aload_n 0, 1) := by decide +kernel
theorem dX2_latestOwn_59 : decode cX2_latestOwn 59 = .ok (.getfield 25, 3) := by decide +kernel
theorem dX2_latestOwn_62 : decode cX2_latestOwn 62 = .ok (.iload 8, 2) := by decide +kernel
theorem dX2_latestOwn_64 : decode cX2_latestOwn 64 = .ok (.laload, 1) := by decide +kernel
theorem dX2_latestOwn_65 : decode cX2_latestOwn 65 = .ok (.lload 6, 2) := by decide +kernel
theorem dX2_latestOwn_67 : decode cX2_latestOwn 67 = .ok (.lcmp, 1) := by decide +kernel
theorem dX2_latestOwn_68 : decode cX2_latestOwn 68 = .ok (.ifCond .lt 16, 3) := by decide +kernel
theorem dX2_latestOwn_71 : decode cX2_latestOwn 71 = .ok (.iload 8, 2) := by decide +kernel
theorem dX2_latestOwn_73 : decode cX2_latestOwn 73 = .ok (.istore 5, 2) := by decide +kernel
theorem dX2_latestOwn_75 : decode cX2_latestOwn 75 = .ok (.aload_n 0, 1) := by decide +kernel
theorem dX2_latestOwn_76 : decode cX2_latestOwn 76 = .ok (.getfield 25, 3) := by decide +kernel
theorem dX2_latestOwn_79 : decode cX2_latestOwn 79 = .ok (.iload 8, 2) := by decide +kernel
theorem dX2_latestOwn_81 : decode cX2_latestOwn 81 = .ok (.laload, 1) := by decide +kernel
theorem dX2_latestOwn_82 : decode cX2_latestOwn 82 = .ok (.lstore 6, 2) := by decide +kernel
theorem dX2_latestOwn_84 : decode cX2_latestOwn 84 = .ok (.iinc 8 1, 3) := by decide +kernel
theorem dX2_latestOwn_87 : decode cX2_latestOwn 87 = .ok (.goto (-78), 3) := by decide +kernel
theorem dX2_latestOwn_90 : decode cX2_latestOwn 90 = .ok (.iload 5, 2) := by decide +kernel
theorem dX2_latestOwn_92 : decode cX2_latestOwn 92 = .ok (.ireturn, 1) := by decide +kernel
theorem dX2_firstCounting_0 : decode cX2_firstCounting 0 = .ok (.iconst 0, 1) := by decide +kernel
theorem dX2_firstCounting_1 : decode cX2_firstCounting 1 = .ok (.istore 6, 2) := by decide +kernel
theorem dX2_firstCounting_3 : decode cX2_firstCounting 3 = .ok (.iload 6, 2) := by decide +kernel
theorem dX2_firstCounting_5 : decode cX2_firstCounting 5 = .ok (.aload_n 0, 1) := by decide +kernel
theorem dX2_firstCounting_6 : decode cX2_firstCounting 6 = .ok (.getfield 32, 3) := by decide +kernel
theorem dX2_firstCounting_9 : decode cX2_firstCounting 9 = .ok (.if_icmp .ge 25, 3) := by decide +kernel
theorem dX2_firstCounting_12 : decode cX2_firstCounting 12 = .ok (.aload_n 0, 1) := by decide +kernel
theorem dX2_firstCounting_13 : decode cX2_firstCounting 13 = .ok (.iload 6, 2) := by decide +kernel
theorem dX2_firstCounting_15 : decode cX2_firstCounting 15 = .ok (.lload_n 1, 1) := by decide +kernel
theorem dX2_firstCounting_16 : decode cX2_firstCounting 16 = .ok (.iload_n 3, 1) := by decide +kernel
theorem dX2_firstCounting_17 : decode cX2_firstCounting 17 = .ok (.lload 4, 2) := by decide +kernel
theorem dX2_firstCounting_19 : decode cX2_firstCounting 19 = .ok (.invokevirtual 40, 3) := by decide +kernel
theorem dX2_firstCounting_22 : decode cX2_firstCounting 22 = .ok (.ifCond .eq 6, 3) := by decide +kernel
theorem dX2_firstCounting_25 : decode cX2_firstCounting 25 = .ok (.iload 6, 2) := by decide +kernel
theorem dX2_firstCounting_27 : decode cX2_firstCounting 27 = .ok (.ireturn, 1) := by decide +kernel
theorem dX2_firstCounting_28 : decode cX2_firstCounting 28 = .ok (.iinc 6 1, 3) := by decide +kernel
theorem dX2_firstCounting_31 : decode cX2_firstCounting 31 = .ok (.goto (-28), 3) := by decide +kernel
theorem dX2_firstCounting_34 : decode cX2_firstCounting 34 = .ok (.iconst (-1), 1) := by decide +kernel
theorem dX2_firstCounting_35 : decode cX2_firstCounting 35 = .ok (.ireturn, 1) := by decide +kernel
theorem dX2_tellOneDigest_0 : decode cX2_tellOneDigest 0 = .ok (.aload_n 0, 1) := by decide +kernel
theorem dX2_tellOneDigest_1 : decode cX2_tellOneDigest 1 = .ok (.aload_n 0, 1) := by decide +kernel
theorem dX2_tellOneDigest_2 : decode cX2_tellOneDigest 2 = .ok (.lload_n 1, 1) := by decide +kernel
theorem dX2_tellOneDigest_3 : decode cX2_tellOneDigest 3 = .ok (.iload_n 3, 1) := by decide +kernel
theorem dX2_tellOneDigest_4 : decode cX2_tellOneDigest 4 = .ok (.lload 4, 2) := by decide +kernel
theorem dX2_tellOneDigest_6 : decode cX2_tellOneDigest 6 = .ok (.invokevirtual 50, 3) := by decide +kernel
theorem dX2_tellOneDigest_9 : decode cX2_tellOneDigest 9 = .ok (.invokevirtual 54, 3) := by decide +kernel
theorem dX2_tellOneDigest_12 : decode cX2_tellOneDigest 12 = .ok (.lstore 6, 2) := by decide +kernel
theorem dX2_tellOneDigest_14 : decode cX2_tellOneDigest 14 = .ok (.iconst 0, 1) := by decide +kernel
theorem dX2_tellOneDigest_15 : decode cX2_tellOneDigest 15 = .ok (.istore 8, 2) := by decide +kernel
theorem dX2_tellOneDigest_17 : decode cX2_tellOneDigest 17 = .ok (.iload 8, 2) := by decide +kernel
theorem dX2_tellOneDigest_19 : decode cX2_tellOneDigest 19 = .ok (.aload_n 0, 1) := by decide +kernel
theorem dX2_tellOneDigest_20 : decode cX2_tellOneDigest 20 = .ok (.getfield 32, 3) := by decide +kernel
theorem dX2_tellOneDigest_23 : decode cX2_tellOneDigest 23 = .ok (.if_icmp .ge 37, 3) := by decide +kernel
theorem dX2_tellOneDigest_26 : decode cX2_tellOneDigest 26 = .ok (.aload_n 0, 1) := by decide +kernel
theorem dX2_tellOneDigest_27 : decode cX2_tellOneDigest 27 = .ok (.iload 8, 2) := by decide +kernel
theorem dX2_tellOneDigest_29 : decode cX2_tellOneDigest 29 = .ok (.lload_n 1, 1) := by decide +kernel
theorem dX2_tellOneDigest_30 : decode cX2_tellOneDigest 30 = .ok (.iload_n 3, 1) := by decide +kernel
theorem dX2_tellOneDigest_31 : decode cX2_tellOneDigest 31 = .ok (.lload 4, 2) := by decide +kernel
theorem dX2_tellOneDigest_33 : decode cX2_tellOneDigest 33 = .ok (.invokevirtual 40, 3) := by decide +kernel
theorem dX2_tellOneDigest_36 : decode cX2_tellOneDigest 36 = .ok (.ifCond .eq 18, 3) := by decide +kernel
theorem dX2_tellOneDigest_39 : decode cX2_tellOneDigest 39 = .ok (.aload_n 0, 1) := by decide +kernel
theorem dX2_tellOneDigest_40 : decode cX2_tellOneDigest 40 = .ok (.getfield 22, 3) := by decide +kernel
theorem dX2_tellOneDigest_43 : decode cX2_tellOneDigest 43 = .ok (.iload 8, 2) := by decide +kernel
theorem dX2_tellOneDigest_45 : decode cX2_tellOneDigest 45 = .ok (.laload, 1) := by decide +kernel
theorem dX2_tellOneDigest_46 : decode cX2_tellOneDigest 46 = .ok (.lload 6, 2) := by decide +kernel
theorem dX2_tellOneDigest_48 : decode cX2_tellOneDigest 48 = .ok (.lcmp, 1) := by decide +kernel
theorem dX2_tellOneDigest_49 : decode cX2_tellOneDigest 49 = .ok (.ifCond .eq 5, 3) := by decide +kernel
theorem dX2_tellOneDigest_52 : decode cX2_tellOneDigest 52 = .ok (.iconst 0, 1) := by decide +kernel
theorem dX2_tellOneDigest_53 : decode cX2_tellOneDigest 53 = .ok (.ireturn, 1) := by decide +kernel
theorem dX2_tellOneDigest_54 : decode cX2_tellOneDigest 54 = .ok (.iinc 8 1, 3) := by decide +kernel
theorem dX2_tellOneDigest_57 : decode cX2_tellOneDigest 57 = .ok (.goto (-40), 3) := by decide +kernel
theorem dX2_tellOneDigest_60 : decode cX2_tellOneDigest 60 = .ok (.iconst 1, 1) := by decide +kernel
theorem dX2_tellOneDigest_61 : decode cX2_tellOneDigest 61 = .ok (.ireturn, 1) := by decide +kernel
theorem dJI_bitCount_0 : decode cJI_bitCount 0 = .ok (.iload_n 0, 1) := by decide +kernel
theorem dJI_bitCount_1 : decode cJI_bitCount 1 = .ok (.iload_n 0, 1) := by decide +kernel
theorem dJI_bitCount_2 : decode cJI_bitCount 2 = .ok (.iconst 1, 1) := by decide +kernel
theorem dJI_bitCount_3 : decode cJI_bitCount 3 = .ok (.iushr, 1) := by decide +kernel
theorem dJI_bitCount_4 : decode cJI_bitCount 4 = .ok (.ldc_w 265, 3) := by decide +kernel
theorem dJI_bitCount_7 : decode cJI_bitCount 7 = .ok (.iand, 1) := by decide +kernel
theorem dJI_bitCount_8 : decode cJI_bitCount 8 = .ok (.isub, 1) := by decide +kernel
theorem dJI_bitCount_9 : decode cJI_bitCount 9 = .ok (.istore_n 0, 1) := by decide +kernel
theorem dJI_bitCount_10 : decode cJI_bitCount 10 = .ok (.iload_n 0, 1) := by decide +kernel
theorem dJI_bitCount_11 : decode cJI_bitCount 11 = .ok (.ldc_w 266, 3) := by decide +kernel
theorem dJI_bitCount_14 : decode cJI_bitCount 14 = .ok (.iand, 1) := by decide +kernel
theorem dJI_bitCount_15 : decode cJI_bitCount 15 = .ok (.iload_n 0, 1) := by decide +kernel
theorem dJI_bitCount_16 : decode cJI_bitCount 16 = .ok (.iconst 2, 1) := by decide +kernel
theorem dJI_bitCount_17 : decode cJI_bitCount 17 = .ok (.iushr, 1) := by decide +kernel
theorem dJI_bitCount_18 : decode cJI_bitCount 18 = .ok (.ldc_w 266, 3) := by decide +kernel
theorem dJI_bitCount_21 : decode cJI_bitCount 21 = .ok (.iand, 1) := by decide +kernel
theorem dJI_bitCount_22 : decode cJI_bitCount 22 = .ok (.iadd, 1) := by decide +kernel
theorem dJI_bitCount_23 : decode cJI_bitCount 23 = .ok (.istore_n 0, 1) := by decide +kernel
theorem dJI_bitCount_24 : decode cJI_bitCount 24 = .ok (.iload_n 0, 1) := by decide +kernel
theorem dJI_bitCount_25 : decode cJI_bitCount 25 = .ok (.iload_n 0, 1) := by decide +kernel
theorem dJI_bitCount_26 : decode cJI_bitCount 26 = .ok (.iconst 4, 1) := by decide +kernel
theorem dJI_bitCount_27 : decode cJI_bitCount 27 = .ok (.iushr, 1) := by decide +kernel
theorem dJI_bitCount_28 : decode cJI_bitCount 28 = .ok (.iadd, 1) := by decide +kernel
theorem dJI_bitCount_29 : decode cJI_bitCount 29 = .ok (.ldc_w 267, 3) := by decide +kernel
theorem dJI_bitCount_32 : decode cJI_bitCount 32 = .ok (.iand, 1) := by decide +kernel
theorem dJI_bitCount_33 : decode cJI_bitCount 33 = .ok (.istore_n 0, 1) := by decide +kernel
theorem dJI_bitCount_34 : decode cJI_bitCount 34 = .ok (.iload_n 0, 1) := by decide +kernel
theorem dJI_bitCount_35 : decode cJI_bitCount 35 = .ok (.iload_n 0, 1) := by decide +kernel
theorem dJI_bitCount_36 : decode cJI_bitCount 36 = .ok (.bipush 8, 2) := by decide +kernel
theorem dJI_bitCount_38 : decode cJI_bitCount 38 = .ok (.iushr, 1) := by decide +kernel
theorem dJI_bitCount_39 : decode cJI_bitCount 39 = .ok (.iadd, 1) := by decide +kernel
theorem dJI_bitCount_40 : decode cJI_bitCount 40 = .ok (.istore_n 0, 1) := by decide +kernel
theorem dJI_bitCount_41 : decode cJI_bitCount 41 = .ok (.iload_n 0, 1) := by decide +kernel
theorem dJI_bitCount_42 : decode cJI_bitCount 42 = .ok (.iload_n 0, 1) := by decide +kernel
theorem dJI_bitCount_43 : decode cJI_bitCount 43 = .ok (.bipush 16, 2) := by decide +kernel
theorem dJI_bitCount_45 : decode cJI_bitCount 45 = .ok (.iushr, 1) := by decide +kernel
theorem dJI_bitCount_46 : decode cJI_bitCount 46 = .ok (.iadd, 1) := by decide +kernel
theorem dJI_bitCount_47 : decode cJI_bitCount 47 = .ok (.istore_n 0, 1) := by decide +kernel
theorem dJI_bitCount_48 : decode cJI_bitCount 48 = .ok (.iload_n 0, 1) := by decide +kernel
theorem dJI_bitCount_49 : decode cJI_bitCount 49 = .ok (.bipush 63, 2) := by decide +kernel
theorem dJI_bitCount_51 : decode cJI_bitCount 51 = .ok (.iand, 1) := by decide +kernel
theorem dJI_bitCount_52 : decode cJI_bitCount 52 = .ok (.ireturn, 1) := by decide +kernel
theorem dX2_countWriters_0 : decode cX2_countWriters 0 = .ok (.iconst 0, 1) := by decide +kernel
theorem dX2_countWriters_1 : decode cX2_countWriters 1 = .ok (.istore 6, 2) := by decide +kernel
theorem dX2_countWriters_3 : decode cX2_countWriters 3 = .ok (.iconst 0, 1) := by decide +kernel
theorem dX2_countWriters_4 : decode cX2_countWriters 4 = .ok (.istore 7, 2) := by decide +kernel
theorem dX2_countWriters_6 : decode cX2_countWriters 6 = .ok (.iload 7, 2) := by decide +kernel
theorem dX2_countWriters_8 : decode cX2_countWriters 8 = .ok (.aload_n 0, 1) := by decide +kernel
theorem dX2_countWriters_9 : decode cX2_countWriters 9 = .ok (.getfield 32, 3) := by decide +kernel
theorem dX2_countWriters_12 : decode cX2_countWriters 12 = .ok (.if_icmp .ge 36, 3) := by decide +kernel
theorem dX2_countWriters_15 : decode cX2_countWriters 15 = .ok (.aload_n 0, 1) := by decide +kernel
theorem dX2_countWriters_16 : decode cX2_countWriters 16 = .ok (.iload 7, 2) := by decide +kernel
theorem dX2_countWriters_18 : decode cX2_countWriters 18 = .ok (.lload_n 1, 1) := by decide +kernel
theorem dX2_countWriters_19 : decode cX2_countWriters 19 = .ok (.iload_n 3, 1) := by decide +kernel
theorem dX2_countWriters_20 : decode cX2_countWriters 20 = .ok (.lload 4, 2) := by decide +kernel
theorem dX2_countWriters_22 : decode cX2_countWriters 22 = .ok (.invokevirtual 40, 3) := by decide +kernel
theorem dX2_countWriters_25 : decode cX2_countWriters 25 = .ok (.ifCond .eq 17, 3) := by decide +kernel
theorem dX2_countWriters_28 : decode cX2_countWriters 28 = .ok (.iload 6, 2) := by decide +kernel
theorem dX2_countWriters_30 : decode cX2_countWriters 30 = .ok (.iconst 1, 1) := by decide +kernel
theorem dX2_countWriters_31 : decode cX2_countWriters 31 = .ok (.aload_n 0, 1) := by decide +kernel
theorem dX2_countWriters_32 : decode cX2_countWriters 32 = .ok (.getfield 9, 3) := by decide +kernel
theorem dX2_countWriters_35 : decode cX2_countWriters 35 = .ok (.iload 7, 2) := by decide +kernel
theorem dX2_countWriters_37 : decode cX2_countWriters 37 = .ok (.iaload, 1) := by decide +kernel
theorem dX2_countWriters_38 : decode cX2_countWriters 38 = .ok (.ishl, 1) := by decide +kernel
theorem dX2_countWriters_39 : decode cX2_countWriters 39 = .ok (.ior, 1) := by decide +kernel
theorem dX2_countWriters_40 : decode cX2_countWriters 40 = .ok (.istore 6, 2) := by decide +kernel
theorem dX2_countWriters_42 : decode cX2_countWriters 42 = .ok (.iinc 7 1, 3) := by decide +kernel
theorem dX2_countWriters_45 : decode cX2_countWriters 45 = .ok (.goto (-39), 3) := by decide +kernel
theorem dX2_countWriters_48 : decode cX2_countWriters 48 = .ok (.iload 6, 2) := by decide +kernel
theorem dX2_countWriters_50 : decode cX2_countWriters 50 = .ok (.invokestatic 44, 3) := by decide +kernel
theorem dX2_countWriters_53 : decode cX2_countWriters 53 = .ok (.ireturn, 1) := by decide +kernel
def p_E_own (oe : Nat → Nat) (ec : Nat) (ew : Nat → Nat) (el : Nat → Int32) (ea : Nat → Int64) (ed : Nat → Int64) (et : Nat → Int64) (ex : Nat → Bool) (a : Int64) (tm : Int64) : Int32 → Unit → Prop := fun r u => (r = (-1) ∧ ∀ j, j < ec → ¬ (el j = 0 ∧ (ex j = false ∧ ea j = a ∧ ¬ (el j < nI 0) ∧ ¬ (tm < et j)))) ∨ (∃ b, r = nI b ∧ b < ec ∧ (el b = 0 ∧ (ex b = false ∧ ea b = a ∧ ¬ (el b < nI 0) ∧ ¬ (tm < et b))) ∧ ∀ j, j < ec → (el j = 0 ∧ (ex j = false ∧ ea j = a ∧ ¬ (el j < nI 0) ∧ ¬ (tm < et j))) → ¬ (et b < et j) ∧ (b < j → et j < et b))
set_option maxHeartbeats 4000000 in
set_option maxRecDepth 100000 in
theorem c_E_own (l : Launch) (D : va_G) (k : Nat → ClassId) (oe : Nat → Nat) (ec : Nat) (ew : Nat → Nat) (el : Nat → Int32) (ea : Nat → Int64) (ed : Nat → Int64) (et : Nat → Int64) (ex : Nat → Bool) (a : Int64) (tm : Int64) (hec : ec ≤ 100) : xx_Ci l yX2_latestOwn (.code yX2_latestOwn cX2_latestOwn 10 (some .int) :: xall) ({ frames := 2, cells := 0, slots := 0, locals := 47 } : Room) D vwCl (xT k) [.ref (oe 0), .long a, .long tm] (bE k oe ec ew el ea ed et ex) (p_E_own oe ec ew el ea ed et ex a tm) (fun (u : Unit) => bE k oe ec ew el ea ed et ex) 0 0 := by
  intro sz
  refine xx_met (Qf := fun A => va_Qi (p_E_own oe ec ew el ea ed et ex a tm) (xx_B D vwCl (xT k) A (fun (u : Unit) => bE k oe ec ew el ea ed et ex)) A) (cc := cX2_latestOwn) (maxL := 10) (ret := (some .int)) (by decide) rfl (Nat.le_of_ble_eq_true rfl) ?_
  intro p e s m below meth c A ls hx hb hr hts hown hlocks hin hml hA hS hP hD hK hN hl
  have hl : lv_has ls 10 [(0, .ref (oe 0)), (1, .long a), (3, .long tm)] := hl
  have hown : s.vm.findClass RX2 = some m.cls := hown
  have hinW := inX2
  refine lv_iconst (v := (-1)) hx hb dX2_latestOwn_0 (by decide) ?_
  refine lv_istore (lv' := [(5, .int (-1)), (0, .ref (oe 0)), (1, .long a), (3, .long tm)]) hx hb dX2_latestOwn_1 hl (by decide) rfl (fun ls hl => ?_)
  refine lv_lconst (v := 0) hx hb dX2_latestOwn_3 (by decide) ?_
  refine lv_lstore (lv' := [(6, .long 0), (5, .int (-1)), (0, .ref (oe 0)), (1, .long a), (3, .long tm)]) hx hb dX2_latestOwn_4 hl (by decide) rfl (fun ls hl => ?_)
  refine lv_iconst (v := (nI 0)) hx hb dX2_latestOwn_6 (by decide) ?_
  refine lv_istore (lv' := [(8, .int (nI 0)), (6, .long 0), (5, .int (-1)), (0, .ref (oe 0)), (1, .long a), (3, .long tm)]) hx hb dX2_latestOwn_7 hl (by decide) rfl (fun ls hl => ?_)
  have loop9 : ∀ (dd : Nat) (i : Nat) (b5 : Int32) (t6 : Int64), ec + 1 ≤ i + dd → (i ≤ ec) → ((b5 = (-1) ∧ ∀ j, j < i → ¬ (el j = 0 ∧ (ex j = false ∧ ea j = a ∧ ¬ (el j < nI 0) ∧ ¬ (tm < et j)))) ∨ (∃ b, b5 = nI b ∧ t6 = et b ∧ b < i ∧ (el b = 0 ∧ (ex b = false ∧ ea b = a ∧ ¬ (el b < nI 0) ∧ ¬ (tm < et b))) ∧ ∀ j, j < i → (el j = 0 ∧ (ex j = false ∧ ea j = a ∧ ¬ (el j < nI 0) ∧ ¬ (tm < et j))) → ¬ (et b < et j) ∧ (b < j → et j < et b))) → ∀ (H : Heap) (locs : List Loc) (ls : Array Slot), va_P D vwCl (bE k oe ec ew el ea ed et ex) H → va_D A (bE k oe ec ew el ea ed et ex) → va_S A s.heap H locs → lv_has ls 10 [(0, .ref (oe 0)), (1, .long a), (3, .long tm), (5, .int b5), (6, .long t6), (8, .int (nI i))] → W p l e ({ frames := 2, cells := 0, slots := 0, locals := 47 } : Room) s m [.ref (oe 0), .long a, .long tm].toArray below meth c H locs 0 0 (MQ below (va_Qi (p_E_own oe ec ew el ea ed et ex a tm) (xx_B D vwCl (xT k) A (fun (u : Unit) => bE k oe ec ew el ea ed et ex)) A) [.ref (oe 0), .long a, .long tm].toArray s 0 0 A) (F0 m 9 ls []) := by
    intro dd
    induction dd with
    | zero =>
      intro i b5 t6 hm h2 h3
      exact absurd hm (by omega)
    | succ dd ih9 =>
      intro i b5 t6 hm h2 h3 H locs ls hP hD hS hl
      refine lv_iload hx hb dX2_latestOwn_9 (lv_at hl 5 rfl) ?_
      refine lv_aload_n hx hb dX2_latestOwn_11 rfl (lv_at hl 0 rfl) ?_
      refine va_get (D := D) (ci := 2) (v := .int (nI ec)) (C := RX2) (T := TX2) (N := 7) hx hb hts hinW hown hK hP 0 rfl rfl 6 (by decide) (hts _ tw_67) (fun _ h9 => h9) rfl dX2_latestOwn_12 ?_
      refine lv_icmp_ge (tgt := 90) hx hb dX2_latestOwn_15 (by decide) (fun c15 => ?_) (fun c15 => ?_)
      · have c15 : ec ≤ i := (nI_leI (by omega) (by omega)).mp c15
        refine lv_iload hx hb dX2_latestOwn_90 (lv_at hl 3 rfl) ?_
        refine xx_iret () hx hb hr hlocks hS hK hP hD dX2_latestOwn_92 ?_
        obtain rfl : i = ec := by omega
        rcases h3 with h3 | ⟨b, h31, h32, h33⟩
        · exact Or.inl h3
        · exact Or.inr ⟨b, h31, h33⟩
      · have c15 : i < ec := Nat.lt_of_not_le (fun h => c15 ((nI_leI (by omega) (by omega)).mpr h))
        refine lv_aload_n hx hb dX2_latestOwn_18 rfl (lv_at hl 0 rfl) ?_
        refine va_get (D := D) (ci := 2) (v := .ref (oe 2)) (C := RX2) (T := TX2) (N := 7) hx hb hts hinW hown hK hP 0 rfl rfl 1 (by decide) (hts _ tw_62) (fun _ h9 => h9) rfl dX2_latestOwn_19 ?_
        refine lv_iload hx hb dX2_latestOwn_22 (lv_at hl 5 rfl) ?_
        refine xx_iald hx hb hK hP 2 0 rfl rfl (show i < 100 by omega) (by decide) dX2_latestOwn_24 ?_
        refine lv_if_ne (tgt := 44) hx hb dX2_latestOwn_25 (by decide) (fun c25 => ?_) (fun c25 => ?_)
        · refine lv_iconst (v := (nI 0)) hx hb dX2_latestOwn_44 (by decide) ?_
          refine lv_istore (lv' := [(9, .int (nI 0)), (0, .ref (oe 0)), (1, .long a), (3, .long tm), (5, .int b5), (6, .long t6), (8, .int (nI i))]) hx hb dX2_latestOwn_45 hl (by decide) rfl (fun ls hl => ?_)
          refine lv_iload hx hb dX2_latestOwn_47 (lv_at hl 0 rfl) ?_
          refine lv_if_eq (tgt := 84) hx hb dX2_latestOwn_49 (by decide) (fun _ => ?_) (fun c => absurd c (by decide))
          refine lv_iinc (v := (nI (i + 1))) (lv' := [(8, .int (nI (i + 1))), (9, .int (nI 0)), (0, .ref (oe 0)), (1, .long a), (3, .long tm), (5, .int b5), (6, .long t6)]) hx hb dX2_latestOwn_84 hl (k := 6) rfl (nI_1 i) (by decide) rfl (fun ls hl => ?_)
          refine lv_goto (tgt := 9) hx hb dX2_latestOwn_87 (by decide) ?_
          exact ih9 (i + 1) b5 t6 (by omega) (by omega) (by first | exact xl_skip (O := fun j => el j = 0 ∧ (ex j = false ∧ ea j = a ∧ ¬ (el j < nI 0) ∧ ¬ (tm < et j))) (et := et) h3 (fun h => c25 h.1) | exact xl_skip (O := fun j => el j = 0 ∧ (ex j = false ∧ ea j = a ∧ ¬ (el j < nI 0) ∧ ¬ (tm < et j))) (et := et) h3 (fun h => hq34 h.2) | exact xl_new (O := fun j => el j = 0 ∧ (ex j = false ∧ ea j = a ∧ ¬ (el j < nI 0) ∧ ¬ (tm < et j))) (et := et) (by omega) h3 ⟨c25, hq34⟩ (Or.inl c55) | exact xl_new (O := fun j => el j = 0 ∧ (ex j = false ∧ ea j = a ∧ ¬ (el j < nI 0) ∧ ¬ (tm < et j))) (et := et) (by omega) h3 ⟨c25, hq34⟩ (Or.inr c68) | exact xl_old (O := fun j => el j = 0 ∧ (ex j = false ∧ ea j = a ∧ ¬ (el j < nI 0) ∧ ¬ (tm < et j))) (et := et) h3 ⟨c25, hq34⟩ c55 c68) H locs ls hP hD hS (lv_sub hl [2, 3, 4, 5, 6, 0] rfl)
        · refine lv_aload_n hx hb dX2_latestOwn_28 rfl (lv_at hl 0 rfl) ?_
          refine lv_iload hx hb dX2_latestOwn_29 (lv_at hl 5 rfl) ?_
          refine lv_lload_n hx hb dX2_latestOwn_31 rfl (lv_at hl 1 rfl) ?_
          refine lv_iconst (v := (nI 0)) hx hb dX2_latestOwn_32 (by decide) ?_
          refine lv_lload_n hx hb dX2_latestOwn_33 rfl (lv_at hl 2 rfl) ?_
          refine xx_calli ([]) [0, 1, 2, 3, 4, 5, 6] [] (va_runV (As := [.int (nI i), .long a, .int (nI 0), .long tm]) (rest := []) ⟨hx, hb, hml, hown, hts⟩ (c_E_counts l D k oe ec ew el ea ed et ex i a (nI 0) tm (by omega) (by omega) H.size) (cwV 4 hts (xx_gV tw_303 tw_305 ts_3 tw_4 tw_306) rfl rfl rfl (by decide +kernel) ⟨Nat.le_of_ble_eq_true rfl, Nat.le_of_ble_eq_true rfl⟩) (xx_preV hK hN hP hD [0, 1, 2, 3, 4, 5, 6] (by decide) rfl 2 0 rfl rfl) rfl rfl hl.1 rfl (lv_room (Nat.le_of_ble_eq_true rfl)) dX2_latestOwn_34 ⟨Nat.le_of_ble_eq_true rfl, Nat.le_of_ble_eq_true rfl⟩) hP hD hS hA rfl rfl (by decide) (by decide) (fun r34 u34 H locs hw34 hP hD hS => ?_)
          rcases hw34 with ⟨rfl, hq34⟩ | ⟨rfl, hq34⟩
          · have hP : va_P D vwCl (bE k oe ec ew el ea ed et ex) H := hP
            have hD : va_D A (bE k oe ec ew el ea ed et ex) := hD
            refine lv_if_eq (tgt := 44) hx hb dX2_latestOwn_37 (by decide) (fun c => absurd c (by decide)) (fun _ => ?_)
            refine lv_iconst (v := (nI 1)) hx hb dX2_latestOwn_40 (by decide) ?_
            refine lv_goto (tgt := 45) hx hb dX2_latestOwn_41 (by decide) ?_
            refine lv_istore (lv' := [(9, .int (nI 1)), (0, .ref (oe 0)), (1, .long a), (3, .long tm), (5, .int b5), (6, .long t6), (8, .int (nI i))]) hx hb dX2_latestOwn_45 hl (by decide) rfl (fun ls hl => ?_)
            refine lv_iload hx hb dX2_latestOwn_47 (lv_at hl 0 rfl) ?_
            refine lv_if_eq (tgt := 84) hx hb dX2_latestOwn_49 (by decide) (fun c => absurd c (by decide)) (fun _ => ?_)
            refine lv_iload hx hb dX2_latestOwn_52 (lv_at hl 4 rfl) ?_
            refine lv_iconst (v := (-1)) hx hb dX2_latestOwn_54 (by decide) ?_
            refine lv_icmp_eq (tgt := 71) hx hb dX2_latestOwn_55 (by decide) (fun c55 => ?_) (fun c55 => ?_)
            · refine lv_iload hx hb dX2_latestOwn_71 (lv_at hl 6 rfl) ?_
              refine lv_istore (lv' := [(5, .int (nI i)), (9, .int (nI 1)), (0, .ref (oe 0)), (1, .long a), (3, .long tm), (6, .long t6), (8, .int (nI i))]) hx hb dX2_latestOwn_73 hl (by decide) rfl (fun ls hl => ?_)
              refine lv_aload_n hx hb dX2_latestOwn_75 rfl (lv_at hl 2 rfl) ?_
              refine va_get (D := D) (ci := 2) (v := .ref (oe 5)) (C := RX2) (T := TX2) (N := 7) hx hb hts hinW hown hK hP 0 rfl rfl 4 (by decide) (hts _ tw_65) (fun _ h9 => h9) rfl dX2_latestOwn_76 ?_
              refine lv_iload hx hb dX2_latestOwn_79 (lv_at hl 6 rfl) ?_
              refine xx_lald hx hb hK hP 5 2 rfl rfl (show i < 100 by omega) (by decide) dX2_latestOwn_81 ?_
              refine lv_lstore (lv' := [(6, .long (et i)), (5, .int (nI i)), (9, .int (nI 1)), (0, .ref (oe 0)), (1, .long a), (3, .long tm), (8, .int (nI i))]) hx hb dX2_latestOwn_82 hl (by decide) rfl (fun ls hl => ?_)
              refine lv_iinc (v := (nI (i + 1))) (lv' := [(8, .int (nI (i + 1))), (6, .long (et i)), (5, .int (nI i)), (9, .int (nI 1)), (0, .ref (oe 0)), (1, .long a), (3, .long tm)]) hx hb dX2_latestOwn_84 hl (k := 6) rfl (nI_1 i) (by decide) rfl (fun ls hl => ?_)
              refine lv_goto (tgt := 9) hx hb dX2_latestOwn_87 (by decide) ?_
              exact ih9 (i + 1) (nI i) (et i) (by omega) (by omega) (by first | exact xl_skip (O := fun j => el j = 0 ∧ (ex j = false ∧ ea j = a ∧ ¬ (el j < nI 0) ∧ ¬ (tm < et j))) (et := et) h3 (fun h => c25 h.1) | exact xl_skip (O := fun j => el j = 0 ∧ (ex j = false ∧ ea j = a ∧ ¬ (el j < nI 0) ∧ ¬ (tm < et j))) (et := et) h3 (fun h => hq34 h.2) | exact xl_new (O := fun j => el j = 0 ∧ (ex j = false ∧ ea j = a ∧ ¬ (el j < nI 0) ∧ ¬ (tm < et j))) (et := et) (by omega) h3 ⟨c25, hq34⟩ (Or.inl c55) | exact xl_new (O := fun j => el j = 0 ∧ (ex j = false ∧ ea j = a ∧ ¬ (el j < nI 0) ∧ ¬ (tm < et j))) (et := et) (by omega) h3 ⟨c25, hq34⟩ (Or.inr c68) | exact xl_old (O := fun j => el j = 0 ∧ (ex j = false ∧ ea j = a ∧ ¬ (el j < nI 0) ∧ ¬ (tm < et j))) (et := et) h3 ⟨c25, hq34⟩ c55 c68) H locs ls hP hD hS (lv_sub hl [4, 5, 6, 2, 1, 0] rfl)
            · refine lv_aload_n hx hb dX2_latestOwn_58 rfl (lv_at hl 1 rfl) ?_
              refine va_get (D := D) (ci := 2) (v := .ref (oe 5)) (C := RX2) (T := TX2) (N := 7) hx hb hts hinW hown hK hP 0 rfl rfl 4 (by decide) (hts _ tw_65) (fun _ h9 => h9) rfl dX2_latestOwn_59 ?_
              refine lv_iload hx hb dX2_latestOwn_62 (lv_at hl 6 rfl) ?_
              refine xx_lald hx hb hK hP 5 2 rfl rfl (show i < 100 by omega) (by decide) dX2_latestOwn_64 ?_
              refine lv_lload hx hb dX2_latestOwn_65 (lv_at hl 5 rfl) ?_
              refine W.lcmp hx hb dX2_latestOwn_67 ?_
              refine lv_if_lt (tgt := 84) hx hb dX2_latestOwn_68 (by decide) (fun c68 => ?_) (fun c68 => ?_)
              · have c68 : (et i) < t6 := (lg_cmp_lt (et i) t6).mp c68
                refine lv_iinc (v := (nI (i + 1))) (lv' := [(8, .int (nI (i + 1))), (9, .int (nI 1)), (0, .ref (oe 0)), (1, .long a), (3, .long tm), (5, .int b5), (6, .long t6)]) hx hb dX2_latestOwn_84 hl (k := 6) rfl (nI_1 i) (by decide) rfl (fun ls hl => ?_)
                refine lv_goto (tgt := 9) hx hb dX2_latestOwn_87 (by decide) ?_
                exact ih9 (i + 1) b5 t6 (by omega) (by omega) (by first | exact xl_skip (O := fun j => el j = 0 ∧ (ex j = false ∧ ea j = a ∧ ¬ (el j < nI 0) ∧ ¬ (tm < et j))) (et := et) h3 (fun h => c25 h.1) | exact xl_skip (O := fun j => el j = 0 ∧ (ex j = false ∧ ea j = a ∧ ¬ (el j < nI 0) ∧ ¬ (tm < et j))) (et := et) h3 (fun h => hq34 h.2) | exact xl_new (O := fun j => el j = 0 ∧ (ex j = false ∧ ea j = a ∧ ¬ (el j < nI 0) ∧ ¬ (tm < et j))) (et := et) (by omega) h3 ⟨c25, hq34⟩ (Or.inl c55) | exact xl_new (O := fun j => el j = 0 ∧ (ex j = false ∧ ea j = a ∧ ¬ (el j < nI 0) ∧ ¬ (tm < et j))) (et := et) (by omega) h3 ⟨c25, hq34⟩ (Or.inr c68) | exact xl_old (O := fun j => el j = 0 ∧ (ex j = false ∧ ea j = a ∧ ¬ (el j < nI 0) ∧ ¬ (tm < et j))) (et := et) h3 ⟨c25, hq34⟩ c55 c68) H locs ls hP hD hS (lv_sub hl [2, 3, 4, 5, 6, 0] rfl)
              · have c68 : ¬ ((et i) < t6) := fun h => c68 ((lg_cmp_lt (et i) t6).mpr h)
                refine lv_iload hx hb dX2_latestOwn_71 (lv_at hl 6 rfl) ?_
                refine lv_istore (lv' := [(5, .int (nI i)), (9, .int (nI 1)), (0, .ref (oe 0)), (1, .long a), (3, .long tm), (6, .long t6), (8, .int (nI i))]) hx hb dX2_latestOwn_73 hl (by decide) rfl (fun ls hl => ?_)
                refine lv_aload_n hx hb dX2_latestOwn_75 rfl (lv_at hl 2 rfl) ?_
                refine va_get (D := D) (ci := 2) (v := .ref (oe 5)) (C := RX2) (T := TX2) (N := 7) hx hb hts hinW hown hK hP 0 rfl rfl 4 (by decide) (hts _ tw_65) (fun _ h9 => h9) rfl dX2_latestOwn_76 ?_
                refine lv_iload hx hb dX2_latestOwn_79 (lv_at hl 6 rfl) ?_
                refine xx_lald hx hb hK hP 5 2 rfl rfl (show i < 100 by omega) (by decide) dX2_latestOwn_81 ?_
                refine lv_lstore (lv' := [(6, .long (et i)), (5, .int (nI i)), (9, .int (nI 1)), (0, .ref (oe 0)), (1, .long a), (3, .long tm), (8, .int (nI i))]) hx hb dX2_latestOwn_82 hl (by decide) rfl (fun ls hl => ?_)
                refine lv_iinc (v := (nI (i + 1))) (lv' := [(8, .int (nI (i + 1))), (6, .long (et i)), (5, .int (nI i)), (9, .int (nI 1)), (0, .ref (oe 0)), (1, .long a), (3, .long tm)]) hx hb dX2_latestOwn_84 hl (k := 6) rfl (nI_1 i) (by decide) rfl (fun ls hl => ?_)
                refine lv_goto (tgt := 9) hx hb dX2_latestOwn_87 (by decide) ?_
                exact ih9 (i + 1) (nI i) (et i) (by omega) (by omega) (by first | exact xl_skip (O := fun j => el j = 0 ∧ (ex j = false ∧ ea j = a ∧ ¬ (el j < nI 0) ∧ ¬ (tm < et j))) (et := et) h3 (fun h => c25 h.1) | exact xl_skip (O := fun j => el j = 0 ∧ (ex j = false ∧ ea j = a ∧ ¬ (el j < nI 0) ∧ ¬ (tm < et j))) (et := et) h3 (fun h => hq34 h.2) | exact xl_new (O := fun j => el j = 0 ∧ (ex j = false ∧ ea j = a ∧ ¬ (el j < nI 0) ∧ ¬ (tm < et j))) (et := et) (by omega) h3 ⟨c25, hq34⟩ (Or.inl c55) | exact xl_new (O := fun j => el j = 0 ∧ (ex j = false ∧ ea j = a ∧ ¬ (el j < nI 0) ∧ ¬ (tm < et j))) (et := et) (by omega) h3 ⟨c25, hq34⟩ (Or.inr c68) | exact xl_old (O := fun j => el j = 0 ∧ (ex j = false ∧ ea j = a ∧ ¬ (el j < nI 0) ∧ ¬ (tm < et j))) (et := et) h3 ⟨c25, hq34⟩ c55 c68) H locs ls hP hD hS (lv_sub hl [4, 5, 6, 2, 1, 0] rfl)
          · have hP : va_P D vwCl (bE k oe ec ew el ea ed et ex) H := hP
            have hD : va_D A (bE k oe ec ew el ea ed et ex) := hD
            refine lv_if_eq (tgt := 44) hx hb dX2_latestOwn_37 (by decide) (fun _ => ?_) (fun c => absurd c (by decide))
            refine lv_iconst (v := (nI 0)) hx hb dX2_latestOwn_44 (by decide) ?_
            refine lv_istore (lv' := [(9, .int (nI 0)), (0, .ref (oe 0)), (1, .long a), (3, .long tm), (5, .int b5), (6, .long t6), (8, .int (nI i))]) hx hb dX2_latestOwn_45 hl (by decide) rfl (fun ls hl => ?_)
            refine lv_iload hx hb dX2_latestOwn_47 (lv_at hl 0 rfl) ?_
            refine lv_if_eq (tgt := 84) hx hb dX2_latestOwn_49 (by decide) (fun _ => ?_) (fun c => absurd c (by decide))
            refine lv_iinc (v := (nI (i + 1))) (lv' := [(8, .int (nI (i + 1))), (9, .int (nI 0)), (0, .ref (oe 0)), (1, .long a), (3, .long tm), (5, .int b5), (6, .long t6)]) hx hb dX2_latestOwn_84 hl (k := 6) rfl (nI_1 i) (by decide) rfl (fun ls hl => ?_)
            refine lv_goto (tgt := 9) hx hb dX2_latestOwn_87 (by decide) ?_
            exact ih9 (i + 1) b5 t6 (by omega) (by omega) (by first | exact xl_skip (O := fun j => el j = 0 ∧ (ex j = false ∧ ea j = a ∧ ¬ (el j < nI 0) ∧ ¬ (tm < et j))) (et := et) h3 (fun h => c25 h.1) | exact xl_skip (O := fun j => el j = 0 ∧ (ex j = false ∧ ea j = a ∧ ¬ (el j < nI 0) ∧ ¬ (tm < et j))) (et := et) h3 (fun h => hq34 h.2) | exact xl_new (O := fun j => el j = 0 ∧ (ex j = false ∧ ea j = a ∧ ¬ (el j < nI 0) ∧ ¬ (tm < et j))) (et := et) (by omega) h3 ⟨c25, hq34⟩ (Or.inl c55) | exact xl_new (O := fun j => el j = 0 ∧ (ex j = false ∧ ea j = a ∧ ¬ (el j < nI 0) ∧ ¬ (tm < et j))) (et := et) (by omega) h3 ⟨c25, hq34⟩ (Or.inr c68) | exact xl_old (O := fun j => el j = 0 ∧ (ex j = false ∧ ea j = a ∧ ¬ (el j < nI 0) ∧ ¬ (tm < et j))) (et := et) h3 ⟨c25, hq34⟩ c55 c68) H locs ls hP hD hS (lv_sub hl [2, 3, 4, 5, 6, 0] rfl)
  exact loop9 (ec + 1) 0 (-1) 0 (by omega) (by omega) (by exact Or.inl ⟨rfl, fun j z => absurd z (by omega)⟩) s.heap _ ls hP hD hS (lv_sub hl [3, 4, 5, 2, 1, 0] rfl)
def p_E_first (oe : Nat → Nat) (ec : Nat) (ew : Nat → Nat) (el : Nat → Int32) (ea : Nat → Int64) (ed : Nat → Int64) (et : Nat → Int64) (ex : Nat → Bool) (a : Int64) (lv : Int32) (tm : Int64) : Int32 → Unit → Prop := fun r u => (r = (-1) ∧ ∀ j, j < ec → ¬ (ex j = false ∧ ea j = a ∧ ¬ (el j < lv) ∧ ¬ (tm < et j))) ∨ (∃ i, i < ec ∧ r = nI i ∧ (ex i = false ∧ ea i = a ∧ ¬ (el i < lv) ∧ ¬ (tm < et i)) ∧ ∀ j, j < i → ¬ (ex j = false ∧ ea j = a ∧ ¬ (el j < lv) ∧ ¬ (tm < et j)))
set_option maxHeartbeats 4000000 in
set_option maxRecDepth 100000 in
theorem c_E_first (l : Launch) (D : va_G) (k : Nat → ClassId) (oe : Nat → Nat) (ec : Nat) (ew : Nat → Nat) (el : Nat → Int32) (ea : Nat → Int64) (ed : Nat → Int64) (et : Nat → Int64) (ex : Nat → Bool) (a : Int64) (lv : Int32) (tm : Int64) (hec : ec ≤ 100) : xx_Ci l yX2_firstCounting (.code yX2_firstCounting cX2_firstCounting 7 (some .int) :: xall) ({ frames := 2, cells := 0, slots := 0, locals := 47 } : Room) D vwCl (xT k) [.ref (oe 0), .long a, .int lv, .long tm] (bE k oe ec ew el ea ed et ex) (p_E_first oe ec ew el ea ed et ex a lv tm) (fun (u : Unit) => bE k oe ec ew el ea ed et ex) 0 0 := by
  intro sz
  refine xx_met (Qf := fun A => va_Qi (p_E_first oe ec ew el ea ed et ex a lv tm) (xx_B D vwCl (xT k) A (fun (u : Unit) => bE k oe ec ew el ea ed et ex)) A) (cc := cX2_firstCounting) (maxL := 7) (ret := (some .int)) (by decide) rfl (Nat.le_of_ble_eq_true rfl) ?_
  intro p e s m below meth c A ls hx hb hr hts hown hlocks hin hml hA hS hP hD hK hN hl
  have hl : lv_has ls 7 [(0, .ref (oe 0)), (1, .long a), (3, .int lv), (4, .long tm)] := hl
  have hown : s.vm.findClass RX2 = some m.cls := hown
  have hinW := inX2
  refine lv_iconst (v := (nI 0)) hx hb dX2_firstCounting_0 (by decide) ?_
  refine lv_istore (lv' := [(6, .int (nI 0)), (0, .ref (oe 0)), (1, .long a), (3, .int lv), (4, .long tm)]) hx hb dX2_firstCounting_1 hl (by decide) rfl (fun ls hl => ?_)
  have loop3 : ∀ (dd : Nat) (i : Nat), ec + 1 ≤ i + dd → (i ≤ ec) → (∀ j, j < i → ¬ (ex j = false ∧ ea j = a ∧ ¬ (el j < lv) ∧ ¬ (tm < et j))) → ∀ (H : Heap) (locs : List Loc) (ls : Array Slot), va_P D vwCl (bE k oe ec ew el ea ed et ex) H → va_D A (bE k oe ec ew el ea ed et ex) → va_S A s.heap H locs → lv_has ls 7 [(0, .ref (oe 0)), (1, .long a), (3, .int lv), (4, .long tm), (6, .int (nI i))] → W p l e ({ frames := 2, cells := 0, slots := 0, locals := 47 } : Room) s m [.ref (oe 0), .long a, .int lv, .long tm].toArray below meth c H locs 0 0 (MQ below (va_Qi (p_E_first oe ec ew el ea ed et ex a lv tm) (xx_B D vwCl (xT k) A (fun (u : Unit) => bE k oe ec ew el ea ed et ex)) A) [.ref (oe 0), .long a, .int lv, .long tm].toArray s 0 0 A) (F0 m 3 ls []) := by
    intro dd
    induction dd with
    | zero =>
      intro i hm h2 h3
      exact absurd hm (by omega)
    | succ dd ih3 =>
      intro i hm h2 h3 H locs ls hP hD hS hl
      refine lv_iload hx hb dX2_firstCounting_3 (lv_at hl 4 rfl) ?_
      refine lv_aload_n hx hb dX2_firstCounting_5 rfl (lv_at hl 0 rfl) ?_
      refine va_get (D := D) (ci := 2) (v := .int (nI ec)) (C := RX2) (T := TX2) (N := 7) hx hb hts hinW hown hK hP 0 rfl rfl 6 (by decide) (hts _ tw_67) (fun _ h9 => h9) rfl dX2_firstCounting_6 ?_
      refine lv_icmp_ge (tgt := 34) hx hb dX2_firstCounting_9 (by decide) (fun c9 => ?_) (fun c9 => ?_)
      · have c9 : ec ≤ i := (nI_leI (by omega) (by omega)).mp c9
        refine lv_iconst (v := (-1)) hx hb dX2_firstCounting_34 (by decide) ?_
        refine xx_iret () hx hb hr hlocks hS hK hP hD dX2_firstCounting_35 ?_
        exact Or.inl ⟨rfl, fun j z => h3 j (by omega)⟩
      · have c9 : i < ec := Nat.lt_of_not_le (fun h => c9 ((nI_leI (by omega) (by omega)).mpr h))
        refine lv_aload_n hx hb dX2_firstCounting_12 rfl (lv_at hl 0 rfl) ?_
        refine lv_iload hx hb dX2_firstCounting_13 (lv_at hl 4 rfl) ?_
        refine lv_lload_n hx hb dX2_firstCounting_15 rfl (lv_at hl 1 rfl) ?_
        refine lv_iload_n hx hb dX2_firstCounting_16 rfl (lv_at hl 2 rfl) ?_
        refine lv_lload hx hb dX2_firstCounting_17 (lv_at hl 3 rfl) ?_
        refine xx_calli ([]) [0, 1, 2, 3, 4, 5, 6] [] (va_runV (As := [.int (nI i), .long a, .int lv, .long tm]) (rest := []) ⟨hx, hb, hml, hown, hts⟩ (c_E_counts l D k oe ec ew el ea ed et ex i a lv tm (by omega) (by omega) H.size) (cwV 4 hts (xx_gV tw_303 tw_305 ts_3 tw_4 tw_306) rfl rfl rfl (by decide +kernel) ⟨Nat.le_of_ble_eq_true rfl, Nat.le_of_ble_eq_true rfl⟩) (xx_preV hK hN hP hD [0, 1, 2, 3, 4, 5, 6] (by decide) rfl 2 0 rfl rfl) rfl rfl hl.1 rfl (lv_room (Nat.le_of_ble_eq_true rfl)) dX2_firstCounting_19 ⟨Nat.le_of_ble_eq_true rfl, Nat.le_of_ble_eq_true rfl⟩) hP hD hS hA rfl rfl (by decide) (by decide) (fun r19 u19 H locs hw19 hP hD hS => ?_)
        rcases hw19 with ⟨rfl, hq19⟩ | ⟨rfl, hq19⟩
        · have hP : va_P D vwCl (bE k oe ec ew el ea ed et ex) H := hP
          have hD : va_D A (bE k oe ec ew el ea ed et ex) := hD
          refine lv_if_eq (tgt := 28) hx hb dX2_firstCounting_22 (by decide) (fun c => absurd c (by decide)) (fun _ => ?_)
          refine lv_iload hx hb dX2_firstCounting_25 (lv_at hl 4 rfl) ?_
          refine xx_iret () hx hb hr hlocks hS hK hP hD dX2_firstCounting_27 ?_
          exact Or.inr ⟨i, c9, rfl, hq19, h3⟩
        · have hP : va_P D vwCl (bE k oe ec ew el ea ed et ex) H := hP
          have hD : va_D A (bE k oe ec ew el ea ed et ex) := hD
          refine lv_if_eq (tgt := 28) hx hb dX2_firstCounting_22 (by decide) (fun _ => ?_) (fun c => absurd c (by decide))
          refine lv_iinc (v := (nI (i + 1))) (lv' := [(6, .int (nI (i + 1))), (0, .ref (oe 0)), (1, .long a), (3, .int lv), (4, .long tm)]) hx hb dX2_firstCounting_28 hl (k := 4) rfl (nI_1 i) (by decide) rfl (fun ls hl => ?_)
          refine lv_goto (tgt := 3) hx hb dX2_firstCounting_31 (by decide) ?_
          exact ih3 (i + 1) (by omega) (by omega) (by intro j z1 z3; rcases Nat.lt_or_ge j i with z | z; exact h3 j z z3; obtain rfl : j = i := (by omega); exact hq19 z3) H locs ls hP hD hS (lv_sub hl [1, 2, 3, 4, 0] rfl)
  exact loop3 (ec + 1) 0 (by omega) (by omega) (by intro j z1; exact absurd z1 (by omega)) s.heap _ ls hP hD hS (lv_sub hl [1, 2, 3, 4, 0] rfl)
def p_E_one (oe : Nat → Nat) (ec : Nat) (ew : Nat → Nat) (el : Nat → Int32) (ea : Nat → Int64) (ed : Nat → Int64) (et : Nat → Int64) (ex : Nat → Bool) (a : Int64) (lv : Int32) (tm : Int64) : Int32 → Unit → Prop := fun r u => xb r (∀ i, i < ec → (ex i = false ∧ ea i = a ∧ ¬ (el i < lv) ∧ ¬ (tm < et i)) → ∀ j, j < ec → (ex j = false ∧ ea j = a ∧ ¬ (el j < lv) ∧ ¬ (tm < et j)) → ed i = ed j)
set_option maxHeartbeats 4000000 in
set_option maxRecDepth 100000 in
theorem c_E_one (l : Launch) (D : va_G) (k : Nat → ClassId) (oe : Nat → Nat) (ec : Nat) (ew : Nat → Nat) (el : Nat → Int32) (ea : Nat → Int64) (ed : Nat → Int64) (et : Nat → Int64) (ex : Nat → Bool) (a : Int64) (lv : Int32) (tm : Int64) (hec : ec ≤ 100) : xx_Ci l yX2_tellOneDigest (.code yX2_tellOneDigest cX2_tellOneDigest 9 (some .boolean) :: xall) ({ frames := 3, cells := 0, slots := 0, locals := 73 } : Room) D vwCl (xT k) [.ref (oe 0), .long a, .int lv, .long tm] (bE k oe ec ew el ea ed et ex) (p_E_one oe ec ew el ea ed et ex a lv tm) (fun (u : Unit) => bE k oe ec ew el ea ed et ex) 0 0 := by
  intro sz
  refine xx_met (Qf := fun A => va_Qi (p_E_one oe ec ew el ea ed et ex a lv tm) (xx_B D vwCl (xT k) A (fun (u : Unit) => bE k oe ec ew el ea ed et ex)) A) (cc := cX2_tellOneDigest) (maxL := 9) (ret := (some .boolean)) (by decide) rfl (Nat.le_of_ble_eq_true rfl) ?_
  intro p e s m below meth c A ls hx hb hr hts hown hlocks hin hml hA hS hP hD hK hN hl
  have hl : lv_has ls 9 [(0, .ref (oe 0)), (1, .long a), (3, .int lv), (4, .long tm)] := hl
  have hown : s.vm.findClass RX2 = some m.cls := hown
  have hinW := inX2
  refine lv_aload_n hx hb dX2_tellOneDigest_0 rfl (lv_at hl 0 rfl) ?_
  refine lv_aload_n hx hb dX2_tellOneDigest_1 rfl (lv_at hl 0 rfl) ?_
  refine lv_lload_n hx hb dX2_tellOneDigest_2 rfl (lv_at hl 1 rfl) ?_
  refine lv_iload_n hx hb dX2_tellOneDigest_3 rfl (lv_at hl 2 rfl) ?_
  refine lv_lload hx hb dX2_tellOneDigest_4 (lv_at hl 3 rfl) ?_
  refine xx_calli ([]) [0, 1, 2, 3, 4, 5, 6] [] (va_runV (As := [.long a, .int lv, .long tm]) (rest := [.ref (oe 0)]) ⟨hx, hb, hml, hown, hts⟩ (c_E_first l D k oe ec ew el ea ed et ex a lv tm (by omega) s.heap.size) (cwV 3 hts (xx_gV tw_337 tw_338 tw_339 tw_4 tw_340) rfl rfl rfl (by decide +kernel) ⟨Nat.le_of_ble_eq_true rfl, Nat.le_of_ble_eq_true rfl⟩) (xx_preV hK hN hP hD [0, 1, 2, 3, 4, 5, 6] (by decide) rfl 2 0 rfl rfl) rfl rfl hl.1 rfl (lv_room (Nat.le_of_ble_eq_true rfl)) dX2_tellOneDigest_6 ⟨Nat.le_of_ble_eq_true rfl, Nat.le_of_ble_eq_true rfl⟩) hP hD hS hA rfl rfl (by decide) (by decide) (fun r6 u6 H locs hw6 hP hD hS => ?_)
  rcases hw6 with ⟨rfl, hq6⟩ | ⟨i6, hi6, rfl, hq6, hf6⟩
  · have hP : va_P D vwCl (bE k oe ec ew el ea ed et ex) H := hP
    have hD : va_D A (bE k oe ec ew el ea ed et ex) := hD
    refine xx_calll ([]) [0, 1, 2, 3, 4, 5, 6] [] (va_runV (As := [.int (-1)]) (rest := []) ⟨hx, hb, hml, hown, hts⟩ (c_E_digest l D k oe ec ew el ea ed et ex (-1) (by omega) H.size) (cwV 1 hts (xx_gV tw_341 tw_312 tw_313 tw_4 tw_314) rfl rfl rfl (by decide +kernel) ⟨Nat.le_of_ble_eq_true rfl, Nat.le_of_ble_eq_true rfl⟩) (xx_preV hK hN hP hD [0, 1, 2, 3, 4, 5, 6] (by decide) rfl 2 0 rfl rfl) rfl rfl hl.1 rfl (lv_room (Nat.le_of_ble_eq_true rfl)) dX2_tellOneDigest_9 ⟨Nat.le_of_ble_eq_true rfl, Nat.le_of_ble_eq_true rfl⟩) hP hD hS hA rfl rfl (by decide) (by decide) (fun r9 u9 H locs hw9 hP hD hS => ?_)
    rcases hw9 with ⟨j9, hj9, hx9, rfl⟩ | ⟨hq9, rfl⟩
    · exact absurd hx9 (xx_m1 (by omega))
    · have hP : va_P D vwCl (bE k oe ec ew el ea ed et ex) H := hP
      have hD : va_D A (bE k oe ec ew el ea ed et ex) := hD
      refine lv_lstore (lv' := [(6, .long 0), (0, .ref (oe 0)), (1, .long a), (3, .int lv), (4, .long tm)]) hx hb dX2_tellOneDigest_12 hl (by decide) rfl (fun ls hl => ?_)
      refine lv_iconst (v := (nI 0)) hx hb dX2_tellOneDigest_14 (by decide) ?_
      refine lv_istore (lv' := [(8, .int (nI 0)), (6, .long 0), (0, .ref (oe 0)), (1, .long a), (3, .int lv), (4, .long tm)]) hx hb dX2_tellOneDigest_15 hl (by decide) rfl (fun ls hl => ?_)
      have loop17 : ∀ (dd : Nat) (i : Nat), ec + 1 ≤ i + dd → (i ≤ ec) → (∀ j, j < i → (ex j = false ∧ ea j = a ∧ ¬ (el j < lv) ∧ ¬ (tm < et j)) → ed j = 0) → ∀ (H : Heap) (locs : List Loc) (ls : Array Slot), va_P D vwCl (bE k oe ec ew el ea ed et ex) H → va_D A (bE k oe ec ew el ea ed et ex) → va_S A s.heap H locs → lv_has ls 9 [(0, .ref (oe 0)), (1, .long a), (3, .int lv), (4, .long tm), (6, .long 0), (8, .int (nI i))] → W p l e ({ frames := 3, cells := 0, slots := 0, locals := 73 } : Room) s m [.ref (oe 0), .long a, .int lv, .long tm].toArray below meth c H locs 0 0 (MQ below (va_Qi (p_E_one oe ec ew el ea ed et ex a lv tm) (xx_B D vwCl (xT k) A (fun (u : Unit) => bE k oe ec ew el ea ed et ex)) A) [.ref (oe 0), .long a, .int lv, .long tm].toArray s 0 0 A) (F0 m 17 ls []) := by
        intro dd
        induction dd with
        | zero =>
          intro i hm h2 h3
          exact absurd hm (by omega)
        | succ dd ih17 =>
          intro i hm h2 h3 H locs ls hP hD hS hl
          refine lv_iload hx hb dX2_tellOneDigest_17 (lv_at hl 5 rfl) ?_
          refine lv_aload_n hx hb dX2_tellOneDigest_19 rfl (lv_at hl 0 rfl) ?_
          refine va_get (D := D) (ci := 2) (v := .int (nI ec)) (C := RX2) (T := TX2) (N := 7) hx hb hts hinW hown hK hP 0 rfl rfl 6 (by decide) (hts _ tw_67) (fun _ h9 => h9) rfl dX2_tellOneDigest_20 ?_
          refine lv_icmp_ge (tgt := 60) hx hb dX2_tellOneDigest_23 (by decide) (fun c23 => ?_) (fun c23 => ?_)
          · have c23 : ec ≤ i := (nI_leI (by omega) (by omega)).mp c23
            refine lv_iconst (v := (nI 1)) hx hb dX2_tellOneDigest_60 (by decide) ?_
            refine xx_zret () hx hb hr hlocks rfl hS hK hP hD dX2_tellOneDigest_61 ?_
            exact xb_t (fun i1 z1 z2 j1 z3 z4 => (h3 i1 (by omega) z2).trans (h3 j1 (by omega) z4).symm)
          · have c23 : i < ec := Nat.lt_of_not_le (fun h => c23 ((nI_leI (by omega) (by omega)).mpr h))
            refine lv_aload_n hx hb dX2_tellOneDigest_26 rfl (lv_at hl 0 rfl) ?_
            refine lv_iload hx hb dX2_tellOneDigest_27 (lv_at hl 5 rfl) ?_
            refine lv_lload_n hx hb dX2_tellOneDigest_29 rfl (lv_at hl 1 rfl) ?_
            refine lv_iload_n hx hb dX2_tellOneDigest_30 rfl (lv_at hl 2 rfl) ?_
            refine lv_lload hx hb dX2_tellOneDigest_31 (lv_at hl 3 rfl) ?_
            refine xx_calli ([]) [0, 1, 2, 3, 4, 5, 6] [] (va_runV (As := [.int (nI i), .long a, .int lv, .long tm]) (rest := []) ⟨hx, hb, hml, hown, hts⟩ (c_E_counts l D k oe ec ew el ea ed et ex i a lv tm (by omega) (by omega) H.size) (cwV 4 hts (xx_gV tw_303 tw_305 ts_3 tw_4 tw_306) rfl rfl rfl (by decide +kernel) ⟨Nat.le_of_ble_eq_true rfl, Nat.le_of_ble_eq_true rfl⟩) (xx_preV hK hN hP hD [0, 1, 2, 3, 4, 5, 6] (by decide) rfl 2 0 rfl rfl) rfl rfl hl.1 rfl (lv_room (Nat.le_of_ble_eq_true rfl)) dX2_tellOneDigest_33 ⟨Nat.le_of_ble_eq_true rfl, Nat.le_of_ble_eq_true rfl⟩) hP hD hS hA rfl rfl (by decide) (by decide) (fun r33 u33 H locs hw33 hP hD hS => ?_)
            rcases hw33 with ⟨rfl, hq33⟩ | ⟨rfl, hq33⟩
            · have hP : va_P D vwCl (bE k oe ec ew el ea ed et ex) H := hP
              have hD : va_D A (bE k oe ec ew el ea ed et ex) := hD
              refine lv_if_eq (tgt := 54) hx hb dX2_tellOneDigest_36 (by decide) (fun c => absurd c (by decide)) (fun _ => ?_)
              refine lv_aload_n hx hb dX2_tellOneDigest_39 rfl (lv_at hl 0 rfl) ?_
              refine va_get (D := D) (ci := 2) (v := .ref (oe 4)) (C := RX2) (T := TX2) (N := 7) hx hb hts hinW hown hK hP 0 rfl rfl 3 (by decide) (hts _ tw_64) (fun _ h9 => h9) rfl dX2_tellOneDigest_40 ?_
              refine lv_iload hx hb dX2_tellOneDigest_43 (lv_at hl 5 rfl) ?_
              refine xx_lald hx hb hK hP 4 2 rfl rfl (show i < 100 by omega) (by decide) dX2_tellOneDigest_45 ?_
              refine lv_lload hx hb dX2_tellOneDigest_46 (lv_at hl 4 rfl) ?_
              refine W.lcmp hx hb dX2_tellOneDigest_48 ?_
              refine lv_if_eq (tgt := 54) hx hb dX2_tellOneDigest_49 (by decide) (fun c49 => ?_) (fun c49 => ?_)
              · have c49 : (ed i) = 0 := (lg_cmp_eq (ed i) 0).mp c49
                refine lv_iinc (v := (nI (i + 1))) (lv' := [(8, .int (nI (i + 1))), (0, .ref (oe 0)), (1, .long a), (3, .int lv), (4, .long tm), (6, .long 0)]) hx hb dX2_tellOneDigest_54 hl (k := 5) rfl (nI_1 i) (by decide) rfl (fun ls hl => ?_)
                refine lv_goto (tgt := 17) hx hb dX2_tellOneDigest_57 (by decide) ?_
                exact ih17 (i + 1) (by omega) (by omega) (by intro j z1 z3; rcases Nat.lt_or_ge j i with z | z; exact h3 j z z3; obtain rfl : j = i := (by omega); first | exact c49 | exact absurd z3 hq33) H locs ls hP hD hS (lv_sub hl [1, 2, 3, 4, 5, 0] rfl)
              · have c49 : ¬ ((ed i) = 0) := fun h => c49 ((lg_cmp_eq (ed i) 0).mpr h)
                refine lv_iconst (v := (nI 0)) hx hb dX2_tellOneDigest_52 (by decide) ?_
                refine xx_zret () hx hb hr hlocks rfl hS hK hP hD dX2_tellOneDigest_53 ?_
                first | exact xb_f (fun h => c49 (h i (by omega) hq33 i6 hi6 hq6)) | exact absurd hq33 (hq6 i (by omega))
            · have hP : va_P D vwCl (bE k oe ec ew el ea ed et ex) H := hP
              have hD : va_D A (bE k oe ec ew el ea ed et ex) := hD
              refine lv_if_eq (tgt := 54) hx hb dX2_tellOneDigest_36 (by decide) (fun _ => ?_) (fun c => absurd c (by decide))
              refine lv_iinc (v := (nI (i + 1))) (lv' := [(8, .int (nI (i + 1))), (0, .ref (oe 0)), (1, .long a), (3, .int lv), (4, .long tm), (6, .long 0)]) hx hb dX2_tellOneDigest_54 hl (k := 5) rfl (nI_1 i) (by decide) rfl (fun ls hl => ?_)
              refine lv_goto (tgt := 17) hx hb dX2_tellOneDigest_57 (by decide) ?_
              exact ih17 (i + 1) (by omega) (by omega) (by intro j z1 z3; rcases Nat.lt_or_ge j i with z | z; exact h3 j z z3; obtain rfl : j = i := (by omega); first | exact c49 | exact absurd z3 hq33) H locs ls hP hD hS (lv_sub hl [1, 2, 3, 4, 5, 0] rfl)
      exact loop17 (ec + 1) 0 (by omega) (by omega) (by intro j z1; exact absurd z1 (by omega)) H locs ls hP hD hS (lv_sub hl [2, 3, 4, 5, 1, 0] rfl)
  · have hP : va_P D vwCl (bE k oe ec ew el ea ed et ex) H := hP
    have hD : va_D A (bE k oe ec ew el ea ed et ex) := hD
    refine xx_calll ([]) [0, 1, 2, 3, 4, 5, 6] [] (va_runV (As := [.int (nI i6)]) (rest := []) ⟨hx, hb, hml, hown, hts⟩ (c_E_digest l D k oe ec ew el ea ed et ex (nI i6) (by omega) H.size) (cwV 1 hts (xx_gV tw_341 tw_312 tw_313 tw_4 tw_314) rfl rfl rfl (by decide +kernel) ⟨Nat.le_of_ble_eq_true rfl, Nat.le_of_ble_eq_true rfl⟩) (xx_preV hK hN hP hD [0, 1, 2, 3, 4, 5, 6] (by decide) rfl 2 0 rfl rfl) rfl rfl hl.1 rfl (lv_room (Nat.le_of_ble_eq_true rfl)) dX2_tellOneDigest_9 ⟨Nat.le_of_ble_eq_true rfl, Nat.le_of_ble_eq_true rfl⟩) hP hD hS hA rfl rfl (by decide) (by decide) (fun r9 u9 H locs hw9 hP hD hS => ?_)
    rcases hw9 with ⟨j9, hj9, hx9, rfl⟩ | ⟨hq9, rfl⟩
    · have hx9 : i6 = j9 := (nI_eq (by omega) (by omega)).mp hx9
      subst hx9
      have hP : va_P D vwCl (bE k oe ec ew el ea ed et ex) H := hP
      have hD : va_D A (bE k oe ec ew el ea ed et ex) := hD
      refine lv_lstore (lv' := [(6, .long (ed i6)), (0, .ref (oe 0)), (1, .long a), (3, .int lv), (4, .long tm)]) hx hb dX2_tellOneDigest_12 hl (by decide) rfl (fun ls hl => ?_)
      refine lv_iconst (v := (nI 0)) hx hb dX2_tellOneDigest_14 (by decide) ?_
      refine lv_istore (lv' := [(8, .int (nI 0)), (6, .long (ed i6)), (0, .ref (oe 0)), (1, .long a), (3, .int lv), (4, .long tm)]) hx hb dX2_tellOneDigest_15 hl (by decide) rfl (fun ls hl => ?_)
      have loop17 : ∀ (dd : Nat) (i : Nat), ec + 1 ≤ i + dd → (i ≤ ec) → (∀ j, j < i → (ex j = false ∧ ea j = a ∧ ¬ (el j < lv) ∧ ¬ (tm < et j)) → ed j = (ed i6)) → ∀ (H : Heap) (locs : List Loc) (ls : Array Slot), va_P D vwCl (bE k oe ec ew el ea ed et ex) H → va_D A (bE k oe ec ew el ea ed et ex) → va_S A s.heap H locs → lv_has ls 9 [(0, .ref (oe 0)), (1, .long a), (3, .int lv), (4, .long tm), (6, .long (ed i6)), (8, .int (nI i))] → W p l e ({ frames := 3, cells := 0, slots := 0, locals := 73 } : Room) s m [.ref (oe 0), .long a, .int lv, .long tm].toArray below meth c H locs 0 0 (MQ below (va_Qi (p_E_one oe ec ew el ea ed et ex a lv tm) (xx_B D vwCl (xT k) A (fun (u : Unit) => bE k oe ec ew el ea ed et ex)) A) [.ref (oe 0), .long a, .int lv, .long tm].toArray s 0 0 A) (F0 m 17 ls []) := by
        intro dd
        induction dd with
        | zero =>
          intro i hm h2 h3
          exact absurd hm (by omega)
        | succ dd ih17 =>
          intro i hm h2 h3 H locs ls hP hD hS hl
          refine lv_iload hx hb dX2_tellOneDigest_17 (lv_at hl 5 rfl) ?_
          refine lv_aload_n hx hb dX2_tellOneDigest_19 rfl (lv_at hl 0 rfl) ?_
          refine va_get (D := D) (ci := 2) (v := .int (nI ec)) (C := RX2) (T := TX2) (N := 7) hx hb hts hinW hown hK hP 0 rfl rfl 6 (by decide) (hts _ tw_67) (fun _ h9 => h9) rfl dX2_tellOneDigest_20 ?_
          refine lv_icmp_ge (tgt := 60) hx hb dX2_tellOneDigest_23 (by decide) (fun c23 => ?_) (fun c23 => ?_)
          · have c23 : ec ≤ i := (nI_leI (by omega) (by omega)).mp c23
            refine lv_iconst (v := (nI 1)) hx hb dX2_tellOneDigest_60 (by decide) ?_
            refine xx_zret () hx hb hr hlocks rfl hS hK hP hD dX2_tellOneDigest_61 ?_
            exact xb_t (fun i1 z1 z2 j1 z3 z4 => (h3 i1 (by omega) z2).trans (h3 j1 (by omega) z4).symm)
          · have c23 : i < ec := Nat.lt_of_not_le (fun h => c23 ((nI_leI (by omega) (by omega)).mpr h))
            refine lv_aload_n hx hb dX2_tellOneDigest_26 rfl (lv_at hl 0 rfl) ?_
            refine lv_iload hx hb dX2_tellOneDigest_27 (lv_at hl 5 rfl) ?_
            refine lv_lload_n hx hb dX2_tellOneDigest_29 rfl (lv_at hl 1 rfl) ?_
            refine lv_iload_n hx hb dX2_tellOneDigest_30 rfl (lv_at hl 2 rfl) ?_
            refine lv_lload hx hb dX2_tellOneDigest_31 (lv_at hl 3 rfl) ?_
            refine xx_calli ([]) [0, 1, 2, 3, 4, 5, 6] [] (va_runV (As := [.int (nI i), .long a, .int lv, .long tm]) (rest := []) ⟨hx, hb, hml, hown, hts⟩ (c_E_counts l D k oe ec ew el ea ed et ex i a lv tm (by omega) (by omega) H.size) (cwV 4 hts (xx_gV tw_303 tw_305 ts_3 tw_4 tw_306) rfl rfl rfl (by decide +kernel) ⟨Nat.le_of_ble_eq_true rfl, Nat.le_of_ble_eq_true rfl⟩) (xx_preV hK hN hP hD [0, 1, 2, 3, 4, 5, 6] (by decide) rfl 2 0 rfl rfl) rfl rfl hl.1 rfl (lv_room (Nat.le_of_ble_eq_true rfl)) dX2_tellOneDigest_33 ⟨Nat.le_of_ble_eq_true rfl, Nat.le_of_ble_eq_true rfl⟩) hP hD hS hA rfl rfl (by decide) (by decide) (fun r33 u33 H locs hw33 hP hD hS => ?_)
            rcases hw33 with ⟨rfl, hq33⟩ | ⟨rfl, hq33⟩
            · have hP : va_P D vwCl (bE k oe ec ew el ea ed et ex) H := hP
              have hD : va_D A (bE k oe ec ew el ea ed et ex) := hD
              refine lv_if_eq (tgt := 54) hx hb dX2_tellOneDigest_36 (by decide) (fun c => absurd c (by decide)) (fun _ => ?_)
              refine lv_aload_n hx hb dX2_tellOneDigest_39 rfl (lv_at hl 0 rfl) ?_
              refine va_get (D := D) (ci := 2) (v := .ref (oe 4)) (C := RX2) (T := TX2) (N := 7) hx hb hts hinW hown hK hP 0 rfl rfl 3 (by decide) (hts _ tw_64) (fun _ h9 => h9) rfl dX2_tellOneDigest_40 ?_
              refine lv_iload hx hb dX2_tellOneDigest_43 (lv_at hl 5 rfl) ?_
              refine xx_lald hx hb hK hP 4 2 rfl rfl (show i < 100 by omega) (by decide) dX2_tellOneDigest_45 ?_
              refine lv_lload hx hb dX2_tellOneDigest_46 (lv_at hl 4 rfl) ?_
              refine W.lcmp hx hb dX2_tellOneDigest_48 ?_
              refine lv_if_eq (tgt := 54) hx hb dX2_tellOneDigest_49 (by decide) (fun c49 => ?_) (fun c49 => ?_)
              · have c49 : (ed i) = (ed i6) := (lg_cmp_eq (ed i) (ed i6)).mp c49
                refine lv_iinc (v := (nI (i + 1))) (lv' := [(8, .int (nI (i + 1))), (0, .ref (oe 0)), (1, .long a), (3, .int lv), (4, .long tm), (6, .long (ed i6))]) hx hb dX2_tellOneDigest_54 hl (k := 5) rfl (nI_1 i) (by decide) rfl (fun ls hl => ?_)
                refine lv_goto (tgt := 17) hx hb dX2_tellOneDigest_57 (by decide) ?_
                exact ih17 (i + 1) (by omega) (by omega) (by intro j z1 z3; rcases Nat.lt_or_ge j i with z | z; exact h3 j z z3; obtain rfl : j = i := (by omega); first | exact c49 | exact absurd z3 hq33) H locs ls hP hD hS (lv_sub hl [1, 2, 3, 4, 5, 0] rfl)
              · have c49 : ¬ ((ed i) = (ed i6)) := fun h => c49 ((lg_cmp_eq (ed i) (ed i6)).mpr h)
                refine lv_iconst (v := (nI 0)) hx hb dX2_tellOneDigest_52 (by decide) ?_
                refine xx_zret () hx hb hr hlocks rfl hS hK hP hD dX2_tellOneDigest_53 ?_
                first | exact xb_f (fun h => c49 (h i (by omega) hq33 i6 hi6 hq6)) | exact absurd hq33 (hq6 i (by omega))
            · have hP : va_P D vwCl (bE k oe ec ew el ea ed et ex) H := hP
              have hD : va_D A (bE k oe ec ew el ea ed et ex) := hD
              refine lv_if_eq (tgt := 54) hx hb dX2_tellOneDigest_36 (by decide) (fun _ => ?_) (fun c => absurd c (by decide))
              refine lv_iinc (v := (nI (i + 1))) (lv' := [(8, .int (nI (i + 1))), (0, .ref (oe 0)), (1, .long a), (3, .int lv), (4, .long tm), (6, .long (ed i6))]) hx hb dX2_tellOneDigest_54 hl (k := 5) rfl (nI_1 i) (by decide) rfl (fun ls hl => ?_)
              refine lv_goto (tgt := 17) hx hb dX2_tellOneDigest_57 (by decide) ?_
              exact ih17 (i + 1) (by omega) (by omega) (by intro j z1 z3; rcases Nat.lt_or_ge j i with z | z; exact h3 j z z3; obtain rfl : j = i := (by omega); first | exact c49 | exact absurd z3 hq33) H locs ls hP hD hS (lv_sub hl [1, 2, 3, 4, 5, 0] rfl)
      exact loop17 (ec + 1) 0 (by omega) (by omega) (by intro j z1; exact absurd z1 (by omega)) H locs ls hP hD hS (lv_sub hl [2, 3, 4, 5, 1, 0] rfl)
    · exact absurd ⟨i6, (by omega), rfl⟩ hq9
def p_bitCount (x : Int32) : Int32 → Unit → Prop := fun r u => r = xs_pop x
set_option maxHeartbeats 4000000 in
set_option maxRecDepth 100000 in
theorem c_bitCount (l : Launch) (D : va_G) (k : Nat → ClassId) (x : Int32) : xx_Ci l yJI_bitCount (.code yJI_bitCount cJI_bitCount 1 (some .int) :: xall) ({ frames := 0, cells := 0, slots := 0, locals := 0 } : Room) D vwCl (xT k) [.int x] ([]) (p_bitCount x) (fun (u : Unit) => []) 0 0 := by
  intro sz
  refine xx_met (Qf := fun A => va_Qi (p_bitCount x) (xx_B D vwCl (xT k) A (fun (u : Unit) => [])) A) (cc := cJI_bitCount) (maxL := 1) (ret := (some .int)) (by decide) rfl (Nat.le_of_ble_eq_true rfl) ?_
  intro p e s m below meth c A ls hx hb hr hts hown hlocks hin hml hA hS hP hD hK hN hl
  have hl : lv_has ls 1 [(0, .int x)] := hl
  have hown : s.vm.findClass RJI = some m.cls := hown
  refine lv_iload_n hx hb dJI_bitCount_0 rfl (lv_at hl 0 rfl) ?_
  refine lv_iload_n hx hb dJI_bitCount_1 rfl (lv_at hl 0 rfl) ?_
  refine lv_iconst (v := (nI 1)) hx hb dJI_bitCount_2 (by decide) ?_
  refine lv_iushr (v := (x.toUInt32 >>> ((nI 1).toUInt32 &&& Int32.toUInt32 31)).toInt32) hx hb dJI_bitCount_3 rfl ?_
  refine lv_ldcw (v := (nI 1431655765)) hx hb hown (hts _ tw_326) dJI_bitCount_4 ?_
  refine lv_iand hx hb dJI_bitCount_7 ?_
  refine lv_isub hx hb dJI_bitCount_8 ?_
  refine xx_topi (y := xs_pop1 x) rfl ?_
  refine lv_topi (fun x1 ex1 => ?_)
  refine lv_istore_n (lv' := [(0, .int x1)]) hx hb dJI_bitCount_9 rfl hl (by decide) rfl (fun ls hl => ?_)
  refine lv_iload_n hx hb dJI_bitCount_10 rfl (lv_at hl 0 rfl) ?_
  refine lv_ldcw (v := (nI 858993459)) hx hb hown (hts _ tw_327) dJI_bitCount_11 ?_
  refine lv_iand hx hb dJI_bitCount_14 ?_
  refine lv_iload_n hx hb dJI_bitCount_15 rfl (lv_at hl 0 rfl) ?_
  refine lv_iconst (v := (nI 2)) hx hb dJI_bitCount_16 (by decide) ?_
  refine lv_iushr (v := (x1.toUInt32 >>> ((nI 2).toUInt32 &&& Int32.toUInt32 31)).toInt32) hx hb dJI_bitCount_17 rfl ?_
  refine lv_ldcw (v := (nI 858993459)) hx hb hown (hts _ tw_327) dJI_bitCount_18 ?_
  refine lv_iand hx hb dJI_bitCount_21 ?_
  refine lv_iadd hx hb dJI_bitCount_22 ?_
  refine xx_topi (y := xs_pop2 x1) rfl ?_
  refine lv_topi (fun x2 ex2 => ?_)
  refine lv_istore_n (lv' := [(0, .int x2)]) hx hb dJI_bitCount_23 rfl hl (by decide) rfl (fun ls hl => ?_)
  refine lv_iload_n hx hb dJI_bitCount_24 rfl (lv_at hl 0 rfl) ?_
  refine lv_iload_n hx hb dJI_bitCount_25 rfl (lv_at hl 0 rfl) ?_
  refine lv_iconst (v := (nI 4)) hx hb dJI_bitCount_26 (by decide) ?_
  refine lv_iushr (v := (x2.toUInt32 >>> ((nI 4).toUInt32 &&& Int32.toUInt32 31)).toInt32) hx hb dJI_bitCount_27 rfl ?_
  refine lv_iadd hx hb dJI_bitCount_28 ?_
  refine lv_ldcw (v := (nI 252645135)) hx hb hown (hts _ tw_328) dJI_bitCount_29 ?_
  refine lv_iand hx hb dJI_bitCount_32 ?_
  refine xx_topi (y := xs_pop3 x2) rfl ?_
  refine lv_topi (fun x3 ex3 => ?_)
  refine lv_istore_n (lv' := [(0, .int x3)]) hx hb dJI_bitCount_33 rfl hl (by decide) rfl (fun ls hl => ?_)
  refine lv_iload_n hx hb dJI_bitCount_34 rfl (lv_at hl 0 rfl) ?_
  refine lv_iload_n hx hb dJI_bitCount_35 rfl (lv_at hl 0 rfl) ?_
  refine lv_bipush (v := (nI 8)) hx hb dJI_bitCount_36 (by decide) ?_
  refine lv_iushr (v := (x3.toUInt32 >>> ((nI 8).toUInt32 &&& Int32.toUInt32 31)).toInt32) hx hb dJI_bitCount_38 rfl ?_
  refine lv_iadd hx hb dJI_bitCount_39 ?_
  refine xx_topi (y := xs_pop4 x3) rfl ?_
  refine lv_topi (fun x4 ex4 => ?_)
  refine lv_istore_n (lv' := [(0, .int x4)]) hx hb dJI_bitCount_40 rfl hl (by decide) rfl (fun ls hl => ?_)
  refine lv_iload_n hx hb dJI_bitCount_41 rfl (lv_at hl 0 rfl) ?_
  refine lv_iload_n hx hb dJI_bitCount_42 rfl (lv_at hl 0 rfl) ?_
  refine lv_bipush (v := (nI 16)) hx hb dJI_bitCount_43 (by decide) ?_
  refine lv_iushr (v := (x4.toUInt32 >>> ((nI 16).toUInt32 &&& Int32.toUInt32 31)).toInt32) hx hb dJI_bitCount_45 rfl ?_
  refine lv_iadd hx hb dJI_bitCount_46 ?_
  refine xx_topi (y := xs_pop5 x4) rfl ?_
  refine lv_topi (fun x5 ex5 => ?_)
  refine lv_istore_n (lv' := [(0, .int x5)]) hx hb dJI_bitCount_47 rfl hl (by decide) rfl (fun ls hl => ?_)
  refine lv_iload_n hx hb dJI_bitCount_48 rfl (lv_at hl 0 rfl) ?_
  refine lv_bipush (v := (nI 63)) hx hb dJI_bitCount_49 (by decide) ?_
  refine lv_iand hx hb dJI_bitCount_51 ?_
  refine xx_iret () hx hb hr hlocks hS hK hP hD dJI_bitCount_52 ?_
  subst ex5 ex4 ex3 ex2 ex1
  exact rfl
def p_E_count (oe : Nat → Nat) (ec : Nat) (ew : Nat → Nat) (el : Nat → Int32) (ea : Nat → Int64) (ed : Nat → Int64) (et : Nat → Int64) (ex : Nat → Bool) (a : Int64) (lv : Int32) (tm : Int64) : Int32 → Unit → Prop := fun r u => r = xs_pop (xs_seen (fun j => decide (ex j = false ∧ ea j = a ∧ ¬ (el j < lv) ∧ ¬ (tm < et j))) ew ec)
set_option maxHeartbeats 4000000 in
set_option maxRecDepth 100000 in
theorem c_E_count (l : Launch) (D : va_G) (k : Nat → ClassId) (oe : Nat → Nat) (ec : Nat) (ew : Nat → Nat) (el : Nat → Int32) (ea : Nat → Int64) (ed : Nat → Int64) (et : Nat → Int64) (ex : Nat → Bool) (a : Int64) (lv : Int32) (tm : Int64) (hec : ec ≤ 100) (hew : ∀ i, ew i < 12) : xx_Ci l yX2_countWriters (.code yX2_countWriters cX2_countWriters 8 (some .int) :: xall) ({ frames := 2, cells := 0, slots := 0, locals := 47 } : Room) D vwCl (xT k) [.ref (oe 0), .long a, .int lv, .long tm] (bE k oe ec ew el ea ed et ex) (p_E_count oe ec ew el ea ed et ex a lv tm) (fun (u : Unit) => bE k oe ec ew el ea ed et ex) 0 0 := by
  intro sz
  refine xx_met (Qf := fun A => va_Qi (p_E_count oe ec ew el ea ed et ex a lv tm) (xx_B D vwCl (xT k) A (fun (u : Unit) => bE k oe ec ew el ea ed et ex)) A) (cc := cX2_countWriters) (maxL := 8) (ret := (some .int)) (by decide) rfl (Nat.le_of_ble_eq_true rfl) ?_
  intro p e s m below meth c A ls hx hb hr hts hown hlocks hin hml hA hS hP hD hK hN hl
  have hl : lv_has ls 8 [(0, .ref (oe 0)), (1, .long a), (3, .int lv), (4, .long tm)] := hl
  have hown : s.vm.findClass RX2 = some m.cls := hown
  have hinW := inX2
  refine lv_iconst (v := (nI 0)) hx hb dX2_countWriters_0 (by decide) ?_
  refine lv_istore (lv' := [(6, .int (nI 0)), (0, .ref (oe 0)), (1, .long a), (3, .int lv), (4, .long tm)]) hx hb dX2_countWriters_1 hl (by decide) rfl (fun ls hl => ?_)
  refine lv_iconst (v := (nI 0)) hx hb dX2_countWriters_3 (by decide) ?_
  refine lv_istore (lv' := [(7, .int (nI 0)), (6, .int (nI 0)), (0, .ref (oe 0)), (1, .long a), (3, .int lv), (4, .long tm)]) hx hb dX2_countWriters_4 hl (by decide) rfl (fun ls hl => ?_)
  have loop6 : ∀ (dd : Nat) (i : Nat) (v : Int32), ec + 1 ≤ i + dd → (i ≤ ec) → (v = xs_seen (fun j => decide (ex j = false ∧ ea j = a ∧ ¬ (el j < lv) ∧ ¬ (tm < et j))) ew i) → ∀ (H : Heap) (locs : List Loc) (ls : Array Slot), va_P D vwCl (bE k oe ec ew el ea ed et ex) H → va_D A (bE k oe ec ew el ea ed et ex) → va_S A s.heap H locs → lv_has ls 8 [(0, .ref (oe 0)), (1, .long a), (3, .int lv), (4, .long tm), (6, .int v), (7, .int (nI i))] → W p l e ({ frames := 2, cells := 0, slots := 0, locals := 47 } : Room) s m [.ref (oe 0), .long a, .int lv, .long tm].toArray below meth c H locs 0 0 (MQ below (va_Qi (p_E_count oe ec ew el ea ed et ex a lv tm) (xx_B D vwCl (xT k) A (fun (u : Unit) => bE k oe ec ew el ea ed et ex)) A) [.ref (oe 0), .long a, .int lv, .long tm].toArray s 0 0 A) (F0 m 6 ls []) := by
    intro dd
    induction dd with
    | zero =>
      intro i v hm h2 h3
      exact absurd hm (by omega)
    | succ dd ih6 =>
      intro i v hm h2 h3 H locs ls hP hD hS hl
      refine lv_iload hx hb dX2_countWriters_6 (lv_at hl 5 rfl) ?_
      refine lv_aload_n hx hb dX2_countWriters_8 rfl (lv_at hl 0 rfl) ?_
      refine va_get (D := D) (ci := 2) (v := .int (nI ec)) (C := RX2) (T := TX2) (N := 7) hx hb hts hinW hown hK hP 0 rfl rfl 6 (by decide) (hts _ tw_67) (fun _ h9 => h9) rfl dX2_countWriters_9 ?_
      refine lv_icmp_ge (tgt := 48) hx hb dX2_countWriters_12 (by decide) (fun c12 => ?_) (fun c12 => ?_)
      · have c12 : ec ≤ i := (nI_leI (by omega) (by omega)).mp c12
        refine lv_iload hx hb dX2_countWriters_48 (lv_at hl 4 rfl) ?_
        refine xx_calli (bE k oe ec ew el ea ed et ex) [] [0, 1, 2, 3, 4, 5, 6] (va_runS (As := [.int v]) (rest := []) ⟨hx, hb, hml, hown, hts⟩ (c_bitCount l D k v H.size) (va_cwS 1 hts (xx_gS tw_323 tw_324 tw_9 tw_325) rfl rfl rfl (by decide +kernel) ⟨Nat.le_of_ble_eq_true rfl, Nat.le_of_ble_eq_true rfl⟩) (xx_preS hK hN hP hD [] (by decide) rfl) rfl rfl hl.1 rfl (lv_room (Nat.le_of_ble_eq_true rfl)) dX2_countWriters_50 ⟨Nat.le_of_ble_eq_true rfl, Nat.le_of_ble_eq_true rfl⟩) hP hD hS hA rfl rfl (by decide) (by decide) (fun r50 u50 H locs hw50 hP hD hS => ?_)
        obtain rfl := hw50
        have hP : va_P D vwCl (bE k oe ec ew el ea ed et ex) H := hP
        have hD : va_D A (bE k oe ec ew el ea ed et ex) := hD
        refine xx_iret () hx hb hr hlocks hS hK hP hD dX2_countWriters_53 ?_
        obtain rfl : i = ec := by omega
        rw [h3]; rfl
      · have c12 : i < ec := Nat.lt_of_not_le (fun h => c12 ((nI_leI (by omega) (by omega)).mpr h))
        refine lv_aload_n hx hb dX2_countWriters_15 rfl (lv_at hl 0 rfl) ?_
        refine lv_iload hx hb dX2_countWriters_16 (lv_at hl 5 rfl) ?_
        refine lv_lload_n hx hb dX2_countWriters_18 rfl (lv_at hl 1 rfl) ?_
        refine lv_iload_n hx hb dX2_countWriters_19 rfl (lv_at hl 2 rfl) ?_
        refine lv_lload hx hb dX2_countWriters_20 (lv_at hl 3 rfl) ?_
        refine xx_calli ([]) [0, 1, 2, 3, 4, 5, 6] [] (va_runV (As := [.int (nI i), .long a, .int lv, .long tm]) (rest := []) ⟨hx, hb, hml, hown, hts⟩ (c_E_counts l D k oe ec ew el ea ed et ex i a lv tm (by omega) (by omega) H.size) (cwV 4 hts (xx_gV tw_303 tw_305 ts_3 tw_4 tw_306) rfl rfl rfl (by decide +kernel) ⟨Nat.le_of_ble_eq_true rfl, Nat.le_of_ble_eq_true rfl⟩) (xx_preV hK hN hP hD [0, 1, 2, 3, 4, 5, 6] (by decide) rfl 2 0 rfl rfl) rfl rfl hl.1 rfl (lv_room (Nat.le_of_ble_eq_true rfl)) dX2_countWriters_22 ⟨Nat.le_of_ble_eq_true rfl, Nat.le_of_ble_eq_true rfl⟩) hP hD hS hA rfl rfl (by decide) (by decide) (fun r22 u22 H locs hw22 hP hD hS => ?_)
        rcases hw22 with ⟨rfl, hq22⟩ | ⟨rfl, hq22⟩
        · have hP : va_P D vwCl (bE k oe ec ew el ea ed et ex) H := hP
          have hD : va_D A (bE k oe ec ew el ea ed et ex) := hD
          refine lv_if_eq (tgt := 42) hx hb dX2_countWriters_25 (by decide) (fun c => absurd c (by decide)) (fun _ => ?_)
          refine lv_iload hx hb dX2_countWriters_28 (lv_at hl 4 rfl) ?_
          refine lv_iconst (v := (nI 1)) hx hb dX2_countWriters_30 (by decide) ?_
          refine lv_aload_n hx hb dX2_countWriters_31 rfl (lv_at hl 0 rfl) ?_
          refine va_get (D := D) (ci := 2) (v := .ref (oe 1)) (C := RX2) (T := TX2) (N := 7) hx hb hts hinW hown hK hP 0 rfl rfl 0 (by decide) (hts _ tw_61) (fun _ h9 => h9) rfl dX2_countWriters_32 ?_
          refine lv_iload hx hb dX2_countWriters_35 (lv_at hl 5 rfl) ?_
          refine xx_iald hx hb hK hP 1 0 rfl rfl (show i < 100 by omega) (by decide) dX2_countWriters_37 ?_
          refine lv_ishl hx hb dX2_countWriters_38 ?_
          refine lv_ior hx hb dX2_countWriters_39 ?_
          refine lv_istore (lv' := [(6, .int (v ||| ((nI 1) <<< ((nI (ew i)) &&& 31)))), (0, .ref (oe 0)), (1, .long a), (3, .int lv), (4, .long tm), (7, .int (nI i))]) hx hb dX2_countWriters_40 hl (by decide) rfl (fun ls hl => ?_)
          refine lv_iinc (v := (nI (i + 1))) (lv' := [(7, .int (nI (i + 1))), (6, .int (v ||| ((nI 1) <<< ((nI (ew i)) &&& 31)))), (0, .ref (oe 0)), (1, .long a), (3, .int lv), (4, .long tm)]) hx hb dX2_countWriters_42 hl (k := 5) rfl (nI_1 i) (by decide) rfl (fun ls hl => ?_)
          refine lv_goto (tgt := 6) hx hb dX2_countWriters_45 (by decide) ?_
          exact ih6 (i + 1) (v ||| ((nI 1) <<< ((nI (ew i)) &&& 31))) (by omega) (by omega) (by subst h3; first | exact (xs_seen_yes (decide_eq_true hq22)).symm | exact (xs_seen_no (decide_eq_false hq22)).symm) H locs ls hP hD hS (lv_sub hl [2, 3, 4, 5, 1, 0] rfl)
        · have hP : va_P D vwCl (bE k oe ec ew el ea ed et ex) H := hP
          have hD : va_D A (bE k oe ec ew el ea ed et ex) := hD
          refine lv_if_eq (tgt := 42) hx hb dX2_countWriters_25 (by decide) (fun _ => ?_) (fun c => absurd c (by decide))
          refine lv_iinc (v := (nI (i + 1))) (lv' := [(7, .int (nI (i + 1))), (0, .ref (oe 0)), (1, .long a), (3, .int lv), (4, .long tm), (6, .int v)]) hx hb dX2_countWriters_42 hl (k := 5) rfl (nI_1 i) (by decide) rfl (fun ls hl => ?_)
          refine lv_goto (tgt := 6) hx hb dX2_countWriters_45 (by decide) ?_
          exact ih6 (i + 1) v (by omega) (by omega) (by subst h3; first | exact (xs_seen_yes (decide_eq_true hq22)).symm | exact (xs_seen_no (decide_eq_false hq22)).symm) H locs ls hP hD hS (lv_sub hl [1, 2, 3, 4, 5, 0] rfl)
  exact loop6 (ec + 1) 0 (nI 0) (by omega) (by omega) (by rfl) s.heap _ ls hP hD hS (lv_sub hl [2, 3, 4, 5, 1, 0] rfl)
