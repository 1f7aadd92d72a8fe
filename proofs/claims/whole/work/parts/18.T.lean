theorem dX5_init_0 : decode cX5_init 0 = .ok (.aload_n 0, 1) := by decide +kernel
theorem dX5_init_1 : decode cX5_init 1 = .ok (.invokespecial 3, 3) := by decide +kernel
theorem dX5_init_4 : decode cX5_init 4 = .ok (.aload_n 0, 1) := by decide +kernel
theorem dX5_init_5 : decode cX5_init 5 = .ok (.iconst 1, 1) := by decide +kernel
theorem dX5_init_6 : decode cX5_init 6 = .ok (.iconst 5, 1) := by decide +kernel
theorem dX5_init_7 : decode cX5_init 7 = .ok (.iload_n 1, 1) := by decide +kernel
theorem dX5_init_8 : decode cX5_init 8 = .ok (.invokestatic 9, 3) := by decide +kernel
theorem dX5_init_11 : decode cX5_init 11 = .ok (.invokestatic 15, 3) := by decide +kernel
theorem dX5_init_14 : decode cX5_init 14 = .ok (.putfield 18, 3) := by decide +kernel
theorem dX5_init_17 : decode cX5_init 17 = .ok (.aload_n 0, 1) := by decide +kernel
theorem dX5_init_18 : decode cX5_init 18 = .ok (.new 22, 3) := by decide +kernel
theorem dX5_init_21 : decode cX5_init 21 = .ok (.dup, 1) := by decide +kernel
theorem dX5_init_22 : decode cX5_init 22 = .ok (.invokespecial 24, 3) := by decide +kernel
theorem dX5_init_25 : decode cX5_init 25 = .ok (.putfield 25, 3) := by decide +kernel
theorem dX5_init_28 : decode cX5_init 28 = .ok (.aload_n 0, 1) := by decide +kernel
theorem dX5_init_29 : decode cX5_init 29 = .ok (.new 29, 3) := by decide +kernel
theorem dX5_init_32 : decode cX5_init 32 = .ok (.dup, 1) := by decide +kernel
theorem dX5_init_33 : decode cX5_init 33 = .ok (.invokespecial 31, 3) := by decide +kernel
theorem dX5_init_36 : decode cX5_init 36 = .ok (.putfield 32, 3) := by decide +kernel
theorem dX5_init_39 : decode cX5_init 39 = .ok (.aload_n 0, 1) := by decide +kernel
theorem dX5_init_40 : decode cX5_init 40 = .ok (.new 36, 3) := by decide +kernel
theorem dX5_init_43 : decode cX5_init 43 = .ok (.dup, 1) := by decide +kernel
theorem dX5_init_44 : decode cX5_init 44 = .ok (.invokespecial 38, 3) := by decide +kernel
theorem dX5_init_47 : decode cX5_init 47 = .ok (.putfield 39, 3) := by decide +kernel
theorem dX5_init_50 : decode cX5_init 50 = .ok (.aload_n 0, 1) := by decide +kernel
theorem dX5_init_51 : decode cX5_init 51 = .ok (.new 43, 3) := by decide +kernel
theorem dX5_init_54 : decode cX5_init 54 = .ok (.dup, 1) := by decide +kernel
theorem dX5_init_55 : decode cX5_init 55 = .ok (.invokespecial 45, 3) := by decide +kernel
theorem dX5_init_58 : decode cX5_init 58 = .ok (.putfield 46, 3) := by decide +kernel
theorem dX5_init_61 : decode cX5_init 61 = .ok (.aload_n 0, 1) := by decide +kernel
theorem dX5_init_62 : decode cX5_init 62 = .ok (.new 50, 3) := by decide +kernel
theorem dX5_init_65 : decode cX5_init 65 = .ok (.dup, 1) := by decide +kernel
theorem dX5_init_66 : decode cX5_init 66 = .ok (.invokespecial 52, 3) := by decide +kernel
theorem dX5_init_69 : decode cX5_init 69 = .ok (.putfield 53, 3) := by decide +kernel
theorem dX5_init_72 : decode cX5_init 72 = .ok (.aload_n 0, 1) := by decide +kernel
theorem dX5_init_73 : decode cX5_init 73 = .ok (.iconst 0, 1) := by decide +kernel
theorem dX5_init_74 : decode cX5_init 74 = .ok (.putfield 57, 3) := by decide +kernel
theorem dX5_init_77 : decode cX5_init 77 = .ok (.aload_n 0, 1) := by decide +kernel
theorem dX5_init_78 : decode cX5_init 78 = .ok (.lconst 0, 1) := by decide +kernel
theorem dX5_init_79 : decode cX5_init 79 = .ok (.putfield 61, 3) := by decide +kernel
theorem dX5_init_82 : decode cX5_init 82 = .ok (.return_, 1) := by decide +kernel
theorem dX5_writer_0 : decode cX5_writer 0 = .ok (.aload_n 0, 1) := by decide +kernel
theorem dX5_writer_1 : decode cX5_writer 1 = .ok (.getfield 25, 3) := by decide +kernel
theorem dX5_writer_4 : decode cX5_writer 4 = .ok (.iload_n 1, 1) := by decide +kernel
theorem dX5_writer_5 : decode cX5_writer 5 = .ok (.invokevirtual 65, 3) := by decide +kernel
theorem dX5_writer_8 : decode cX5_writer 8 = .ok (.ireturn, 1) := by decide +kernel
theorem dX5_key_0 : decode cX5_key 0 = .ok (.aload_n 0, 1) := by decide +kernel
theorem dX5_key_1 : decode cX5_key 1 = .ok (.getfield 25, 3) := by decide +kernel
theorem dX5_key_4 : decode cX5_key 4 = .ok (.iload_n 1, 1) := by decide +kernel
theorem dX5_key_5 : decode cX5_key 5 = .ok (.lload_n 2, 1) := by decide +kernel
theorem dX5_key_6 : decode cX5_key 6 = .ok (.lload 4, 2) := by decide +kernel
theorem dX5_key_8 : decode cX5_key 8 = .ok (.lload 6, 2) := by decide +kernel
theorem dX5_key_10 : decode cX5_key 10 = .ok (.invokevirtual 69, 3) := by decide +kernel
theorem dX5_key_13 : decode cX5_key 13 = .ok (.ireturn, 1) := by decide +kernel
theorem dX5_rule_0 : decode cX5_rule 0 = .ok (.aload_n 0, 1) := by decide +kernel
theorem dX5_rule_1 : decode cX5_rule 1 = .ok (.getfield 46, 3) := by decide +kernel
theorem dX5_rule_4 : decode cX5_rule 4 = .ok (.iload_n 1, 1) := by decide +kernel
theorem dX5_rule_5 : decode cX5_rule 5 = .ok (.iload_n 2, 1) := by decide +kernel
theorem dX5_rule_6 : decode cX5_rule 6 = .ok (.iload_n 3, 1) := by decide +kernel
theorem dX5_rule_7 : decode cX5_rule 7 = .ok (.iload 4, 2) := by decide +kernel
theorem dX5_rule_9 : decode cX5_rule 9 = .ok (.invokevirtual 109, 3) := by decide +kernel
theorem dX5_rule_12 : decode cX5_rule 12 = .ok (.ireturn, 1) := by decide +kernel
theorem dX5_clash_0 : decode cX5_clash 0 = .ok (.aload_n 0, 1) := by decide +kernel
theorem dX5_clash_1 : decode cX5_clash 1 = .ok (.getfield 39, 3) := by decide +kernel
theorem dX5_clash_4 : decode cX5_clash 4 = .ok (.iload_n 1, 1) := by decide +kernel
theorem dX5_clash_5 : decode cX5_clash 5 = .ok (.iload_n 2, 1) := by decide +kernel
theorem dX5_clash_6 : decode cX5_clash 6 = .ok (.invokevirtual 148, 3) := by decide +kernel
theorem dX5_clash_9 : decode cX5_clash 9 = .ok (.ireturn, 1) := by decide +kernel
theorem dX5_audit_0 : decode cX5_audit 0 = .ok (.aload_n 0, 1) := by decide +kernel
theorem dX5_audit_1 : decode cX5_audit 1 = .ok (.getfield 53, 3) := by decide +kernel
theorem dX5_audit_4 : decode cX5_audit 4 = .ok (.iload_n 1, 1) := by decide +kernel
theorem dX5_audit_5 : decode cX5_audit 5 = .ok (.iload_n 2, 1) := by decide +kernel
theorem dX5_audit_6 : decode cX5_audit 6 = .ok (.invokevirtual 151, 3) := by decide +kernel
theorem dX5_audit_9 : decode cX5_audit 9 = .ok (.ireturn, 1) := by decide +kernel
theorem dX5_sum_0 : decode cX5_sum 0 = .ok (.lload_n 1, 1) := by decide +kernel
theorem dX5_sum_1 : decode cX5_sum 1 = .ok (.lload_n 3, 1) := by decide +kernel
theorem dX5_sum_2 : decode cX5_sum 2 = .ok (.lload 5, 2) := by decide +kernel
theorem dX5_sum_4 : decode cX5_sum 4 = .ok (.invokestatic 73, 3) := by decide +kernel
theorem dX5_sum_7 : decode cX5_sum 7 = .ok (.lreturn, 1) := by decide +kernel
theorem dX5_stands_0 : decode cX5_stands 0 = .ok (.aload_n 0, 1) := by decide +kernel
theorem dX5_stands_1 : decode cX5_stands 1 = .ok (.getfield 32, 3) := by decide +kernel
theorem dX5_stands_4 : decode cX5_stands 4 = .ok (.iload_n 1, 1) := by decide +kernel
theorem dX5_stands_5 : decode cX5_stands 5 = .ok (.invokevirtual 99, 3) := by decide +kernel
theorem dX5_stands_8 : decode cX5_stands 8 = .ok (.ireturn, 1) := by decide +kernel
theorem dX5_own_0 : decode cX5_own 0 = .ok (.aload_n 0, 1) := by decide +kernel
theorem dX5_own_1 : decode cX5_own 1 = .ok (.iload_n 1, 1) := by decide +kernel
theorem dX5_own_2 : decode cX5_own 2 = .ok (.putfield 57, 3) := by decide +kernel
theorem dX5_own_5 : decode cX5_own 5 = .ok (.return_, 1) := by decide +kernel
theorem dX5_taken_0 : decode cX5_taken 0 = .ok (.aload_n 0, 1) := by decide +kernel
theorem dX5_taken_1 : decode cX5_taken 1 = .ok (.getfield 61, 3) := by decide +kernel
theorem dX5_taken_4 : decode cX5_taken 4 = .ok (.lreturn, 1) := by decide +kernel
theorem dX5_ruleFor_0 : decode cX5_ruleFor 0 = .ok (.iload_n 1, 1) := by decide +kernel
theorem dX5_ruleFor_1 : decode cX5_ruleFor 1 = .ok (.invokestatic 112, 3) := by decide +kernel
theorem dX5_ruleFor_4 : decode cX5_ruleFor 4 = .ok (.ifCond .eq 10, 3) := by decide +kernel
theorem dX5_ruleFor_7 : decode cX5_ruleFor 7 = .ok (.iload_n 2, 1) := by decide +kernel
theorem dX5_ruleFor_8 : decode cX5_ruleFor 8 = .ok (.invokestatic 112, 3) := by decide +kernel
theorem dX5_ruleFor_11 : decode cX5_ruleFor 11 = .ok (.ifCond .ne 5, 3) := by decide +kernel
theorem dX5_ruleFor_14 : decode cX5_ruleFor 14 = .ok (.iconst (-1), 1) := by decide +kernel
theorem dX5_ruleFor_15 : decode cX5_ruleFor 15 = .ok (.ireturn, 1) := by decide +kernel
theorem dX5_ruleFor_16 : decode cX5_ruleFor 16 = .ok (.aload_n 0, 1) := by decide +kernel
theorem dX5_ruleFor_17 : decode cX5_ruleFor 17 = .ok (.getfield 46, 3) := by decide +kernel
theorem dX5_ruleFor_20 : decode cX5_ruleFor 20 = .ok (.iload_n 1, 1) := by decide +kernel
theorem dX5_ruleFor_21 : decode cX5_ruleFor 21 = .ok (.iload_n 2, 1) := by decide +kernel
theorem dX5_ruleFor_22 : decode cX5_ruleFor 22 = .ok (.invokevirtual 115, 3) := by decide +kernel
theorem dX5_ruleFor_25 : decode cX5_ruleFor 25 = .ok (.ireturn, 1) := by decide +kernel
theorem dX5_bar_0 : decode cX5_bar 0 = .ok (.aload_n 0, 1) := by decide +kernel
theorem dX5_bar_1 : decode cX5_bar 1 = .ok (.getfield 25, 3) := by decide +kernel
theorem dX5_bar_4 : decode cX5_bar 4 = .ok (.iload_n 1, 1) := by decide +kernel
theorem dX5_bar_5 : decode cX5_bar 5 = .ok (.invokevirtual 77, 3) := by decide +kernel
theorem dX5_bar_8 : decode cX5_bar 8 = .ok (.ifCond .ne 5, 3) := by decide +kernel
theorem dX5_bar_11 : decode cX5_bar 11 = .ok (.iconst (-1), 1) := by decide +kernel
theorem dX5_bar_12 : decode cX5_bar 12 = .ok (.ireturn, 1) := by decide +kernel
theorem dX5_bar_13 : decode cX5_bar 13 = .ok (.aload_n 0, 1) := by decide +kernel
theorem dX5_bar_14 : decode cX5_bar 14 = .ok (.getfield 25, 3) := by decide +kernel
theorem dX5_bar_17 : decode cX5_bar 17 = .ok (.iload_n 1, 1) := by decide +kernel
theorem dX5_bar_18 : decode cX5_bar 18 = .ok (.invokevirtual 102, 3) := by decide +kernel
theorem dX5_bar_21 : decode cX5_bar 21 = .ok (.aload_n 0, 1) := by decide +kernel
theorem dX5_bar_22 : decode cX5_bar 22 = .ok (.getfield 32, 3) := by decide +kernel
theorem dX5_bar_25 : decode cX5_bar 25 = .ok (.iload_n 1, 1) := by decide +kernel
theorem dX5_bar_26 : decode cX5_bar 26 = .ok (.invokevirtual 106, 3) := by decide +kernel
theorem dX5_bar_29 : decode cX5_bar 29 = .ok (.ireturn, 1) := by decide +kernel
theorem dX5_noteClash_0 : decode cX5_noteClash 0 = .ok (.aload_n 0, 1) := by decide +kernel
theorem dX5_noteClash_1 : decode cX5_noteClash 1 = .ok (.getfield 39, 3) := by decide +kernel
theorem dX5_noteClash_4 : decode cX5_noteClash 4 = .ok (.lload_n 2, 1) := by decide +kernel
theorem dX5_noteClash_5 : decode cX5_noteClash 5 = .ok (.invokevirtual 129, 3) := by decide +kernel
theorem dX5_noteClash_8 : decode cX5_noteClash 8 = .ok (.ifCond .eq 4, 3) := by decide +kernel
theorem dX5_noteClash_11 : decode cX5_noteClash 11 = .ok (.return_, 1) := by decide +kernel
theorem dX5_noteClash_12 : decode cX5_noteClash 12 = .ok (.aload_n 0, 1) := by decide +kernel
theorem dX5_noteClash_13 : decode cX5_noteClash 13 = .ok (.getfield 32, 3) := by decide +kernel
theorem dX5_noteClash_16 : decode cX5_noteClash 16 = .ok (.iload_n 1, 1) := by decide +kernel
theorem dX5_noteClash_17 : decode cX5_noteClash 17 = .ok (.invokevirtual 154, 3) := by decide +kernel
theorem dX5_noteClash_20 : decode cX5_noteClash 20 = .ok (.istore 4, 2) := by decide +kernel
theorem dX5_noteClash_22 : decode cX5_noteClash 22 = .ok (.iload 4, 2) := by decide +kernel
theorem dX5_noteClash_24 : decode cX5_noteClash 24 = .ok (.iconst (-1), 1) := by decide +kernel
theorem dX5_noteClash_25 : decode cX5_noteClash 25 = .ok (.if_icmp .eq 14, 3) := by decide +kernel
theorem dX5_noteClash_28 : decode cX5_noteClash 28 = .ok (.aload_n 0, 1) := by decide +kernel
theorem dX5_noteClash_29 : decode cX5_noteClash 29 = .ok (.getfield 39, 3) := by decide +kernel
theorem dX5_noteClash_32 : decode cX5_noteClash 32 = .ok (.lload_n 2, 1) := by decide +kernel
theorem dX5_noteClash_33 : decode cX5_noteClash 33 = .ok (.iload 4, 2) := by decide +kernel
theorem dX5_noteClash_35 : decode cX5_noteClash 35 = .ok (.iload_n 1, 1) := by decide +kernel
theorem dX5_noteClash_36 : decode cX5_noteClash 36 = .ok (.invokevirtual 157, 3) := by decide +kernel
theorem dX5_noteClash_39 : decode cX5_noteClash 39 = .ok (.return_, 1) := by decide +kernel
def p_T_init (ot : Nat) (x : Int32) : ((Nat → Nat) × (Nat → Nat) × (Nat → Nat) × (Nat → Nat) × (Nat → Nat)) → Prop := fun u => True
set_option maxHeartbeats 4000000 in
set_option maxRecDepth 100000 in
theorem c_T_init (l : Launch) (D : va_G) (k : Nat → ClassId) (ot : Nat) (x : Int32) : xx_Cv l yX5_init (.code yX5_init cX5_init 2 none :: xall) ({ frames := 2, cells := 25, slots := 2035, locals := 40 } : Room) D vwCl (xT k) [.ref ot, .int x] ([(ot, .inr (5, [.int (nI 0), .null, .null, .null, .null, .null, .int (bI false), .long 0]))]) (p_T_init ot x) (fun (u : (Nat → Nat) × (Nat → Nat) × (Nat → Nat) × (Nat → Nat) × (Nat → Nat)) => (bT k ot (xs_clamp x) u.1 u.2.1 u.2.2.1 u.2.2.2.1 u.2.2.2.2 false 0) ++ (bW k u.1 0 (fun _ => 0) (fun _ => false) (fun _ => 0) (fun _ => 0) (fun _ => 0) (fun _ => 0)) ++ (bE k u.2.1 0 (fun _ => 0) (fun _ => 0) (fun _ => 0) (fun _ => 0) (fun _ => 0) (fun _ => false)) ++ (bC k u.2.2.1 0 (fun _ => 0) (fun _ => 0) (fun _ => 0)) ++ (bU k u.2.2.2.1 0 (fun _ => 0) (fun _ => 0) (fun _ => 0) (fun _ => 0)) ++ (bA k u.2.2.2.2 0 (fun _ => 0))) 25 2035 := by
  intro sz
  refine xx_met (Qf := fun A => va_Qv (p_T_init ot x) (xx_B D vwCl (xT k) A (fun (u : (Nat → Nat) × (Nat → Nat) × (Nat → Nat) × (Nat → Nat) × (Nat → Nat)) => (bT k ot (xs_clamp x) u.1 u.2.1 u.2.2.1 u.2.2.2.1 u.2.2.2.2 false 0) ++ (bW k u.1 0 (fun _ => 0) (fun _ => false) (fun _ => 0) (fun _ => 0) (fun _ => 0) (fun _ => 0)) ++ (bE k u.2.1 0 (fun _ => 0) (fun _ => 0) (fun _ => 0) (fun _ => 0) (fun _ => 0) (fun _ => false)) ++ (bC k u.2.2.1 0 (fun _ => 0) (fun _ => 0) (fun _ => 0)) ++ (bU k u.2.2.2.1 0 (fun _ => 0) (fun _ => 0) (fun _ => 0) (fun _ => 0)) ++ (bA k u.2.2.2.2 0 (fun _ => 0)))) A) (cc := cX5_init) (maxL := 2) (ret := none) (by decide) rfl (Nat.le_of_ble_eq_true rfl) ?_
  intro p e s m below meth c A ls hx hb hr hts hown hlocks hin hml hA hS hP hD hK hN hl
  have hl : lv_has ls 2 [(0, .ref ot), (1, .int x)] := hl
  have hown : s.vm.findClass RX5 = some m.cls := hown
  have hinW := inX5
  refine lv_aload_n hx hb dX5_init_0 rfl (lv_at hl 0 rfl) ?_
  refine W.objInit hx hb hown (hts _ tw_15) (hts _ tw_16) (hts _ tw_17) rfl (by rw [hml]; exact hl.1) rfl dX5_init_1 (Nat.le_of_ble_eq_true rfl) (Nat.le_of_ble_eq_true rfl) ?_
  refine W.eq (g2 := F0 m 4 ls []) rfl ?_
  refine lv_aload_n hx hb dX5_init_4 rfl (lv_at hl 0 rfl) ?_
  refine lv_iconst (v := (nI 1)) hx hb dX5_init_5 (by decide) ?_
  refine lv_iconst (v := (nI 5)) hx hb dX5_init_6 (by decide) ?_
  refine lv_iload_n hx hb dX5_init_7 rfl (lv_at hl 1 rfl) ?_
  refine va_mmin hx hb (by rw [hml]; exact hl.1.symm) hown (hts _ tw_18) (hts _ tw_19) (hts _ tw_2) (hts _ tw_20) (Nat.le_of_ble_eq_true rfl) (Nat.le_of_ble_eq_true rfl) (Nat.le_of_ble_eq_true rfl) (Nat.le_of_ble_eq_true rfl) dX5_init_8 ?_
  refine va_mmax hx hb (by rw [hml]; exact hl.1.symm) hown (hts _ tw_21) (hts _ tw_22) (hts _ tw_2) (hts _ tw_23) (Nat.le_of_ble_eq_true rfl) (Nat.le_of_ble_eq_true rfl) (Nat.le_of_ble_eq_true rfl) (Nat.le_of_ble_eq_true rfl) dX5_init_11 ?_
  refine va_putF (D := D) (ci := 5) (v := .int (if (nI 1) < (if x < (nI 5) then x else (nI 5)) then (if x < (nI 5) then x else (nI 5)) else (nI 1))) (ty := .int) (C := RX5) (T := TX5) (N := 8) hx hb hts hinW tyX5 tyX5_ok nmX5 hown hK hP hD hS 0 rfl rfl 0 (by decide) (hts _ tw_137) (fun _ h9 => h9) rfl hin rfl (by decide +kernel) rfl rfl (Nat.le_of_ble_eq_true rfl) dX5_init_14 (fun H locs hP hD hS => ?_)
  have hP : va_P D vwCl ([(ot, .inr (5, [.int (if (nI 1) < (if x < (nI 5) then x else (nI 5)) then (if x < (nI 5) then x else (nI 5)) else (nI 1)), .null, .null, .null, .null, .null, .int (bI false), .long 0]))]) H := hP
  have hD : va_D A ([(ot, .inr (5, [.int (if (nI 1) < (if x < (nI 5) then x else (nI 5)) then (if x < (nI 5) then x else (nI 5)) else (nI 1)), .null, .null, .null, .null, .null, .int (bI false), .long 0]))]) := hD
  refine lv_aload_n hx hb dX5_init_17 rfl (lv_at hl 0 rfl) ?_
  refine va_new (ci := 4) (fs := [.null, .null, .null, .null, .null, .null, .int (nI 0)]) (C := RX4) (T := TX4) (N := 7) hx hb hts inX4 tyX4 tyX4_ok hown (hts _ tw_24) (hts _ tw_25) (hts _ tw_3) hK hP hD hS hA rfl (fun j hj => by rcases (show j = 0 ∨ j = 1 ∨ j = 2 ∨ j = 3 ∨ j = 4 ∨ j = 5 ∨ j = 6 by omega) with rfl | rfl | rfl | rfl | rfl | rfl | rfl <;> rfl) (Nat.le_of_ble_eq_true rfl) (Nat.le_of_ble_eq_true rfl) dX5_init_18 (fun q18 H hP hD hS => ?_)
  have hP : va_P D vwCl ([(ot, .inr (5, [.int (if (nI 1) < (if x < (nI 5) then x else (nI 5)) then (if x < (nI 5) then x else (nI 5)) else (nI 1)), .null, .null, .null, .null, .null, .int (bI false), .long 0])), (q18, .inr (4, [.null, .null, .null, .null, .null, .null, .int (nI 0)]))]) H := hP
  have hD : va_D A ([(ot, .inr (5, [.int (if (nI 1) < (if x < (nI 5) then x else (nI 5)) then (if x < (nI 5) then x else (nI 5)) else (nI 1)), .null, .null, .null, .null, .null, .int (bI false), .long 0])), (q18, .inr (4, [.null, .null, .null, .null, .null, .null, .int (nI 0)]))]) := hD
  refine W.widen (k := 1) (n := 7) (Nat.le_of_ble_eq_true rfl) (Nat.le_of_ble_eq_true rfl) ?_
  refine lv_dup hx hb dX5_init_21 rfl ?_
  refine xx_callv ([(ot, .inr (5, [.int (if (nI 1) < (if x < (nI 5) then x else (nI 5)) then (if x < (nI 5) then x else (nI 5)) else (nI 1)), .null, .null, .null, .null, .null, .int (bI false), .long 0]))]) [1] [0] (va_runIN (As := []) (rest := [.ref q18, .ref ot]) ⟨hx, hb, hml, hown, hts⟩ (c_W_init l D k q18 H.size) ⟨va_cnB 0 hts (xx_gc tw_28) rfl rfl rfl (hN (RX5, 24, yX4_init, "TrustRows") (by decide +kernel)) (hts _ tw_3) (by decide +kernel) ⟨Nat.le_of_ble_eq_true rfl, Nat.le_of_ble_eq_true rfl⟩, rfl, hts _ tw_27⟩ (xx_preS hK hN hP hD [1] (by decide) rfl) rfl rfl hl.1 rfl (lv_room (Nat.le_of_ble_eq_true rfl)) dX5_init_22 ⟨Nat.le_of_ble_eq_true rfl, Nat.le_of_ble_eq_true rfl⟩) hP hD hS hA rfl rfl (by decide) (by decide) (fun u22 H locs hw22 hP9 hD9 hS9 => ?_)
  obtain rfl := hw22
  have hP : va_P D vwCl (([(ot, .inr (5, [.int (if (nI 1) < (if x < (nI 5) then x else (nI 5)) then (if x < (nI 5) then x else (nI 5)) else (nI 1)), .null, .null, .null, .null, .null, .int (bI false), .long 0]))]) ++ (bW k u22 0 (fun _ => 0) (fun _ => false) (fun _ => 0) (fun _ => 0) (fun _ => 0) (fun _ => 0))) H := hP9
  have hD : va_D A (([(ot, .inr (5, [.int (if (nI 1) < (if x < (nI 5) then x else (nI 5)) then (if x < (nI 5) then x else (nI 5)) else (nI 1)), .null, .null, .null, .null, .null, .int (bI false), .long 0]))]) ++ (bW k u22 0 (fun _ => 0) (fun _ => false) (fun _ => 0) (fun _ => 0) (fun _ => 0) (fun _ => 0))) := hD9
  have hS := hS9
  refine va_putF (D := D) (ci := 5) (v := .ref (u22 0)) (ty := .object "TrustRows$Writers") (C := RX5) (T := TX5) (N := 8) hx hb hts hinW tyX5 tyX5_ok nmX5 hown hK hP hD hS 0 rfl rfl 1 (by decide) (hts _ tw_138) (fun _ h9 => h9) rfl hin rfl (by decide +kernel) rfl rfl (Nat.le_of_ble_eq_true rfl) dX5_init_25 (fun H locs hP hD hS => ?_)
  have hP : va_P D vwCl (([(ot, .inr (5, [.int (if (nI 1) < (if x < (nI 5) then x else (nI 5)) then (if x < (nI 5) then x else (nI 5)) else (nI 1)), .ref (u22 0), .null, .null, .null, .null, .int (bI false), .long 0]))]) ++ (bW k u22 0 (fun _ => 0) (fun _ => false) (fun _ => 0) (fun _ => 0) (fun _ => 0) (fun _ => 0))) H := hP
  have hD : va_D A (([(ot, .inr (5, [.int (if (nI 1) < (if x < (nI 5) then x else (nI 5)) then (if x < (nI 5) then x else (nI 5)) else (nI 1)), .ref (u22 0), .null, .null, .null, .null, .int (bI false), .long 0]))]) ++ (bW k u22 0 (fun _ => 0) (fun _ => false) (fun _ => 0) (fun _ => 0) (fun _ => 0) (fun _ => 0))) := hD
  refine lv_aload_n hx hb dX5_init_28 rfl (lv_at hl 0 rfl) ?_
  refine va_new (ci := 2) (fs := [.null, .null, .null, .null, .null, .null, .int (nI 0)]) (C := RX2) (T := TX2) (N := 7) hx hb hts inX2 tyX2 tyX2_ok hown (hts _ tw_55) (hts _ tw_56) (hts _ tw_4) hK hP hD hS hA rfl (fun j hj => by rcases (show j = 0 ∨ j = 1 ∨ j = 2 ∨ j = 3 ∨ j = 4 ∨ j = 5 ∨ j = 6 by omega) with rfl | rfl | rfl | rfl | rfl | rfl | rfl <;> rfl) (Nat.le_of_ble_eq_true rfl) (Nat.le_of_ble_eq_true rfl) dX5_init_29 (fun q29 H hP hD hS => ?_)
  have hP : va_P D vwCl (([(ot, .inr (5, [.int (if (nI 1) < (if x < (nI 5) then x else (nI 5)) then (if x < (nI 5) then x else (nI 5)) else (nI 1)), .ref (u22 0), .null, .null, .null, .null, .int (bI false), .long 0]))]) ++ (bW k u22 0 (fun _ => 0) (fun _ => false) (fun _ => 0) (fun _ => 0) (fun _ => 0) (fun _ => 0)) ++ ([(q29, .inr (2, [.null, .null, .null, .null, .null, .null, .int (nI 0)]))])) H := hP
  have hD : va_D A (([(ot, .inr (5, [.int (if (nI 1) < (if x < (nI 5) then x else (nI 5)) then (if x < (nI 5) then x else (nI 5)) else (nI 1)), .ref (u22 0), .null, .null, .null, .null, .int (bI false), .long 0]))]) ++ (bW k u22 0 (fun _ => 0) (fun _ => false) (fun _ => 0) (fun _ => 0) (fun _ => 0) (fun _ => 0)) ++ ([(q29, .inr (2, [.null, .null, .null, .null, .null, .null, .int (nI 0)]))])) := hD
  refine W.widen (k := 8) (n := 194) (Nat.le_of_ble_eq_true rfl) (Nat.le_of_ble_eq_true rfl) ?_
  refine lv_dup hx hb dX5_init_32 rfl ?_
  refine xx_callv (([(ot, .inr (5, [.int (if (nI 1) < (if x < (nI 5) then x else (nI 5)) then (if x < (nI 5) then x else (nI 5)) else (nI 1)), .ref (u22 0), .null, .null, .null, .null, .int (bI false), .long 0]))]) ++ (bW k u22 0 (fun _ => 0) (fun _ => false) (fun _ => 0) (fun _ => 0) (fun _ => 0) (fun _ => 0))) [8] [0, 1, 2, 3, 4, 5, 6, 7] (va_runIN (As := []) (rest := [.ref q29, .ref ot]) ⟨hx, hb, hml, hown, hts⟩ (c_E_init l D k q29 H.size) ⟨va_cnB 0 hts (xx_gc tw_59) rfl rfl rfl (hN (RX5, 31, yX2_init, "TrustRows") (by decide +kernel)) (hts _ tw_4) (by decide +kernel) ⟨Nat.le_of_ble_eq_true rfl, Nat.le_of_ble_eq_true rfl⟩, rfl, hts _ tw_58⟩ (xx_preS hK hN hP hD [8] (by decide) rfl) rfl rfl hl.1 rfl (lv_room (Nat.le_of_ble_eq_true rfl)) dX5_init_33 ⟨Nat.le_of_ble_eq_true rfl, Nat.le_of_ble_eq_true rfl⟩) hP hD hS hA rfl rfl (by decide) (by decide) (fun u33 H locs hw33 hP9 hD9 hS9 => ?_)
  obtain rfl := hw33
  have hP : va_P D vwCl (([(ot, .inr (5, [.int (if (nI 1) < (if x < (nI 5) then x else (nI 5)) then (if x < (nI 5) then x else (nI 5)) else (nI 1)), .ref (u22 0), .null, .null, .null, .null, .int (bI false), .long 0]))]) ++ (bW k u22 0 (fun _ => 0) (fun _ => false) (fun _ => 0) (fun _ => 0) (fun _ => 0) (fun _ => 0)) ++ (bE k u33 0 (fun _ => 0) (fun _ => 0) (fun _ => 0) (fun _ => 0) (fun _ => 0) (fun _ => false))) H := hP9
  have hD : va_D A (([(ot, .inr (5, [.int (if (nI 1) < (if x < (nI 5) then x else (nI 5)) then (if x < (nI 5) then x else (nI 5)) else (nI 1)), .ref (u22 0), .null, .null, .null, .null, .int (bI false), .long 0]))]) ++ (bW k u22 0 (fun _ => 0) (fun _ => false) (fun _ => 0) (fun _ => 0) (fun _ => 0) (fun _ => 0)) ++ (bE k u33 0 (fun _ => 0) (fun _ => 0) (fun _ => 0) (fun _ => 0) (fun _ => 0) (fun _ => false))) := hD9
  have hS := hS9
  refine va_putF (D := D) (ci := 5) (v := .ref (u33 0)) (ty := .object "TrustRows$Results") (C := RX5) (T := TX5) (N := 8) hx hb hts hinW tyX5 tyX5_ok nmX5 hown hK hP hD hS 0 rfl rfl 2 (by decide) (hts _ tw_139) (fun _ h9 => h9) rfl hin rfl (by decide +kernel) rfl rfl (Nat.le_of_ble_eq_true rfl) dX5_init_36 (fun H locs hP hD hS => ?_)
  have hP : va_P D vwCl (([(ot, .inr (5, [.int (if (nI 1) < (if x < (nI 5) then x else (nI 5)) then (if x < (nI 5) then x else (nI 5)) else (nI 1)), .ref (u22 0), .ref (u33 0), .null, .null, .null, .int (bI false), .long 0]))]) ++ (bW k u22 0 (fun _ => 0) (fun _ => false) (fun _ => 0) (fun _ => 0) (fun _ => 0) (fun _ => 0)) ++ (bE k u33 0 (fun _ => 0) (fun _ => 0) (fun _ => 0) (fun _ => 0) (fun _ => 0) (fun _ => false))) H := hP
  have hD : va_D A (([(ot, .inr (5, [.int (if (nI 1) < (if x < (nI 5) then x else (nI 5)) then (if x < (nI 5) then x else (nI 5)) else (nI 1)), .ref (u22 0), .ref (u33 0), .null, .null, .null, .int (bI false), .long 0]))]) ++ (bW k u22 0 (fun _ => 0) (fun _ => false) (fun _ => 0) (fun _ => 0) (fun _ => 0) (fun _ => 0)) ++ (bE k u33 0 (fun _ => 0) (fun _ => 0) (fun _ => 0) (fun _ => 0) (fun _ => 0) (fun _ => false))) := hD
  refine lv_aload_n hx hb dX5_init_39 rfl (lv_at hl 0 rfl) ?_
  refine va_new (ci := 1) (fs := [.null, .null, .null, .int (nI 0)]) (C := RX1) (T := TX1) (N := 4) hx hb hts inX1 tyX1 tyX1_ok hown (hts _ tw_83) (hts _ tw_84) (hts _ tw_5) hK hP hD hS hA rfl (fun j hj => by rcases (show j = 0 ∨ j = 1 ∨ j = 2 ∨ j = 3 by omega) with rfl | rfl | rfl | rfl <;> rfl) (Nat.le_of_ble_eq_true rfl) (Nat.le_of_ble_eq_true rfl) dX5_init_40 (fun q40 H hP hD hS => ?_)
  have hP : va_P D vwCl (([(ot, .inr (5, [.int (if (nI 1) < (if x < (nI 5) then x else (nI 5)) then (if x < (nI 5) then x else (nI 5)) else (nI 1)), .ref (u22 0), .ref (u33 0), .null, .null, .null, .int (bI false), .long 0]))]) ++ (bW k u22 0 (fun _ => 0) (fun _ => false) (fun _ => 0) (fun _ => 0) (fun _ => 0) (fun _ => 0)) ++ (bE k u33 0 (fun _ => 0) (fun _ => 0) (fun _ => 0) (fun _ => 0) (fun _ => 0) (fun _ => false)) ++ ([(q40, .inr (1, [.null, .null, .null, .int (nI 0)]))])) H := hP
  have hD : va_D A (([(ot, .inr (5, [.int (if (nI 1) < (if x < (nI 5) then x else (nI 5)) then (if x < (nI 5) then x else (nI 5)) else (nI 1)), .ref (u22 0), .ref (u33 0), .null, .null, .null, .int (bI false), .long 0]))]) ++ (bW k u22 0 (fun _ => 0) (fun _ => false) (fun _ => 0) (fun _ => 0) (fun _ => 0) (fun _ => 0)) ++ (bE k u33 0 (fun _ => 0) (fun _ => 0) (fun _ => 0) (fun _ => 0) (fun _ => 0) (fun _ => false)) ++ ([(q40, .inr (1, [.null, .null, .null, .int (nI 0)]))])) := hD
  refine W.widen (k := 15) (n := 798) (Nat.le_of_ble_eq_true rfl) (Nat.le_of_ble_eq_true rfl) ?_
  refine lv_dup hx hb dX5_init_43 rfl ?_
  refine xx_callv (([(ot, .inr (5, [.int (if (nI 1) < (if x < (nI 5) then x else (nI 5)) then (if x < (nI 5) then x else (nI 5)) else (nI 1)), .ref (u22 0), .ref (u33 0), .null, .null, .null, .int (bI false), .long 0]))]) ++ (bW k u22 0 (fun _ => 0) (fun _ => false) (fun _ => 0) (fun _ => 0) (fun _ => 0) (fun _ => 0)) ++ (bE k u33 0 (fun _ => 0) (fun _ => 0) (fun _ => 0) (fun _ => 0) (fun _ => 0) (fun _ => false))) [15] [0, 1, 2, 3, 4, 5, 6, 7, 8, 9, 10, 11, 12, 13, 14] (va_runIN (As := []) (rest := [.ref q40, .ref ot]) ⟨hx, hb, hml, hown, hts⟩ (c_C_init l D k q40 H.size) ⟨va_cnB 0 hts (xx_gc tw_87) rfl rfl rfl (hN (RX5, 38, yX1_init, "TrustRows") (by decide +kernel)) (hts _ tw_5) (by decide +kernel) ⟨Nat.le_of_ble_eq_true rfl, Nat.le_of_ble_eq_true rfl⟩, rfl, hts _ tw_86⟩ (xx_preS hK hN hP hD [15] (by decide) rfl) rfl rfl hl.1 rfl (lv_room (Nat.le_of_ble_eq_true rfl)) dX5_init_44 ⟨Nat.le_of_ble_eq_true rfl, Nat.le_of_ble_eq_true rfl⟩) hP hD hS hA rfl rfl (by decide) (by decide) (fun u44 H locs hw44 hP9 hD9 hS9 => ?_)
  obtain rfl := hw44
  have hP : va_P D vwCl (([(ot, .inr (5, [.int (if (nI 1) < (if x < (nI 5) then x else (nI 5)) then (if x < (nI 5) then x else (nI 5)) else (nI 1)), .ref (u22 0), .ref (u33 0), .null, .null, .null, .int (bI false), .long 0]))]) ++ (bW k u22 0 (fun _ => 0) (fun _ => false) (fun _ => 0) (fun _ => 0) (fun _ => 0) (fun _ => 0)) ++ (bE k u33 0 (fun _ => 0) (fun _ => 0) (fun _ => 0) (fun _ => 0) (fun _ => 0) (fun _ => false)) ++ (bC k u44 0 (fun _ => 0) (fun _ => 0) (fun _ => 0))) H := hP9
  have hD : va_D A (([(ot, .inr (5, [.int (if (nI 1) < (if x < (nI 5) then x else (nI 5)) then (if x < (nI 5) then x else (nI 5)) else (nI 1)), .ref (u22 0), .ref (u33 0), .null, .null, .null, .int (bI false), .long 0]))]) ++ (bW k u22 0 (fun _ => 0) (fun _ => false) (fun _ => 0) (fun _ => 0) (fun _ => 0) (fun _ => 0)) ++ (bE k u33 0 (fun _ => 0) (fun _ => 0) (fun _ => 0) (fun _ => 0) (fun _ => 0) (fun _ => false)) ++ (bC k u44 0 (fun _ => 0) (fun _ => 0) (fun _ => 0))) := hD9
  have hS := hS9
  refine va_putF (D := D) (ci := 5) (v := .ref (u44 0)) (ty := .object "TrustRows$Clashes") (C := RX5) (T := TX5) (N := 8) hx hb hts hinW tyX5 tyX5_ok nmX5 hown hK hP hD hS 0 rfl rfl 3 (by decide) (hts _ tw_140) (fun _ h9 => h9) rfl hin rfl (by decide +kernel) rfl rfl (Nat.le_of_ble_eq_true rfl) dX5_init_47 (fun H locs hP hD hS => ?_)
  have hP : va_P D vwCl (([(ot, .inr (5, [.int (if (nI 1) < (if x < (nI 5) then x else (nI 5)) then (if x < (nI 5) then x else (nI 5)) else (nI 1)), .ref (u22 0), .ref (u33 0), .ref (u44 0), .null, .null, .int (bI false), .long 0]))]) ++ (bW k u22 0 (fun _ => 0) (fun _ => false) (fun _ => 0) (fun _ => 0) (fun _ => 0) (fun _ => 0)) ++ (bE k u33 0 (fun _ => 0) (fun _ => 0) (fun _ => 0) (fun _ => 0) (fun _ => 0) (fun _ => false)) ++ (bC k u44 0 (fun _ => 0) (fun _ => 0) (fun _ => 0))) H := hP
  have hD : va_D A (([(ot, .inr (5, [.int (if (nI 1) < (if x < (nI 5) then x else (nI 5)) then (if x < (nI 5) then x else (nI 5)) else (nI 1)), .ref (u22 0), .ref (u33 0), .ref (u44 0), .null, .null, .int (bI false), .long 0]))]) ++ (bW k u22 0 (fun _ => 0) (fun _ => false) (fun _ => 0) (fun _ => 0) (fun _ => 0) (fun _ => 0)) ++ (bE k u33 0 (fun _ => 0) (fun _ => 0) (fun _ => 0) (fun _ => 0) (fun _ => 0) (fun _ => false)) ++ (bC k u44 0 (fun _ => 0) (fun _ => 0) (fun _ => 0))) := hD
  refine lv_aload_n hx hb dX5_init_50 rfl (lv_at hl 0 rfl) ?_
  refine va_new (ci := 3) (fs := [.null, .null, .null, .null, .int (nI 0)]) (C := RX3) (T := TX3) (N := 5) hx hb hts inX3 tyX3 tyX3_ok hown (hts _ tw_102) (hts _ tw_103) (hts _ tw_6) hK hP hD hS hA rfl (fun j hj => by rcases (show j = 0 ∨ j = 1 ∨ j = 2 ∨ j = 3 ∨ j = 4 by omega) with rfl | rfl | rfl | rfl | rfl <;> rfl) (Nat.le_of_ble_eq_true rfl) (Nat.le_of_ble_eq_true rfl) dX5_init_51 (fun q51 H hP hD hS => ?_)
  have hP : va_P D vwCl (([(ot, .inr (5, [.int (if (nI 1) < (if x < (nI 5) then x else (nI 5)) then (if x < (nI 5) then x else (nI 5)) else (nI 1)), .ref (u22 0), .ref (u33 0), .ref (u44 0), .null, .null, .int (bI false), .long 0]))]) ++ (bW k u22 0 (fun _ => 0) (fun _ => false) (fun _ => 0) (fun _ => 0) (fun _ => 0) (fun _ => 0)) ++ (bE k u33 0 (fun _ => 0) (fun _ => 0) (fun _ => 0) (fun _ => 0) (fun _ => 0) (fun _ => false)) ++ (bC k u44 0 (fun _ => 0) (fun _ => 0) (fun _ => 0)) ++ ([(q51, .inr (3, [.null, .null, .null, .null, .int (nI 0)]))])) H := hP
  have hD : va_D A (([(ot, .inr (5, [.int (if (nI 1) < (if x < (nI 5) then x else (nI 5)) then (if x < (nI 5) then x else (nI 5)) else (nI 1)), .ref (u22 0), .ref (u33 0), .ref (u44 0), .null, .null, .int (bI false), .long 0]))]) ++ (bW k u22 0 (fun _ => 0) (fun _ => false) (fun _ => 0) (fun _ => 0) (fun _ => 0) (fun _ => 0)) ++ (bE k u33 0 (fun _ => 0) (fun _ => 0) (fun _ => 0) (fun _ => 0) (fun _ => 0) (fun _ => false)) ++ (bC k u44 0 (fun _ => 0) (fun _ => 0) (fun _ => 0)) ++ ([(q51, .inr (3, [.null, .null, .null, .null, .int (nI 0)]))])) := hD
  refine W.widen (k := 19) (n := 953) (Nat.le_of_ble_eq_true rfl) (Nat.le_of_ble_eq_true rfl) ?_
  refine lv_dup hx hb dX5_init_54 rfl ?_
  refine xx_callv (([(ot, .inr (5, [.int (if (nI 1) < (if x < (nI 5) then x else (nI 5)) then (if x < (nI 5) then x else (nI 5)) else (nI 1)), .ref (u22 0), .ref (u33 0), .ref (u44 0), .null, .null, .int (bI false), .long 0]))]) ++ (bW k u22 0 (fun _ => 0) (fun _ => false) (fun _ => 0) (fun _ => 0) (fun _ => 0) (fun _ => 0)) ++ (bE k u33 0 (fun _ => 0) (fun _ => 0) (fun _ => 0) (fun _ => 0) (fun _ => 0) (fun _ => false)) ++ (bC k u44 0 (fun _ => 0) (fun _ => 0) (fun _ => 0))) [19] [0, 1, 2, 3, 4, 5, 6, 7, 8, 9, 10, 11, 12, 13, 14, 15, 16, 17, 18] (va_runIN (As := []) (rest := [.ref q51, .ref ot]) ⟨hx, hb, hml, hown, hts⟩ (c_U_init l D k q51 H.size) ⟨va_cnB 0 hts (xx_gc tw_106) rfl rfl rfl (hN (RX5, 45, yX3_init, "TrustRows") (by decide +kernel)) (hts _ tw_6) (by decide +kernel) ⟨Nat.le_of_ble_eq_true rfl, Nat.le_of_ble_eq_true rfl⟩, rfl, hts _ tw_105⟩ (xx_preS hK hN hP hD [19] (by decide) rfl) rfl rfl hl.1 rfl (lv_room (Nat.le_of_ble_eq_true rfl)) dX5_init_55 ⟨Nat.le_of_ble_eq_true rfl, Nat.le_of_ble_eq_true rfl⟩) hP hD hS hA rfl rfl (by decide) (by decide) (fun u55 H locs hw55 hP9 hD9 hS9 => ?_)
  obtain rfl := hw55
  have hP : va_P D vwCl (([(ot, .inr (5, [.int (if (nI 1) < (if x < (nI 5) then x else (nI 5)) then (if x < (nI 5) then x else (nI 5)) else (nI 1)), .ref (u22 0), .ref (u33 0), .ref (u44 0), .null, .null, .int (bI false), .long 0]))]) ++ (bW k u22 0 (fun _ => 0) (fun _ => false) (fun _ => 0) (fun _ => 0) (fun _ => 0) (fun _ => 0)) ++ (bE k u33 0 (fun _ => 0) (fun _ => 0) (fun _ => 0) (fun _ => 0) (fun _ => 0) (fun _ => false)) ++ (bC k u44 0 (fun _ => 0) (fun _ => 0) (fun _ => 0)) ++ (bU k u55 0 (fun _ => 0) (fun _ => 0) (fun _ => 0) (fun _ => 0))) H := hP9
  have hD : va_D A (([(ot, .inr (5, [.int (if (nI 1) < (if x < (nI 5) then x else (nI 5)) then (if x < (nI 5) then x else (nI 5)) else (nI 1)), .ref (u22 0), .ref (u33 0), .ref (u44 0), .null, .null, .int (bI false), .long 0]))]) ++ (bW k u22 0 (fun _ => 0) (fun _ => false) (fun _ => 0) (fun _ => 0) (fun _ => 0) (fun _ => 0)) ++ (bE k u33 0 (fun _ => 0) (fun _ => 0) (fun _ => 0) (fun _ => 0) (fun _ => 0) (fun _ => false)) ++ (bC k u44 0 (fun _ => 0) (fun _ => 0) (fun _ => 0)) ++ (bU k u55 0 (fun _ => 0) (fun _ => 0) (fun _ => 0) (fun _ => 0))) := hD9
  have hS := hS9
  refine va_putF (D := D) (ci := 5) (v := .ref (u55 0)) (ty := .object "TrustRows$Rules") (C := RX5) (T := TX5) (N := 8) hx hb hts hinW tyX5 tyX5_ok nmX5 hown hK hP hD hS 0 rfl rfl 4 (by decide) (hts _ tw_141) (fun _ h9 => h9) rfl hin rfl (by decide +kernel) rfl rfl (Nat.le_of_ble_eq_true rfl) dX5_init_58 (fun H locs hP hD hS => ?_)
  have hP : va_P D vwCl (([(ot, .inr (5, [.int (if (nI 1) < (if x < (nI 5) then x else (nI 5)) then (if x < (nI 5) then x else (nI 5)) else (nI 1)), .ref (u22 0), .ref (u33 0), .ref (u44 0), .ref (u55 0), .null, .int (bI false), .long 0]))]) ++ (bW k u22 0 (fun _ => 0) (fun _ => false) (fun _ => 0) (fun _ => 0) (fun _ => 0) (fun _ => 0)) ++ (bE k u33 0 (fun _ => 0) (fun _ => 0) (fun _ => 0) (fun _ => 0) (fun _ => 0) (fun _ => false)) ++ (bC k u44 0 (fun _ => 0) (fun _ => 0) (fun _ => 0)) ++ (bU k u55 0 (fun _ => 0) (fun _ => 0) (fun _ => 0) (fun _ => 0))) H := hP
  have hD : va_D A (([(ot, .inr (5, [.int (if (nI 1) < (if x < (nI 5) then x else (nI 5)) then (if x < (nI 5) then x else (nI 5)) else (nI 1)), .ref (u22 0), .ref (u33 0), .ref (u44 0), .ref (u55 0), .null, .int (bI false), .long 0]))]) ++ (bW k u22 0 (fun _ => 0) (fun _ => false) (fun _ => 0) (fun _ => 0) (fun _ => 0) (fun _ => 0)) ++ (bE k u33 0 (fun _ => 0) (fun _ => 0) (fun _ => 0) (fun _ => 0) (fun _ => 0) (fun _ => false)) ++ (bC k u44 0 (fun _ => 0) (fun _ => 0) (fun _ => 0)) ++ (bU k u55 0 (fun _ => 0) (fun _ => 0) (fun _ => 0) (fun _ => 0))) := hD
  refine lv_aload_n hx hb dX5_init_61 rfl (lv_at hl 0 rfl) ?_
  refine va_new (ci := 0) (fs := [.null, .int (nI 0)]) (C := RX0) (T := TX0) (N := 2) hx hb hts inX0 tyX0 tyX0_ok hown (hts _ tw_124) (hts _ tw_125) (hts _ tw_7) hK hP hD hS hA rfl (fun j hj => by rcases (show j = 0 ∨ j = 1 by omega) with rfl | rfl <;> rfl) (Nat.le_of_ble_eq_true rfl) (Nat.le_of_ble_eq_true rfl) dX5_init_62 (fun q62 H hP hD hS => ?_)
  have hP : va_P D vwCl (([(ot, .inr (5, [.int (if (nI 1) < (if x < (nI 5) then x else (nI 5)) then (if x < (nI 5) then x else (nI 5)) else (nI 1)), .ref (u22 0), .ref (u33 0), .ref (u44 0), .ref (u55 0), .null, .int (bI false), .long 0]))]) ++ (bW k u22 0 (fun _ => 0) (fun _ => false) (fun _ => 0) (fun _ => 0) (fun _ => 0) (fun _ => 0)) ++ (bE k u33 0 (fun _ => 0) (fun _ => 0) (fun _ => 0) (fun _ => 0) (fun _ => 0) (fun _ => false)) ++ (bC k u44 0 (fun _ => 0) (fun _ => 0) (fun _ => 0)) ++ (bU k u55 0 (fun _ => 0) (fun _ => 0) (fun _ => 0) (fun _ => 0)) ++ ([(q62, .inr (0, [.null, .int (nI 0)]))])) H := hP
  have hD : va_D A (([(ot, .inr (5, [.int (if (nI 1) < (if x < (nI 5) then x else (nI 5)) then (if x < (nI 5) then x else (nI 5)) else (nI 1)), .ref (u22 0), .ref (u33 0), .ref (u44 0), .ref (u55 0), .null, .int (bI false), .long 0]))]) ++ (bW k u22 0 (fun _ => 0) (fun _ => false) (fun _ => 0) (fun _ => 0) (fun _ => 0) (fun _ => 0)) ++ (bE k u33 0 (fun _ => 0) (fun _ => 0) (fun _ => 0) (fun _ => 0) (fun _ => 0) (fun _ => false)) ++ (bC k u44 0 (fun _ => 0) (fun _ => 0) (fun _ => 0)) ++ (bU k u55 0 (fun _ => 0) (fun _ => 0) (fun _ => 0) (fun _ => 0)) ++ ([(q62, .inr (0, [.null, .int (nI 0)]))])) := hD
  refine W.widen (k := 24) (n := 1035) (Nat.le_of_ble_eq_true rfl) (Nat.le_of_ble_eq_true rfl) ?_
  refine lv_dup hx hb dX5_init_65 rfl ?_
  refine xx_callv (([(ot, .inr (5, [.int (if (nI 1) < (if x < (nI 5) then x else (nI 5)) then (if x < (nI 5) then x else (nI 5)) else (nI 1)), .ref (u22 0), .ref (u33 0), .ref (u44 0), .ref (u55 0), .null, .int (bI false), .long 0]))]) ++ (bW k u22 0 (fun _ => 0) (fun _ => false) (fun _ => 0) (fun _ => 0) (fun _ => 0) (fun _ => 0)) ++ (bE k u33 0 (fun _ => 0) (fun _ => 0) (fun _ => 0) (fun _ => 0) (fun _ => 0) (fun _ => false)) ++ (bC k u44 0 (fun _ => 0) (fun _ => 0) (fun _ => 0)) ++ (bU k u55 0 (fun _ => 0) (fun _ => 0) (fun _ => 0) (fun _ => 0))) [24] [0, 1, 2, 3, 4, 5, 6, 7, 8, 9, 10, 11, 12, 13, 14, 15, 16, 17, 18, 19, 20, 21, 22, 23] (va_runIN (As := []) (rest := [.ref q62, .ref ot]) ⟨hx, hb, hml, hown, hts⟩ (c_A_init l D k q62 H.size) ⟨va_cnB 0 hts (xx_gc tw_128) rfl rfl rfl (hN (RX5, 52, yX0_init, "TrustRows") (by decide +kernel)) (hts _ tw_7) (by decide +kernel) ⟨Nat.le_of_ble_eq_true rfl, Nat.le_of_ble_eq_true rfl⟩, rfl, hts _ tw_127⟩ (xx_preS hK hN hP hD [24] (by decide) rfl) rfl rfl hl.1 rfl (lv_room (Nat.le_of_ble_eq_true rfl)) dX5_init_66 ⟨Nat.le_of_ble_eq_true rfl, Nat.le_of_ble_eq_true rfl⟩) hP hD hS hA rfl rfl (by decide) (by decide) (fun u66 H locs hw66 hP9 hD9 hS9 => ?_)
  obtain rfl := hw66
  have hP : va_P D vwCl (([(ot, .inr (5, [.int (if (nI 1) < (if x < (nI 5) then x else (nI 5)) then (if x < (nI 5) then x else (nI 5)) else (nI 1)), .ref (u22 0), .ref (u33 0), .ref (u44 0), .ref (u55 0), .null, .int (bI false), .long 0]))]) ++ (bW k u22 0 (fun _ => 0) (fun _ => false) (fun _ => 0) (fun _ => 0) (fun _ => 0) (fun _ => 0)) ++ (bE k u33 0 (fun _ => 0) (fun _ => 0) (fun _ => 0) (fun _ => 0) (fun _ => 0) (fun _ => false)) ++ (bC k u44 0 (fun _ => 0) (fun _ => 0) (fun _ => 0)) ++ (bU k u55 0 (fun _ => 0) (fun _ => 0) (fun _ => 0) (fun _ => 0)) ++ (bA k u66 0 (fun _ => 0))) H := hP9
  have hD : va_D A (([(ot, .inr (5, [.int (if (nI 1) < (if x < (nI 5) then x else (nI 5)) then (if x < (nI 5) then x else (nI 5)) else (nI 1)), .ref (u22 0), .ref (u33 0), .ref (u44 0), .ref (u55 0), .null, .int (bI false), .long 0]))]) ++ (bW k u22 0 (fun _ => 0) (fun _ => false) (fun _ => 0) (fun _ => 0) (fun _ => 0) (fun _ => 0)) ++ (bE k u33 0 (fun _ => 0) (fun _ => 0) (fun _ => 0) (fun _ => 0) (fun _ => 0) (fun _ => false)) ++ (bC k u44 0 (fun _ => 0) (fun _ => 0) (fun _ => 0)) ++ (bU k u55 0 (fun _ => 0) (fun _ => 0) (fun _ => 0) (fun _ => 0)) ++ (bA k u66 0 (fun _ => 0))) := hD9
  have hS := hS9
  refine va_putF (D := D) (ci := 5) (v := .ref (u66 0)) (ty := .object "TrustRows$AuditRows") (C := RX5) (T := TX5) (N := 8) hx hb hts hinW tyX5 tyX5_ok nmX5 hown hK hP hD hS 0 rfl rfl 5 (by decide) (hts _ tw_142) (fun _ h9 => h9) rfl hin rfl (by decide +kernel) rfl rfl (Nat.le_of_ble_eq_true rfl) dX5_init_69 (fun H locs hP hD hS => ?_)
  have hP : va_P D vwCl (([(ot, .inr (5, [.int (if (nI 1) < (if x < (nI 5) then x else (nI 5)) then (if x < (nI 5) then x else (nI 5)) else (nI 1)), .ref (u22 0), .ref (u33 0), .ref (u44 0), .ref (u55 0), .ref (u66 0), .int (bI false), .long 0]))]) ++ (bW k u22 0 (fun _ => 0) (fun _ => false) (fun _ => 0) (fun _ => 0) (fun _ => 0) (fun _ => 0)) ++ (bE k u33 0 (fun _ => 0) (fun _ => 0) (fun _ => 0) (fun _ => 0) (fun _ => 0) (fun _ => false)) ++ (bC k u44 0 (fun _ => 0) (fun _ => 0) (fun _ => 0)) ++ (bU k u55 0 (fun _ => 0) (fun _ => 0) (fun _ => 0) (fun _ => 0)) ++ (bA k u66 0 (fun _ => 0))) H := hP
  have hD : va_D A (([(ot, .inr (5, [.int (if (nI 1) < (if x < (nI 5) then x else (nI 5)) then (if x < (nI 5) then x else (nI 5)) else (nI 1)), .ref (u22 0), .ref (u33 0), .ref (u44 0), .ref (u55 0), .ref (u66 0), .int (bI false), .long 0]))]) ++ (bW k u22 0 (fun _ => 0) (fun _ => false) (fun _ => 0) (fun _ => 0) (fun _ => 0) (fun _ => 0)) ++ (bE k u33 0 (fun _ => 0) (fun _ => 0) (fun _ => 0) (fun _ => 0) (fun _ => 0) (fun _ => false)) ++ (bC k u44 0 (fun _ => 0) (fun _ => 0) (fun _ => 0)) ++ (bU k u55 0 (fun _ => 0) (fun _ => 0) (fun _ => 0) (fun _ => 0)) ++ (bA k u66 0 (fun _ => 0))) := hD
  refine lv_aload_n hx hb dX5_init_72 rfl (lv_at hl 0 rfl) ?_
  refine lv_iconst (v := (nI 0)) hx hb dX5_init_73 (by decide) ?_
  refine va_put (D := D) (ci := 5) (v := .int (nI 0)) (ty := .boolean) (C := RX5) (T := TX5) (N := 8) hx hb hts hinW tyX5 tyX5_ok nmX5 hown hK hP hD hS 0 rfl rfl 6 (by decide) (hts _ tw_143) (fun _ h9 => h9) rfl (by decide +kernel) rfl rfl (Nat.le_of_ble_eq_true rfl) dX5_init_74 (fun H locs hP hD hS => ?_)
  have hP : va_P D vwCl (([(ot, .inr (5, [.int (if (nI 1) < (if x < (nI 5) then x else (nI 5)) then (if x < (nI 5) then x else (nI 5)) else (nI 1)), .ref (u22 0), .ref (u33 0), .ref (u44 0), .ref (u55 0), .ref (u66 0), .int (nI 0), .long 0]))]) ++ (bW k u22 0 (fun _ => 0) (fun _ => false) (fun _ => 0) (fun _ => 0) (fun _ => 0) (fun _ => 0)) ++ (bE k u33 0 (fun _ => 0) (fun _ => 0) (fun _ => 0) (fun _ => 0) (fun _ => 0) (fun _ => false)) ++ (bC k u44 0 (fun _ => 0) (fun _ => 0) (fun _ => 0)) ++ (bU k u55 0 (fun _ => 0) (fun _ => 0) (fun _ => 0) (fun _ => 0)) ++ (bA k u66 0 (fun _ => 0))) H := hP
  have hD : va_D A (([(ot, .inr (5, [.int (if (nI 1) < (if x < (nI 5) then x else (nI 5)) then (if x < (nI 5) then x else (nI 5)) else (nI 1)), .ref (u22 0), .ref (u33 0), .ref (u44 0), .ref (u55 0), .ref (u66 0), .int (nI 0), .long 0]))]) ++ (bW k u22 0 (fun _ => 0) (fun _ => false) (fun _ => 0) (fun _ => 0) (fun _ => 0) (fun _ => 0)) ++ (bE k u33 0 (fun _ => 0) (fun _ => 0) (fun _ => 0) (fun _ => 0) (fun _ => 0) (fun _ => false)) ++ (bC k u44 0 (fun _ => 0) (fun _ => 0) (fun _ => 0)) ++ (bU k u55 0 (fun _ => 0) (fun _ => 0) (fun _ => 0) (fun _ => 0)) ++ (bA k u66 0 (fun _ => 0))) := hD
  refine lv_aload_n hx hb dX5_init_77 rfl (lv_at hl 0 rfl) ?_
  refine lv_lconst (v := 0) hx hb dX5_init_78 (by decide) ?_
  refine va_put (D := D) (ci := 5) (v := .long 0) (ty := .long) (C := RX5) (T := TX5) (N := 8) hx hb hts hinW tyX5 tyX5_ok nmX5 hown hK hP hD hS 0 rfl rfl 7 (by decide) (hts _ tw_144) (fun _ h9 => h9) rfl (by decide +kernel) rfl rfl (Nat.le_of_ble_eq_true rfl) dX5_init_79 (fun H locs hP hD hS => ?_)
  have hP : va_P D vwCl (([(ot, .inr (5, [.int (if (nI 1) < (if x < (nI 5) then x else (nI 5)) then (if x < (nI 5) then x else (nI 5)) else (nI 1)), .ref (u22 0), .ref (u33 0), .ref (u44 0), .ref (u55 0), .ref (u66 0), .int (nI 0), .long 0]))]) ++ (bW k u22 0 (fun _ => 0) (fun _ => false) (fun _ => 0) (fun _ => 0) (fun _ => 0) (fun _ => 0)) ++ (bE k u33 0 (fun _ => 0) (fun _ => 0) (fun _ => 0) (fun _ => 0) (fun _ => 0) (fun _ => false)) ++ (bC k u44 0 (fun _ => 0) (fun _ => 0) (fun _ => 0)) ++ (bU k u55 0 (fun _ => 0) (fun _ => 0) (fun _ => 0) (fun _ => 0)) ++ (bA k u66 0 (fun _ => 0))) H := hP
  have hD : va_D A (([(ot, .inr (5, [.int (if (nI 1) < (if x < (nI 5) then x else (nI 5)) then (if x < (nI 5) then x else (nI 5)) else (nI 1)), .ref (u22 0), .ref (u33 0), .ref (u44 0), .ref (u55 0), .ref (u66 0), .int (nI 0), .long 0]))]) ++ (bW k u22 0 (fun _ => 0) (fun _ => false) (fun _ => 0) (fun _ => 0) (fun _ => 0) (fun _ => 0)) ++ (bE k u33 0 (fun _ => 0) (fun _ => 0) (fun _ => 0) (fun _ => 0) (fun _ => 0) (fun _ => false)) ++ (bC k u44 0 (fun _ => 0) (fun _ => 0) (fun _ => 0)) ++ (bU k u55 0 (fun _ => 0) (fun _ => 0) (fun _ => 0) (fun _ => 0)) ++ (bA k u66 0 (fun _ => 0))) := hD
  refine xx_vret (u22, u33, u44, u55, u66) hx hb hr hlocks hS hK hP hD dX5_init_82 ?_
  exact trivial
def p_T_writer (ot : Nat) (tq : Int32) (ow : Nat → Nat) (oe : Nat → Nat) (oc : Nat → Nat) (ou : Nat → Nat) (oa : Nat → Nat) (to : Bool) (tt : Int64) (wc : Nat) (wl : Nat → Int32) (wb : Nat → Bool) (wk : Nat → Nat) (kk : Nat → Int64) (kf : Nat → Int64) (ku : Nat → Int64) (x : Int32) : Int32 → (Nat × (Nat → Int32)) → Prop := fun r u => p_W_add ow wc wl wb wk kk kf ku x r u
set_option maxHeartbeats 4000000 in
set_option maxRecDepth 100000 in
theorem c_T_writer (l : Launch) (D : va_G) (k : Nat → ClassId) (ot : Nat) (tq : Int32) (ow : Nat → Nat) (oe : Nat → Nat) (oc : Nat → Nat) (ou : Nat → Nat) (oa : Nat → Nat) (to : Bool) (tt : Int64) (wc : Nat) (wl : Nat → Int32) (wb : Nat → Bool) (wk : Nat → Nat) (kk : Nat → Int64) (kf : Nat → Int64) (ku : Nat → Int64) (x : Int32) (hwc : wc ≤ 12) : xx_Ci l yX5_writer (.code yX5_writer cX5_writer 2 (some .int) :: xall) ({ frames := 2, cells := 0, slots := 0, locals := 42 } : Room) D vwCl (xT k) [.ref ot, .int x] ((bT k ot tq ow oe oc ou oa to tt) ++ (bW k ow wc wl wb wk kk kf ku)) (p_T_writer ot tq ow oe oc ou oa to tt wc wl wb wk kk kf ku x) (fun (u : Nat × (Nat → Int32)) => (bT k ot tq ow oe oc ou oa to tt) ++ (bW k ow u.1 u.2 wb wk kk kf ku)) 0 0 := by
  intro sz
  refine xx_met (Qf := fun A => va_Qi (p_T_writer ot tq ow oe oc ou oa to tt wc wl wb wk kk kf ku x) (xx_B D vwCl (xT k) A (fun (u : Nat × (Nat → Int32)) => (bT k ot tq ow oe oc ou oa to tt) ++ (bW k ow u.1 u.2 wb wk kk kf ku))) A) (cc := cX5_writer) (maxL := 2) (ret := (some .int)) (by decide) rfl (Nat.le_of_ble_eq_true rfl) ?_
  intro p e s m below meth c A ls hx hb hr hts hown hlocks hin hml hA hS hP hD hK hN hl
  have hl : lv_has ls 2 [(0, .ref ot), (1, .int x)] := hl
  have hown : s.vm.findClass RX5 = some m.cls := hown
  have hinW := inX5
  refine lv_aload_n hx hb dX5_writer_0 rfl (lv_at hl 0 rfl) ?_
  refine va_get (D := D) (ci := 5) (v := .ref (ow 0)) (C := RX5) (T := TX5) (N := 8) hx hb hts hinW hown hK hP 0 rfl rfl 1 (by decide) (hts _ tw_138) (fun _ h9 => h9) rfl dX5_writer_1 ?_
  refine lv_iload_n hx hb dX5_writer_4 rfl (lv_at hl 1 rfl) ?_
  refine xx_calli (bT k ot tq ow oe oc ou oa to tt) [1, 2, 3, 4, 5, 6, 7] [0] (va_runV (As := [.int x]) (rest := []) ⟨hx, hb, hml, hown, hts⟩ (c_W_add l D k ow wc wl wb wk kk kf ku x (by omega) s.heap.size) (cwV 1 hts (xx_gV tw_166 tw_167 tw_168 tw_3 tw_169) rfl rfl rfl (by decide +kernel) ⟨Nat.le_of_ble_eq_true rfl, Nat.le_of_ble_eq_true rfl⟩) (xx_preV hK hN hP hD [1, 2, 3, 4, 5, 6, 7] (by decide) rfl 4 1 rfl rfl) rfl rfl hl.1 rfl (lv_room (Nat.le_of_ble_eq_true rfl)) dX5_writer_5 ⟨Nat.le_of_ble_eq_true rfl, Nat.le_of_ble_eq_true rfl⟩) hP hD hS hA rfl rfl (by decide) (by decide) (fun r5 u5 H locs hw5 hP hD hS => ?_)
  have hP : va_P D vwCl ((bT k ot tq ow oe oc ou oa to tt) ++ (bW k ow u5.1 u5.2 wb wk kk kf ku)) H := hP
  have hD : va_D A ((bT k ot tq ow oe oc ou oa to tt) ++ (bW k ow u5.1 u5.2 wb wk kk kf ku)) := hD
  refine xx_iret u5 hx hb hr hlocks hS hK hP hD dX5_writer_8 ?_
  exact hw5
def p_T_key (ot : Nat) (tq : Int32) (ow : Nat → Nat) (oe : Nat → Nat) (oc : Nat → Nat) (ou : Nat → Nat) (oa : Nat → Nat) (to : Bool) (tt : Int64) (wc : Nat) (wl : Nat → Int32) (wb : Nat → Bool) (wk : Nat → Nat) (kk : Nat → Int64) (kf : Nat → Int64) (ku : Nat → Int64) (x : Int32) (key : Int64) (f : Int64) (g : Int64) : Int32 → ((Nat → Nat) × (Nat → Int64) × (Nat → Int64) × (Nat → Int64)) → Prop := fun r u => p_W_addKey ow wc wl wb wk kk kf ku x key f g r u
set_option maxHeartbeats 4000000 in
set_option maxRecDepth 100000 in
theorem c_T_key (l : Launch) (D : va_G) (k : Nat → ClassId) (ot : Nat) (tq : Int32) (ow : Nat → Nat) (oe : Nat → Nat) (oc : Nat → Nat) (ou : Nat → Nat) (oa : Nat → Nat) (to : Bool) (tt : Int64) (wc : Nat) (wl : Nat → Int32) (wb : Nat → Bool) (wk : Nat → Nat) (kk : Nat → Int64) (kf : Nat → Int64) (ku : Nat → Int64) (x : Int32) (key : Int64) (f : Int64) (g : Int64) (hwc : wc ≤ 12) (hwk : ∀ i, wk i ≤ 4) : xx_Ci l yX5_key (.code yX5_key cX5_key 8 (some .int) :: xall) ({ frames := 3, cells := 0, slots := 0, locals := 71 } : Room) D vwCl (xT k) [.ref ot, .int x, .long key, .long f, .long g] ((bT k ot tq ow oe oc ou oa to tt) ++ (bW k ow wc wl wb wk kk kf ku)) (p_T_key ot tq ow oe oc ou oa to tt wc wl wb wk kk kf ku x key f g) (fun (u : (Nat → Nat) × (Nat → Int64) × (Nat → Int64) × (Nat → Int64)) => (bT k ot tq ow oe oc ou oa to tt) ++ (bW k ow wc wl wb u.1 u.2.1 u.2.2.1 u.2.2.2)) 0 0 := by
  intro sz
  refine xx_met (Qf := fun A => va_Qi (p_T_key ot tq ow oe oc ou oa to tt wc wl wb wk kk kf ku x key f g) (xx_B D vwCl (xT k) A (fun (u : (Nat → Nat) × (Nat → Int64) × (Nat → Int64) × (Nat → Int64)) => (bT k ot tq ow oe oc ou oa to tt) ++ (bW k ow wc wl wb u.1 u.2.1 u.2.2.1 u.2.2.2))) A) (cc := cX5_key) (maxL := 8) (ret := (some .int)) (by decide) rfl (Nat.le_of_ble_eq_true rfl) ?_
  intro p e s m below meth c A ls hx hb hr hts hown hlocks hin hml hA hS hP hD hK hN hl
  have hl : lv_has ls 8 [(0, .ref ot), (1, .int x), (2, .long key), (4, .long f), (6, .long g)] := hl
  have hown : s.vm.findClass RX5 = some m.cls := hown
  have hinW := inX5
  refine lv_aload_n hx hb dX5_key_0 rfl (lv_at hl 0 rfl) ?_
  refine va_get (D := D) (ci := 5) (v := .ref (ow 0)) (C := RX5) (T := TX5) (N := 8) hx hb hts hinW hown hK hP 0 rfl rfl 1 (by decide) (hts _ tw_138) (fun _ h9 => h9) rfl dX5_key_1 ?_
  refine lv_iload_n hx hb dX5_key_4 rfl (lv_at hl 1 rfl) ?_
  refine lv_lload_n hx hb dX5_key_5 rfl (lv_at hl 2 rfl) ?_
  refine lv_lload hx hb dX5_key_6 (lv_at hl 3 rfl) ?_
  refine lv_lload hx hb dX5_key_8 (lv_at hl 4 rfl) ?_
  refine xx_calli (bT k ot tq ow oe oc ou oa to tt) [1, 2, 3, 4, 5, 6, 7] [0] (va_runV (As := [.int x, .long key, .long f, .long g]) (rest := []) ⟨hx, hb, hml, hown, hts⟩ (c_W_addKey l D k ow wc wl wb wk kk kf ku x key f g hwc hwk s.heap.size) (cwV 4 hts (xx_gV tw_177 tw_178 tw_179 tw_3 tw_180) rfl rfl rfl (by decide +kernel) ⟨Nat.le_of_ble_eq_true rfl, Nat.le_of_ble_eq_true rfl⟩) (xx_preV hK hN hP hD [1, 2, 3, 4, 5, 6, 7] (by decide) rfl 4 1 rfl rfl) rfl rfl hl.1 rfl (lv_room (Nat.le_of_ble_eq_true rfl)) dX5_key_10 ⟨Nat.le_of_ble_eq_true rfl, Nat.le_of_ble_eq_true rfl⟩) hP hD hS hA rfl rfl (by decide) (by decide) (fun r10 u10 H locs hw10 hP hD hS => ?_)
  have hP : va_P D vwCl ((bT k ot tq ow oe oc ou oa to tt) ++ (bW k ow wc wl wb u10.1 u10.2.1 u10.2.2.1 u10.2.2.2)) H := hP
  have hD : va_D A ((bT k ot tq ow oe oc ou oa to tt) ++ (bW k ow wc wl wb u10.1 u10.2.1 u10.2.2.1 u10.2.2.2)) := hD
  refine xx_iret u10 hx hb hr hlocks hS hK hP hD dX5_key_13 ?_
  exact hw10
def p_T_rule (ot : Nat) (tq : Int32) (ow : Nat → Nat) (oe : Nat → Nat) (oc : Nat → Nat) (ou : Nat → Nat) (oa : Nat → Nat) (to : Bool) (tt : Int64) (uc : Nat) (ut : Nat → Int32) (ub : Nat → Int32) (ul : Nat → Int32) (uw : Nat → Int32) (t : Int32) (b : Int32) (lv : Int32) (wt : Int32) : Int32 → (Nat × (Nat → Int32) × (Nat → Int32) × (Nat → Int32) × (Nat → Int32)) → Prop := fun r u => p_U_add ou uc ut ub ul uw t b lv wt r u
set_option maxHeartbeats 4000000 in
set_option maxRecDepth 100000 in
theorem c_T_rule (l : Launch) (D : va_G) (k : Nat → ClassId) (ot : Nat) (tq : Int32) (ow : Nat → Nat) (oe : Nat → Nat) (oc : Nat → Nat) (ou : Nat → Nat) (oa : Nat → Nat) (to : Bool) (tt : Int64) (uc : Nat) (ut : Nat → Int32) (ub : Nat → Int32) (ul : Nat → Int32) (uw : Nat → Int32) (t : Int32) (b : Int32) (lv : Int32) (wt : Int32) (huc : uc ≤ 20) : xx_Ci l yX5_rule (.code yX5_rule cX5_rule 5 (some .int) :: xall) ({ frames := 3, cells := 0, slots := 0, locals := 65 } : Room) D vwCl (xT k) [.ref ot, .int t, .int b, .int lv, .int wt] ((bT k ot tq ow oe oc ou oa to tt) ++ (bU k ou uc ut ub ul uw)) (p_T_rule ot tq ow oe oc ou oa to tt uc ut ub ul uw t b lv wt) (fun (u : Nat × (Nat → Int32) × (Nat → Int32) × (Nat → Int32) × (Nat → Int32)) => (bT k ot tq ow oe oc ou oa to tt) ++ (bU k ou u.1 u.2.1 u.2.2.1 u.2.2.2.1 u.2.2.2.2)) 0 0 := by
  intro sz
  refine xx_met (Qf := fun A => va_Qi (p_T_rule ot tq ow oe oc ou oa to tt uc ut ub ul uw t b lv wt) (xx_B D vwCl (xT k) A (fun (u : Nat × (Nat → Int32) × (Nat → Int32) × (Nat → Int32) × (Nat → Int32)) => (bT k ot tq ow oe oc ou oa to tt) ++ (bU k ou u.1 u.2.1 u.2.2.1 u.2.2.2.1 u.2.2.2.2))) A) (cc := cX5_rule) (maxL := 5) (ret := (some .int)) (by decide) rfl (Nat.le_of_ble_eq_true rfl) ?_
  intro p e s m below meth c A ls hx hb hr hts hown hlocks hin hml hA hS hP hD hK hN hl
  have hl : lv_has ls 5 [(0, .ref ot), (1, .int t), (2, .int b), (3, .int lv), (4, .int wt)] := hl
  have hown : s.vm.findClass RX5 = some m.cls := hown
  have hinW := inX5
  refine lv_aload_n hx hb dX5_rule_0 rfl (lv_at hl 0 rfl) ?_
  refine va_get (D := D) (ci := 5) (v := .ref (ou 0)) (C := RX5) (T := TX5) (N := 8) hx hb hts hinW hown hK hP 0 rfl rfl 4 (by decide) (hts _ tw_141) (fun _ h9 => h9) rfl dX5_rule_1 ?_
  refine lv_iload_n hx hb dX5_rule_4 rfl (lv_at hl 1 rfl) ?_
  refine lv_iload_n hx hb dX5_rule_5 rfl (lv_at hl 2 rfl) ?_
  refine lv_iload_n hx hb dX5_rule_6 rfl (lv_at hl 3 rfl) ?_
  refine lv_iload hx hb dX5_rule_7 (lv_at hl 4 rfl) ?_
  refine xx_calli (bT k ot tq ow oe oc ou oa to tt) [1, 2, 3, 4, 5] [0] (va_runV (As := [.int t, .int b, .int lv, .int wt]) (rest := []) ⟨hx, hb, hml, hown, hts⟩ (c_U_add l D k ou uc ut ub ul uw t b lv wt (by omega) s.heap.size) (cwV 4 hts (xx_gV tw_264 tw_265 tw_266 tw_6 tw_267) rfl rfl rfl (by decide +kernel) ⟨Nat.le_of_ble_eq_true rfl, Nat.le_of_ble_eq_true rfl⟩) (xx_preV hK hN hP hD [1, 2, 3, 4, 5] (by decide) rfl 3 1 rfl rfl) rfl rfl hl.1 rfl (lv_room (Nat.le_of_ble_eq_true rfl)) dX5_rule_9 ⟨Nat.le_of_ble_eq_true rfl, Nat.le_of_ble_eq_true rfl⟩) hP hD hS hA rfl rfl (by decide) (by decide) (fun r9 u9 H locs hw9 hP hD hS => ?_)
  have hP : va_P D vwCl ((bT k ot tq ow oe oc ou oa to tt) ++ (bU k ou u9.1 u9.2.1 u9.2.2.1 u9.2.2.2.1 u9.2.2.2.2)) H := hP
  have hD : va_D A ((bT k ot tq ow oe oc ou oa to tt) ++ (bU k ou u9.1 u9.2.1 u9.2.2.1 u9.2.2.2.1 u9.2.2.2.2)) := hD
  refine xx_iret u9 hx hb hr hlocks hS hK hP hD dX5_rule_12 ?_
  exact hw9
def p_T_clash (ot : Nat) (tq : Int32) (ow : Nat → Nat) (oe : Nat → Nat) (oc : Nat → Nat) (ou : Nat → Nat) (oa : Nat → Nat) (to : Bool) (tt : Int64) (cc : Nat) (ca : Nat → Int64) (cl : Nat → Int32) (ch : Nat → Int32) (x : Int32) (y : Int32) : Int32 → Unit → Prop := fun r u => p_C_at oc cc ca cl ch x y r u
set_option maxHeartbeats 4000000 in
set_option maxRecDepth 100000 in
theorem c_T_clash (l : Launch) (D : va_G) (k : Nat → ClassId) (ot : Nat) (tq : Int32) (ow : Nat → Nat) (oe : Nat → Nat) (oc : Nat → Nat) (ou : Nat → Nat) (oa : Nat → Nat) (to : Bool) (tt : Int64) (cc : Nat) (ca : Nat → Int64) (cl : Nat → Int32) (ch : Nat → Int32) (x : Int32) (y : Int32) (hcc : cc ≤ 50) : xx_Ci l yX5_clash (.code yX5_clash cX5_clash 3 (some .int) :: xall) ({ frames := 1, cells := 0, slots := 0, locals := 22 } : Room) D vwCl (xT k) [.ref ot, .int x, .int y] ((bT k ot tq ow oe oc ou oa to tt) ++ (bC k oc cc ca cl ch)) (p_T_clash ot tq ow oe oc ou oa to tt cc ca cl ch x y) (fun (u : Unit) => (bT k ot tq ow oe oc ou oa to tt) ++ (bC k oc cc ca cl ch)) 0 0 := by
  intro sz
  refine xx_met (Qf := fun A => va_Qi (p_T_clash ot tq ow oe oc ou oa to tt cc ca cl ch x y) (xx_B D vwCl (xT k) A (fun (u : Unit) => (bT k ot tq ow oe oc ou oa to tt) ++ (bC k oc cc ca cl ch))) A) (cc := cX5_clash) (maxL := 3) (ret := (some .int)) (by decide) rfl (Nat.le_of_ble_eq_true rfl) ?_
  intro p e s m below meth c A ls hx hb hr hts hown hlocks hin hml hA hS hP hD hK hN hl
  have hl : lv_has ls 3 [(0, .ref ot), (1, .int x), (2, .int y)] := hl
  have hown : s.vm.findClass RX5 = some m.cls := hown
  have hinW := inX5
  refine lv_aload_n hx hb dX5_clash_0 rfl (lv_at hl 0 rfl) ?_
  refine va_get (D := D) (ci := 5) (v := .ref (oc 0)) (C := RX5) (T := TX5) (N := 8) hx hb hts hinW hown hK hP 0 rfl rfl 3 (by decide) (hts _ tw_140) (fun _ h9 => h9) rfl dX5_clash_1 ?_
  refine lv_iload_n hx hb dX5_clash_4 rfl (lv_at hl 1 rfl) ?_
  refine lv_iload_n hx hb dX5_clash_5 rfl (lv_at hl 2 rfl) ?_
  refine xx_calli (bT k ot tq ow oe oc ou oa to tt) [1, 2, 3, 4] [0] (va_runV (As := [.int x, .int y]) (rest := []) ⟨hx, hb, hml, hown, hts⟩ (c_C_at l D k oc cc ca cl ch x y (by omega) s.heap.size) (cwV 2 hts (xx_gV tw_355 tw_356 tw_357 tw_5 tw_358) rfl rfl rfl (by decide +kernel) ⟨Nat.le_of_ble_eq_true rfl, Nat.le_of_ble_eq_true rfl⟩) (xx_preV hK hN hP hD [1, 2, 3, 4] (by decide) rfl 1 1 rfl rfl) rfl rfl hl.1 rfl (lv_room (Nat.le_of_ble_eq_true rfl)) dX5_clash_6 ⟨Nat.le_of_ble_eq_true rfl, Nat.le_of_ble_eq_true rfl⟩) hP hD hS hA rfl rfl (by decide) (by decide) (fun r6 u6 H locs hw6 hP hD hS => ?_)
  have hP : va_P D vwCl ((bT k ot tq ow oe oc ou oa to tt) ++ (bC k oc cc ca cl ch)) H := hP
  have hD : va_D A ((bT k ot tq ow oe oc ou oa to tt) ++ (bC k oc cc ca cl ch)) := hD
  refine xx_iret u6 hx hb hr hlocks hS hK hP hD dX5_clash_9 ?_
  exact hw6
def p_T_audit (ot : Nat) (tq : Int32) (ow : Nat → Nat) (oe : Nat → Nat) (oc : Nat → Nat) (ou : Nat → Nat) (oa : Nat → Nat) (to : Bool) (tt : Int64) (ac : Nat) (as : Nat → Int32) (x : Int32) (y : Int32) : Int32 → Unit → Prop := fun r u => p_A_at oa ac as x y r u
set_option maxHeartbeats 4000000 in
set_option maxRecDepth 100000 in
theorem c_T_audit (l : Launch) (D : va_G) (k : Nat → ClassId) (ot : Nat) (tq : Int32) (ow : Nat → Nat) (oe : Nat → Nat) (oc : Nat → Nat) (ou : Nat → Nat) (oa : Nat → Nat) (to : Bool) (tt : Int64) (ac : Nat) (as : Nat → Int32) (x : Int32) (y : Int32) (hac : ac ≤ 200) : xx_Ci l yX5_audit (.code yX5_audit cX5_audit 3 (some .int) :: xall) ({ frames := 1, cells := 0, slots := 0, locals := 22 } : Room) D vwCl (xT k) [.ref ot, .int x, .int y] ((bT k ot tq ow oe oc ou oa to tt) ++ (bA k oa ac as)) (p_T_audit ot tq ow oe oc ou oa to tt ac as x y) (fun (u : Unit) => (bT k ot tq ow oe oc ou oa to tt) ++ (bA k oa ac as)) 0 0 := by
  intro sz
  refine xx_met (Qf := fun A => va_Qi (p_T_audit ot tq ow oe oc ou oa to tt ac as x y) (xx_B D vwCl (xT k) A (fun (u : Unit) => (bT k ot tq ow oe oc ou oa to tt) ++ (bA k oa ac as))) A) (cc := cX5_audit) (maxL := 3) (ret := (some .int)) (by decide) rfl (Nat.le_of_ble_eq_true rfl) ?_
  intro p e s m below meth c A ls hx hb hr hts hown hlocks hin hml hA hS hP hD hK hN hl
  have hl : lv_has ls 3 [(0, .ref ot), (1, .int x), (2, .int y)] := hl
  have hown : s.vm.findClass RX5 = some m.cls := hown
  have hinW := inX5
  refine lv_aload_n hx hb dX5_audit_0 rfl (lv_at hl 0 rfl) ?_
  refine va_get (D := D) (ci := 5) (v := .ref (oa 0)) (C := RX5) (T := TX5) (N := 8) hx hb hts hinW hown hK hP 0 rfl rfl 5 (by decide) (hts _ tw_142) (fun _ h9 => h9) rfl dX5_audit_1 ?_
  refine lv_iload_n hx hb dX5_audit_4 rfl (lv_at hl 1 rfl) ?_
  refine lv_iload_n hx hb dX5_audit_5 rfl (lv_at hl 2 rfl) ?_
  refine xx_calli (bT k ot tq ow oe oc ou oa to tt) [1, 2] [0] (va_runV (As := [.int x, .int y]) (rest := []) ⟨hx, hb, hml, hown, hts⟩ (c_A_at l D k oa ac as x y (by omega) s.heap.size) (cwV 2 hts (xx_gV tw_363 tw_364 tw_365 tw_7 tw_366) rfl rfl rfl (by decide +kernel) ⟨Nat.le_of_ble_eq_true rfl, Nat.le_of_ble_eq_true rfl⟩) (xx_preV hK hN hP hD [1, 2] (by decide) rfl 0 1 rfl rfl) rfl rfl hl.1 rfl (lv_room (Nat.le_of_ble_eq_true rfl)) dX5_audit_6 ⟨Nat.le_of_ble_eq_true rfl, Nat.le_of_ble_eq_true rfl⟩) hP hD hS hA rfl rfl (by decide) (by decide) (fun r6 u6 H locs hw6 hP hD hS => ?_)
  have hP : va_P D vwCl ((bT k ot tq ow oe oc ou oa to tt) ++ (bA k oa ac as)) H := hP
  have hD : va_D A ((bT k ot tq ow oe oc ou oa to tt) ++ (bA k oa ac as)) := hD
  refine xx_iret u6 hx hb hr hlocks hS hK hP hD dX5_audit_9 ?_
  exact hw6
def p_T_sum (ot : Nat) (tq : Int32) (ow : Nat → Nat) (oe : Nat → Nat) (oc : Nat → Nat) (ou : Nat → Nat) (oa : Nat → Nat) (to : Bool) (tt : Int64) (x : Int64) (a : Int64) (d : Int64) : Int64 → Unit → Prop := fun r u => r = xs_sum x a d
set_option maxHeartbeats 4000000 in
set_option maxRecDepth 100000 in
theorem c_T_sum (l : Launch) (D : va_G) (k : Nat → ClassId) (ot : Nat) (tq : Int32) (ow : Nat → Nat) (oe : Nat → Nat) (oc : Nat → Nat) (ou : Nat → Nat) (oa : Nat → Nat) (to : Bool) (tt : Int64) (x : Int64) (a : Int64) (d : Int64) : xx_Cl l yX5_sum (.code yX5_sum cX5_sum 7 (some .long) :: xall) ({ frames := 2, cells := 0, slots := 0, locals := 51 } : Room) D vwCl (xT k) [.ref ot, .long x, .long a, .long d] (bT k ot tq ow oe oc ou oa to tt) (p_T_sum ot tq ow oe oc ou oa to tt x a d) (fun (u : Unit) => bT k ot tq ow oe oc ou oa to tt) 0 0 := by
  intro sz
  refine xx_met (Qf := fun A => va_Ql (p_T_sum ot tq ow oe oc ou oa to tt x a d) (xx_B D vwCl (xT k) A (fun (u : Unit) => bT k ot tq ow oe oc ou oa to tt)) A) (cc := cX5_sum) (maxL := 7) (ret := (some .long)) (by decide) rfl (Nat.le_of_ble_eq_true rfl) ?_
  intro p e s m below meth c A ls hx hb hr hts hown hlocks hin hml hA hS hP hD hK hN hl
  have hl : lv_has ls 7 [(0, .ref ot), (1, .long x), (3, .long a), (5, .long d)] := hl
  have hown : s.vm.findClass RX5 = some m.cls := hown
  refine lv_lload_n hx hb dX5_sum_0 rfl (lv_at hl 1 rfl) ?_
  refine lv_lload_n hx hb dX5_sum_1 rfl (lv_at hl 2 rfl) ?_
  refine lv_lload hx hb dX5_sum_2 (lv_at hl 3 rfl) ?_
  refine xx_calll (bT k ot tq ow oe oc ou oa to tt) [] [0] (va_runS (As := [.long x, .long a, .long d]) (rest := []) ⟨hx, hb, hml, hown, hts⟩ (c_sumUnder l D k x a d s.heap.size) (va_cwS 3 hts (xx_gS tw_193 tw_194 tw_1 tw_195) rfl rfl rfl (by decide +kernel) ⟨Nat.le_of_ble_eq_true rfl, Nat.le_of_ble_eq_true rfl⟩) (xx_preS hK hN hP hD [] (by decide) rfl) rfl rfl hl.1 rfl (lv_room (Nat.le_of_ble_eq_true rfl)) dX5_sum_4 ⟨Nat.le_of_ble_eq_true rfl, Nat.le_of_ble_eq_true rfl⟩) hP hD hS hA rfl rfl (by decide) (by decide) (fun r4 u4 H locs hw4 hP hD hS => ?_)
  obtain rfl := hw4
  have hP : va_P D vwCl (bT k ot tq ow oe oc ou oa to tt) H := hP
  have hD : va_D A (bT k ot tq ow oe oc ou oa to tt) := hD
  refine xx_lret () hx hb hr hlocks hS hK hP hD dX5_sum_7 ?_
  exact rfl
def p_T_stands (ot : Nat) (tq : Int32) (ow : Nat → Nat) (oe : Nat → Nat) (oc : Nat → Nat) (ou : Nat → Nat) (oa : Nat → Nat) (to : Bool) (tt : Int64) (ec : Nat) (ew : Nat → Nat) (el : Nat → Int32) (ea : Nat → Int64) (ed : Nat → Int64) (et : Nat → Int64) (ex : Nat → Bool) (x : Int32) : Int32 → Unit → Prop := fun r u => xb r (∃ j, j < ec ∧ x = nI j ∧ ex j = false)
set_option maxHeartbeats 4000000 in
set_option maxRecDepth 100000 in
theorem c_T_stands (l : Launch) (D : va_G) (k : Nat → ClassId) (ot : Nat) (tq : Int32) (ow : Nat → Nat) (oe : Nat → Nat) (oc : Nat → Nat) (ou : Nat → Nat) (oa : Nat → Nat) (to : Bool) (tt : Int64) (ec : Nat) (ew : Nat → Nat) (el : Nat → Int32) (ea : Nat → Int64) (ed : Nat → Int64) (et : Nat → Int64) (ex : Nat → Bool) (x : Int32) (hec : ec ≤ 100) : xx_Ci l yX5_stands (.code yX5_stands cX5_stands 2 (some .boolean) :: xall) ({ frames := 1, cells := 0, slots := 0, locals := 21 } : Room) D vwCl (xT k) [.ref ot, .int x] ((bT k ot tq ow oe oc ou oa to tt) ++ (bE k oe ec ew el ea ed et ex)) (p_T_stands ot tq ow oe oc ou oa to tt ec ew el ea ed et ex x) (fun (u : Unit) => (bT k ot tq ow oe oc ou oa to tt) ++ (bE k oe ec ew el ea ed et ex)) 0 0 := by
  intro sz
  refine xx_met (Qf := fun A => va_Qi (p_T_stands ot tq ow oe oc ou oa to tt ec ew el ea ed et ex x) (xx_B D vwCl (xT k) A (fun (u : Unit) => (bT k ot tq ow oe oc ou oa to tt) ++ (bE k oe ec ew el ea ed et ex))) A) (cc := cX5_stands) (maxL := 2) (ret := (some .boolean)) (by decide) rfl (Nat.le_of_ble_eq_true rfl) ?_
  intro p e s m below meth c A ls hx hb hr hts hown hlocks hin hml hA hS hP hD hK hN hl
  have hl : lv_has ls 2 [(0, .ref ot), (1, .int x)] := hl
  have hown : s.vm.findClass RX5 = some m.cls := hown
  have hinW := inX5
  refine lv_aload_n hx hb dX5_stands_0 rfl (lv_at hl 0 rfl) ?_
  refine va_get (D := D) (ci := 5) (v := .ref (oe 0)) (C := RX5) (T := TX5) (N := 8) hx hb hts hinW hown hK hP 0 rfl rfl 2 (by decide) (hts _ tw_139) (fun _ h9 => h9) rfl dX5_stands_1 ?_
  refine lv_iload_n hx hb dX5_stands_4 rfl (lv_at hl 1 rfl) ?_
  refine xx_calli (bT k ot tq ow oe oc ou oa to tt) [1, 2, 3, 4, 5, 6, 7] [0] (va_runV (As := [.int x]) (rest := []) ⟨hx, hb, hml, hown, hts⟩ (c_E_stand l D k oe ec ew el ea ed et ex x (by omega) s.heap.size) (cwV 1 hts (xx_gV tw_247 tw_236 tw_237 tw_4 tw_238) rfl rfl rfl (by decide +kernel) ⟨Nat.le_of_ble_eq_true rfl, Nat.le_of_ble_eq_true rfl⟩) (xx_preV hK hN hP hD [1, 2, 3, 4, 5, 6, 7] (by decide) rfl 2 1 rfl rfl) rfl rfl hl.1 rfl (lv_room (Nat.le_of_ble_eq_true rfl)) dX5_stands_5 ⟨Nat.le_of_ble_eq_true rfl, Nat.le_of_ble_eq_true rfl⟩) hP hD hS hA rfl rfl (by decide) (by decide) (fun r5 u5 H locs hw5 hP hD hS => ?_)
  rcases hw5 with ⟨rfl, j5, hj5, hx5, hb5⟩ | ⟨rfl, hq5⟩
  · subst hx5
    have hP : va_P D vwCl ((bT k ot tq ow oe oc ou oa to tt) ++ (bE k oe ec ew el ea ed et ex)) H := hP
    have hD : va_D A ((bT k ot tq ow oe oc ou oa to tt) ++ (bE k oe ec ew el ea ed et ex)) := hD
    refine xx_zret () hx hb hr hlocks rfl hS hK hP hD dX5_stands_8 ?_
    first | exact xb_t ⟨j5, hj5, rfl, hb5⟩ | exact xb_f hq5
  · have hP : va_P D vwCl ((bT k ot tq ow oe oc ou oa to tt) ++ (bE k oe ec ew el ea ed et ex)) H := hP
    have hD : va_D A ((bT k ot tq ow oe oc ou oa to tt) ++ (bE k oe ec ew el ea ed et ex)) := hD
    refine xx_zret () hx hb hr hlocks rfl hS hK hP hD dX5_stands_8 ?_
    first | exact xb_t ⟨j5, hj5, rfl, hb5⟩ | exact xb_f hq5
def p_T_own (ot : Nat) (tq : Int32) (ow : Nat → Nat) (oe : Nat → Nat) (oc : Nat → Nat) (ou : Nat → Nat) (oa : Nat → Nat) (to : Bool) (tt : Int64) (bb : Bool) : Unit → Prop := fun u => True
set_option maxHeartbeats 4000000 in
set_option maxRecDepth 100000 in
theorem c_T_own (l : Launch) (D : va_G) (k : Nat → ClassId) (ot : Nat) (tq : Int32) (ow : Nat → Nat) (oe : Nat → Nat) (oc : Nat → Nat) (ou : Nat → Nat) (oa : Nat → Nat) (to : Bool) (tt : Int64) (bb : Bool) : xx_Cv l yX5_own (.code yX5_own cX5_own 2 none :: xall) ({ frames := 0, cells := 0, slots := 0, locals := 0 } : Room) D vwCl (xT k) [.ref ot, .int (bI bb)] (bT k ot tq ow oe oc ou oa to tt) (p_T_own ot tq ow oe oc ou oa to tt bb) (fun (u : Unit) => bT k ot tq ow oe oc ou oa bb tt) 0 0 := by
  intro sz
  refine xx_met (Qf := fun A => va_Qv (p_T_own ot tq ow oe oc ou oa to tt bb) (xx_B D vwCl (xT k) A (fun (u : Unit) => bT k ot tq ow oe oc ou oa bb tt)) A) (cc := cX5_own) (maxL := 2) (ret := none) (by decide) rfl (Nat.le_of_ble_eq_true rfl) ?_
  intro p e s m below meth c A ls hx hb hr hts hown hlocks hin hml hA hS hP hD hK hN hl
  have hl : lv_has ls 2 [(0, .ref ot), (1, .int (bI bb))] := hl
  have hown : s.vm.findClass RX5 = some m.cls := hown
  have hinW := inX5
  refine lv_aload_n hx hb dX5_own_0 rfl (lv_at hl 0 rfl) ?_
  refine lv_iload_n hx hb dX5_own_1 rfl (lv_at hl 1 rfl) ?_
  refine va_put (D := D) (ci := 5) (v := .int (bI bb)) (ty := .boolean) (C := RX5) (T := TX5) (N := 8) hx hb hts hinW tyX5 tyX5_ok nmX5 hown hK hP hD hS 0 rfl rfl 6 (by decide) (hts _ tw_143) (fun _ h9 => h9) rfl (by decide +kernel) (bI_nar _) (bI_fit _) (Nat.le_of_ble_eq_true rfl) dX5_own_2 (fun H locs hP hD hS => ?_)
  have hP : va_P D vwCl (bT k ot tq ow oe oc ou oa bb tt) H := hP
  have hD : va_D A (bT k ot tq ow oe oc ou oa bb tt) := hD
  refine xx_vret () hx hb hr hlocks hS hK hP hD dX5_own_5 ?_
  exact trivial
def p_T_taken (ot : Nat) (tq : Int32) (ow : Nat → Nat) (oe : Nat → Nat) (oc : Nat → Nat) (ou : Nat → Nat) (oa : Nat → Nat) (to : Bool) (tt : Int64) : Int64 → Unit → Prop := fun r u => r = tt
set_option maxHeartbeats 4000000 in
set_option maxRecDepth 100000 in
theorem c_T_taken (l : Launch) (D : va_G) (k : Nat → ClassId) (ot : Nat) (tq : Int32) (ow : Nat → Nat) (oe : Nat → Nat) (oc : Nat → Nat) (ou : Nat → Nat) (oa : Nat → Nat) (to : Bool) (tt : Int64) : xx_Cl l yX5_taken (.code yX5_taken cX5_taken 1 (some .long) :: xall) ({ frames := 0, cells := 0, slots := 0, locals := 0 } : Room) D vwCl (xT k) [.ref ot] (bT k ot tq ow oe oc ou oa to tt) (p_T_taken ot tq ow oe oc ou oa to tt) (fun (u : Unit) => bT k ot tq ow oe oc ou oa to tt) 0 0 := by
  intro sz
  refine xx_met (Qf := fun A => va_Ql (p_T_taken ot tq ow oe oc ou oa to tt) (xx_B D vwCl (xT k) A (fun (u : Unit) => bT k ot tq ow oe oc ou oa to tt)) A) (cc := cX5_taken) (maxL := 1) (ret := (some .long)) (by decide) rfl (Nat.le_of_ble_eq_true rfl) ?_
  intro p e s m below meth c A ls hx hb hr hts hown hlocks hin hml hA hS hP hD hK hN hl
  have hl : lv_has ls 1 [(0, .ref ot)] := hl
  have hown : s.vm.findClass RX5 = some m.cls := hown
  have hinW := inX5
  refine lv_aload_n hx hb dX5_taken_0 rfl (lv_at hl 0 rfl) ?_
  refine va_get (D := D) (ci := 5) (v := .long tt) (C := RX5) (T := TX5) (N := 8) hx hb hts hinW hown hK hP 0 rfl rfl 7 (by decide) (hts _ tw_144) (fun _ h9 => h9) rfl dX5_taken_1 ?_
  refine xx_lret () hx hb hr hlocks hS hK hP hD dX5_taken_4 ?_
  exact rfl
def p_T_ruleFor (ot : Nat) (tq : Int32) (ow : Nat → Nat) (oe : Nat → Nat) (oc : Nat → Nat) (ou : Nat → Nat) (oa : Nat → Nat) (to : Bool) (tt : Int64) (uc : Nat) (ut : Nat → Int32) (ub : Nat → Int32) (ul : Nat → Int32) (uw : Nat → Int32) (t : Int32) (b : Int32) : Int32 → Unit → Prop := fun r u => (r = (-1) ∧ ¬ (ixN 8 t ∧ ixN 8 b)) ∨ ((ixN 8 t ∧ ixN 8 b) ∧ p_U_best ou uc ut ub ul uw t b r ())
set_option maxHeartbeats 4000000 in
set_option maxRecDepth 100000 in
theorem c_T_ruleFor (l : Launch) (D : va_G) (k : Nat → ClassId) (ot : Nat) (tq : Int32) (ow : Nat → Nat) (oe : Nat → Nat) (oc : Nat → Nat) (ou : Nat → Nat) (oa : Nat → Nat) (to : Bool) (tt : Int64) (uc : Nat) (ut : Nat → Int32) (ub : Nat → Int32) (ul : Nat → Int32) (uw : Nat → Int32) (t : Int32) (b : Int32) (huc : uc ≤ 20) : xx_Ci l yX5_ruleFor (.code yX5_ruleFor cX5_ruleFor 3 (some .int) :: xall) ({ frames := 3, cells := 0, slots := 0, locals := 74 } : Room) D vwCl (xT k) [.ref ot, .int t, .int b] ((bT k ot tq ow oe oc ou oa to tt) ++ (bU k ou uc ut ub ul uw)) (p_T_ruleFor ot tq ow oe oc ou oa to tt uc ut ub ul uw t b) (fun (u : Unit) => (bT k ot tq ow oe oc ou oa to tt) ++ (bU k ou uc ut ub ul uw)) 0 0 := by
  intro sz
  refine xx_met (Qf := fun A => va_Qi (p_T_ruleFor ot tq ow oe oc ou oa to tt uc ut ub ul uw t b) (xx_B D vwCl (xT k) A (fun (u : Unit) => (bT k ot tq ow oe oc ou oa to tt) ++ (bU k ou uc ut ub ul uw))) A) (cc := cX5_ruleFor) (maxL := 3) (ret := (some .int)) (by decide) rfl (Nat.le_of_ble_eq_true rfl) ?_
  intro p e s m below meth c A ls hx hb hr hts hown hlocks hin hml hA hS hP hD hK hN hl
  have hl : lv_has ls 3 [(0, .ref ot), (1, .int t), (2, .int b)] := hl
  have hown : s.vm.findClass RX5 = some m.cls := hown
  have hinW := inX5
  refine lv_iload_n hx hb dX5_ruleFor_0 rfl (lv_at hl 1 rfl) ?_
  refine xx_calli ((bT k ot tq ow oe oc ou oa to tt) ++ (bU k ou uc ut ub ul uw)) [] [0, 1, 2, 3, 4, 5] (va_runS (As := [.int t]) (rest := []) ⟨hx, hb, hml, hown, hts⟩ (c_isPlace l D k t s.heap.size) (va_cwS 1 hts (xx_gS tw_271 tw_272 tw_1 tw_273) rfl rfl rfl (by decide +kernel) ⟨Nat.le_of_ble_eq_true rfl, Nat.le_of_ble_eq_true rfl⟩) (xx_preS hK hN hP hD [] (by decide) rfl) rfl rfl hl.1 rfl (lv_room (Nat.le_of_ble_eq_true rfl)) dX5_ruleFor_1 ⟨Nat.le_of_ble_eq_true rfl, Nat.le_of_ble_eq_true rfl⟩) hP hD hS hA rfl rfl (by decide) (by decide) (fun r1 u1 H locs hw1 hP hD hS => ?_)
  rcases hw1 with ⟨rfl, hq1⟩ | ⟨rfl, hq1⟩
  · have hP : va_P D vwCl ((bT k ot tq ow oe oc ou oa to tt) ++ (bU k ou uc ut ub ul uw)) H := hP
    have hD : va_D A ((bT k ot tq ow oe oc ou oa to tt) ++ (bU k ou uc ut ub ul uw)) := hD
    refine lv_if_eq (tgt := 14) hx hb dX5_ruleFor_4 (by decide) (fun c => absurd c (by decide)) (fun _ => ?_)
    refine lv_iload_n hx hb dX5_ruleFor_7 rfl (lv_at hl 2 rfl) ?_
    refine xx_calli ((bT k ot tq ow oe oc ou oa to tt) ++ (bU k ou uc ut ub ul uw)) [] [0, 1, 2, 3, 4, 5] (va_runS (As := [.int b]) (rest := []) ⟨hx, hb, hml, hown, hts⟩ (c_isPlace l D k b H.size) (va_cwS 1 hts (xx_gS tw_271 tw_272 tw_1 tw_273) rfl rfl rfl (by decide +kernel) ⟨Nat.le_of_ble_eq_true rfl, Nat.le_of_ble_eq_true rfl⟩) (xx_preS hK hN hP hD [] (by decide) rfl) rfl rfl hl.1 rfl (lv_room (Nat.le_of_ble_eq_true rfl)) dX5_ruleFor_8 ⟨Nat.le_of_ble_eq_true rfl, Nat.le_of_ble_eq_true rfl⟩) hP hD hS hA rfl rfl (by decide) (by decide) (fun r8 u8 H locs hw8 hP hD hS => ?_)
    rcases hw8 with ⟨rfl, hq8⟩ | ⟨rfl, hq8⟩
    · have hP : va_P D vwCl ((bT k ot tq ow oe oc ou oa to tt) ++ (bU k ou uc ut ub ul uw)) H := hP
      have hD : va_D A ((bT k ot tq ow oe oc ou oa to tt) ++ (bU k ou uc ut ub ul uw)) := hD
      refine lv_if_ne (tgt := 16) hx hb dX5_ruleFor_11 (by decide) (fun _ => ?_) (fun c => absurd c (by decide))
      refine lv_aload_n hx hb dX5_ruleFor_16 rfl (lv_at hl 0 rfl) ?_
      refine va_get (D := D) (ci := 5) (v := .ref (ou 0)) (C := RX5) (T := TX5) (N := 8) hx hb hts hinW hown hK hP 0 rfl rfl 4 (by decide) (hts _ tw_141) (fun _ h9 => h9) rfl dX5_ruleFor_17 ?_
      refine lv_iload_n hx hb dX5_ruleFor_20 rfl (lv_at hl 1 rfl) ?_
      refine lv_iload_n hx hb dX5_ruleFor_21 rfl (lv_at hl 2 rfl) ?_
      refine xx_calli (bT k ot tq ow oe oc ou oa to tt) [1, 2, 3, 4, 5] [0] (va_runV (As := [.int t, .int b]) (rest := []) ⟨hx, hb, hml, hown, hts⟩ (c_U_best l D k ou uc ut ub ul uw t b (by omega) H.size) (cwV 2 hts (xx_gV tw_279 tw_280 tw_281 tw_6 tw_282) rfl rfl rfl (by decide +kernel) ⟨Nat.le_of_ble_eq_true rfl, Nat.le_of_ble_eq_true rfl⟩) (xx_preV hK hN hP hD [1, 2, 3, 4, 5] (by decide) rfl 3 1 rfl rfl) rfl rfl hl.1 rfl (lv_room (Nat.le_of_ble_eq_true rfl)) dX5_ruleFor_22 ⟨Nat.le_of_ble_eq_true rfl, Nat.le_of_ble_eq_true rfl⟩) hP hD hS hA rfl rfl (by decide) (by decide) (fun r22 u22 H locs hw22 hP hD hS => ?_)
      have hP : va_P D vwCl ((bT k ot tq ow oe oc ou oa to tt) ++ (bU k ou uc ut ub ul uw)) H := hP
      have hD : va_D A ((bT k ot tq ow oe oc ou oa to tt) ++ (bU k ou uc ut ub ul uw)) := hD
      refine xx_iret () hx hb hr hlocks hS hK hP hD dX5_ruleFor_25 ?_
      exact Or.inr ⟨⟨hq1, hq8⟩, hw22⟩
    · have hP : va_P D vwCl ((bT k ot tq ow oe oc ou oa to tt) ++ (bU k ou uc ut ub ul uw)) H := hP
      have hD : va_D A ((bT k ot tq ow oe oc ou oa to tt) ++ (bU k ou uc ut ub ul uw)) := hD
      refine lv_if_ne (tgt := 16) hx hb dX5_ruleFor_11 (by decide) (fun c => absurd c (by decide)) (fun _ => ?_)
      refine lv_iconst (v := (-1)) hx hb dX5_ruleFor_14 (by decide) ?_
      refine xx_iret () hx hb hr hlocks hS hK hP hD dX5_ruleFor_15 ?_
      first | exact Or.inl ⟨rfl, fun h => hq1 h.1⟩ | exact Or.inl ⟨rfl, fun h => hq8 h.2⟩
  · have hP : va_P D vwCl ((bT k ot tq ow oe oc ou oa to tt) ++ (bU k ou uc ut ub ul uw)) H := hP
    have hD : va_D A ((bT k ot tq ow oe oc ou oa to tt) ++ (bU k ou uc ut ub ul uw)) := hD
    refine lv_if_eq (tgt := 14) hx hb dX5_ruleFor_4 (by decide) (fun _ => ?_) (fun c => absurd c (by decide))
    refine lv_iconst (v := (-1)) hx hb dX5_ruleFor_14 (by decide) ?_
    refine xx_iret () hx hb hr hlocks hS hK hP hD dX5_ruleFor_15 ?_
    first | exact Or.inl ⟨rfl, fun h => hq1 h.1⟩ | exact Or.inl ⟨rfl, fun h => hq8 h.2⟩
def p_T_bar (ot : Nat) (tq : Int32) (ow : Nat → Nat) (oe : Nat → Nat) (oc : Nat → Nat) (ou : Nat → Nat) (oa : Nat → Nat) (to : Bool) (tt : Int64) (wc : Nat) (wl : Nat → Int32) (wb : Nat → Bool) (wk : Nat → Nat) (kk : Nat → Int64) (kf : Nat → Int64) (ku : Nat → Int64) (ec : Nat) (ew : Nat → Nat) (el : Nat → Int32) (ea : Nat → Int64) (ed : Nat → Int64) (et : Nat → Int64) (ex : Nat → Bool) (x : Int32) : Int32 → ((Nat → Bool) × (Nat → Bool)) → Prop := fun r u => (r = (-1) ∧ (¬ ∃ j, j < wc ∧ x = nI j ∧ wb j = false) ∧ u = (wb, ex)) ∨ (∃ j, j < wc ∧ x = nI j ∧ wb j = false ∧ r = nI (xcnt (fun i => decide (ew i = j) && !ex i) ec) ∧ u = (xu_B wb j true, xd_drop ew ex j ec))
set_option maxHeartbeats 4000000 in
set_option maxRecDepth 100000 in
theorem c_T_bar (l : Launch) (D : va_G) (k : Nat → ClassId) (ot : Nat) (tq : Int32) (ow : Nat → Nat) (oe : Nat → Nat) (oc : Nat → Nat) (ou : Nat → Nat) (oa : Nat → Nat) (to : Bool) (tt : Int64) (wc : Nat) (wl : Nat → Int32) (wb : Nat → Bool) (wk : Nat → Nat) (kk : Nat → Int64) (kf : Nat → Int64) (ku : Nat → Int64) (ec : Nat) (ew : Nat → Nat) (el : Nat → Int32) (ea : Nat → Int64) (ed : Nat → Int64) (et : Nat → Int64) (ex : Nat → Bool) (x : Int32) (hwc : wc ≤ 12) (hec : ec ≤ 100) (hew : ∀ i, ew i < 12) : xx_Ci l yX5_bar (.code yX5_bar cX5_bar 2 (some .int) :: xall) ({ frames := 2, cells := 0, slots := 0, locals := 42 } : Room) D vwCl (xT k) [.ref ot, .int x] ((bT k ot tq ow oe oc ou oa to tt) ++ (bW k ow wc wl wb wk kk kf ku) ++ (bE k oe ec ew el ea ed et ex)) (p_T_bar ot tq ow oe oc ou oa to tt wc wl wb wk kk kf ku ec ew el ea ed et ex x) (fun (u : (Nat → Bool) × (Nat → Bool)) => (bT k ot tq ow oe oc ou oa to tt) ++ (bW k ow wc wl u.1 wk kk kf ku) ++ (bE k oe ec ew el ea ed et u.2)) 0 0 := by
  intro sz
  refine xx_met (Qf := fun A => va_Qi (p_T_bar ot tq ow oe oc ou oa to tt wc wl wb wk kk kf ku ec ew el ea ed et ex x) (xx_B D vwCl (xT k) A (fun (u : (Nat → Bool) × (Nat → Bool)) => (bT k ot tq ow oe oc ou oa to tt) ++ (bW k ow wc wl u.1 wk kk kf ku) ++ (bE k oe ec ew el ea ed et u.2))) A) (cc := cX5_bar) (maxL := 2) (ret := (some .int)) (by decide) rfl (Nat.le_of_ble_eq_true rfl) ?_
  intro p e s m below meth c A ls hx hb hr hts hown hlocks hin hml hA hS hP hD hK hN hl
  have hl : lv_has ls 2 [(0, .ref ot), (1, .int x)] := hl
  have hown : s.vm.findClass RX5 = some m.cls := hown
  have hinW := inX5
  refine lv_aload_n hx hb dX5_bar_0 rfl (lv_at hl 0 rfl) ?_
  refine va_get (D := D) (ci := 5) (v := .ref (ow 0)) (C := RX5) (T := TX5) (N := 8) hx hb hts hinW hown hK hP 0 rfl rfl 1 (by decide) (hts _ tw_138) (fun _ h9 => h9) rfl dX5_bar_1 ?_
  refine lv_iload_n hx hb dX5_bar_4 rfl (lv_at hl 1 rfl) ?_
  refine xx_calli ((bT k ot tq ow oe oc ou oa to tt) ++ (bE k oe ec ew el ea ed et ex)) [1, 2, 3, 4, 5, 6, 7] [0, 8, 9, 10, 11, 12, 13, 14] (va_runV (As := [.int x]) (rest := []) ⟨hx, hb, hml, hown, hts⟩ (c_W_may l D k ow wc wl wb wk kk kf ku x (by omega) s.heap.size) (cwV 1 hts (xx_gV tw_205 tw_182 tw_183 tw_3 tw_184) rfl rfl rfl (by decide +kernel) ⟨Nat.le_of_ble_eq_true rfl, Nat.le_of_ble_eq_true rfl⟩) (xx_preV hK hN hP hD [1, 2, 3, 4, 5, 6, 7] (by decide) rfl 4 1 rfl rfl) rfl rfl hl.1 rfl (lv_room (Nat.le_of_ble_eq_true rfl)) dX5_bar_5 ⟨Nat.le_of_ble_eq_true rfl, Nat.le_of_ble_eq_true rfl⟩) hP hD hS hA rfl rfl (by decide) (by decide) (fun r5 u5 H locs hw5 hP hD hS => ?_)
  rcases hw5 with ⟨rfl, j5, hj5, hx5, hb5⟩ | ⟨rfl, hq5⟩
  · subst hx5
    have hP : va_P D vwCl ((bT k ot tq ow oe oc ou oa to tt) ++ (bE k oe ec ew el ea ed et ex) ++ (bW k ow wc wl wb wk kk kf ku)) H := hP
    have hD : va_D A ((bT k ot tq ow oe oc ou oa to tt) ++ (bE k oe ec ew el ea ed et ex) ++ (bW k ow wc wl wb wk kk kf ku)) := hD
    refine lv_if_ne (tgt := 13) hx hb dX5_bar_8 (by decide) (fun _ => ?_) (fun c => absurd c (by decide))
    refine lv_aload_n hx hb dX5_bar_13 rfl (lv_at hl 0 rfl) ?_
    refine va_get (D := D) (ci := 5) (v := .ref (ow 0)) (C := RX5) (T := TX5) (N := 8) hx hb hts hinW hown hK hP 0 rfl rfl 1 (by decide) (hts _ tw_138) (fun _ h9 => h9) rfl dX5_bar_14 ?_
    refine lv_iload_n hx hb dX5_bar_17 rfl (lv_at hl 1 rfl) ?_
    refine xx_callv ((bT k ot tq ow oe oc ou oa to tt) ++ (bE k oe ec ew el ea ed et ex)) [8, 9, 10, 11, 12, 13, 14] [0, 1, 2, 3, 4, 5, 6, 7] (va_runV (As := [.int (nI j5)]) (rest := []) ⟨hx, hb, hml, hown, hts⟩ (c_W_shutOut l D k ow wc wl wb wk kk kf ku j5 hwc hj5 H.size) (cwV 1 hts (xx_gV tw_252 tw_253 tw_254 tw_3 tw_255) rfl rfl rfl (by decide +kernel) ⟨Nat.le_of_ble_eq_true rfl, Nat.le_of_ble_eq_true rfl⟩) (xx_preV hK hN hP hD [8, 9, 10, 11, 12, 13, 14] (by decide) rfl 4 8 rfl rfl) rfl rfl hl.1 rfl (lv_room (Nat.le_of_ble_eq_true rfl)) dX5_bar_18 ⟨Nat.le_of_ble_eq_true rfl, Nat.le_of_ble_eq_true rfl⟩) hP hD hS hA rfl rfl (by decide) (by decide) (fun u18 H locs hw18 hP hD hS => ?_)
    obtain rfl := hw18
    have hP : va_P D vwCl ((bT k ot tq ow oe oc ou oa to tt) ++ (bE k oe ec ew el ea ed et ex) ++ (bW k ow wc wl (xu_B wb j5 true) wk kk kf ku)) H := hP
    have hD : va_D A ((bT k ot tq ow oe oc ou oa to tt) ++ (bE k oe ec ew el ea ed et ex) ++ (bW k ow wc wl (xu_B wb j5 true) wk kk kf ku)) := hD
    refine lv_aload_n hx hb dX5_bar_21 rfl (lv_at hl 0 rfl) ?_
    refine va_get (D := D) (ci := 5) (v := .ref (oe 0)) (C := RX5) (T := TX5) (N := 8) hx hb hts hinW hown hK hP 0 rfl rfl 2 (by decide) (hts _ tw_139) (fun _ h9 => h9) rfl dX5_bar_22 ?_
    refine lv_iload_n hx hb dX5_bar_25 rfl (lv_at hl 1 rfl) ?_
    refine xx_calli ((bT k ot tq ow oe oc ou oa to tt) ++ (bW k ow wc wl (xu_B wb j5 true) wk kk kf ku)) [1, 2, 3, 4, 5, 6, 7] [0, 8, 9, 10, 11, 12, 13, 14] (va_runV (As := [.int (nI j5)]) (rest := []) ⟨hx, hb, hml, hown, hts⟩ (c_E_drop l D k oe ec ew el ea ed et ex j5 hec hew (by omega) H.size) (cwV 1 hts (xx_gV tw_256 tw_257 tw_258 tw_4 tw_259) rfl rfl rfl (by decide +kernel) ⟨Nat.le_of_ble_eq_true rfl, Nat.le_of_ble_eq_true rfl⟩) (xx_preV hK hN hP hD [1, 2, 3, 4, 5, 6, 7] (by decide) rfl 2 1 rfl rfl) rfl rfl hl.1 rfl (lv_room (Nat.le_of_ble_eq_true rfl)) dX5_bar_26 ⟨Nat.le_of_ble_eq_true rfl, Nat.le_of_ble_eq_true rfl⟩) hP hD hS hA rfl rfl (by decide) (by decide) (fun r26 u26 H locs hw26 hP hD hS => ?_)
    obtain ⟨rfl, rfl⟩ := hw26
    have hP : va_P D vwCl ((bT k ot tq ow oe oc ou oa to tt) ++ (bW k ow wc wl (xu_B wb j5 true) wk kk kf ku) ++ (bE k oe ec ew el ea ed et (xd_drop ew ex j5 ec))) H := hP
    have hD : va_D A ((bT k ot tq ow oe oc ou oa to tt) ++ (bW k ow wc wl (xu_B wb j5 true) wk kk kf ku) ++ (bE k oe ec ew el ea ed et (xd_drop ew ex j5 ec))) := hD
    refine xx_iret ((xu_B wb j5 true), (xd_drop ew ex j5 ec)) hx hb hr hlocks hS hK hP hD dX5_bar_29 ?_
    exact Or.inr ⟨j5, hj5, rfl, hb5, rfl, rfl⟩
  · have hP : va_P D vwCl ((bT k ot tq ow oe oc ou oa to tt) ++ (bE k oe ec ew el ea ed et ex) ++ (bW k ow wc wl wb wk kk kf ku)) H := hP
    have hD : va_D A ((bT k ot tq ow oe oc ou oa to tt) ++ (bE k oe ec ew el ea ed et ex) ++ (bW k ow wc wl wb wk kk kf ku)) := hD
    refine lv_if_ne (tgt := 13) hx hb dX5_bar_8 (by decide) (fun c => absurd c (by decide)) (fun _ => ?_)
    refine lv_iconst (v := (-1)) hx hb dX5_bar_11 (by decide) ?_
    refine xx_iret (wb, ex) hx hb hr hlocks hS hK (xx_subP hP [0, 8, 9, 10, 11, 12, 13, 14, 1, 2, 3, 4, 5, 6, 7] rfl) (hD.sub [0, 8, 9, 10, 11, 12, 13, 14, 1, 2, 3, 4, 5, 6, 7] (by decide) rfl) dX5_bar_12 ?_
    exact Or.inl ⟨rfl, hq5, rfl⟩
def p_T_note (ot : Nat) (tq : Int32) (ow : Nat → Nat) (oe : Nat → Nat) (oc : Nat → Nat) (ou : Nat → Nat) (oa : Nat → Nat) (to : Bool) (tt : Int64) (ec : Nat) (ew : Nat → Nat) (el : Nat → Int32) (ea : Nat → Int64) (ed : Nat → Int64) (et : Nat → Int64) (ex : Nat → Bool) (cc : Nat) (ca : Nat → Int64) (cl : Nat → Int32) (ch : Nat → Int32) (mm : Nat) (a : Int64) : (Nat × (Nat → Int64) × (Nat → Int32) × (Nat → Int32)) → Prop := fun u => ((∃ i, i < cc ∧ ca i = a) ∧ u = (cc, ca, cl, ch)) ∨ ((¬ ∃ i, i < cc ∧ ca i = a) ∧ ∃ q, p_E_against oe ec ew el ea ed et ex mm q () ∧ ((q = (-1) ∧ u = (cc, ca, cl, ch)) ∨ (¬ q = (-1) ∧ p_C_add oc cc ca cl ch a q (nI mm) u)))
set_option maxHeartbeats 4000000 in
set_option maxRecDepth 100000 in
theorem c_T_note (l : Launch) (D : va_G) (k : Nat → ClassId) (ot : Nat) (tq : Int32) (ow : Nat → Nat) (oe : Nat → Nat) (oc : Nat → Nat) (ou : Nat → Nat) (oa : Nat → Nat) (to : Bool) (tt : Int64) (ec : Nat) (ew : Nat → Nat) (el : Nat → Int32) (ea : Nat → Int64) (ed : Nat → Int64) (et : Nat → Int64) (ex : Nat → Bool) (cc : Nat) (ca : Nat → Int64) (cl : Nat → Int32) (ch : Nat → Int32) (mm : Nat) (a : Int64) (hec : ec ≤ 100) (hcc : cc ≤ 50) (hm1 : mm < ec) : xx_Cv l yX5_noteClash (.code yX5_noteClash cX5_noteClash 5 none :: xall) ({ frames := 2, cells := 0, slots := 0, locals := 44 } : Room) D vwCl (xT k) [.ref ot, .int (nI mm), .long a] ((bT k ot tq ow oe oc ou oa to tt) ++ (bE k oe ec ew el ea ed et ex) ++ (bC k oc cc ca cl ch)) (p_T_note ot tq ow oe oc ou oa to tt ec ew el ea ed et ex cc ca cl ch mm a) (fun (u : Nat × (Nat → Int64) × (Nat → Int32) × (Nat → Int32)) => (bT k ot tq ow oe oc ou oa to tt) ++ (bE k oe ec ew el ea ed et ex) ++ (bC k oc u.1 u.2.1 u.2.2.1 u.2.2.2)) 0 0 := by
  intro sz
  refine xx_met (Qf := fun A => va_Qv (p_T_note ot tq ow oe oc ou oa to tt ec ew el ea ed et ex cc ca cl ch mm a) (xx_B D vwCl (xT k) A (fun (u : Nat × (Nat → Int64) × (Nat → Int32) × (Nat → Int32)) => (bT k ot tq ow oe oc ou oa to tt) ++ (bE k oe ec ew el ea ed et ex) ++ (bC k oc u.1 u.2.1 u.2.2.1 u.2.2.2))) A) (cc := cX5_noteClash) (maxL := 5) (ret := none) (by decide) rfl (Nat.le_of_ble_eq_true rfl) ?_
  intro p e s m below meth c A ls hx hb hr hts hown hlocks hin hml hA hS hP hD hK hN hl
  have hl : lv_has ls 5 [(0, .ref ot), (1, .int (nI mm)), (2, .long a)] := hl
  have hown : s.vm.findClass RX5 = some m.cls := hown
  have hinW := inX5
  refine lv_aload_n hx hb dX5_noteClash_0 rfl (lv_at hl 0 rfl) ?_
  refine va_get (D := D) (ci := 5) (v := .ref (oc 0)) (C := RX5) (T := TX5) (N := 8) hx hb hts hinW hown hK hP 0 rfl rfl 3 (by decide) (hts _ tw_140) (fun _ h9 => h9) rfl dX5_noteClash_1 ?_
  refine lv_lload_n hx hb dX5_noteClash_4 rfl (lv_at hl 2 rfl) ?_
  refine xx_calli ((bT k ot tq ow oe oc ou oa to tt) ++ (bE k oe ec ew el ea ed et ex)) [8, 9, 10, 11] [0, 1, 2, 3, 4, 5, 6, 7] (va_runV (As := [.long a]) (rest := []) ⟨hx, hb, hml, hown, hts⟩ (c_C_has l D k oc cc ca cl ch a (by omega) s.heap.size) (cwV 1 hts (xx_gV tw_227 tw_228 tw_229 tw_5 tw_230) rfl rfl rfl (by decide +kernel) ⟨Nat.le_of_ble_eq_true rfl, Nat.le_of_ble_eq_true rfl⟩) (xx_preV hK hN hP hD [8, 9, 10, 11] (by decide) rfl 1 8 rfl rfl) rfl rfl hl.1 rfl (lv_room (Nat.le_of_ble_eq_true rfl)) dX5_noteClash_5 ⟨Nat.le_of_ble_eq_true rfl, Nat.le_of_ble_eq_true rfl⟩) hP hD hS hA rfl rfl (by decide) (by decide) (fun r5 u5 H locs hw5 hP hD hS => ?_)
  rcases hw5 with ⟨rfl, hq5⟩ | ⟨rfl, hq5⟩
  · have hP : va_P D vwCl ((bT k ot tq ow oe oc ou oa to tt) ++ (bE k oe ec ew el ea ed et ex) ++ (bC k oc cc ca cl ch)) H := hP
    have hD : va_D A ((bT k ot tq ow oe oc ou oa to tt) ++ (bE k oe ec ew el ea ed et ex) ++ (bC k oc cc ca cl ch)) := hD
    refine lv_if_eq (tgt := 12) hx hb dX5_noteClash_8 (by decide) (fun c => absurd c (by decide)) (fun _ => ?_)
    refine xx_vret (cc, ca, cl, ch) hx hb hr hlocks hS hK hP hD dX5_noteClash_11 ?_
    exact Or.inl ⟨hq5, rfl⟩
  · have hP : va_P D vwCl ((bT k ot tq ow oe oc ou oa to tt) ++ (bE k oe ec ew el ea ed et ex) ++ (bC k oc cc ca cl ch)) H := hP
    have hD : va_D A ((bT k ot tq ow oe oc ou oa to tt) ++ (bE k oe ec ew el ea ed et ex) ++ (bC k oc cc ca cl ch)) := hD
    refine lv_if_eq (tgt := 12) hx hb dX5_noteClash_8 (by decide) (fun _ => ?_) (fun c => absurd c (by decide))
    refine lv_aload_n hx hb dX5_noteClash_12 rfl (lv_at hl 0 rfl) ?_
    refine va_get (D := D) (ci := 5) (v := .ref (oe 0)) (C := RX5) (T := TX5) (N := 8) hx hb hts hinW hown hK hP 0 rfl rfl 2 (by decide) (hts _ tw_139) (fun _ h9 => h9) rfl dX5_noteClash_13 ?_
    refine lv_iload_n hx hb dX5_noteClash_16 rfl (lv_at hl 1 rfl) ?_
    refine xx_calli ((bT k ot tq ow oe oc ou oa to tt) ++ (bC k oc cc ca cl ch)) [1, 2, 3, 4, 5, 6, 7] [0, 8, 9, 10, 11] (va_runV (As := [.int (nI mm)]) (rest := []) ⟨hx, hb, hml, hown, hts⟩ (c_E_against l D k oe ec ew el ea ed et ex mm (by omega) (by omega) H.size) (cwV 1 hts (xx_gV tw_231 tw_232 tw_233 tw_4 tw_234) rfl rfl rfl (by decide +kernel) ⟨Nat.le_of_ble_eq_true rfl, Nat.le_of_ble_eq_true rfl⟩) (xx_preV hK hN hP hD [1, 2, 3, 4, 5, 6, 7] (by decide) rfl 2 1 rfl rfl) rfl rfl hl.1 rfl (lv_room (Nat.le_of_ble_eq_true rfl)) dX5_noteClash_17 ⟨Nat.le_of_ble_eq_true rfl, Nat.le_of_ble_eq_true rfl⟩) hP hD hS hA rfl rfl (by decide) (by decide) (fun r17 u17 H locs hw17 hP hD hS => ?_)
    have hP : va_P D vwCl ((bT k ot tq ow oe oc ou oa to tt) ++ (bC k oc cc ca cl ch) ++ (bE k oe ec ew el ea ed et ex)) H := hP
    have hD : va_D A ((bT k ot tq ow oe oc ou oa to tt) ++ (bC k oc cc ca cl ch) ++ (bE k oe ec ew el ea ed et ex)) := hD
    refine lv_istore (lv' := [(4, .int r17), (0, .ref ot), (1, .int (nI mm)), (2, .long a)]) hx hb dX5_noteClash_20 hl (by decide) rfl (fun ls hl => ?_)
    refine lv_iload hx hb dX5_noteClash_22 (lv_at hl 0 rfl) ?_
    refine lv_iconst (v := (-1)) hx hb dX5_noteClash_24 (by decide) ?_
    refine lv_icmp_eq (tgt := 39) hx hb dX5_noteClash_25 (by decide) (fun c25 => ?_) (fun c25 => ?_)
    · refine xx_vret (cc, ca, cl, ch) hx hb hr hlocks hS hK (xx_subP hP [0, 5, 6, 7, 8, 9, 10, 11, 1, 2, 3, 4] rfl) (hD.sub [0, 5, 6, 7, 8, 9, 10, 11, 1, 2, 3, 4] (by decide) rfl) dX5_noteClash_39 ?_
      first | exact Or.inr ⟨hq5, r17, hw17, Or.inl ⟨c25, rfl⟩⟩ | exact Or.inr ⟨hq5, r17, hw17, Or.inr ⟨c25, hw36⟩⟩
    · refine lv_aload_n hx hb dX5_noteClash_28 rfl (lv_at hl 1 rfl) ?_
      refine va_get (D := D) (ci := 5) (v := .ref (oc 0)) (C := RX5) (T := TX5) (N := 8) hx hb hts hinW hown hK hP 0 rfl rfl 3 (by decide) (hts _ tw_140) (fun _ h9 => h9) rfl dX5_noteClash_29 ?_
      refine lv_lload_n hx hb dX5_noteClash_32 rfl (lv_at hl 3 rfl) ?_
      refine lv_iload hx hb dX5_noteClash_33 (lv_at hl 0 rfl) ?_
      refine lv_iload_n hx hb dX5_noteClash_35 rfl (lv_at hl 2 rfl) ?_
      refine xx_callv ((bT k ot tq ow oe oc ou oa to tt) ++ (bE k oe ec ew el ea ed et ex)) [1, 2, 3, 4] [0, 5, 6, 7, 8, 9, 10, 11] (va_runV (As := [.long a, .int r17, .int (nI mm)]) (rest := []) ⟨hx, hb, hml, hown, hts⟩ (c_C_add l D k oc cc ca cl ch a r17 (nI mm) (by omega) H.size) (cwV 3 hts (xx_gV tw_239 tw_240 tw_241 tw_5 tw_242) rfl rfl rfl (by decide +kernel) ⟨Nat.le_of_ble_eq_true rfl, Nat.le_of_ble_eq_true rfl⟩) (xx_preV hK hN hP hD [1, 2, 3, 4] (by decide) rfl 1 1 rfl rfl) rfl rfl hl.1 rfl (lv_room (Nat.le_of_ble_eq_true rfl)) dX5_noteClash_36 ⟨Nat.le_of_ble_eq_true rfl, Nat.le_of_ble_eq_true rfl⟩) hP hD hS hA rfl rfl (by decide) (by decide) (fun u36 H locs hw36 hP hD hS => ?_)
      have hP : va_P D vwCl ((bT k ot tq ow oe oc ou oa to tt) ++ (bE k oe ec ew el ea ed et ex) ++ (bC k oc u36.1 u36.2.1 u36.2.2.1 u36.2.2.2)) H := hP
      have hD : va_D A ((bT k ot tq ow oe oc ou oa to tt) ++ (bE k oe ec ew el ea ed et ex) ++ (bC k oc u36.1 u36.2.1 u36.2.2.1 u36.2.2.2)) := hD
      refine xx_vret (u36.1, u36.2.1, u36.2.2.1, u36.2.2.2) hx hb hr hlocks hS hK hP hD dX5_noteClash_39 ?_
      first | exact Or.inr ⟨hq5, r17, hw17, Or.inl ⟨c25, rfl⟩⟩ | exact Or.inr ⟨hq5, r17, hw17, Or.inr ⟨c25, hw36⟩⟩
