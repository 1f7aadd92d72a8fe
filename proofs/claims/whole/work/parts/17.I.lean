theorem dX4_init_0 : decode cX4_init 0 = .ok (.aload_n 0, 1) := by decide +kernel
theorem dX4_init_1 : decode cX4_init 1 = .ok (.invokespecial 3, 3) := by decide +kernel
theorem dX4_init_4 : decode cX4_init 4 = .ok (.aload_n 0, 1) := by decide +kernel
theorem dX4_init_5 : decode cX4_init 5 = .ok (.bipush 12, 2) := by decide +kernel
theorem dX4_init_7 : decode cX4_init 7 = .ok (.newarray .int, 2) := by decide +kernel
theorem dX4_init_9 : decode cX4_init 9 = .ok (.putfield 9, 3) := by decide +kernel
theorem dX4_init_12 : decode cX4_init 12 = .ok (.aload_n 0, 1) := by decide +kernel
theorem dX4_init_13 : decode cX4_init 13 = .ok (.bipush 12, 2) := by decide +kernel
theorem dX4_init_15 : decode cX4_init 15 = .ok (.newarray .boolean, 2) := by decide +kernel
theorem dX4_init_17 : decode cX4_init 17 = .ok (.putfield 15, 3) := by decide +kernel
theorem dX4_init_20 : decode cX4_init 20 = .ok (.aload_n 0, 1) := by decide +kernel
theorem dX4_init_21 : decode cX4_init 21 = .ok (.bipush 12, 2) := by decide +kernel
theorem dX4_init_23 : decode cX4_init 23 = .ok (.newarray .int, 2) := by decide +kernel
theorem dX4_init_25 : decode cX4_init 25 = .ok (.putfield 19, 3) := by decide +kernel
theorem dX4_init_28 : decode cX4_init 28 = .ok (.aload_n 0, 1) := by decide +kernel
theorem dX4_init_29 : decode cX4_init 29 = .ok (.bipush 48, 2) := by decide +kernel
theorem dX4_init_31 : decode cX4_init 31 = .ok (.newarray .long, 2) := by decide +kernel
theorem dX4_init_33 : decode cX4_init 33 = .ok (.putfield 22, 3) := by decide +kernel
theorem dX4_init_36 : decode cX4_init 36 = .ok (.aload_n 0, 1) := by decide +kernel
theorem dX4_init_37 : decode cX4_init 37 = .ok (.bipush 48, 2) := by decide +kernel
theorem dX4_init_39 : decode cX4_init 39 = .ok (.newarray .long, 2) := by decide +kernel
theorem dX4_init_41 : decode cX4_init 41 = .ok (.putfield 26, 3) := by decide +kernel
theorem dX4_init_44 : decode cX4_init 44 = .ok (.aload_n 0, 1) := by decide +kernel
theorem dX4_init_45 : decode cX4_init 45 = .ok (.bipush 48, 2) := by decide +kernel
theorem dX4_init_47 : decode cX4_init 47 = .ok (.newarray .long, 2) := by decide +kernel
theorem dX4_init_49 : decode cX4_init 49 = .ok (.putfield 29, 3) := by decide +kernel
theorem dX4_init_52 : decode cX4_init 52 = .ok (.aload_n 0, 1) := by decide +kernel
theorem dX4_init_53 : decode cX4_init 53 = .ok (.iconst 0, 1) := by decide +kernel
theorem dX4_init_54 : decode cX4_init 54 = .ok (.putfield 32, 3) := by decide +kernel
theorem dX4_init_57 : decode cX4_init 57 = .ok (.return_, 1) := by decide +kernel
theorem dX2_init_0 : decode cX2_init 0 = .ok (.aload_n 0, 1) := by decide +kernel
theorem dX2_init_1 : decode cX2_init 1 = .ok (.invokespecial 3, 3) := by decide +kernel
theorem dX2_init_4 : decode cX2_init 4 = .ok (.aload_n 0, 1) := by decide +kernel
theorem dX2_init_5 : decode cX2_init 5 = .ok (.bipush 100, 2) := by decide +kernel
theorem dX2_init_7 : decode cX2_init 7 = .ok (.newarray .int, 2) := by decide +kernel
theorem dX2_init_9 : decode cX2_init 9 = .ok (.putfield 9, 3) := by decide +kernel
theorem dX2_init_12 : decode cX2_init 12 = .ok (.aload_n 0, 1) := by decide +kernel
theorem dX2_init_13 : decode cX2_init 13 = .ok (.bipush 100, 2) := by decide +kernel
theorem dX2_init_15 : decode cX2_init 15 = .ok (.newarray .int, 2) := by decide +kernel
theorem dX2_init_17 : decode cX2_init 17 = .ok (.putfield 15, 3) := by decide +kernel
theorem dX2_init_20 : decode cX2_init 20 = .ok (.aload_n 0, 1) := by decide +kernel
theorem dX2_init_21 : decode cX2_init 21 = .ok (.bipush 100, 2) := by decide +kernel
theorem dX2_init_23 : decode cX2_init 23 = .ok (.newarray .long, 2) := by decide +kernel
theorem dX2_init_25 : decode cX2_init 25 = .ok (.putfield 18, 3) := by decide +kernel
theorem dX2_init_28 : decode cX2_init 28 = .ok (.aload_n 0, 1) := by decide +kernel
theorem dX2_init_29 : decode cX2_init 29 = .ok (.bipush 100, 2) := by decide +kernel
theorem dX2_init_31 : decode cX2_init 31 = .ok (.newarray .long, 2) := by decide +kernel
theorem dX2_init_33 : decode cX2_init 33 = .ok (.putfield 22, 3) := by decide +kernel
theorem dX2_init_36 : decode cX2_init 36 = .ok (.aload_n 0, 1) := by decide +kernel
theorem dX2_init_37 : decode cX2_init 37 = .ok (.bipush 100, 2) := by decide +kernel
theorem dX2_init_39 : decode cX2_init 39 = .ok (.newarray .long, 2) := by decide +kernel
theorem dX2_init_41 : decode cX2_init 41 = .ok (.putfield 25, 3) := by decide +kernel
theorem dX2_init_44 : decode cX2_init 44 = .ok (.aload_n 0, 1) := by decide +kernel
theorem dX2_init_45 : decode cX2_init 45 = .ok (.bipush 100, 2) := by decide +kernel
theorem dX2_init_47 : decode cX2_init 47 = .ok (.newarray .boolean, 2) := by decide +kernel
theorem dX2_init_49 : decode cX2_init 49 = .ok (.putfield 28, 3) := by decide +kernel
theorem dX2_init_52 : decode cX2_init 52 = .ok (.aload_n 0, 1) := by decide +kernel
theorem dX2_init_53 : decode cX2_init 53 = .ok (.iconst 0, 1) := by decide +kernel
theorem dX2_init_54 : decode cX2_init 54 = .ok (.putfield 32, 3) := by decide +kernel
theorem dX2_init_57 : decode cX2_init 57 = .ok (.return_, 1) := by decide +kernel
theorem dX1_init_0 : decode cX1_init 0 = .ok (.aload_n 0, 1) := by decide +kernel
theorem dX1_init_1 : decode cX1_init 1 = .ok (.invokespecial 3, 3) := by decide +kernel
theorem dX1_init_4 : decode cX1_init 4 = .ok (.aload_n 0, 1) := by decide +kernel
theorem dX1_init_5 : decode cX1_init 5 = .ok (.bipush 50, 2) := by decide +kernel
theorem dX1_init_7 : decode cX1_init 7 = .ok (.newarray .long, 2) := by decide +kernel
theorem dX1_init_9 : decode cX1_init 9 = .ok (.putfield 9, 3) := by decide +kernel
theorem dX1_init_12 : decode cX1_init 12 = .ok (.aload_n 0, 1) := by decide +kernel
theorem dX1_init_13 : decode cX1_init 13 = .ok (.bipush 50, 2) := by decide +kernel
theorem dX1_init_15 : decode cX1_init 15 = .ok (.newarray .int, 2) := by decide +kernel
theorem dX1_init_17 : decode cX1_init 17 = .ok (.putfield 15, 3) := by decide +kernel
theorem dX1_init_20 : decode cX1_init 20 = .ok (.aload_n 0, 1) := by decide +kernel
theorem dX1_init_21 : decode cX1_init 21 = .ok (.bipush 50, 2) := by decide +kernel
theorem dX1_init_23 : decode cX1_init 23 = .ok (.newarray .int, 2) := by decide +kernel
theorem dX1_init_25 : decode cX1_init 25 = .ok (.putfield 19, 3) := by decide +kernel
theorem dX1_init_28 : decode cX1_init 28 = .ok (.aload_n 0, 1) := by decide +kernel
theorem dX1_init_29 : decode cX1_init 29 = .ok (.iconst 0, 1) := by decide +kernel
theorem dX1_init_30 : decode cX1_init 30 = .ok (.putfield 22, 3) := by decide +kernel
theorem dX1_init_33 : decode cX1_init 33 = .ok (.return_, 1) := by decide +kernel
theorem dX3_init_0 : decode cX3_init 0 = .ok (.aload_n 0, 1) := by decide +kernel
theorem dX3_init_1 : decode cX3_init 1 = .ok (.invokespecial 3, 3) := by decide +kernel
theorem dX3_init_4 : decode cX3_init 4 = .ok (.aload_n 0, 1) := by decide +kernel
theorem dX3_init_5 : decode cX3_init 5 = .ok (.bipush 20, 2) := by decide +kernel
theorem dX3_init_7 : decode cX3_init 7 = .ok (.newarray .int, 2) := by decide +kernel
theorem dX3_init_9 : decode cX3_init 9 = .ok (.putfield 9, 3) := by decide +kernel
theorem dX3_init_12 : decode cX3_init 12 = .ok (.aload_n 0, 1) := by decide +kernel
theorem dX3_init_13 : decode cX3_init 13 = .ok (.bipush 20, 2) := by decide +kernel
theorem dX3_init_15 : decode cX3_init 15 = .ok (.newarray .int, 2) := by decide +kernel
theorem dX3_init_17 : decode cX3_init 17 = .ok (.putfield 15, 3) := by decide +kernel
theorem dX3_init_20 : decode cX3_init 20 = .ok (.aload_n 0, 1) := by decide +kernel
theorem dX3_init_21 : decode cX3_init 21 = .ok (.bipush 20, 2) := by decide +kernel
theorem dX3_init_23 : decode cX3_init 23 = .ok (.newarray .int, 2) := by decide +kernel
theorem dX3_init_25 : decode cX3_init 25 = .ok (.putfield 18, 3) := by decide +kernel
theorem dX3_init_28 : decode cX3_init 28 = .ok (.aload_n 0, 1) := by decide +kernel
theorem dX3_init_29 : decode cX3_init 29 = .ok (.bipush 20, 2) := by decide +kernel
theorem dX3_init_31 : decode cX3_init 31 = .ok (.newarray .int, 2) := by decide +kernel
theorem dX3_init_33 : decode cX3_init 33 = .ok (.putfield 21, 3) := by decide +kernel
theorem dX3_init_36 : decode cX3_init 36 = .ok (.aload_n 0, 1) := by decide +kernel
theorem dX3_init_37 : decode cX3_init 37 = .ok (.iconst 0, 1) := by decide +kernel
theorem dX3_init_38 : decode cX3_init 38 = .ok (.putfield 24, 3) := by decide +kernel
theorem dX3_init_41 : decode cX3_init 41 = .ok (.return_, 1) := by decide +kernel
theorem dX0_init_0 : decode cX0_init 0 = .ok (.aload_n 0, 1) := by decide +kernel
theorem dX0_init_1 : decode cX0_init 1 = .ok (.invokespecial 3, 3) := by decide +kernel
theorem dX0_init_4 : decode cX0_init 4 = .ok (.aload_n 0, 1) := by decide +kernel
theorem dX0_init_5 : decode cX0_init 5 = .ok (.sipush 1000, 3) := by decide +kernel
theorem dX0_init_8 : decode cX0_init 8 = .ok (.newarray .int, 2) := by decide +kernel
theorem dX0_init_10 : decode cX0_init 10 = .ok (.putfield 9, 3) := by decide +kernel
theorem dX0_init_13 : decode cX0_init 13 = .ok (.aload_n 0, 1) := by decide +kernel
theorem dX0_init_14 : decode cX0_init 14 = .ok (.iconst 0, 1) := by decide +kernel
theorem dX0_init_15 : decode cX0_init 15 = .ok (.putfield 15, 3) := by decide +kernel
theorem dX0_init_18 : decode cX0_init 18 = .ok (.return_, 1) := by decide +kernel
def p_W_init (o0 : Nat) : (Nat → Nat) → Prop := fun u => u 0 = o0
set_option maxHeartbeats 4000000 in
set_option maxRecDepth 100000 in
theorem c_W_init (l : Launch) (D : va_G) (k : Nat → ClassId) (o0 : Nat) : xx_Cv l yX4_init (.code yX4_init cX4_init 1 none :: xall) ({ frames := 1, cells := 6, slots := 180, locals := 20 } : Room) D vwCl (xT k) [.ref o0] ([(o0, .inr (4, [.null, .null, .null, .null, .null, .null, .int (nI 0)]))]) (p_W_init o0) (fun (u : Nat → Nat) => bW k u 0 (fun _ => 0) (fun _ => false) (fun _ => 0) (fun _ => 0) (fun _ => 0) (fun _ => 0)) 6 180 := by
  intro sz
  refine xx_met (Qf := fun A => va_Qv (p_W_init o0) (xx_B D vwCl (xT k) A (fun (u : Nat → Nat) => bW k u 0 (fun _ => 0) (fun _ => false) (fun _ => 0) (fun _ => 0) (fun _ => 0) (fun _ => 0))) A) (cc := cX4_init) (maxL := 1) (ret := none) (by decide) rfl (Nat.le_of_ble_eq_true rfl) ?_
  intro p e s m below meth c A ls hx hb hr hts hown hlocks hin hml hA hS hP hD hK hN hl
  have hl : lv_has ls 1 [(0, .ref o0)] := hl
  have hown : s.vm.findClass RX4 = some m.cls := hown
  have hinW := inX4
  refine lv_aload_n hx hb dX4_init_0 rfl (lv_at hl 0 rfl) ?_
  refine W.objInit hx hb hown (hts _ tw_29) (hts _ tw_16) (hts _ tw_17) rfl (by rw [hml]; exact hl.1) rfl dX4_init_1 (Nat.le_of_ble_eq_true rfl) (Nat.le_of_ble_eq_true rfl) ?_
  refine W.eq (g2 := F0 m 4 ls []) rfl ?_
  refine lv_aload_n hx hb dX4_init_4 rfl (lv_at hl 0 rfl) ?_
  refine lv_bipush (v := (nI 12)) hx hb dX4_init_5 (by decide) ?_
  refine xx_newa (atype := .int) (a0 := (12, .inl (fun _ => 0))) (N' := 12) (ty := .int) hx hb (hts _ tw_52) rfl 0 rfl (fun _ h => h) hK hP hD hS hA (fun _ => rfl) (nI_pos (Nat.le_of_ble_eq_true rfl)) (nI_clamp (Nat.le_of_ble_eq_true rfl)) (Nat.le_of_ble_eq_true rfl) (Nat.le_of_ble_eq_true rfl) (Nat.le_of_ble_eq_true rfl) dX4_init_7 (fun q7 H hP hD hS => ?_)
  have hP : va_P D vwCl ([(o0, .inr (4, [.null, .null, .null, .null, .null, .null, .int (nI 0)])), (q7, .inl (k 0, 12, .inl (fun _ => 0)))]) H := hP
  have hD : va_D A ([(o0, .inr (4, [.null, .null, .null, .null, .null, .null, .int (nI 0)])), (q7, .inl (k 0, 12, .inl (fun _ => 0)))]) := hD
  refine W.widen (k := 1) (n := 12) (Nat.le_of_ble_eq_true rfl) (Nat.le_of_ble_eq_true rfl) ?_
  refine va_putF (D := D) (ci := 4) (v := .ref q7) (ty := .array (.int)) (C := RX4) (T := TX4) (N := 7) hx hb hts hinW tyX4 tyX4_ok nmX4 hown hK hP hD hS 0 rfl rfl 0 (by decide) (hts _ tw_30) (fun _ h9 => h9) rfl hin rfl (by decide +kernel) rfl rfl (Nat.le_of_ble_eq_true rfl) dX4_init_9 (fun H locs hP hD hS => ?_)
  have hP : va_P D vwCl ([(o0, .inr (4, [.ref q7, .null, .null, .null, .null, .null, .int (nI 0)])), (q7, .inl (k 0, 12, .inl (fun _ => 0)))]) H := hP
  have hD : va_D A ([(o0, .inr (4, [.ref q7, .null, .null, .null, .null, .null, .int (nI 0)])), (q7, .inl (k 0, 12, .inl (fun _ => 0)))]) := hD
  refine lv_aload_n hx hb dX4_init_12 rfl (lv_at hl 0 rfl) ?_
  refine lv_bipush (v := (nI 12)) hx hb dX4_init_13 (by decide) ?_
  refine xx_newa (atype := .boolean) (a0 := (12, .inl (fun _ => 0))) (N' := 12) (ty := .boolean) hx hb (hts _ tw_53) rfl 1 rfl (fun _ h => h) hK hP hD hS hA (fun _ => rfl) (nI_pos (Nat.le_of_ble_eq_true rfl)) (nI_clamp (Nat.le_of_ble_eq_true rfl)) (Nat.le_of_ble_eq_true rfl) (Nat.le_of_ble_eq_true rfl) (Nat.le_of_ble_eq_true rfl) dX4_init_15 (fun q15 H hP hD hS => ?_)
  have hP : va_P D vwCl ([(o0, .inr (4, [.ref q7, .null, .null, .null, .null, .null, .int (nI 0)])), (q7, .inl (k 0, 12, .inl (fun _ => 0))), (q15, .inl (k 1, 12, .inl (fun _ => 0)))]) H := hP
  have hD : va_D A ([(o0, .inr (4, [.ref q7, .null, .null, .null, .null, .null, .int (nI 0)])), (q7, .inl (k 0, 12, .inl (fun _ => 0))), (q15, .inl (k 1, 12, .inl (fun _ => 0)))]) := hD
  refine W.widen (k := 2) (n := 24) (Nat.le_of_ble_eq_true rfl) (Nat.le_of_ble_eq_true rfl) ?_
  refine va_putF (D := D) (ci := 4) (v := .ref q15) (ty := .array (.boolean)) (C := RX4) (T := TX4) (N := 7) hx hb hts hinW tyX4 tyX4_ok nmX4 hown hK hP hD hS 0 rfl rfl 1 (by decide) (hts _ tw_31) (fun _ h9 => h9) rfl hin rfl (by decide +kernel) rfl rfl (Nat.le_of_ble_eq_true rfl) dX4_init_17 (fun H locs hP hD hS => ?_)
  have hP : va_P D vwCl ([(o0, .inr (4, [.ref q7, .ref q15, .null, .null, .null, .null, .int (nI 0)])), (q7, .inl (k 0, 12, .inl (fun _ => 0))), (q15, .inl (k 1, 12, .inl (fun _ => 0)))]) H := hP
  have hD : va_D A ([(o0, .inr (4, [.ref q7, .ref q15, .null, .null, .null, .null, .int (nI 0)])), (q7, .inl (k 0, 12, .inl (fun _ => 0))), (q15, .inl (k 1, 12, .inl (fun _ => 0)))]) := hD
  refine lv_aload_n hx hb dX4_init_20 rfl (lv_at hl 0 rfl) ?_
  refine lv_bipush (v := (nI 12)) hx hb dX4_init_21 (by decide) ?_
  refine xx_newa (atype := .int) (a0 := (12, .inl (fun _ => 0))) (N' := 12) (ty := .int) hx hb (hts _ tw_52) rfl 0 rfl (fun _ h => h) hK hP hD hS hA (fun _ => rfl) (nI_pos (Nat.le_of_ble_eq_true rfl)) (nI_clamp (Nat.le_of_ble_eq_true rfl)) (Nat.le_of_ble_eq_true rfl) (Nat.le_of_ble_eq_true rfl) (Nat.le_of_ble_eq_true rfl) dX4_init_23 (fun q23 H hP hD hS => ?_)
  have hP : va_P D vwCl ([(o0, .inr (4, [.ref q7, .ref q15, .null, .null, .null, .null, .int (nI 0)])), (q7, .inl (k 0, 12, .inl (fun _ => 0))), (q15, .inl (k 1, 12, .inl (fun _ => 0))), (q23, .inl (k 0, 12, .inl (fun _ => 0)))]) H := hP
  have hD : va_D A ([(o0, .inr (4, [.ref q7, .ref q15, .null, .null, .null, .null, .int (nI 0)])), (q7, .inl (k 0, 12, .inl (fun _ => 0))), (q15, .inl (k 1, 12, .inl (fun _ => 0))), (q23, .inl (k 0, 12, .inl (fun _ => 0)))]) := hD
  refine W.widen (k := 3) (n := 36) (Nat.le_of_ble_eq_true rfl) (Nat.le_of_ble_eq_true rfl) ?_
  refine va_putF (D := D) (ci := 4) (v := .ref q23) (ty := .array (.int)) (C := RX4) (T := TX4) (N := 7) hx hb hts hinW tyX4 tyX4_ok nmX4 hown hK hP hD hS 0 rfl rfl 2 (by decide) (hts _ tw_32) (fun _ h9 => h9) rfl hin rfl (by decide +kernel) rfl rfl (Nat.le_of_ble_eq_true rfl) dX4_init_25 (fun H locs hP hD hS => ?_)
  have hP : va_P D vwCl ([(o0, .inr (4, [.ref q7, .ref q15, .ref q23, .null, .null, .null, .int (nI 0)])), (q7, .inl (k 0, 12, .inl (fun _ => 0))), (q15, .inl (k 1, 12, .inl (fun _ => 0))), (q23, .inl (k 0, 12, .inl (fun _ => 0)))]) H := hP
  have hD : va_D A ([(o0, .inr (4, [.ref q7, .ref q15, .ref q23, .null, .null, .null, .int (nI 0)])), (q7, .inl (k 0, 12, .inl (fun _ => 0))), (q15, .inl (k 1, 12, .inl (fun _ => 0))), (q23, .inl (k 0, 12, .inl (fun _ => 0)))]) := hD
  refine lv_aload_n hx hb dX4_init_28 rfl (lv_at hl 0 rfl) ?_
  refine lv_bipush (v := (nI 48)) hx hb dX4_init_29 (by decide) ?_
  refine xx_newa (atype := .long) (a0 := (48, .inr (.inl (fun _ => 0)))) (N' := 48) (ty := .long) hx hb (hts _ tw_54) rfl 2 rfl (fun _ h => h) hK hP hD hS hA (fun _ => rfl) (nI_pos (Nat.le_of_ble_eq_true rfl)) (nI_clamp (Nat.le_of_ble_eq_true rfl)) (Nat.le_of_ble_eq_true rfl) (Nat.le_of_ble_eq_true rfl) (Nat.le_of_ble_eq_true rfl) dX4_init_31 (fun q31 H hP hD hS => ?_)
  have hP : va_P D vwCl ([(o0, .inr (4, [.ref q7, .ref q15, .ref q23, .null, .null, .null, .int (nI 0)])), (q7, .inl (k 0, 12, .inl (fun _ => 0))), (q15, .inl (k 1, 12, .inl (fun _ => 0))), (q23, .inl (k 0, 12, .inl (fun _ => 0))), (q31, .inl (k 2, 48, .inr (.inl (fun _ => 0))))]) H := hP
  have hD : va_D A ([(o0, .inr (4, [.ref q7, .ref q15, .ref q23, .null, .null, .null, .int (nI 0)])), (q7, .inl (k 0, 12, .inl (fun _ => 0))), (q15, .inl (k 1, 12, .inl (fun _ => 0))), (q23, .inl (k 0, 12, .inl (fun _ => 0))), (q31, .inl (k 2, 48, .inr (.inl (fun _ => 0))))]) := hD
  refine W.widen (k := 4) (n := 84) (Nat.le_of_ble_eq_true rfl) (Nat.le_of_ble_eq_true rfl) ?_
  refine va_putF (D := D) (ci := 4) (v := .ref q31) (ty := .array (.long)) (C := RX4) (T := TX4) (N := 7) hx hb hts hinW tyX4 tyX4_ok nmX4 hown hK hP hD hS 0 rfl rfl 3 (by decide) (hts _ tw_33) (fun _ h9 => h9) rfl hin rfl (by decide +kernel) rfl rfl (Nat.le_of_ble_eq_true rfl) dX4_init_33 (fun H locs hP hD hS => ?_)
  have hP : va_P D vwCl ([(o0, .inr (4, [.ref q7, .ref q15, .ref q23, .ref q31, .null, .null, .int (nI 0)])), (q7, .inl (k 0, 12, .inl (fun _ => 0))), (q15, .inl (k 1, 12, .inl (fun _ => 0))), (q23, .inl (k 0, 12, .inl (fun _ => 0))), (q31, .inl (k 2, 48, .inr (.inl (fun _ => 0))))]) H := hP
  have hD : va_D A ([(o0, .inr (4, [.ref q7, .ref q15, .ref q23, .ref q31, .null, .null, .int (nI 0)])), (q7, .inl (k 0, 12, .inl (fun _ => 0))), (q15, .inl (k 1, 12, .inl (fun _ => 0))), (q23, .inl (k 0, 12, .inl (fun _ => 0))), (q31, .inl (k 2, 48, .inr (.inl (fun _ => 0))))]) := hD
  refine lv_aload_n hx hb dX4_init_36 rfl (lv_at hl 0 rfl) ?_
  refine lv_bipush (v := (nI 48)) hx hb dX4_init_37 (by decide) ?_
  refine xx_newa (atype := .long) (a0 := (48, .inr (.inl (fun _ => 0)))) (N' := 48) (ty := .long) hx hb (hts _ tw_54) rfl 2 rfl (fun _ h => h) hK hP hD hS hA (fun _ => rfl) (nI_pos (Nat.le_of_ble_eq_true rfl)) (nI_clamp (Nat.le_of_ble_eq_true rfl)) (Nat.le_of_ble_eq_true rfl) (Nat.le_of_ble_eq_true rfl) (Nat.le_of_ble_eq_true rfl) dX4_init_39 (fun q39 H hP hD hS => ?_)
  have hP : va_P D vwCl ([(o0, .inr (4, [.ref q7, .ref q15, .ref q23, .ref q31, .null, .null, .int (nI 0)])), (q7, .inl (k 0, 12, .inl (fun _ => 0))), (q15, .inl (k 1, 12, .inl (fun _ => 0))), (q23, .inl (k 0, 12, .inl (fun _ => 0))), (q31, .inl (k 2, 48, .inr (.inl (fun _ => 0)))), (q39, .inl (k 2, 48, .inr (.inl (fun _ => 0))))]) H := hP
  have hD : va_D A ([(o0, .inr (4, [.ref q7, .ref q15, .ref q23, .ref q31, .null, .null, .int (nI 0)])), (q7, .inl (k 0, 12, .inl (fun _ => 0))), (q15, .inl (k 1, 12, .inl (fun _ => 0))), (q23, .inl (k 0, 12, .inl (fun _ => 0))), (q31, .inl (k 2, 48, .inr (.inl (fun _ => 0)))), (q39, .inl (k 2, 48, .inr (.inl (fun _ => 0))))]) := hD
  refine W.widen (k := 5) (n := 132) (Nat.le_of_ble_eq_true rfl) (Nat.le_of_ble_eq_true rfl) ?_
  refine va_putF (D := D) (ci := 4) (v := .ref q39) (ty := .array (.long)) (C := RX4) (T := TX4) (N := 7) hx hb hts hinW tyX4 tyX4_ok nmX4 hown hK hP hD hS 0 rfl rfl 4 (by decide) (hts _ tw_34) (fun _ h9 => h9) rfl hin rfl (by decide +kernel) rfl rfl (Nat.le_of_ble_eq_true rfl) dX4_init_41 (fun H locs hP hD hS => ?_)
  have hP : va_P D vwCl ([(o0, .inr (4, [.ref q7, .ref q15, .ref q23, .ref q31, .ref q39, .null, .int (nI 0)])), (q7, .inl (k 0, 12, .inl (fun _ => 0))), (q15, .inl (k 1, 12, .inl (fun _ => 0))), (q23, .inl (k 0, 12, .inl (fun _ => 0))), (q31, .inl (k 2, 48, .inr (.inl (fun _ => 0)))), (q39, .inl (k 2, 48, .inr (.inl (fun _ => 0))))]) H := hP
  have hD : va_D A ([(o0, .inr (4, [.ref q7, .ref q15, .ref q23, .ref q31, .ref q39, .null, .int (nI 0)])), (q7, .inl (k 0, 12, .inl (fun _ => 0))), (q15, .inl (k 1, 12, .inl (fun _ => 0))), (q23, .inl (k 0, 12, .inl (fun _ => 0))), (q31, .inl (k 2, 48, .inr (.inl (fun _ => 0)))), (q39, .inl (k 2, 48, .inr (.inl (fun _ => 0))))]) := hD
  refine lv_aload_n hx hb dX4_init_44 rfl (lv_at hl 0 rfl) ?_
  refine lv_bipush (v := (nI 48)) hx hb dX4_init_45 (by decide) ?_
  refine xx_newa (atype := .long) (a0 := (48, .inr (.inl (fun _ => 0)))) (N' := 48) (ty := .long) hx hb (hts _ tw_54) rfl 2 rfl (fun _ h => h) hK hP hD hS hA (fun _ => rfl) (nI_pos (Nat.le_of_ble_eq_true rfl)) (nI_clamp (Nat.le_of_ble_eq_true rfl)) (Nat.le_of_ble_eq_true rfl) (Nat.le_of_ble_eq_true rfl) (Nat.le_of_ble_eq_true rfl) dX4_init_47 (fun q47 H hP hD hS => ?_)
  have hP : va_P D vwCl ([(o0, .inr (4, [.ref q7, .ref q15, .ref q23, .ref q31, .ref q39, .null, .int (nI 0)])), (q7, .inl (k 0, 12, .inl (fun _ => 0))), (q15, .inl (k 1, 12, .inl (fun _ => 0))), (q23, .inl (k 0, 12, .inl (fun _ => 0))), (q31, .inl (k 2, 48, .inr (.inl (fun _ => 0)))), (q39, .inl (k 2, 48, .inr (.inl (fun _ => 0)))), (q47, .inl (k 2, 48, .inr (.inl (fun _ => 0))))]) H := hP
  have hD : va_D A ([(o0, .inr (4, [.ref q7, .ref q15, .ref q23, .ref q31, .ref q39, .null, .int (nI 0)])), (q7, .inl (k 0, 12, .inl (fun _ => 0))), (q15, .inl (k 1, 12, .inl (fun _ => 0))), (q23, .inl (k 0, 12, .inl (fun _ => 0))), (q31, .inl (k 2, 48, .inr (.inl (fun _ => 0)))), (q39, .inl (k 2, 48, .inr (.inl (fun _ => 0)))), (q47, .inl (k 2, 48, .inr (.inl (fun _ => 0))))]) := hD
  refine W.widen (k := 6) (n := 180) (Nat.le_of_ble_eq_true rfl) (Nat.le_of_ble_eq_true rfl) ?_
  refine va_putF (D := D) (ci := 4) (v := .ref q47) (ty := .array (.long)) (C := RX4) (T := TX4) (N := 7) hx hb hts hinW tyX4 tyX4_ok nmX4 hown hK hP hD hS 0 rfl rfl 5 (by decide) (hts _ tw_35) (fun _ h9 => h9) rfl hin rfl (by decide +kernel) rfl rfl (Nat.le_of_ble_eq_true rfl) dX4_init_49 (fun H locs hP hD hS => ?_)
  have hP : va_P D vwCl ([(o0, .inr (4, [.ref q7, .ref q15, .ref q23, .ref q31, .ref q39, .ref q47, .int (nI 0)])), (q7, .inl (k 0, 12, .inl (fun _ => 0))), (q15, .inl (k 1, 12, .inl (fun _ => 0))), (q23, .inl (k 0, 12, .inl (fun _ => 0))), (q31, .inl (k 2, 48, .inr (.inl (fun _ => 0)))), (q39, .inl (k 2, 48, .inr (.inl (fun _ => 0)))), (q47, .inl (k 2, 48, .inr (.inl (fun _ => 0))))]) H := hP
  have hD : va_D A ([(o0, .inr (4, [.ref q7, .ref q15, .ref q23, .ref q31, .ref q39, .ref q47, .int (nI 0)])), (q7, .inl (k 0, 12, .inl (fun _ => 0))), (q15, .inl (k 1, 12, .inl (fun _ => 0))), (q23, .inl (k 0, 12, .inl (fun _ => 0))), (q31, .inl (k 2, 48, .inr (.inl (fun _ => 0)))), (q39, .inl (k 2, 48, .inr (.inl (fun _ => 0)))), (q47, .inl (k 2, 48, .inr (.inl (fun _ => 0))))]) := hD
  refine lv_aload_n hx hb dX4_init_52 rfl (lv_at hl 0 rfl) ?_
  refine lv_iconst (v := (nI 0)) hx hb dX4_init_53 (by decide) ?_
  refine va_put (D := D) (ci := 4) (v := .int (nI 0)) (ty := .int) (C := RX4) (T := TX4) (N := 7) hx hb hts hinW tyX4 tyX4_ok nmX4 hown hK hP hD hS 0 rfl rfl 6 (by decide) (hts _ tw_36) (fun _ h9 => h9) rfl (by decide +kernel) rfl rfl (Nat.le_of_ble_eq_true rfl) dX4_init_54 (fun H locs hP hD hS => ?_)
  have hP : va_P D vwCl ([(o0, .inr (4, [.ref q7, .ref q15, .ref q23, .ref q31, .ref q39, .ref q47, .int (nI 0)])), (q7, .inl (k 0, 12, .inl (fun _ => 0))), (q15, .inl (k 1, 12, .inl (fun _ => 0))), (q23, .inl (k 0, 12, .inl (fun _ => 0))), (q31, .inl (k 2, 48, .inr (.inl (fun _ => 0)))), (q39, .inl (k 2, 48, .inr (.inl (fun _ => 0)))), (q47, .inl (k 2, 48, .inr (.inl (fun _ => 0))))]) H := hP
  have hD : va_D A ([(o0, .inr (4, [.ref q7, .ref q15, .ref q23, .ref q31, .ref q39, .ref q47, .int (nI 0)])), (q7, .inl (k 0, 12, .inl (fun _ => 0))), (q15, .inl (k 1, 12, .inl (fun _ => 0))), (q23, .inl (k 0, 12, .inl (fun _ => 0))), (q31, .inl (k 2, 48, .inr (.inl (fun _ => 0)))), (q39, .inl (k 2, 48, .inr (.inl (fun _ => 0)))), (q47, .inl (k 2, 48, .inr (.inl (fun _ => 0))))]) := hD
  refine xx_vret (xx_at [o0, q7, q15, q23, q31, q39, q47]) hx hb hr hlocks hS hK hP hD dX4_init_57 ?_
  exact rfl
def p_E_init (o0 : Nat) : (Nat → Nat) → Prop := fun u => u 0 = o0
set_option maxHeartbeats 4000000 in
set_option maxRecDepth 100000 in
theorem c_E_init (l : Launch) (D : va_G) (k : Nat → ClassId) (o0 : Nat) : xx_Cv l yX2_init (.code yX2_init cX2_init 1 none :: xall) ({ frames := 1, cells := 6, slots := 600, locals := 20 } : Room) D vwCl (xT k) [.ref o0] ([(o0, .inr (2, [.null, .null, .null, .null, .null, .null, .int (nI 0)]))]) (p_E_init o0) (fun (u : Nat → Nat) => bE k u 0 (fun _ => 0) (fun _ => 0) (fun _ => 0) (fun _ => 0) (fun _ => 0) (fun _ => false)) 6 600 := by
  intro sz
  refine xx_met (Qf := fun A => va_Qv (p_E_init o0) (xx_B D vwCl (xT k) A (fun (u : Nat → Nat) => bE k u 0 (fun _ => 0) (fun _ => 0) (fun _ => 0) (fun _ => 0) (fun _ => 0) (fun _ => false))) A) (cc := cX2_init) (maxL := 1) (ret := none) (by decide) rfl (Nat.le_of_ble_eq_true rfl) ?_
  intro p e s m below meth c A ls hx hb hr hts hown hlocks hin hml hA hS hP hD hK hN hl
  have hl : lv_has ls 1 [(0, .ref o0)] := hl
  have hown : s.vm.findClass RX2 = some m.cls := hown
  have hinW := inX2
  refine lv_aload_n hx hb dX2_init_0 rfl (lv_at hl 0 rfl) ?_
  refine W.objInit hx hb hown (hts _ tw_60) (hts _ tw_16) (hts _ tw_17) rfl (by rw [hml]; exact hl.1) rfl dX2_init_1 (Nat.le_of_ble_eq_true rfl) (Nat.le_of_ble_eq_true rfl) ?_
  refine W.eq (g2 := F0 m 4 ls []) rfl ?_
  refine lv_aload_n hx hb dX2_init_4 rfl (lv_at hl 0 rfl) ?_
  refine lv_bipush (v := (nI 100)) hx hb dX2_init_5 (by decide) ?_
  refine xx_newa (atype := .int) (a0 := (100, .inl (fun _ => 0))) (N' := 100) (ty := .int) hx hb (hts _ tw_52) rfl 0 rfl (fun _ h => h) hK hP hD hS hA (fun _ => rfl) (nI_pos (Nat.le_of_ble_eq_true rfl)) (nI_clamp (Nat.le_of_ble_eq_true rfl)) (Nat.le_of_ble_eq_true rfl) (Nat.le_of_ble_eq_true rfl) (Nat.le_of_ble_eq_true rfl) dX2_init_7 (fun q7 H hP hD hS => ?_)
  have hP : va_P D vwCl ([(o0, .inr (2, [.null, .null, .null, .null, .null, .null, .int (nI 0)])), (q7, .inl (k 0, 100, .inl (fun _ => 0)))]) H := hP
  have hD : va_D A ([(o0, .inr (2, [.null, .null, .null, .null, .null, .null, .int (nI 0)])), (q7, .inl (k 0, 100, .inl (fun _ => 0)))]) := hD
  refine W.widen (k := 1) (n := 100) (Nat.le_of_ble_eq_true rfl) (Nat.le_of_ble_eq_true rfl) ?_
  refine va_putF (D := D) (ci := 2) (v := .ref q7) (ty := .array (.int)) (C := RX2) (T := TX2) (N := 7) hx hb hts hinW tyX2 tyX2_ok nmX2 hown hK hP hD hS 0 rfl rfl 0 (by decide) (hts _ tw_61) (fun _ h9 => h9) rfl hin rfl (by decide +kernel) rfl rfl (Nat.le_of_ble_eq_true rfl) dX2_init_9 (fun H locs hP hD hS => ?_)
  have hP : va_P D vwCl ([(o0, .inr (2, [.ref q7, .null, .null, .null, .null, .null, .int (nI 0)])), (q7, .inl (k 0, 100, .inl (fun _ => 0)))]) H := hP
  have hD : va_D A ([(o0, .inr (2, [.ref q7, .null, .null, .null, .null, .null, .int (nI 0)])), (q7, .inl (k 0, 100, .inl (fun _ => 0)))]) := hD
  refine lv_aload_n hx hb dX2_init_12 rfl (lv_at hl 0 rfl) ?_
  refine lv_bipush (v := (nI 100)) hx hb dX2_init_13 (by decide) ?_
  refine xx_newa (atype := .int) (a0 := (100, .inl (fun _ => 0))) (N' := 100) (ty := .int) hx hb (hts _ tw_52) rfl 0 rfl (fun _ h => h) hK hP hD hS hA (fun _ => rfl) (nI_pos (Nat.le_of_ble_eq_true rfl)) (nI_clamp (Nat.le_of_ble_eq_true rfl)) (Nat.le_of_ble_eq_true rfl) (Nat.le_of_ble_eq_true rfl) (Nat.le_of_ble_eq_true rfl) dX2_init_15 (fun q15 H hP hD hS => ?_)
  have hP : va_P D vwCl ([(o0, .inr (2, [.ref q7, .null, .null, .null, .null, .null, .int (nI 0)])), (q7, .inl (k 0, 100, .inl (fun _ => 0))), (q15, .inl (k 0, 100, .inl (fun _ => 0)))]) H := hP
  have hD : va_D A ([(o0, .inr (2, [.ref q7, .null, .null, .null, .null, .null, .int (nI 0)])), (q7, .inl (k 0, 100, .inl (fun _ => 0))), (q15, .inl (k 0, 100, .inl (fun _ => 0)))]) := hD
  refine W.widen (k := 2) (n := 200) (Nat.le_of_ble_eq_true rfl) (Nat.le_of_ble_eq_true rfl) ?_
  refine va_putF (D := D) (ci := 2) (v := .ref q15) (ty := .array (.int)) (C := RX2) (T := TX2) (N := 7) hx hb hts hinW tyX2 tyX2_ok nmX2 hown hK hP hD hS 0 rfl rfl 1 (by decide) (hts _ tw_62) (fun _ h9 => h9) rfl hin rfl (by decide +kernel) rfl rfl (Nat.le_of_ble_eq_true rfl) dX2_init_17 (fun H locs hP hD hS => ?_)
  have hP : va_P D vwCl ([(o0, .inr (2, [.ref q7, .ref q15, .null, .null, .null, .null, .int (nI 0)])), (q7, .inl (k 0, 100, .inl (fun _ => 0))), (q15, .inl (k 0, 100, .inl (fun _ => 0)))]) H := hP
  have hD : va_D A ([(o0, .inr (2, [.ref q7, .ref q15, .null, .null, .null, .null, .int (nI 0)])), (q7, .inl (k 0, 100, .inl (fun _ => 0))), (q15, .inl (k 0, 100, .inl (fun _ => 0)))]) := hD
  refine lv_aload_n hx hb dX2_init_20 rfl (lv_at hl 0 rfl) ?_
  refine lv_bipush (v := (nI 100)) hx hb dX2_init_21 (by decide) ?_
  refine xx_newa (atype := .long) (a0 := (100, .inr (.inl (fun _ => 0)))) (N' := 100) (ty := .long) hx hb (hts _ tw_54) rfl 2 rfl (fun _ h => h) hK hP hD hS hA (fun _ => rfl) (nI_pos (Nat.le_of_ble_eq_true rfl)) (nI_clamp (Nat.le_of_ble_eq_true rfl)) (Nat.le_of_ble_eq_true rfl) (Nat.le_of_ble_eq_true rfl) (Nat.le_of_ble_eq_true rfl) dX2_init_23 (fun q23 H hP hD hS => ?_)
  have hP : va_P D vwCl ([(o0, .inr (2, [.ref q7, .ref q15, .null, .null, .null, .null, .int (nI 0)])), (q7, .inl (k 0, 100, .inl (fun _ => 0))), (q15, .inl (k 0, 100, .inl (fun _ => 0))), (q23, .inl (k 2, 100, .inr (.inl (fun _ => 0))))]) H := hP
  have hD : va_D A ([(o0, .inr (2, [.ref q7, .ref q15, .null, .null, .null, .null, .int (nI 0)])), (q7, .inl (k 0, 100, .inl (fun _ => 0))), (q15, .inl (k 0, 100, .inl (fun _ => 0))), (q23, .inl (k 2, 100, .inr (.inl (fun _ => 0))))]) := hD
  refine W.widen (k := 3) (n := 300) (Nat.le_of_ble_eq_true rfl) (Nat.le_of_ble_eq_true rfl) ?_
  refine va_putF (D := D) (ci := 2) (v := .ref q23) (ty := .array (.long)) (C := RX2) (T := TX2) (N := 7) hx hb hts hinW tyX2 tyX2_ok nmX2 hown hK hP hD hS 0 rfl rfl 2 (by decide) (hts _ tw_63) (fun _ h9 => h9) rfl hin rfl (by decide +kernel) rfl rfl (Nat.le_of_ble_eq_true rfl) dX2_init_25 (fun H locs hP hD hS => ?_)
  have hP : va_P D vwCl ([(o0, .inr (2, [.ref q7, .ref q15, .ref q23, .null, .null, .null, .int (nI 0)])), (q7, .inl (k 0, 100, .inl (fun _ => 0))), (q15, .inl (k 0, 100, .inl (fun _ => 0))), (q23, .inl (k 2, 100, .inr (.inl (fun _ => 0))))]) H := hP
  have hD : va_D A ([(o0, .inr (2, [.ref q7, .ref q15, .ref q23, .null, .null, .null, .int (nI 0)])), (q7, .inl (k 0, 100, .inl (fun _ => 0))), (q15, .inl (k 0, 100, .inl (fun _ => 0))), (q23, .inl (k 2, 100, .inr (.inl (fun _ => 0))))]) := hD
  refine lv_aload_n hx hb dX2_init_28 rfl (lv_at hl 0 rfl) ?_
  refine lv_bipush (v := (nI 100)) hx hb dX2_init_29 (by decide) ?_
  refine xx_newa (atype := .long) (a0 := (100, .inr (.inl (fun _ => 0)))) (N' := 100) (ty := .long) hx hb (hts _ tw_54) rfl 2 rfl (fun _ h => h) hK hP hD hS hA (fun _ => rfl) (nI_pos (Nat.le_of_ble_eq_true rfl)) (nI_clamp (Nat.le_of_ble_eq_true rfl)) (Nat.le_of_ble_eq_true rfl) (Nat.le_of_ble_eq_true rfl) (Nat.le_of_ble_eq_true rfl) dX2_init_31 (fun q31 H hP hD hS => ?_)
  have hP : va_P D vwCl ([(o0, .inr (2, [.ref q7, .ref q15, .ref q23, .null, .null, .null, .int (nI 0)])), (q7, .inl (k 0, 100, .inl (fun _ => 0))), (q15, .inl (k 0, 100, .inl (fun _ => 0))), (q23, .inl (k 2, 100, .inr (.inl (fun _ => 0)))), (q31, .inl (k 2, 100, .inr (.inl (fun _ => 0))))]) H := hP
  have hD : va_D A ([(o0, .inr (2, [.ref q7, .ref q15, .ref q23, .null, .null, .null, .int (nI 0)])), (q7, .inl (k 0, 100, .inl (fun _ => 0))), (q15, .inl (k 0, 100, .inl (fun _ => 0))), (q23, .inl (k 2, 100, .inr (.inl (fun _ => 0)))), (q31, .inl (k 2, 100, .inr (.inl (fun _ => 0))))]) := hD
  refine W.widen (k := 4) (n := 400) (Nat.le_of_ble_eq_true rfl) (Nat.le_of_ble_eq_true rfl) ?_
  refine va_putF (D := D) (ci := 2) (v := .ref q31) (ty := .array (.long)) (C := RX2) (T := TX2) (N := 7) hx hb hts hinW tyX2 tyX2_ok nmX2 hown hK hP hD hS 0 rfl rfl 3 (by decide) (hts _ tw_64) (fun _ h9 => h9) rfl hin rfl (by decide +kernel) rfl rfl (Nat.le_of_ble_eq_true rfl) dX2_init_33 (fun H locs hP hD hS => ?_)
  have hP : va_P D vwCl ([(o0, .inr (2, [.ref q7, .ref q15, .ref q23, .ref q31, .null, .null, .int (nI 0)])), (q7, .inl (k 0, 100, .inl (fun _ => 0))), (q15, .inl (k 0, 100, .inl (fun _ => 0))), (q23, .inl (k 2, 100, .inr (.inl (fun _ => 0)))), (q31, .inl (k 2, 100, .inr (.inl (fun _ => 0))))]) H := hP
  have hD : va_D A ([(o0, .inr (2, [.ref q7, .ref q15, .ref q23, .ref q31, .null, .null, .int (nI 0)])), (q7, .inl (k 0, 100, .inl (fun _ => 0))), (q15, .inl (k 0, 100, .inl (fun _ => 0))), (q23, .inl (k 2, 100, .inr (.inl (fun _ => 0)))), (q31, .inl (k 2, 100, .inr (.inl (fun _ => 0))))]) := hD
  refine lv_aload_n hx hb dX2_init_36 rfl (lv_at hl 0 rfl) ?_
  refine lv_bipush (v := (nI 100)) hx hb dX2_init_37 (by decide) ?_
  refine xx_newa (atype := .long) (a0 := (100, .inr (.inl (fun _ => 0)))) (N' := 100) (ty := .long) hx hb (hts _ tw_54) rfl 2 rfl (fun _ h => h) hK hP hD hS hA (fun _ => rfl) (nI_pos (Nat.le_of_ble_eq_true rfl)) (nI_clamp (Nat.le_of_ble_eq_true rfl)) (Nat.le_of_ble_eq_true rfl) (Nat.le_of_ble_eq_true rfl) (Nat.le_of_ble_eq_true rfl) dX2_init_39 (fun q39 H hP hD hS => ?_)
  have hP : va_P D vwCl ([(o0, .inr (2, [.ref q7, .ref q15, .ref q23, .ref q31, .null, .null, .int (nI 0)])), (q7, .inl (k 0, 100, .inl (fun _ => 0))), (q15, .inl (k 0, 100, .inl (fun _ => 0))), (q23, .inl (k 2, 100, .inr (.inl (fun _ => 0)))), (q31, .inl (k 2, 100, .inr (.inl (fun _ => 0)))), (q39, .inl (k 2, 100, .inr (.inl (fun _ => 0))))]) H := hP
  have hD : va_D A ([(o0, .inr (2, [.ref q7, .ref q15, .ref q23, .ref q31, .null, .null, .int (nI 0)])), (q7, .inl (k 0, 100, .inl (fun _ => 0))), (q15, .inl (k 0, 100, .inl (fun _ => 0))), (q23, .inl (k 2, 100, .inr (.inl (fun _ => 0)))), (q31, .inl (k 2, 100, .inr (.inl (fun _ => 0)))), (q39, .inl (k 2, 100, .inr (.inl (fun _ => 0))))]) := hD
  refine W.widen (k := 5) (n := 500) (Nat.le_of_ble_eq_true rfl) (Nat.le_of_ble_eq_true rfl) ?_
  refine va_putF (D := D) (ci := 2) (v := .ref q39) (ty := .array (.long)) (C := RX2) (T := TX2) (N := 7) hx hb hts hinW tyX2 tyX2_ok nmX2 hown hK hP hD hS 0 rfl rfl 4 (by decide) (hts _ tw_65) (fun _ h9 => h9) rfl hin rfl (by decide +kernel) rfl rfl (Nat.le_of_ble_eq_true rfl) dX2_init_41 (fun H locs hP hD hS => ?_)
  have hP : va_P D vwCl ([(o0, .inr (2, [.ref q7, .ref q15, .ref q23, .ref q31, .ref q39, .null, .int (nI 0)])), (q7, .inl (k 0, 100, .inl (fun _ => 0))), (q15, .inl (k 0, 100, .inl (fun _ => 0))), (q23, .inl (k 2, 100, .inr (.inl (fun _ => 0)))), (q31, .inl (k 2, 100, .inr (.inl (fun _ => 0)))), (q39, .inl (k 2, 100, .inr (.inl (fun _ => 0))))]) H := hP
  have hD : va_D A ([(o0, .inr (2, [.ref q7, .ref q15, .ref q23, .ref q31, .ref q39, .null, .int (nI 0)])), (q7, .inl (k 0, 100, .inl (fun _ => 0))), (q15, .inl (k 0, 100, .inl (fun _ => 0))), (q23, .inl (k 2, 100, .inr (.inl (fun _ => 0)))), (q31, .inl (k 2, 100, .inr (.inl (fun _ => 0)))), (q39, .inl (k 2, 100, .inr (.inl (fun _ => 0))))]) := hD
  refine lv_aload_n hx hb dX2_init_44 rfl (lv_at hl 0 rfl) ?_
  refine lv_bipush (v := (nI 100)) hx hb dX2_init_45 (by decide) ?_
  refine xx_newa (atype := .boolean) (a0 := (100, .inl (fun _ => 0))) (N' := 100) (ty := .boolean) hx hb (hts _ tw_53) rfl 1 rfl (fun _ h => h) hK hP hD hS hA (fun _ => rfl) (nI_pos (Nat.le_of_ble_eq_true rfl)) (nI_clamp (Nat.le_of_ble_eq_true rfl)) (Nat.le_of_ble_eq_true rfl) (Nat.le_of_ble_eq_true rfl) (Nat.le_of_ble_eq_true rfl) dX2_init_47 (fun q47 H hP hD hS => ?_)
  have hP : va_P D vwCl ([(o0, .inr (2, [.ref q7, .ref q15, .ref q23, .ref q31, .ref q39, .null, .int (nI 0)])), (q7, .inl (k 0, 100, .inl (fun _ => 0))), (q15, .inl (k 0, 100, .inl (fun _ => 0))), (q23, .inl (k 2, 100, .inr (.inl (fun _ => 0)))), (q31, .inl (k 2, 100, .inr (.inl (fun _ => 0)))), (q39, .inl (k 2, 100, .inr (.inl (fun _ => 0)))), (q47, .inl (k 1, 100, .inl (fun _ => 0)))]) H := hP
  have hD : va_D A ([(o0, .inr (2, [.ref q7, .ref q15, .ref q23, .ref q31, .ref q39, .null, .int (nI 0)])), (q7, .inl (k 0, 100, .inl (fun _ => 0))), (q15, .inl (k 0, 100, .inl (fun _ => 0))), (q23, .inl (k 2, 100, .inr (.inl (fun _ => 0)))), (q31, .inl (k 2, 100, .inr (.inl (fun _ => 0)))), (q39, .inl (k 2, 100, .inr (.inl (fun _ => 0)))), (q47, .inl (k 1, 100, .inl (fun _ => 0)))]) := hD
  refine W.widen (k := 6) (n := 600) (Nat.le_of_ble_eq_true rfl) (Nat.le_of_ble_eq_true rfl) ?_
  refine va_putF (D := D) (ci := 2) (v := .ref q47) (ty := .array (.boolean)) (C := RX2) (T := TX2) (N := 7) hx hb hts hinW tyX2 tyX2_ok nmX2 hown hK hP hD hS 0 rfl rfl 5 (by decide) (hts _ tw_66) (fun _ h9 => h9) rfl hin rfl (by decide +kernel) rfl rfl (Nat.le_of_ble_eq_true rfl) dX2_init_49 (fun H locs hP hD hS => ?_)
  have hP : va_P D vwCl ([(o0, .inr (2, [.ref q7, .ref q15, .ref q23, .ref q31, .ref q39, .ref q47, .int (nI 0)])), (q7, .inl (k 0, 100, .inl (fun _ => 0))), (q15, .inl (k 0, 100, .inl (fun _ => 0))), (q23, .inl (k 2, 100, .inr (.inl (fun _ => 0)))), (q31, .inl (k 2, 100, .inr (.inl (fun _ => 0)))), (q39, .inl (k 2, 100, .inr (.inl (fun _ => 0)))), (q47, .inl (k 1, 100, .inl (fun _ => 0)))]) H := hP
  have hD : va_D A ([(o0, .inr (2, [.ref q7, .ref q15, .ref q23, .ref q31, .ref q39, .ref q47, .int (nI 0)])), (q7, .inl (k 0, 100, .inl (fun _ => 0))), (q15, .inl (k 0, 100, .inl (fun _ => 0))), (q23, .inl (k 2, 100, .inr (.inl (fun _ => 0)))), (q31, .inl (k 2, 100, .inr (.inl (fun _ => 0)))), (q39, .inl (k 2, 100, .inr (.inl (fun _ => 0)))), (q47, .inl (k 1, 100, .inl (fun _ => 0)))]) := hD
  refine lv_aload_n hx hb dX2_init_52 rfl (lv_at hl 0 rfl) ?_
  refine lv_iconst (v := (nI 0)) hx hb dX2_init_53 (by decide) ?_
  refine va_put (D := D) (ci := 2) (v := .int (nI 0)) (ty := .int) (C := RX2) (T := TX2) (N := 7) hx hb hts hinW tyX2 tyX2_ok nmX2 hown hK hP hD hS 0 rfl rfl 6 (by decide) (hts _ tw_67) (fun _ h9 => h9) rfl (by decide +kernel) rfl rfl (Nat.le_of_ble_eq_true rfl) dX2_init_54 (fun H locs hP hD hS => ?_)
  have hP : va_P D vwCl ([(o0, .inr (2, [.ref q7, .ref q15, .ref q23, .ref q31, .ref q39, .ref q47, .int (nI 0)])), (q7, .inl (k 0, 100, .inl (fun _ => 0))), (q15, .inl (k 0, 100, .inl (fun _ => 0))), (q23, .inl (k 2, 100, .inr (.inl (fun _ => 0)))), (q31, .inl (k 2, 100, .inr (.inl (fun _ => 0)))), (q39, .inl (k 2, 100, .inr (.inl (fun _ => 0)))), (q47, .inl (k 1, 100, .inl (fun _ => 0)))]) H := hP
  have hD : va_D A ([(o0, .inr (2, [.ref q7, .ref q15, .ref q23, .ref q31, .ref q39, .ref q47, .int (nI 0)])), (q7, .inl (k 0, 100, .inl (fun _ => 0))), (q15, .inl (k 0, 100, .inl (fun _ => 0))), (q23, .inl (k 2, 100, .inr (.inl (fun _ => 0)))), (q31, .inl (k 2, 100, .inr (.inl (fun _ => 0)))), (q39, .inl (k 2, 100, .inr (.inl (fun _ => 0)))), (q47, .inl (k 1, 100, .inl (fun _ => 0)))]) := hD
  refine xx_vret (xx_at [o0, q7, q15, q23, q31, q39, q47]) hx hb hr hlocks hS hK hP hD dX2_init_57 ?_
  exact rfl
def p_C_init (o0 : Nat) : (Nat → Nat) → Prop := fun u => u 0 = o0
set_option maxHeartbeats 4000000 in
set_option maxRecDepth 100000 in
theorem c_C_init (l : Launch) (D : va_G) (k : Nat → ClassId) (o0 : Nat) : xx_Cv l yX1_init (.code yX1_init cX1_init 1 none :: xall) ({ frames := 1, cells := 3, slots := 150, locals := 20 } : Room) D vwCl (xT k) [.ref o0] ([(o0, .inr (1, [.null, .null, .null, .int (nI 0)]))]) (p_C_init o0) (fun (u : Nat → Nat) => bC k u 0 (fun _ => 0) (fun _ => 0) (fun _ => 0)) 3 150 := by
  intro sz
  refine xx_met (Qf := fun A => va_Qv (p_C_init o0) (xx_B D vwCl (xT k) A (fun (u : Nat → Nat) => bC k u 0 (fun _ => 0) (fun _ => 0) (fun _ => 0))) A) (cc := cX1_init) (maxL := 1) (ret := none) (by decide) rfl (Nat.le_of_ble_eq_true rfl) ?_
  intro p e s m below meth c A ls hx hb hr hts hown hlocks hin hml hA hS hP hD hK hN hl
  have hl : lv_has ls 1 [(0, .ref o0)] := hl
  have hown : s.vm.findClass RX1 = some m.cls := hown
  have hinW := inX1
  refine lv_aload_n hx hb dX1_init_0 rfl (lv_at hl 0 rfl) ?_
  refine W.objInit hx hb hown (hts _ tw_88) (hts _ tw_16) (hts _ tw_17) rfl (by rw [hml]; exact hl.1) rfl dX1_init_1 (Nat.le_of_ble_eq_true rfl) (Nat.le_of_ble_eq_true rfl) ?_
  refine W.eq (g2 := F0 m 4 ls []) rfl ?_
  refine lv_aload_n hx hb dX1_init_4 rfl (lv_at hl 0 rfl) ?_
  refine lv_bipush (v := (nI 50)) hx hb dX1_init_5 (by decide) ?_
  refine xx_newa (atype := .long) (a0 := (50, .inr (.inl (fun _ => 0)))) (N' := 50) (ty := .long) hx hb (hts _ tw_54) rfl 2 rfl (fun _ h => h) hK hP hD hS hA (fun _ => rfl) (nI_pos (Nat.le_of_ble_eq_true rfl)) (nI_clamp (Nat.le_of_ble_eq_true rfl)) (Nat.le_of_ble_eq_true rfl) (Nat.le_of_ble_eq_true rfl) (Nat.le_of_ble_eq_true rfl) dX1_init_7 (fun q7 H hP hD hS => ?_)
  have hP : va_P D vwCl ([(o0, .inr (1, [.null, .null, .null, .int (nI 0)])), (q7, .inl (k 2, 50, .inr (.inl (fun _ => 0))))]) H := hP
  have hD : va_D A ([(o0, .inr (1, [.null, .null, .null, .int (nI 0)])), (q7, .inl (k 2, 50, .inr (.inl (fun _ => 0))))]) := hD
  refine W.widen (k := 1) (n := 50) (Nat.le_of_ble_eq_true rfl) (Nat.le_of_ble_eq_true rfl) ?_
  refine va_putF (D := D) (ci := 1) (v := .ref q7) (ty := .array (.long)) (C := RX1) (T := TX1) (N := 4) hx hb hts hinW tyX1 tyX1_ok nmX1 hown hK hP hD hS 0 rfl rfl 0 (by decide) (hts _ tw_89) (fun _ h9 => h9) rfl hin rfl (by decide +kernel) rfl rfl (Nat.le_of_ble_eq_true rfl) dX1_init_9 (fun H locs hP hD hS => ?_)
  have hP : va_P D vwCl ([(o0, .inr (1, [.ref q7, .null, .null, .int (nI 0)])), (q7, .inl (k 2, 50, .inr (.inl (fun _ => 0))))]) H := hP
  have hD : va_D A ([(o0, .inr (1, [.ref q7, .null, .null, .int (nI 0)])), (q7, .inl (k 2, 50, .inr (.inl (fun _ => 0))))]) := hD
  refine lv_aload_n hx hb dX1_init_12 rfl (lv_at hl 0 rfl) ?_
  refine lv_bipush (v := (nI 50)) hx hb dX1_init_13 (by decide) ?_
  refine xx_newa (atype := .int) (a0 := (50, .inl (fun _ => 0))) (N' := 50) (ty := .int) hx hb (hts _ tw_52) rfl 0 rfl (fun _ h => h) hK hP hD hS hA (fun _ => rfl) (nI_pos (Nat.le_of_ble_eq_true rfl)) (nI_clamp (Nat.le_of_ble_eq_true rfl)) (Nat.le_of_ble_eq_true rfl) (Nat.le_of_ble_eq_true rfl) (Nat.le_of_ble_eq_true rfl) dX1_init_15 (fun q15 H hP hD hS => ?_)
  have hP : va_P D vwCl ([(o0, .inr (1, [.ref q7, .null, .null, .int (nI 0)])), (q7, .inl (k 2, 50, .inr (.inl (fun _ => 0)))), (q15, .inl (k 0, 50, .inl (fun _ => 0)))]) H := hP
  have hD : va_D A ([(o0, .inr (1, [.ref q7, .null, .null, .int (nI 0)])), (q7, .inl (k 2, 50, .inr (.inl (fun _ => 0)))), (q15, .inl (k 0, 50, .inl (fun _ => 0)))]) := hD
  refine W.widen (k := 2) (n := 100) (Nat.le_of_ble_eq_true rfl) (Nat.le_of_ble_eq_true rfl) ?_
  refine va_putF (D := D) (ci := 1) (v := .ref q15) (ty := .array (.int)) (C := RX1) (T := TX1) (N := 4) hx hb hts hinW tyX1 tyX1_ok nmX1 hown hK hP hD hS 0 rfl rfl 1 (by decide) (hts _ tw_90) (fun _ h9 => h9) rfl hin rfl (by decide +kernel) rfl rfl (Nat.le_of_ble_eq_true rfl) dX1_init_17 (fun H locs hP hD hS => ?_)
  have hP : va_P D vwCl ([(o0, .inr (1, [.ref q7, .ref q15, .null, .int (nI 0)])), (q7, .inl (k 2, 50, .inr (.inl (fun _ => 0)))), (q15, .inl (k 0, 50, .inl (fun _ => 0)))]) H := hP
  have hD : va_D A ([(o0, .inr (1, [.ref q7, .ref q15, .null, .int (nI 0)])), (q7, .inl (k 2, 50, .inr (.inl (fun _ => 0)))), (q15, .inl (k 0, 50, .inl (fun _ => 0)))]) := hD
  refine lv_aload_n hx hb dX1_init_20 rfl (lv_at hl 0 rfl) ?_
  refine lv_bipush (v := (nI 50)) hx hb dX1_init_21 (by decide) ?_
  refine xx_newa (atype := .int) (a0 := (50, .inl (fun _ => 0))) (N' := 50) (ty := .int) hx hb (hts _ tw_52) rfl 0 rfl (fun _ h => h) hK hP hD hS hA (fun _ => rfl) (nI_pos (Nat.le_of_ble_eq_true rfl)) (nI_clamp (Nat.le_of_ble_eq_true rfl)) (Nat.le_of_ble_eq_true rfl) (Nat.le_of_ble_eq_true rfl) (Nat.le_of_ble_eq_true rfl) dX1_init_23 (fun q23 H hP hD hS => ?_)
  have hP : va_P D vwCl ([(o0, .inr (1, [.ref q7, .ref q15, .null, .int (nI 0)])), (q7, .inl (k 2, 50, .inr (.inl (fun _ => 0)))), (q15, .inl (k 0, 50, .inl (fun _ => 0))), (q23, .inl (k 0, 50, .inl (fun _ => 0)))]) H := hP
  have hD : va_D A ([(o0, .inr (1, [.ref q7, .ref q15, .null, .int (nI 0)])), (q7, .inl (k 2, 50, .inr (.inl (fun _ => 0)))), (q15, .inl (k 0, 50, .inl (fun _ => 0))), (q23, .inl (k 0, 50, .inl (fun _ => 0)))]) := hD
  refine W.widen (k := 3) (n := 150) (Nat.le_of_ble_eq_true rfl) (Nat.le_of_ble_eq_true rfl) ?_
  refine va_putF (D := D) (ci := 1) (v := .ref q23) (ty := .array (.int)) (C := RX1) (T := TX1) (N := 4) hx hb hts hinW tyX1 tyX1_ok nmX1 hown hK hP hD hS 0 rfl rfl 2 (by decide) (hts _ tw_91) (fun _ h9 => h9) rfl hin rfl (by decide +kernel) rfl rfl (Nat.le_of_ble_eq_true rfl) dX1_init_25 (fun H locs hP hD hS => ?_)
  have hP : va_P D vwCl ([(o0, .inr (1, [.ref q7, .ref q15, .ref q23, .int (nI 0)])), (q7, .inl (k 2, 50, .inr (.inl (fun _ => 0)))), (q15, .inl (k 0, 50, .inl (fun _ => 0))), (q23, .inl (k 0, 50, .inl (fun _ => 0)))]) H := hP
  have hD : va_D A ([(o0, .inr (1, [.ref q7, .ref q15, .ref q23, .int (nI 0)])), (q7, .inl (k 2, 50, .inr (.inl (fun _ => 0)))), (q15, .inl (k 0, 50, .inl (fun _ => 0))), (q23, .inl (k 0, 50, .inl (fun _ => 0)))]) := hD
  refine lv_aload_n hx hb dX1_init_28 rfl (lv_at hl 0 rfl) ?_
  refine lv_iconst (v := (nI 0)) hx hb dX1_init_29 (by decide) ?_
  refine va_put (D := D) (ci := 1) (v := .int (nI 0)) (ty := .int) (C := RX1) (T := TX1) (N := 4) hx hb hts hinW tyX1 tyX1_ok nmX1 hown hK hP hD hS 0 rfl rfl 3 (by decide) (hts _ tw_92) (fun _ h9 => h9) rfl (by decide +kernel) rfl rfl (Nat.le_of_ble_eq_true rfl) dX1_init_30 (fun H locs hP hD hS => ?_)
  have hP : va_P D vwCl ([(o0, .inr (1, [.ref q7, .ref q15, .ref q23, .int (nI 0)])), (q7, .inl (k 2, 50, .inr (.inl (fun _ => 0)))), (q15, .inl (k 0, 50, .inl (fun _ => 0))), (q23, .inl (k 0, 50, .inl (fun _ => 0)))]) H := hP
  have hD : va_D A ([(o0, .inr (1, [.ref q7, .ref q15, .ref q23, .int (nI 0)])), (q7, .inl (k 2, 50, .inr (.inl (fun _ => 0)))), (q15, .inl (k 0, 50, .inl (fun _ => 0))), (q23, .inl (k 0, 50, .inl (fun _ => 0)))]) := hD
  refine xx_vret (xx_at [o0, q7, q15, q23]) hx hb hr hlocks hS hK hP hD dX1_init_33 ?_
  exact rfl
def p_U_init (o0 : Nat) : (Nat → Nat) → Prop := fun u => u 0 = o0
set_option maxHeartbeats 4000000 in
set_option maxRecDepth 100000 in
theorem c_U_init (l : Launch) (D : va_G) (k : Nat → ClassId) (o0 : Nat) : xx_Cv l yX3_init (.code yX3_init cX3_init 1 none :: xall) ({ frames := 1, cells := 4, slots := 80, locals := 20 } : Room) D vwCl (xT k) [.ref o0] ([(o0, .inr (3, [.null, .null, .null, .null, .int (nI 0)]))]) (p_U_init o0) (fun (u : Nat → Nat) => bU k u 0 (fun _ => 0) (fun _ => 0) (fun _ => 0) (fun _ => 0)) 4 80 := by
  intro sz
  refine xx_met (Qf := fun A => va_Qv (p_U_init o0) (xx_B D vwCl (xT k) A (fun (u : Nat → Nat) => bU k u 0 (fun _ => 0) (fun _ => 0) (fun _ => 0) (fun _ => 0))) A) (cc := cX3_init) (maxL := 1) (ret := none) (by decide) rfl (Nat.le_of_ble_eq_true rfl) ?_
  intro p e s m below meth c A ls hx hb hr hts hown hlocks hin hml hA hS hP hD hK hN hl
  have hl : lv_has ls 1 [(0, .ref o0)] := hl
  have hown : s.vm.findClass RX3 = some m.cls := hown
  have hinW := inX3
  refine lv_aload_n hx hb dX3_init_0 rfl (lv_at hl 0 rfl) ?_
  refine W.objInit hx hb hown (hts _ tw_107) (hts _ tw_16) (hts _ tw_17) rfl (by rw [hml]; exact hl.1) rfl dX3_init_1 (Nat.le_of_ble_eq_true rfl) (Nat.le_of_ble_eq_true rfl) ?_
  refine W.eq (g2 := F0 m 4 ls []) rfl ?_
  refine lv_aload_n hx hb dX3_init_4 rfl (lv_at hl 0 rfl) ?_
  refine lv_bipush (v := (nI 20)) hx hb dX3_init_5 (by decide) ?_
  refine xx_newa (atype := .int) (a0 := (20, .inl (fun _ => 0))) (N' := 20) (ty := .int) hx hb (hts _ tw_52) rfl 0 rfl (fun _ h => h) hK hP hD hS hA (fun _ => rfl) (nI_pos (Nat.le_of_ble_eq_true rfl)) (nI_clamp (Nat.le_of_ble_eq_true rfl)) (Nat.le_of_ble_eq_true rfl) (Nat.le_of_ble_eq_true rfl) (Nat.le_of_ble_eq_true rfl) dX3_init_7 (fun q7 H hP hD hS => ?_)
  have hP : va_P D vwCl ([(o0, .inr (3, [.null, .null, .null, .null, .int (nI 0)])), (q7, .inl (k 0, 20, .inl (fun _ => 0)))]) H := hP
  have hD : va_D A ([(o0, .inr (3, [.null, .null, .null, .null, .int (nI 0)])), (q7, .inl (k 0, 20, .inl (fun _ => 0)))]) := hD
  refine W.widen (k := 1) (n := 20) (Nat.le_of_ble_eq_true rfl) (Nat.le_of_ble_eq_true rfl) ?_
  refine va_putF (D := D) (ci := 3) (v := .ref q7) (ty := .array (.int)) (C := RX3) (T := TX3) (N := 5) hx hb hts hinW tyX3 tyX3_ok nmX3 hown hK hP hD hS 0 rfl rfl 0 (by decide) (hts _ tw_108) (fun _ h9 => h9) rfl hin rfl (by decide +kernel) rfl rfl (Nat.le_of_ble_eq_true rfl) dX3_init_9 (fun H locs hP hD hS => ?_)
  have hP : va_P D vwCl ([(o0, .inr (3, [.ref q7, .null, .null, .null, .int (nI 0)])), (q7, .inl (k 0, 20, .inl (fun _ => 0)))]) H := hP
  have hD : va_D A ([(o0, .inr (3, [.ref q7, .null, .null, .null, .int (nI 0)])), (q7, .inl (k 0, 20, .inl (fun _ => 0)))]) := hD
  refine lv_aload_n hx hb dX3_init_12 rfl (lv_at hl 0 rfl) ?_
  refine lv_bipush (v := (nI 20)) hx hb dX3_init_13 (by decide) ?_
  refine xx_newa (atype := .int) (a0 := (20, .inl (fun _ => 0))) (N' := 20) (ty := .int) hx hb (hts _ tw_52) rfl 0 rfl (fun _ h => h) hK hP hD hS hA (fun _ => rfl) (nI_pos (Nat.le_of_ble_eq_true rfl)) (nI_clamp (Nat.le_of_ble_eq_true rfl)) (Nat.le_of_ble_eq_true rfl) (Nat.le_of_ble_eq_true rfl) (Nat.le_of_ble_eq_true rfl) dX3_init_15 (fun q15 H hP hD hS => ?_)
  have hP : va_P D vwCl ([(o0, .inr (3, [.ref q7, .null, .null, .null, .int (nI 0)])), (q7, .inl (k 0, 20, .inl (fun _ => 0))), (q15, .inl (k 0, 20, .inl (fun _ => 0)))]) H := hP
  have hD : va_D A ([(o0, .inr (3, [.ref q7, .null, .null, .null, .int (nI 0)])), (q7, .inl (k 0, 20, .inl (fun _ => 0))), (q15, .inl (k 0, 20, .inl (fun _ => 0)))]) := hD
  refine W.widen (k := 2) (n := 40) (Nat.le_of_ble_eq_true rfl) (Nat.le_of_ble_eq_true rfl) ?_
  refine va_putF (D := D) (ci := 3) (v := .ref q15) (ty := .array (.int)) (C := RX3) (T := TX3) (N := 5) hx hb hts hinW tyX3 tyX3_ok nmX3 hown hK hP hD hS 0 rfl rfl 1 (by decide) (hts _ tw_109) (fun _ h9 => h9) rfl hin rfl (by decide +kernel) rfl rfl (Nat.le_of_ble_eq_true rfl) dX3_init_17 (fun H locs hP hD hS => ?_)
  have hP : va_P D vwCl ([(o0, .inr (3, [.ref q7, .ref q15, .null, .null, .int (nI 0)])), (q7, .inl (k 0, 20, .inl (fun _ => 0))), (q15, .inl (k 0, 20, .inl (fun _ => 0)))]) H := hP
  have hD : va_D A ([(o0, .inr (3, [.ref q7, .ref q15, .null, .null, .int (nI 0)])), (q7, .inl (k 0, 20, .inl (fun _ => 0))), (q15, .inl (k 0, 20, .inl (fun _ => 0)))]) := hD
  refine lv_aload_n hx hb dX3_init_20 rfl (lv_at hl 0 rfl) ?_
  refine lv_bipush (v := (nI 20)) hx hb dX3_init_21 (by decide) ?_
  refine xx_newa (atype := .int) (a0 := (20, .inl (fun _ => 0))) (N' := 20) (ty := .int) hx hb (hts _ tw_52) rfl 0 rfl (fun _ h => h) hK hP hD hS hA (fun _ => rfl) (nI_pos (Nat.le_of_ble_eq_true rfl)) (nI_clamp (Nat.le_of_ble_eq_true rfl)) (Nat.le_of_ble_eq_true rfl) (Nat.le_of_ble_eq_true rfl) (Nat.le_of_ble_eq_true rfl) dX3_init_23 (fun q23 H hP hD hS => ?_)
  have hP : va_P D vwCl ([(o0, .inr (3, [.ref q7, .ref q15, .null, .null, .int (nI 0)])), (q7, .inl (k 0, 20, .inl (fun _ => 0))), (q15, .inl (k 0, 20, .inl (fun _ => 0))), (q23, .inl (k 0, 20, .inl (fun _ => 0)))]) H := hP
  have hD : va_D A ([(o0, .inr (3, [.ref q7, .ref q15, .null, .null, .int (nI 0)])), (q7, .inl (k 0, 20, .inl (fun _ => 0))), (q15, .inl (k 0, 20, .inl (fun _ => 0))), (q23, .inl (k 0, 20, .inl (fun _ => 0)))]) := hD
  refine W.widen (k := 3) (n := 60) (Nat.le_of_ble_eq_true rfl) (Nat.le_of_ble_eq_true rfl) ?_
  refine va_putF (D := D) (ci := 3) (v := .ref q23) (ty := .array (.int)) (C := RX3) (T := TX3) (N := 5) hx hb hts hinW tyX3 tyX3_ok nmX3 hown hK hP hD hS 0 rfl rfl 2 (by decide) (hts _ tw_110) (fun _ h9 => h9) rfl hin rfl (by decide +kernel) rfl rfl (Nat.le_of_ble_eq_true rfl) dX3_init_25 (fun H locs hP hD hS => ?_)
  have hP : va_P D vwCl ([(o0, .inr (3, [.ref q7, .ref q15, .ref q23, .null, .int (nI 0)])), (q7, .inl (k 0, 20, .inl (fun _ => 0))), (q15, .inl (k 0, 20, .inl (fun _ => 0))), (q23, .inl (k 0, 20, .inl (fun _ => 0)))]) H := hP
  have hD : va_D A ([(o0, .inr (3, [.ref q7, .ref q15, .ref q23, .null, .int (nI 0)])), (q7, .inl (k 0, 20, .inl (fun _ => 0))), (q15, .inl (k 0, 20, .inl (fun _ => 0))), (q23, .inl (k 0, 20, .inl (fun _ => 0)))]) := hD
  refine lv_aload_n hx hb dX3_init_28 rfl (lv_at hl 0 rfl) ?_
  refine lv_bipush (v := (nI 20)) hx hb dX3_init_29 (by decide) ?_
  refine xx_newa (atype := .int) (a0 := (20, .inl (fun _ => 0))) (N' := 20) (ty := .int) hx hb (hts _ tw_52) rfl 0 rfl (fun _ h => h) hK hP hD hS hA (fun _ => rfl) (nI_pos (Nat.le_of_ble_eq_true rfl)) (nI_clamp (Nat.le_of_ble_eq_true rfl)) (Nat.le_of_ble_eq_true rfl) (Nat.le_of_ble_eq_true rfl) (Nat.le_of_ble_eq_true rfl) dX3_init_31 (fun q31 H hP hD hS => ?_)
  have hP : va_P D vwCl ([(o0, .inr (3, [.ref q7, .ref q15, .ref q23, .null, .int (nI 0)])), (q7, .inl (k 0, 20, .inl (fun _ => 0))), (q15, .inl (k 0, 20, .inl (fun _ => 0))), (q23, .inl (k 0, 20, .inl (fun _ => 0))), (q31, .inl (k 0, 20, .inl (fun _ => 0)))]) H := hP
  have hD : va_D A ([(o0, .inr (3, [.ref q7, .ref q15, .ref q23, .null, .int (nI 0)])), (q7, .inl (k 0, 20, .inl (fun _ => 0))), (q15, .inl (k 0, 20, .inl (fun _ => 0))), (q23, .inl (k 0, 20, .inl (fun _ => 0))), (q31, .inl (k 0, 20, .inl (fun _ => 0)))]) := hD
  refine W.widen (k := 4) (n := 80) (Nat.le_of_ble_eq_true rfl) (Nat.le_of_ble_eq_true rfl) ?_
  refine va_putF (D := D) (ci := 3) (v := .ref q31) (ty := .array (.int)) (C := RX3) (T := TX3) (N := 5) hx hb hts hinW tyX3 tyX3_ok nmX3 hown hK hP hD hS 0 rfl rfl 3 (by decide) (hts _ tw_111) (fun _ h9 => h9) rfl hin rfl (by decide +kernel) rfl rfl (Nat.le_of_ble_eq_true rfl) dX3_init_33 (fun H locs hP hD hS => ?_)
  have hP : va_P D vwCl ([(o0, .inr (3, [.ref q7, .ref q15, .ref q23, .ref q31, .int (nI 0)])), (q7, .inl (k 0, 20, .inl (fun _ => 0))), (q15, .inl (k 0, 20, .inl (fun _ => 0))), (q23, .inl (k 0, 20, .inl (fun _ => 0))), (q31, .inl (k 0, 20, .inl (fun _ => 0)))]) H := hP
  have hD : va_D A ([(o0, .inr (3, [.ref q7, .ref q15, .ref q23, .ref q31, .int (nI 0)])), (q7, .inl (k 0, 20, .inl (fun _ => 0))), (q15, .inl (k 0, 20, .inl (fun _ => 0))), (q23, .inl (k 0, 20, .inl (fun _ => 0))), (q31, .inl (k 0, 20, .inl (fun _ => 0)))]) := hD
  refine lv_aload_n hx hb dX3_init_36 rfl (lv_at hl 0 rfl) ?_
  refine lv_iconst (v := (nI 0)) hx hb dX3_init_37 (by decide) ?_
  refine va_put (D := D) (ci := 3) (v := .int (nI 0)) (ty := .int) (C := RX3) (T := TX3) (N := 5) hx hb hts hinW tyX3 tyX3_ok nmX3 hown hK hP hD hS 0 rfl rfl 4 (by decide) (hts _ tw_112) (fun _ h9 => h9) rfl (by decide +kernel) rfl rfl (Nat.le_of_ble_eq_true rfl) dX3_init_38 (fun H locs hP hD hS => ?_)
  have hP : va_P D vwCl ([(o0, .inr (3, [.ref q7, .ref q15, .ref q23, .ref q31, .int (nI 0)])), (q7, .inl (k 0, 20, .inl (fun _ => 0))), (q15, .inl (k 0, 20, .inl (fun _ => 0))), (q23, .inl (k 0, 20, .inl (fun _ => 0))), (q31, .inl (k 0, 20, .inl (fun _ => 0)))]) H := hP
  have hD : va_D A ([(o0, .inr (3, [.ref q7, .ref q15, .ref q23, .ref q31, .int (nI 0)])), (q7, .inl (k 0, 20, .inl (fun _ => 0))), (q15, .inl (k 0, 20, .inl (fun _ => 0))), (q23, .inl (k 0, 20, .inl (fun _ => 0))), (q31, .inl (k 0, 20, .inl (fun _ => 0)))]) := hD
  refine xx_vret (xx_at [o0, q7, q15, q23, q31]) hx hb hr hlocks hS hK hP hD dX3_init_41 ?_
  exact rfl
def p_A_init (o0 : Nat) : (Nat → Nat) → Prop := fun u => u 0 = o0
set_option maxHeartbeats 4000000 in
set_option maxRecDepth 100000 in
theorem c_A_init (l : Launch) (D : va_G) (k : Nat → ClassId) (o0 : Nat) : xx_Cv l yX0_init (.code yX0_init cX0_init 1 none :: xall) ({ frames := 1, cells := 1, slots := 1000, locals := 20 } : Room) D vwCl (xT k) [.ref o0] ([(o0, .inr (0, [.null, .int (nI 0)]))]) (p_A_init o0) (fun (u : Nat → Nat) => bA k u 0 (fun _ => 0)) 1 1000 := by
  intro sz
  refine xx_met (Qf := fun A => va_Qv (p_A_init o0) (xx_B D vwCl (xT k) A (fun (u : Nat → Nat) => bA k u 0 (fun _ => 0))) A) (cc := cX0_init) (maxL := 1) (ret := none) (by decide) rfl (Nat.le_of_ble_eq_true rfl) ?_
  intro p e s m below meth c A ls hx hb hr hts hown hlocks hin hml hA hS hP hD hK hN hl
  have hl : lv_has ls 1 [(0, .ref o0)] := hl
  have hown : s.vm.findClass RX0 = some m.cls := hown
  have hinW := inX0
  refine lv_aload_n hx hb dX0_init_0 rfl (lv_at hl 0 rfl) ?_
  refine W.objInit hx hb hown (hts _ tw_129) (hts _ tw_16) (hts _ tw_17) rfl (by rw [hml]; exact hl.1) rfl dX0_init_1 (Nat.le_of_ble_eq_true rfl) (Nat.le_of_ble_eq_true rfl) ?_
  refine W.eq (g2 := F0 m 4 ls []) rfl ?_
  refine lv_aload_n hx hb dX0_init_4 rfl (lv_at hl 0 rfl) ?_
  refine lv_sipush (v := (nI 1000)) hx hb dX0_init_5 (by decide) ?_
  refine xx_newa (atype := .int) (a0 := (1000, .inl (fun _ => 0))) (N' := 1000) (ty := .int) hx hb (hts _ tw_52) rfl 0 rfl (fun _ h => h) hK hP hD hS hA (fun _ => rfl) (nI_pos (Nat.le_of_ble_eq_true rfl)) (nI_clamp (Nat.le_of_ble_eq_true rfl)) (Nat.le_of_ble_eq_true rfl) (Nat.le_of_ble_eq_true rfl) (Nat.le_of_ble_eq_true rfl) dX0_init_8 (fun q8 H hP hD hS => ?_)
  have hP : va_P D vwCl ([(o0, .inr (0, [.null, .int (nI 0)])), (q8, .inl (k 0, 1000, .inl (fun _ => 0)))]) H := hP
  have hD : va_D A ([(o0, .inr (0, [.null, .int (nI 0)])), (q8, .inl (k 0, 1000, .inl (fun _ => 0)))]) := hD
  refine W.widen (k := 1) (n := 1000) (Nat.le_of_ble_eq_true rfl) (Nat.le_of_ble_eq_true rfl) ?_
  refine va_putF (D := D) (ci := 0) (v := .ref q8) (ty := .array (.int)) (C := RX0) (T := TX0) (N := 2) hx hb hts hinW tyX0 tyX0_ok nmX0 hown hK hP hD hS 0 rfl rfl 0 (by decide) (hts _ tw_130) (fun _ h9 => h9) rfl hin rfl (by decide +kernel) rfl rfl (Nat.le_of_ble_eq_true rfl) dX0_init_10 (fun H locs hP hD hS => ?_)
  have hP : va_P D vwCl ([(o0, .inr (0, [.ref q8, .int (nI 0)])), (q8, .inl (k 0, 1000, .inl (fun _ => 0)))]) H := hP
  have hD : va_D A ([(o0, .inr (0, [.ref q8, .int (nI 0)])), (q8, .inl (k 0, 1000, .inl (fun _ => 0)))]) := hD
  refine lv_aload_n hx hb dX0_init_13 rfl (lv_at hl 0 rfl) ?_
  refine lv_iconst (v := (nI 0)) hx hb dX0_init_14 (by decide) ?_
  refine va_put (D := D) (ci := 0) (v := .int (nI 0)) (ty := .int) (C := RX0) (T := TX0) (N := 2) hx hb hts hinW tyX0 tyX0_ok nmX0 hown hK hP hD hS 0 rfl rfl 1 (by decide) (hts _ tw_131) (fun _ h9 => h9) rfl (by decide +kernel) rfl rfl (Nat.le_of_ble_eq_true rfl) dX0_init_15 (fun H locs hP hD hS => ?_)
  have hP : va_P D vwCl ([(o0, .inr (0, [.ref q8, .int (nI 0)])), (q8, .inl (k 0, 1000, .inl (fun _ => 0)))]) H := hP
  have hD : va_D A ([(o0, .inr (0, [.ref q8, .int (nI 0)])), (q8, .inl (k 0, 1000, .inl (fun _ => 0)))]) := hD
  refine xx_vret (xx_at [o0, q8]) hx hb hr hlocks hS hK hP hD dX0_init_18 ?_
  exact rfl
