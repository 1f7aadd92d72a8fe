theorem dX0_add_0 : decode cX0_add 0 = .ok (.aload_n 0, 1) := by decide +kernel
theorem dX0_add_1 : decode cX0_add 1 = .ok (.getfield 15, 3) := by decide +kernel
theorem dX0_add_4 : decode cX0_add 4 = .ok (.sipush 200, 3) := by decide +kernel
theorem dX0_add_7 : decode cX0_add 7 = .ok (.if_icmp .lt 4, 3) := by decide +kernel
theorem dX0_add_10 : decode cX0_add 10 = .ok (.return_, 1) := by decide +kernel
theorem dX0_add_11 : decode cX0_add 11 = .ok (.aload_n 0, 1) := by decide +kernel
theorem dX0_add_12 : decode cX0_add 12 = .ok (.getfield 15, 3) := by decide +kernel
theorem dX0_add_15 : decode cX0_add 15 = .ok (.iconst 5, 1) := by decide +kernel
theorem dX0_add_16 : decode cX0_add 16 = .ok (.imul, 1) := by decide +kernel
theorem dX0_add_17 : decode cX0_add 17 = .ok (.istore 6, 2) := by decide +kernel
theorem dX0_add_19 : decode cX0_add 19 = .ok (.aload_n 0, 1) := by decide +kernel
theorem dX0_add_20 : decode cX0_add 20 = .ok (.getfield 9, 3) := by decide +kernel
theorem dX0_add_23 : decode cX0_add 23 = .ok (.iload 6, 2) := by decide +kernel
theorem dX0_add_25 : decode cX0_add 25 = .ok (.iload_n 1, 1) := by decide +kernel
theorem dX0_add_26 : decode cX0_add 26 = .ok (.iastore, 1) := by decide +kernel
theorem dX0_add_27 : decode cX0_add 27 = .ok (.aload_n 0, 1) := by decide +kernel
theorem dX0_add_28 : decode cX0_add 28 = .ok (.getfield 9, 3) := by decide +kernel
theorem dX0_add_31 : decode cX0_add 31 = .ok (.iload 6, 2) := by decide +kernel
theorem dX0_add_33 : decode cX0_add 33 = .ok (.iconst 1, 1) := by decide +kernel
theorem dX0_add_34 : decode cX0_add 34 = .ok (.iadd, 1) := by decide +kernel
theorem dX0_add_35 : decode cX0_add 35 = .ok (.iload_n 2, 1) := by decide +kernel
theorem dX0_add_36 : decode cX0_add 36 = .ok (.iastore, 1) := by decide +kernel
theorem dX0_add_37 : decode cX0_add 37 = .ok (.aload_n 0, 1) := by decide +kernel
theorem dX0_add_38 : decode cX0_add 38 = .ok (.getfield 9, 3) := by decide +kernel
theorem dX0_add_41 : decode cX0_add 41 = .ok (.iload 6, 2) := by decide +kernel
theorem dX0_add_43 : decode cX0_add 43 = .ok (.iconst 2, 1) := by decide +kernel
theorem dX0_add_44 : decode cX0_add 44 = .ok (.iadd, 1) := by decide +kernel
theorem dX0_add_45 : decode cX0_add 45 = .ok (.iload_n 3, 1) := by decide +kernel
theorem dX0_add_46 : decode cX0_add 46 = .ok (.iastore, 1) := by decide +kernel
theorem dX0_add_47 : decode cX0_add 47 = .ok (.aload_n 0, 1) := by decide +kernel
theorem dX0_add_48 : decode cX0_add 48 = .ok (.getfield 9, 3) := by decide +kernel
theorem dX0_add_51 : decode cX0_add 51 = .ok (.iload 6, 2) := by decide +kernel
theorem dX0_add_53 : decode cX0_add 53 = .ok (.iconst 3, 1) := by decide +kernel
theorem dX0_add_54 : decode cX0_add 54 = .ok (.iadd, 1) := by decide +kernel
theorem dX0_add_55 : decode cX0_add 55 = .ok (.iload 4, 2) := by decide +kernel
theorem dX0_add_57 : decode cX0_add 57 = .ok (.iastore, 1) := by decide +kernel
theorem dX0_add_58 : decode cX0_add 58 = .ok (.aload_n 0, 1) := by decide +kernel
theorem dX0_add_59 : decode cX0_add 59 = .ok (.getfield 9, 3) := by decide +kernel
theorem dX0_add_62 : decode cX0_add 62 = .ok (.iload 6, 2) := by decide +kernel
theorem dX0_add_64 : decode cX0_add 64 = .ok (.iconst 4, 1) := by decide +kernel
theorem dX0_add_65 : decode cX0_add 65 = .ok (.iadd, 1) := by decide +kernel
theorem dX0_add_66 : decode cX0_add 66 = .ok (.iload 5, 2) := by decide +kernel
theorem dX0_add_68 : decode cX0_add 68 = .ok (.iastore, 1) := by decide +kernel
theorem dX0_add_69 : decode cX0_add 69 = .ok (.aload_n 0, 1) := by decide +kernel
theorem dX0_add_70 : decode cX0_add 70 = .ok (.dup, 1) := by decide +kernel
theorem dX0_add_71 : decode cX0_add 71 = .ok (.getfield 15, 3) := by decide +kernel
theorem dX0_add_74 : decode cX0_add 74 = .ok (.iconst 1, 1) := by decide +kernel
theorem dX0_add_75 : decode cX0_add 75 = .ok (.iadd, 1) := by decide +kernel
theorem dX0_add_76 : decode cX0_add 76 = .ok (.putfield 15, 3) := by decide +kernel
theorem dX0_add_79 : decode cX0_add 79 = .ok (.return_, 1) := by decide +kernel
theorem dX0_valueAt_0 : decode cX0_valueAt 0 = .ok (.iload_n 1, 1) := by decide +kernel
theorem dX0_valueAt_1 : decode cX0_valueAt 1 = .ok (.ifCond .lt 20, 3) := by decide +kernel
theorem dX0_valueAt_4 : decode cX0_valueAt 4 = .ok (.iload_n 1, 1) := by decide +kernel
theorem dX0_valueAt_5 : decode cX0_valueAt 5 = .ok (.aload_n 0, 1) := by decide +kernel
theorem dX0_valueAt_6 : decode cX0_valueAt 6 = .ok (.getfield 15, 3) := by decide +kernel
theorem dX0_valueAt_9 : decode cX0_valueAt 9 = .ok (.if_icmp .ge 12, 3) := by decide +kernel
theorem dX0_valueAt_12 : decode cX0_valueAt 12 = .ok (.iload_n 2, 1) := by decide +kernel
theorem dX0_valueAt_13 : decode cX0_valueAt 13 = .ok (.ifCond .lt 8, 3) := by decide +kernel
theorem dX0_valueAt_16 : decode cX0_valueAt 16 = .ok (.iload_n 2, 1) := by decide +kernel
theorem dX0_valueAt_17 : decode cX0_valueAt 17 = .ok (.iconst 5, 1) := by decide +kernel
theorem dX0_valueAt_18 : decode cX0_valueAt 18 = .ok (.if_icmp .lt 5, 3) := by decide +kernel
theorem dX0_valueAt_21 : decode cX0_valueAt 21 = .ok (.iconst (-1), 1) := by decide +kernel
theorem dX0_valueAt_22 : decode cX0_valueAt 22 = .ok (.ireturn, 1) := by decide +kernel
theorem dX0_valueAt_23 : decode cX0_valueAt 23 = .ok (.aload_n 0, 1) := by decide +kernel
theorem dX0_valueAt_24 : decode cX0_valueAt 24 = .ok (.getfield 9, 3) := by decide +kernel
theorem dX0_valueAt_27 : decode cX0_valueAt 27 = .ok (.iload_n 1, 1) := by decide +kernel
theorem dX0_valueAt_28 : decode cX0_valueAt 28 = .ok (.iconst 5, 1) := by decide +kernel
theorem dX0_valueAt_29 : decode cX0_valueAt 29 = .ok (.imul, 1) := by decide +kernel
theorem dX0_valueAt_30 : decode cX0_valueAt 30 = .ok (.iload_n 2, 1) := by decide +kernel
theorem dX0_valueAt_31 : decode cX0_valueAt 31 = .ok (.iadd, 1) := by decide +kernel
theorem dX0_valueAt_32 : decode cX0_valueAt 32 = .ok (.iaload, 1) := by decide +kernel
theorem dX0_valueAt_33 : decode cX0_valueAt 33 = .ok (.ireturn, 1) := by decide +kernel
def p_A_add (oa : Nat → Nat) (ac : Nat) (as : Nat → Int32) (x0 : Int32) (x1 : Int32) (x2 : Int32) (x3 : Int32) (x4 : Int32) : (Nat × (Nat → Int32)) → Prop := fun u => (200 ≤ ac ∧ u = (ac, as)) ∨ (ac < 200 ∧ u = (ac + 1, upd (upd (upd (upd (upd as (ac * 5) x0) (ac * 5 + 1) x1) (ac * 5 + 2) x2) (ac * 5 + 3) x3) (ac * 5 + 4) x4))
set_option maxHeartbeats 4000000 in
set_option maxRecDepth 100000 in
theorem c_A_add (l : Launch) (D : va_G) (k : Nat → ClassId) (oa : Nat → Nat) (ac : Nat) (as : Nat → Int32) (x0 : Int32) (x1 : Int32) (x2 : Int32) (x3 : Int32) (x4 : Int32) (hac : ac ≤ 200) : xx_Cv l yX0_add (.code yX0_add cX0_add 7 none :: xall) ({ frames := 0, cells := 0, slots := 0, locals := 0 } : Room) D vwCl (xT k) [.ref (oa 0), .int x0, .int x1, .int x2, .int x3, .int x4] (bA k oa ac as) (p_A_add oa ac as x0 x1 x2 x3 x4) (fun (u : Nat × (Nat → Int32)) => bA k oa u.1 u.2) 0 0 := by
  intro sz
  refine xx_met (Qf := fun A => va_Qv (p_A_add oa ac as x0 x1 x2 x3 x4) (xx_B D vwCl (xT k) A (fun (u : Nat × (Nat → Int32)) => bA k oa u.1 u.2)) A) (cc := cX0_add) (maxL := 7) (ret := none) (by decide) rfl (Nat.le_of_ble_eq_true rfl) ?_
  intro p e s m below meth c A ls hx hb hr hts hown hlocks hin hml hA hS hP hD hK hN hl
  have hl : lv_has ls 7 [(0, .ref (oa 0)), (1, .int x0), (2, .int x1), (3, .int x2), (4, .int x3), (5, .int x4)] := hl
  have hown : s.vm.findClass RX0 = some m.cls := hown
  have hinW := inX0
  refine lv_aload_n hx hb dX0_add_0 rfl (lv_at hl 0 rfl) ?_
  refine va_get (D := D) (ci := 0) (v := .int (nI ac)) (C := RX0) (T := TX0) (N := 2) hx hb hts hinW hown hK hP 0 rfl rfl 1 (by decide) (hts _ tw_131) (fun _ h9 => h9) rfl dX0_add_1 ?_
  refine lv_sipush (v := (nI 200)) hx hb dX0_add_4 (by decide) ?_
  refine lv_icmp_lt (tgt := 11) hx hb dX0_add_7 (by decide) (fun c7 => ?_) (fun c7 => ?_)
  · have c7 : ac < 200 := (nI_ltI (by omega) (by omega)).mp c7
    refine lv_aload_n hx hb dX0_add_11 rfl (lv_at hl 0 rfl) ?_
    refine va_get (D := D) (ci := 0) (v := .int (nI ac)) (C := RX0) (T := TX0) (N := 2) hx hb hts hinW hown hK hP 0 rfl rfl 1 (by decide) (hts _ tw_131) (fun _ h9 => h9) rfl dX0_add_12 ?_
    refine lv_iconst (v := (nI 5)) hx hb dX0_add_15 (by decide) ?_
    refine lv_imul hx hb dX0_add_16 ?_
    refine xx_topi (pk_mul ac 5) ?_
    refine lv_istore (lv' := [(6, .int (nI (ac * 5))), (0, .ref (oa 0)), (1, .int x0), (2, .int x1), (3, .int x2), (4, .int x3), (5, .int x4)]) hx hb dX0_add_17 hl (by decide) rfl (fun ls hl => ?_)
    refine lv_aload_n hx hb dX0_add_19 rfl (lv_at hl 1 rfl) ?_
    refine va_get (D := D) (ci := 0) (v := .ref (oa 1)) (C := RX0) (T := TX0) (N := 2) hx hb hts hinW hown hK hP 0 rfl rfl 0 (by decide) (hts _ tw_130) (fun _ h9 => h9) rfl dX0_add_20 ?_
    refine lv_iload hx hb dX0_add_23 (lv_at hl 0 rfl) ?_
    refine lv_iload_n hx hb dX0_add_25 rfl (lv_at hl 2 rfl) ?_
    refine xx_iast (g := (upd as (ac * 5) x0)) hx hb hK hP hD hS 1 0 rfl rfl (show ac * 5 < 1000 by omega) (by decide) rfl dX0_add_26 (fun H locs hP hD hS => ?_)
    have hP : va_P D vwCl (bA k oa ac (upd as (ac * 5) x0)) H := hP
    have hD : va_D A (bA k oa ac (upd as (ac * 5) x0)) := hD
    refine lv_aload_n hx hb dX0_add_27 rfl (lv_at hl 1 rfl) ?_
    refine va_get (D := D) (ci := 0) (v := .ref (oa 1)) (C := RX0) (T := TX0) (N := 2) hx hb hts hinW hown hK hP 0 rfl rfl 0 (by decide) (hts _ tw_130) (fun _ h9 => h9) rfl dX0_add_28 ?_
    refine lv_iload hx hb dX0_add_31 (lv_at hl 0 rfl) ?_
    refine lv_iconst (v := (nI 1)) hx hb dX0_add_33 (by decide) ?_
    refine lv_iadd hx hb dX0_add_34 ?_
    refine xx_topi (nI_add (ac * 5) 1) ?_
    refine lv_iload_n hx hb dX0_add_35 rfl (lv_at hl 3 rfl) ?_
    refine xx_iast (g := (upd (upd as (ac * 5) x0) ((ac * 5) + 1) x1)) hx hb hK hP hD hS 1 0 rfl rfl (show (ac * 5) + 1 < 1000 by omega) (by decide) rfl dX0_add_36 (fun H locs hP hD hS => ?_)
    have hP : va_P D vwCl (bA k oa ac (upd (upd as (ac * 5) x0) ((ac * 5) + 1) x1)) H := hP
    have hD : va_D A (bA k oa ac (upd (upd as (ac * 5) x0) ((ac * 5) + 1) x1)) := hD
    refine lv_aload_n hx hb dX0_add_37 rfl (lv_at hl 1 rfl) ?_
    refine va_get (D := D) (ci := 0) (v := .ref (oa 1)) (C := RX0) (T := TX0) (N := 2) hx hb hts hinW hown hK hP 0 rfl rfl 0 (by decide) (hts _ tw_130) (fun _ h9 => h9) rfl dX0_add_38 ?_
    refine lv_iload hx hb dX0_add_41 (lv_at hl 0 rfl) ?_
    refine lv_iconst (v := (nI 2)) hx hb dX0_add_43 (by decide) ?_
    refine lv_iadd hx hb dX0_add_44 ?_
    refine xx_topi (nI_add (ac * 5) 2) ?_
    refine lv_iload_n hx hb dX0_add_45 rfl (lv_at hl 4 rfl) ?_
    refine xx_iast (g := (upd (upd (upd as (ac * 5) x0) ((ac * 5) + 1) x1) ((ac * 5) + 2) x2)) hx hb hK hP hD hS 1 0 rfl rfl (show (ac * 5) + 2 < 1000 by omega) (by decide) rfl dX0_add_46 (fun H locs hP hD hS => ?_)
    have hP : va_P D vwCl (bA k oa ac (upd (upd (upd as (ac * 5) x0) ((ac * 5) + 1) x1) ((ac * 5) + 2) x2)) H := hP
    have hD : va_D A (bA k oa ac (upd (upd (upd as (ac * 5) x0) ((ac * 5) + 1) x1) ((ac * 5) + 2) x2)) := hD
    refine lv_aload_n hx hb dX0_add_47 rfl (lv_at hl 1 rfl) ?_
    refine va_get (D := D) (ci := 0) (v := .ref (oa 1)) (C := RX0) (T := TX0) (N := 2) hx hb hts hinW hown hK hP 0 rfl rfl 0 (by decide) (hts _ tw_130) (fun _ h9 => h9) rfl dX0_add_48 ?_
    refine lv_iload hx hb dX0_add_51 (lv_at hl 0 rfl) ?_
    refine lv_iconst (v := (nI 3)) hx hb dX0_add_53 (by decide) ?_
    refine lv_iadd hx hb dX0_add_54 ?_
    refine xx_topi (nI_add (ac * 5) 3) ?_
    refine lv_iload hx hb dX0_add_55 (lv_at hl 5 rfl) ?_
    refine xx_iast (g := (upd (upd (upd (upd as (ac * 5) x0) ((ac * 5) + 1) x1) ((ac * 5) + 2) x2) ((ac * 5) + 3) x3)) hx hb hK hP hD hS 1 0 rfl rfl (show (ac * 5) + 3 < 1000 by omega) (by decide) rfl dX0_add_57 (fun H locs hP hD hS => ?_)
    have hP : va_P D vwCl (bA k oa ac (upd (upd (upd (upd as (ac * 5) x0) ((ac * 5) + 1) x1) ((ac * 5) + 2) x2) ((ac * 5) + 3) x3)) H := hP
    have hD : va_D A (bA k oa ac (upd (upd (upd (upd as (ac * 5) x0) ((ac * 5) + 1) x1) ((ac * 5) + 2) x2) ((ac * 5) + 3) x3)) := hD
    refine lv_aload_n hx hb dX0_add_58 rfl (lv_at hl 1 rfl) ?_
    refine va_get (D := D) (ci := 0) (v := .ref (oa 1)) (C := RX0) (T := TX0) (N := 2) hx hb hts hinW hown hK hP 0 rfl rfl 0 (by decide) (hts _ tw_130) (fun _ h9 => h9) rfl dX0_add_59 ?_
    refine lv_iload hx hb dX0_add_62 (lv_at hl 0 rfl) ?_
    refine lv_iconst (v := (nI 4)) hx hb dX0_add_64 (by decide) ?_
    refine lv_iadd hx hb dX0_add_65 ?_
    refine xx_topi (nI_add (ac * 5) 4) ?_
    refine lv_iload hx hb dX0_add_66 (lv_at hl 6 rfl) ?_
    refine xx_iast (g := (upd (upd (upd (upd (upd as (ac * 5) x0) ((ac * 5) + 1) x1) ((ac * 5) + 2) x2) ((ac * 5) + 3) x3) ((ac * 5) + 4) x4)) hx hb hK hP hD hS 1 0 rfl rfl (show (ac * 5) + 4 < 1000 by omega) (by decide) rfl dX0_add_68 (fun H locs hP hD hS => ?_)
    have hP : va_P D vwCl (bA k oa ac (upd (upd (upd (upd (upd as (ac * 5) x0) ((ac * 5) + 1) x1) ((ac * 5) + 2) x2) ((ac * 5) + 3) x3) ((ac * 5) + 4) x4)) H := hP
    have hD : va_D A (bA k oa ac (upd (upd (upd (upd (upd as (ac * 5) x0) ((ac * 5) + 1) x1) ((ac * 5) + 2) x2) ((ac * 5) + 3) x3) ((ac * 5) + 4) x4)) := hD
    refine lv_aload_n hx hb dX0_add_69 rfl (lv_at hl 1 rfl) ?_
    refine lv_dup hx hb dX0_add_70 rfl ?_
    refine va_get (D := D) (ci := 0) (v := .int (nI ac)) (C := RX0) (T := TX0) (N := 2) hx hb hts hinW hown hK hP 0 rfl rfl 1 (by decide) (hts _ tw_131) (fun _ h9 => h9) rfl dX0_add_71 ?_
    refine lv_iconst (v := (nI 1)) hx hb dX0_add_74 (by decide) ?_
    refine lv_iadd hx hb dX0_add_75 ?_
    refine xx_topi (nI_add ac 1) ?_
    refine va_put (D := D) (ci := 0) (v := .int (nI (ac + 1))) (ty := .int) (C := RX0) (T := TX0) (N := 2) hx hb hts hinW tyX0 tyX0_ok nmX0 hown hK hP hD hS 0 rfl rfl 1 (by decide) (hts _ tw_131) (fun _ h9 => h9) rfl (by decide +kernel) rfl rfl (Nat.le_of_ble_eq_true rfl) dX0_add_76 (fun H locs hP hD hS => ?_)
    have hP : va_P D vwCl (bA k oa (ac + 1) (upd (upd (upd (upd (upd as (ac * 5) x0) ((ac * 5) + 1) x1) ((ac * 5) + 2) x2) ((ac * 5) + 3) x3) ((ac * 5) + 4) x4)) H := hP
    have hD : va_D A (bA k oa (ac + 1) (upd (upd (upd (upd (upd as (ac * 5) x0) ((ac * 5) + 1) x1) ((ac * 5) + 2) x2) ((ac * 5) + 3) x3) ((ac * 5) + 4) x4)) := hD
    refine xx_vret (ac + 1, (upd (upd (upd (upd (upd as (ac * 5) x0) ((ac * 5) + 1) x1) ((ac * 5) + 2) x2) ((ac * 5) + 3) x3) ((ac * 5) + 4) x4)) hx hb hr hlocks hS hK hP hD dX0_add_79 ?_
    exact Or.inr ⟨c7, rfl⟩
  · have c7 : 200 ≤ ac := Nat.le_of_not_lt (fun h => c7 ((nI_ltI (by omega) (by omega)).mpr h))
    refine xx_vret (ac, as) hx hb hr hlocks hS hK hP hD dX0_add_10 ?_
    exact Or.inl ⟨c7, rfl⟩
def p_A_at (oa : Nat → Nat) (ac : Nat) (as : Nat → Int32) (x : Int32) (y : Int32) : Int32 → Unit → Prop := fun r u => (r = (-1) ∧ ¬ (ixN ac x ∧ ixN 5 y)) ∨ (∃ j i, j < ac ∧ i < 5 ∧ x = nI j ∧ y = nI i ∧ r = as (j * 5 + i))
set_option maxHeartbeats 4000000 in
set_option maxRecDepth 100000 in
theorem c_A_at (l : Launch) (D : va_G) (k : Nat → ClassId) (oa : Nat → Nat) (ac : Nat) (as : Nat → Int32) (x : Int32) (y : Int32) (hac : ac ≤ 200) : xx_Ci l yX0_valueAt (.code yX0_valueAt cX0_valueAt 3 (some .int) :: xall) ({ frames := 0, cells := 0, slots := 0, locals := 0 } : Room) D vwCl (xT k) [.ref (oa 0), .int x, .int y] (bA k oa ac as) (p_A_at oa ac as x y) (fun (u : Unit) => bA k oa ac as) 0 0 := by
  intro sz
  refine xx_met (Qf := fun A => va_Qi (p_A_at oa ac as x y) (xx_B D vwCl (xT k) A (fun (u : Unit) => bA k oa ac as)) A) (cc := cX0_valueAt) (maxL := 3) (ret := (some .int)) (by decide) rfl (Nat.le_of_ble_eq_true rfl) ?_
  intro p e s m below meth c A ls hx hb hr hts hown hlocks hin hml hA hS hP hD hK hN hl
  have hl : lv_has ls 3 [(0, .ref (oa 0)), (1, .int x), (2, .int y)] := hl
  have hown : s.vm.findClass RX0 = some m.cls := hown
  have hinW := inX0
  refine lv_iload_n hx hb dX0_valueAt_0 rfl (lv_at hl 1 rfl) ?_
  refine lv_if_lt (tgt := 21) hx hb dX0_valueAt_1 (by decide) (fun c1 => ?_) (fun c1 => ?_)
  · refine lv_iconst (v := (-1)) hx hb dX0_valueAt_21 (by decide) ?_
    refine xx_iret () hx hb hr hlocks hS hK hP hD dX0_valueAt_22 ?_
    first | exact Or.inl ⟨rfl, fun h => xx_nix (by omega) (Or.inl c1) h.1⟩ | exact Or.inl ⟨rfl, fun h => xx_nix (by decide) (Or.inl c13) h.2⟩ | exact Or.inl ⟨rfl, fun h => xx_nix (by decide) (Or.inr (xx_nle c18)) h.2⟩ | exact Or.inl ⟨rfl, fun h => xx_nix (by omega) (Or.inr c9) h.1⟩
  · refine lv_iload_n hx hb dX0_valueAt_4 rfl (lv_at hl 1 rfl) ?_
    refine lv_aload_n hx hb dX0_valueAt_5 rfl (lv_at hl 0 rfl) ?_
    refine va_get (D := D) (ci := 0) (v := .int (nI ac)) (C := RX0) (T := TX0) (N := 2) hx hb hts hinW hown hK hP 0 rfl rfl 1 (by decide) (hts _ tw_131) (fun _ h9 => h9) rfl dX0_valueAt_6 ?_
    refine lv_icmp_ge (tgt := 21) hx hb dX0_valueAt_9 (by decide) (fun c9 => ?_) (fun c9 => ?_)
    · refine lv_iconst (v := (-1)) hx hb dX0_valueAt_21 (by decide) ?_
      refine xx_iret () hx hb hr hlocks hS hK hP hD dX0_valueAt_22 ?_
      first | exact Or.inl ⟨rfl, fun h => xx_nix (by omega) (Or.inl c1) h.1⟩ | exact Or.inl ⟨rfl, fun h => xx_nix (by decide) (Or.inl c13) h.2⟩ | exact Or.inl ⟨rfl, fun h => xx_nix (by decide) (Or.inr (xx_nle c18)) h.2⟩ | exact Or.inl ⟨rfl, fun h => xx_nix (by omega) (Or.inr c9) h.1⟩
    · refine lv_iload_n hx hb dX0_valueAt_12 rfl (lv_at hl 2 rfl) ?_
      refine lv_if_lt (tgt := 21) hx hb dX0_valueAt_13 (by decide) (fun c13 => ?_) (fun c13 => ?_)
      · refine lv_iconst (v := (-1)) hx hb dX0_valueAt_21 (by decide) ?_
        refine xx_iret () hx hb hr hlocks hS hK hP hD dX0_valueAt_22 ?_
        first | exact Or.inl ⟨rfl, fun h => xx_nix (by omega) (Or.inl c1) h.1⟩ | exact Or.inl ⟨rfl, fun h => xx_nix (by decide) (Or.inl c13) h.2⟩ | exact Or.inl ⟨rfl, fun h => xx_nix (by decide) (Or.inr (xx_nle c18)) h.2⟩ | exact Or.inl ⟨rfl, fun h => xx_nix (by omega) (Or.inr c9) h.1⟩
      · refine lv_iload_n hx hb dX0_valueAt_16 rfl (lv_at hl 2 rfl) ?_
        refine lv_iconst (v := (nI 5)) hx hb dX0_valueAt_17 (by decide) ?_
        refine lv_icmp_lt (tgt := 23) hx hb dX0_valueAt_18 (by decide) (fun c18 => ?_) (fun c18 => ?_)
        · obtain ⟨j, hj, hxj⟩ := xx_ix (n := ac) (by omega) c1 c9
          subst hxj
          obtain ⟨i, hi, hxi⟩ := xx_ix2 (n := 5) (by decide) c13 c18
          subst hxi
          refine lv_aload_n hx hb dX0_valueAt_23 rfl (lv_at hl 0 rfl) ?_
          refine va_get (D := D) (ci := 0) (v := .ref (oa 1)) (C := RX0) (T := TX0) (N := 2) hx hb hts hinW hown hK hP 0 rfl rfl 0 (by decide) (hts _ tw_130) (fun _ h9 => h9) rfl dX0_valueAt_24 ?_
          refine lv_iload_n hx hb dX0_valueAt_27 rfl (lv_at hl 1 rfl) ?_
          refine lv_iconst (v := (nI 5)) hx hb dX0_valueAt_28 (by decide) ?_
          refine lv_imul hx hb dX0_valueAt_29 ?_
          refine xx_topi (pk_mul j 5) ?_
          refine lv_iload_n hx hb dX0_valueAt_30 rfl (lv_at hl 2 rfl) ?_
          refine lv_iadd hx hb dX0_valueAt_31 ?_
          refine xx_topi (nI_add (j * 5) i) ?_
          refine xx_iald hx hb hK hP 1 0 rfl rfl (show (j * 5) + i < 1000 by omega) (by decide) dX0_valueAt_32 ?_
          refine xx_iret () hx hb hr hlocks hS hK hP hD dX0_valueAt_33 ?_
          exact Or.inr ⟨j, i, hj, hi, rfl, rfl, rfl⟩
        · refine lv_iconst (v := (-1)) hx hb dX0_valueAt_21 (by decide) ?_
          refine xx_iret () hx hb hr hlocks hS hK hP hD dX0_valueAt_22 ?_
          first | exact Or.inl ⟨rfl, fun h => xx_nix (by omega) (Or.inl c1) h.1⟩ | exact Or.inl ⟨rfl, fun h => xx_nix (by decide) (Or.inl c13) h.2⟩ | exact Or.inl ⟨rfl, fun h => xx_nix (by decide) (Or.inr (xx_nle c18)) h.2⟩ | exact Or.inl ⟨rfl, fun h => xx_nix (by omega) (Or.inr c9) h.1⟩
