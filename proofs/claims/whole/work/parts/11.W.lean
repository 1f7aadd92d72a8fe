theorem dX4_has_0 : decode cX4_has 0 = .ok (.iload_n 1, 1) := by decide +kernel
theorem dX4_has_1 : decode cX4_has 1 = .ok (.ifCond .lt 15, 3) := by decide +kernel
theorem dX4_has_4 : decode cX4_has 4 = .ok (.iload_n 1, 1) := by decide +kernel
theorem dX4_has_5 : decode cX4_has 5 = .ok (.aload_n 0, 1) := by decide +kernel
theorem dX4_has_6 : decode cX4_has 6 = .ok (.getfield 32, 3) := by decide +kernel
theorem dX4_has_9 : decode cX4_has 9 = .ok (.if_icmp .ge 7, 3) := by decide +kernel
theorem dX4_has_12 : decode cX4_has 12 = .ok (.iconst 1, 1) := by decide +kernel
theorem dX4_has_13 : decode cX4_has 13 = .ok (.goto 4, 3) := by decide +kernel
theorem dX4_has_16 : decode cX4_has 16 = .ok (.iconst 0, 1) := by decide +kernel
theorem dX4_has_17 : decode cX4_has 17 = .ok (.ireturn, 1) := by decide +kernel
theorem dX4_mayWrite_0 : decode cX4_mayWrite 0 = .ok (.aload_n 0, 1) := by decide +kernel
theorem dX4_mayWrite_1 : decode cX4_mayWrite 1 = .ok (.iload_n 1, 1) := by decide +kernel
theorem dX4_mayWrite_2 : decode cX4_mayWrite 2 = .ok (.invokevirtual 40, 3) := by decide +kernel
theorem dX4_mayWrite_5 : decode cX4_mayWrite 5 = .ok (.ifCond .eq 16, 3) := by decide +kernel
theorem dX4_mayWrite_8 : decode cX4_mayWrite 8 = .ok (.aload_n 0, 1) := by decide +kernel
theorem dX4_mayWrite_9 : decode cX4_mayWrite 9 = .ok (.getfield 15, 3) := by decide +kernel
theorem dX4_mayWrite_12 : decode cX4_mayWrite 12 = .ok (.iload_n 1, 1) := by decide +kernel
theorem dX4_mayWrite_13 : decode cX4_mayWrite 13 = .ok (.baload, 1) := by decide +kernel
theorem dX4_mayWrite_14 : decode cX4_mayWrite 14 = .ok (.ifCond .ne 7, 3) := by decide +kernel
theorem dX4_mayWrite_17 : decode cX4_mayWrite 17 = .ok (.iconst 1, 1) := by decide +kernel
theorem dX4_mayWrite_18 : decode cX4_mayWrite 18 = .ok (.goto 4, 3) := by decide +kernel
theorem dX4_mayWrite_21 : decode cX4_mayWrite 21 = .ok (.iconst 0, 1) := by decide +kernel
theorem dX4_mayWrite_22 : decode cX4_mayWrite 22 = .ok (.ireturn, 1) := by decide +kernel
theorem dX4_levelOf_0 : decode cX4_levelOf 0 = .ok (.aload_n 0, 1) := by decide +kernel
theorem dX4_levelOf_1 : decode cX4_levelOf 1 = .ok (.iload_n 1, 1) := by decide +kernel
theorem dX4_levelOf_2 : decode cX4_levelOf 2 = .ok (.invokevirtual 40, 3) := by decide +kernel
theorem dX4_levelOf_5 : decode cX4_levelOf 5 = .ok (.ifCond .eq 12, 3) := by decide +kernel
theorem dX4_levelOf_8 : decode cX4_levelOf 8 = .ok (.aload_n 0, 1) := by decide +kernel
theorem dX4_levelOf_9 : decode cX4_levelOf 9 = .ok (.getfield 9, 3) := by decide +kernel
theorem dX4_levelOf_12 : decode cX4_levelOf 12 = .ok (.iload_n 1, 1) := by decide +kernel
theorem dX4_levelOf_13 : decode cX4_levelOf 13 = .ok (.iaload, 1) := by decide +kernel
theorem dX4_levelOf_14 : decode cX4_levelOf 14 = .ok (.goto 4, 3) := by decide +kernel
theorem dX4_levelOf_17 : decode cX4_levelOf 17 = .ok (.iconst (-1), 1) := by decide +kernel
theorem dX4_levelOf_18 : decode cX4_levelOf 18 = .ok (.ireturn, 1) := by decide +kernel
theorem dX4_shutOut_0 : decode cX4_shutOut 0 = .ok (.aload_n 0, 1) := by decide +kernel
theorem dX4_shutOut_1 : decode cX4_shutOut 1 = .ok (.iload_n 1, 1) := by decide +kernel
theorem dX4_shutOut_2 : decode cX4_shutOut 2 = .ok (.invokevirtual 40, 3) := by decide +kernel
theorem dX4_shutOut_5 : decode cX4_shutOut 5 = .ok (.ifCond .eq 10, 3) := by decide +kernel
theorem dX4_shutOut_8 : decode cX4_shutOut 8 = .ok (.aload_n 0, 1) := by decide +kernel
theorem dX4_shutOut_9 : decode cX4_shutOut 9 = .ok (.getfield 15, 3) := by decide +kernel
theorem dX4_shutOut_12 : decode cX4_shutOut 12 = .ok (.iload_n 1, 1) := by decide +kernel
theorem dX4_shutOut_13 : decode cX4_shutOut 13 = .ok (.iconst 1, 1) := by decide +kernel
theorem dX4_shutOut_14 : decode cX4_shutOut 14 = .ok (.bastore, 1) := by decide +kernel
theorem dX4_shutOut_15 : decode cX4_shutOut 15 = .ok (.return_, 1) := by decide +kernel
theorem dX4_add_0 : decode cX4_add 0 = .ok (.aload_n 0, 1) := by decide +kernel
theorem dX4_add_1 : decode cX4_add 1 = .ok (.getfield 32, 3) := by decide +kernel
theorem dX4_add_4 : decode cX4_add 4 = .ok (.bipush 12, 2) := by decide +kernel
theorem dX4_add_6 : decode cX4_add 6 = .ok (.if_icmp .ge 10, 3) := by decide +kernel
theorem dX4_add_9 : decode cX4_add 9 = .ok (.iload_n 1, 1) := by decide +kernel
theorem dX4_add_10 : decode cX4_add 10 = .ok (.invokestatic 36, 3) := by decide +kernel
theorem dX4_add_13 : decode cX4_add 13 = .ok (.ifCond .ne 5, 3) := by decide +kernel
theorem dX4_add_16 : decode cX4_add 16 = .ok (.iconst (-1), 1) := by decide +kernel
theorem dX4_add_17 : decode cX4_add 17 = .ok (.ireturn, 1) := by decide +kernel
theorem dX4_add_18 : decode cX4_add 18 = .ok (.aload_n 0, 1) := by decide +kernel
theorem dX4_add_19 : decode cX4_add 19 = .ok (.getfield 32, 3) := by decide +kernel
theorem dX4_add_22 : decode cX4_add 22 = .ok (.istore_n 2, 1) := by decide +kernel
theorem dX4_add_23 : decode cX4_add 23 = .ok (.aload_n 0, 1) := by decide +kernel
theorem dX4_add_24 : decode cX4_add 24 = .ok (.getfield 9, 3) := by decide +kernel
theorem dX4_add_27 : decode cX4_add 27 = .ok (.iload_n 2, 1) := by decide +kernel
theorem dX4_add_28 : decode cX4_add 28 = .ok (.iload_n 1, 1) := by decide +kernel
theorem dX4_add_29 : decode cX4_add 29 = .ok (.iastore, 1) := by decide +kernel
theorem dX4_add_30 : decode cX4_add 30 = .ok (.aload_n 0, 1) := by decide +kernel
theorem dX4_add_31 : decode cX4_add 31 = .ok (.dup, 1) := by decide +kernel
theorem dX4_add_32 : decode cX4_add 32 = .ok (.getfield 32, 3) := by decide +kernel
theorem dX4_add_35 : decode cX4_add 35 = .ok (.iconst 1, 1) := by decide +kernel
theorem dX4_add_36 : decode cX4_add 36 = .ok (.iadd, 1) := by decide +kernel
theorem dX4_add_37 : decode cX4_add 37 = .ok (.putfield 32, 3) := by decide +kernel
theorem dX4_add_40 : decode cX4_add 40 = .ok (.iload_n 2, 1) := by decide +kernel
theorem dX4_add_41 : decode cX4_add 41 = .ok (.ireturn, 1) := by decide +kernel
theorem dX4_addKey_0 : decode cX4_addKey 0 = .ok (.aload_n 0, 1) := by decide +kernel
theorem dX4_addKey_1 : decode cX4_addKey 1 = .ok (.iload_n 1, 1) := by decide +kernel
theorem dX4_addKey_2 : decode cX4_addKey 2 = .ok (.invokevirtual 43, 3) := by decide +kernel
theorem dX4_addKey_5 : decode cX4_addKey 5 = .ok (.ifCond .eq 13, 3) := by decide +kernel
theorem dX4_addKey_8 : decode cX4_addKey 8 = .ok (.aload_n 0, 1) := by decide +kernel
theorem dX4_addKey_9 : decode cX4_addKey 9 = .ok (.getfield 19, 3) := by decide +kernel
theorem dX4_addKey_12 : decode cX4_addKey 12 = .ok (.iload_n 1, 1) := by decide +kernel
theorem dX4_addKey_13 : decode cX4_addKey 13 = .ok (.iaload, 1) := by decide +kernel
theorem dX4_addKey_14 : decode cX4_addKey 14 = .ok (.iconst 4, 1) := by decide +kernel
theorem dX4_addKey_15 : decode cX4_addKey 15 = .ok (.if_icmp .lt 5, 3) := by decide +kernel
theorem dX4_addKey_18 : decode cX4_addKey 18 = .ok (.iconst (-1), 1) := by decide +kernel
theorem dX4_addKey_19 : decode cX4_addKey 19 = .ok (.ireturn, 1) := by decide +kernel
theorem dX4_addKey_20 : decode cX4_addKey 20 = .ok (.lload 4, 2) := by decide +kernel
theorem dX4_addKey_22 : decode cX4_addKey 22 = .ok (.lconst 0, 1) := by decide +kernel
theorem dX4_addKey_23 : decode cX4_addKey 23 = .ok (.lcmp, 1) := by decide +kernel
theorem dX4_addKey_24 : decode cX4_addKey 24 = .ok (.ifCond .lt 11, 3) := by decide +kernel
theorem dX4_addKey_27 : decode cX4_addKey 27 = .ok (.lload 6, 2) := by decide +kernel
theorem dX4_addKey_29 : decode cX4_addKey 29 = .ok (.lload 4, 2) := by decide +kernel
theorem dX4_addKey_31 : decode cX4_addKey 31 = .ok (.lcmp, 1) := by decide +kernel
theorem dX4_addKey_32 : decode cX4_addKey 32 = .ok (.ifCond .gt 5, 3) := by decide +kernel
theorem dX4_addKey_35 : decode cX4_addKey 35 = .ok (.iconst (-1), 1) := by decide +kernel
theorem dX4_addKey_36 : decode cX4_addKey 36 = .ok (.ireturn, 1) := by decide +kernel
theorem dX4_addKey_37 : decode cX4_addKey 37 = .ok (.aload_n 0, 1) := by decide +kernel
theorem dX4_addKey_38 : decode cX4_addKey 38 = .ok (.getfield 19, 3) := by decide +kernel
theorem dX4_addKey_41 : decode cX4_addKey 41 = .ok (.iload_n 1, 1) := by decide +kernel
theorem dX4_addKey_42 : decode cX4_addKey 42 = .ok (.iaload, 1) := by decide +kernel
theorem dX4_addKey_43 : decode cX4_addKey 43 = .ok (.istore 8, 2) := by decide +kernel
theorem dX4_addKey_45 : decode cX4_addKey 45 = .ok (.iload_n 1, 1) := by decide +kernel
theorem dX4_addKey_46 : decode cX4_addKey 46 = .ok (.iconst 4, 1) := by decide +kernel
theorem dX4_addKey_47 : decode cX4_addKey 47 = .ok (.imul, 1) := by decide +kernel
theorem dX4_addKey_48 : decode cX4_addKey 48 = .ok (.iload 8, 2) := by decide +kernel
theorem dX4_addKey_50 : decode cX4_addKey 50 = .ok (.iadd, 1) := by decide +kernel
theorem dX4_addKey_51 : decode cX4_addKey 51 = .ok (.istore 9, 2) := by decide +kernel
theorem dX4_addKey_53 : decode cX4_addKey 53 = .ok (.aload_n 0, 1) := by decide +kernel
theorem dX4_addKey_54 : decode cX4_addKey 54 = .ok (.getfield 22, 3) := by decide +kernel
theorem dX4_addKey_57 : decode cX4_addKey 57 = .ok (.iload 9, 2) := by decide +kernel
theorem dX4_addKey_59 : decode cX4_addKey 59 = .ok (.lload_n 2, 1) := by decide +kernel
theorem dX4_addKey_60 : decode cX4_addKey 60 = .ok (.lastore, 1) := by decide +kernel
theorem dX4_addKey_61 : decode cX4_addKey 61 = .ok (.aload_n 0, 1) := by decide +kernel
theorem dX4_addKey_62 : decode cX4_addKey 62 = .ok (.getfield 26, 3) := by decide +kernel
theorem dX4_addKey_65 : decode cX4_addKey 65 = .ok (.iload 9, 2) := by decide +kernel
theorem dX4_addKey_67 : decode cX4_addKey 67 = .ok (.lload 4, 2) := by decide +kernel
theorem dX4_addKey_69 : decode cX4_addKey 69 = .ok (.lastore, 1) := by decide +kernel
theorem dX4_addKey_70 : decode cX4_addKey 70 = .ok (.aload_n 0, 1) := by decide +kernel
theorem dX4_addKey_71 : decode cX4_addKey 71 = .ok (.getfield 29, 3) := by decide +kernel
theorem dX4_addKey_74 : decode cX4_addKey 74 = .ok (.iload 9, 2) := by decide +kernel
theorem dX4_addKey_76 : decode cX4_addKey 76 = .ok (.lload 6, 2) := by decide +kernel
theorem dX4_addKey_78 : decode cX4_addKey 78 = .ok (.lastore, 1) := by decide +kernel
theorem dX4_addKey_79 : decode cX4_addKey 79 = .ok (.aload_n 0, 1) := by decide +kernel
theorem dX4_addKey_80 : decode cX4_addKey 80 = .ok (.getfield 19, 3) := by decide +kernel
theorem dX4_addKey_83 : decode cX4_addKey 83 = .ok (.iload_n 1, 1) := by decide +kernel
theorem dX4_addKey_84 : decode cX4_addKey 84 = .ok (.dup2, 1) := by decide +kernel
theorem dX4_addKey_85 : decode cX4_addKey 85 = .ok (.iaload, 1) := by decide +kernel
theorem dX4_addKey_86 : decode cX4_addKey 86 = .ok (.iconst 1, 1) := by decide +kernel
theorem dX4_addKey_87 : decode cX4_addKey 87 = .ok (.iadd, 1) := by decide +kernel
theorem dX4_addKey_88 : decode cX4_addKey 88 = .ok (.iastore, 1) := by decide +kernel
theorem dX4_addKey_89 : decode cX4_addKey 89 = .ok (.iload 8, 2) := by decide +kernel
theorem dX4_addKey_91 : decode cX4_addKey 91 = .ok (.ireturn, 1) := by decide +kernel
theorem dX4_fits_0 : decode cX4_fits 0 = .ok (.aload_n 0, 1) := by decide +kernel
theorem dX4_fits_1 : decode cX4_fits 1 = .ok (.iload_n 1, 1) := by decide +kernel
theorem dX4_fits_2 : decode cX4_fits 2 = .ok (.invokevirtual 40, 3) := by decide +kernel
theorem dX4_fits_5 : decode cX4_fits 5 = .ok (.ifCond .ne 5, 3) := by decide +kernel
theorem dX4_fits_8 : decode cX4_fits 8 = .ok (.iconst 0, 1) := by decide +kernel
theorem dX4_fits_9 : decode cX4_fits 9 = .ok (.ireturn, 1) := by decide +kernel
theorem dX4_fits_10 : decode cX4_fits 10 = .ok (.iload_n 1, 1) := by decide +kernel
theorem dX4_fits_11 : decode cX4_fits 11 = .ok (.iconst 4, 1) := by decide +kernel
theorem dX4_fits_12 : decode cX4_fits 12 = .ok (.imul, 1) := by decide +kernel
theorem dX4_fits_13 : decode cX4_fits 13 = .ok (.istore 10, 2) := by decide +kernel
theorem dX4_fits_15 : decode cX4_fits 15 = .ok (.iload 10, 2) := by decide +kernel
theorem dX4_fits_17 : decode cX4_fits 17 = .ok (.aload_n 0, 1) := by decide +kernel
theorem dX4_fits_18 : decode cX4_fits 18 = .ok (.getfield 19, 3) := by decide +kernel
theorem dX4_fits_21 : decode cX4_fits 21 = .ok (.iload_n 1, 1) := by decide +kernel
theorem dX4_fits_22 : decode cX4_fits 22 = .ok (.iaload, 1) := by decide +kernel
theorem dX4_fits_23 : decode cX4_fits 23 = .ok (.iadd, 1) := by decide +kernel
theorem dX4_fits_24 : decode cX4_fits 24 = .ok (.istore 11, 2) := by decide +kernel
theorem dX4_fits_26 : decode cX4_fits 26 = .ok (.iload 10, 2) := by decide +kernel
theorem dX4_fits_28 : decode cX4_fits 28 = .ok (.istore 12, 2) := by decide +kernel
theorem dX4_fits_30 : decode cX4_fits 30 = .ok (.iload 12, 2) := by decide +kernel
theorem dX4_fits_32 : decode cX4_fits 32 = .ok (.iload 11, 2) := by decide +kernel
theorem dX4_fits_34 : decode cX4_fits 34 = .ok (.if_icmp .ge 68, 3) := by decide +kernel
theorem dX4_fits_37 : decode cX4_fits 37 = .ok (.aload_n 0, 1) := by decide +kernel
theorem dX4_fits_38 : decode cX4_fits 38 = .ok (.getfield 26, 3) := by decide +kernel
theorem dX4_fits_41 : decode cX4_fits 41 = .ok (.iload 12, 2) := by decide +kernel
theorem dX4_fits_43 : decode cX4_fits 43 = .ok (.laload, 1) := by decide +kernel
theorem dX4_fits_44 : decode cX4_fits 44 = .ok (.lload 8, 2) := by decide +kernel
theorem dX4_fits_46 : decode cX4_fits 46 = .ok (.lcmp, 1) := by decide +kernel
theorem dX4_fits_47 : decode cX4_fits 47 = .ok (.ifCond .gt 20, 3) := by decide +kernel
theorem dX4_fits_50 : decode cX4_fits 50 = .ok (.lload 8, 2) := by decide +kernel
theorem dX4_fits_52 : decode cX4_fits 52 = .ok (.aload_n 0, 1) := by decide +kernel
theorem dX4_fits_53 : decode cX4_fits 53 = .ok (.getfield 29, 3) := by decide +kernel
theorem dX4_fits_56 : decode cX4_fits 56 = .ok (.iload 12, 2) := by decide +kernel
theorem dX4_fits_58 : decode cX4_fits 58 = .ok (.laload, 1) := by decide +kernel
theorem dX4_fits_59 : decode cX4_fits 59 = .ok (.lcmp, 1) := by decide +kernel
theorem dX4_fits_60 : decode cX4_fits 60 = .ok (.ifCond .ge 7, 3) := by decide +kernel
theorem dX4_fits_63 : decode cX4_fits 63 = .ok (.iconst 1, 1) := by decide +kernel
theorem dX4_fits_64 : decode cX4_fits 64 = .ok (.goto 4, 3) := by decide +kernel
theorem dX4_fits_67 : decode cX4_fits 67 = .ok (.iconst 0, 1) := by decide +kernel
theorem dX4_fits_68 : decode cX4_fits 68 = .ok (.istore 13, 2) := by decide +kernel
theorem dX4_fits_70 : decode cX4_fits 70 = .ok (.iload 13, 2) := by decide +kernel
theorem dX4_fits_72 : decode cX4_fits 72 = .ok (.ifCond .eq 24, 3) := by decide +kernel
theorem dX4_fits_75 : decode cX4_fits 75 = .ok (.aload_n 0, 1) := by decide +kernel
theorem dX4_fits_76 : decode cX4_fits 76 = .ok (.getfield 22, 3) := by decide +kernel
theorem dX4_fits_79 : decode cX4_fits 79 = .ok (.iload 12, 2) := by decide +kernel
theorem dX4_fits_81 : decode cX4_fits 81 = .ok (.laload, 1) := by decide +kernel
theorem dX4_fits_82 : decode cX4_fits 82 = .ok (.lload_n 2, 1) := by decide +kernel
theorem dX4_fits_83 : decode cX4_fits 83 = .ok (.lload 4, 2) := by decide +kernel
theorem dX4_fits_85 : decode cX4_fits 85 = .ok (.invokestatic 46, 3) := by decide +kernel
theorem dX4_fits_88 : decode cX4_fits 88 = .ok (.lload 6, 2) := by decide +kernel
theorem dX4_fits_90 : decode cX4_fits 90 = .ok (.lcmp, 1) := by decide +kernel
theorem dX4_fits_91 : decode cX4_fits 91 = .ok (.ifCond .ne 5, 3) := by decide +kernel
theorem dX4_fits_94 : decode cX4_fits 94 = .ok (.iconst 1, 1) := by decide +kernel
theorem dX4_fits_95 : decode cX4_fits 95 = .ok (.ireturn, 1) := by decide +kernel
theorem dX4_fits_96 : decode cX4_fits 96 = .ok (.iinc 12 1, 3) := by decide +kernel
theorem dX4_fits_99 : decode cX4_fits 99 = .ok (.goto (-69), 3) := by decide +kernel
theorem dX4_fits_102 : decode cX4_fits 102 = .ok (.iconst 0, 1) := by decide +kernel
theorem dX4_fits_103 : decode cX4_fits 103 = .ok (.ireturn, 1) := by decide +kernel
def p_W_has (ow : Nat → Nat) (wc : Nat) (wl : Nat → Int32) (wb : Nat → Bool) (wk : Nat → Nat) (kk : Nat → Int64) (kf : Nat → Int64) (ku : Nat → Int64) (x : Int32) : Int32 → Unit → Prop := fun r u => xb r (ixN wc x)
set_option maxHeartbeats 4000000 in
set_option maxRecDepth 100000 in
theorem c_W_has (l : Launch) (D : va_G) (k : Nat → ClassId) (ow : Nat → Nat) (wc : Nat) (wl : Nat → Int32) (wb : Nat → Bool) (wk : Nat → Nat) (kk : Nat → Int64) (kf : Nat → Int64) (ku : Nat → Int64) (x : Int32) (hwc : wc ≤ 12) : xx_Ci l yX4_has (.code yX4_has cX4_has 2 (some .boolean) :: xall) ({ frames := 0, cells := 0, slots := 0, locals := 0 } : Room) D vwCl (xT k) [.ref (ow 0), .int x] (bW k ow wc wl wb wk kk kf ku) (p_W_has ow wc wl wb wk kk kf ku x) (fun (u : Unit) => bW k ow wc wl wb wk kk kf ku) 0 0 := by
  intro sz
  refine xx_met (Qf := fun A => va_Qi (p_W_has ow wc wl wb wk kk kf ku x) (xx_B D vwCl (xT k) A (fun (u : Unit) => bW k ow wc wl wb wk kk kf ku)) A) (cc := cX4_has) (maxL := 2) (ret := (some .boolean)) (by decide) rfl (Nat.le_of_ble_eq_true rfl) ?_
  intro p e s m below meth c A ls hx hb hr hts hown hlocks hin hml hA hS hP hD hK hN hl
  have hl : lv_has ls 2 [(0, .ref (ow 0)), (1, .int x)] := hl
  have hown : s.vm.findClass RX4 = some m.cls := hown
  have hinW := inX4
  refine lv_iload_n hx hb dX4_has_0 rfl (lv_at hl 1 rfl) ?_
  refine lv_if_lt (tgt := 16) hx hb dX4_has_1 (by decide) (fun c1 => ?_) (fun c1 => ?_)
  · refine lv_iconst (v := (nI 0)) hx hb dX4_has_16 (by decide) ?_
    refine xx_zret () hx hb hr hlocks rfl hS hK hP hD dX4_has_17 ?_
    first | exact xb_f (xx_nix (by omega) (Or.inl c1)) | exact xb_f (xx_nix (by omega) (Or.inr c9)) | exact xb_t (xx_ix (by omega) c1 c9)
  · refine lv_iload_n hx hb dX4_has_4 rfl (lv_at hl 1 rfl) ?_
    refine lv_aload_n hx hb dX4_has_5 rfl (lv_at hl 0 rfl) ?_
    refine va_get (D := D) (ci := 4) (v := .int (nI wc)) (C := RX4) (T := TX4) (N := 7) hx hb hts hinW hown hK hP 0 rfl rfl 6 (by decide) (hts _ tw_36) (fun _ h9 => h9) rfl dX4_has_6 ?_
    refine lv_icmp_ge (tgt := 16) hx hb dX4_has_9 (by decide) (fun c9 => ?_) (fun c9 => ?_)
    · refine lv_iconst (v := (nI 0)) hx hb dX4_has_16 (by decide) ?_
      refine xx_zret () hx hb hr hlocks rfl hS hK hP hD dX4_has_17 ?_
      first | exact xb_f (xx_nix (by omega) (Or.inl c1)) | exact xb_f (xx_nix (by omega) (Or.inr c9)) | exact xb_t (xx_ix (by omega) c1 c9)
    · refine lv_iconst (v := (nI 1)) hx hb dX4_has_12 (by decide) ?_
      refine lv_goto (tgt := 17) hx hb dX4_has_13 (by decide) ?_
      refine xx_zret () hx hb hr hlocks rfl hS hK hP hD dX4_has_17 ?_
      first | exact xb_f (xx_nix (by omega) (Or.inl c1)) | exact xb_f (xx_nix (by omega) (Or.inr c9)) | exact xb_t (xx_ix (by omega) c1 c9)
def p_W_may (ow : Nat → Nat) (wc : Nat) (wl : Nat → Int32) (wb : Nat → Bool) (wk : Nat → Nat) (kk : Nat → Int64) (kf : Nat → Int64) (ku : Nat → Int64) (x : Int32) : Int32 → Unit → Prop := fun r u => xb r (∃ j, j < wc ∧ x = nI j ∧ wb j = false)
set_option maxHeartbeats 4000000 in
set_option maxRecDepth 100000 in
theorem c_W_may (l : Launch) (D : va_G) (k : Nat → ClassId) (ow : Nat → Nat) (wc : Nat) (wl : Nat → Int32) (wb : Nat → Bool) (wk : Nat → Nat) (kk : Nat → Int64) (kf : Nat → Int64) (ku : Nat → Int64) (x : Int32) (hwc : wc ≤ 12) : xx_Ci l yX4_mayWrite (.code yX4_mayWrite cX4_mayWrite 2 (some .boolean) :: xall) ({ frames := 1, cells := 0, slots := 0, locals := 21 } : Room) D vwCl (xT k) [.ref (ow 0), .int x] (bW k ow wc wl wb wk kk kf ku) (p_W_may ow wc wl wb wk kk kf ku x) (fun (u : Unit) => bW k ow wc wl wb wk kk kf ku) 0 0 := by
  intro sz
  refine xx_met (Qf := fun A => va_Qi (p_W_may ow wc wl wb wk kk kf ku x) (xx_B D vwCl (xT k) A (fun (u : Unit) => bW k ow wc wl wb wk kk kf ku)) A) (cc := cX4_mayWrite) (maxL := 2) (ret := (some .boolean)) (by decide) rfl (Nat.le_of_ble_eq_true rfl) ?_
  intro p e s m below meth c A ls hx hb hr hts hown hlocks hin hml hA hS hP hD hK hN hl
  have hl : lv_has ls 2 [(0, .ref (ow 0)), (1, .int x)] := hl
  have hown : s.vm.findClass RX4 = some m.cls := hown
  have hinW := inX4
  refine lv_aload_n hx hb dX4_mayWrite_0 rfl (lv_at hl 0 rfl) ?_
  refine lv_iload_n hx hb dX4_mayWrite_1 rfl (lv_at hl 1 rfl) ?_
  refine xx_calli ([]) [0, 1, 2, 3, 4, 5, 6] [] (va_runV (As := [.int x]) (rest := []) ⟨hx, hb, hml, hown, hts⟩ (c_W_has l D k ow wc wl wb wk kk kf ku x (by omega) s.heap.size) (cwV 1 hts (xx_gV tw_185 tw_186 tw_187 tw_3 tw_188) rfl rfl rfl (by decide +kernel) ⟨Nat.le_of_ble_eq_true rfl, Nat.le_of_ble_eq_true rfl⟩) (xx_preV hK hN hP hD [0, 1, 2, 3, 4, 5, 6] (by decide) rfl 4 0 rfl rfl) rfl rfl hl.1 rfl (lv_room (Nat.le_of_ble_eq_true rfl)) dX4_mayWrite_2 ⟨Nat.le_of_ble_eq_true rfl, Nat.le_of_ble_eq_true rfl⟩) hP hD hS hA rfl rfl (by decide) (by decide) (fun r2 u2 H locs hw2 hP hD hS => ?_)
  rcases hw2 with ⟨rfl, j2, hj2, hx2⟩ | ⟨rfl, hq2⟩
  · subst hx2
    have hP : va_P D vwCl (bW k ow wc wl wb wk kk kf ku) H := hP
    have hD : va_D A (bW k ow wc wl wb wk kk kf ku) := hD
    refine lv_if_eq (tgt := 21) hx hb dX4_mayWrite_5 (by decide) (fun c => absurd c (by decide)) (fun _ => ?_)
    refine lv_aload_n hx hb dX4_mayWrite_8 rfl (lv_at hl 0 rfl) ?_
    refine va_get (D := D) (ci := 4) (v := .ref (ow 2)) (C := RX4) (T := TX4) (N := 7) hx hb hts hinW hown hK hP 0 rfl rfl 1 (by decide) (hts _ tw_31) (fun _ h9 => h9) rfl dX4_mayWrite_9 ?_
    refine lv_iload_n hx hb dX4_mayWrite_12 rfl (lv_at hl 1 rfl) ?_
    refine xx_zald hx hb hK hP 2 1 rfl rfl (show j2 < 12 by omega) (by decide) dX4_mayWrite_13 ?_
    refine lv_if_ne (tgt := 21) hx hb dX4_mayWrite_14 (by decide) (fun c14 => ?_) (fun c14 => ?_)
    · have c14 : wb j2 = true := bI_ne c14
      refine lv_iconst (v := (nI 0)) hx hb dX4_mayWrite_21 (by decide) ?_
      refine xx_zret () hx hb hr hlocks rfl hS hK hP hD dX4_mayWrite_22 ?_
      first | exact xb_f (xx_none hq2) | exact xb_t ⟨j2, hj2, rfl, c14⟩ | exact xb_f (xx_one (P := fun j => wb j = false) (by omega) hj2 (fun h => xx_tf c14 h))
    · have c14 : wb j2 = false := bI_eq c14
      refine lv_iconst (v := (nI 1)) hx hb dX4_mayWrite_17 (by decide) ?_
      refine lv_goto (tgt := 22) hx hb dX4_mayWrite_18 (by decide) ?_
      refine xx_zret () hx hb hr hlocks rfl hS hK hP hD dX4_mayWrite_22 ?_
      first | exact xb_f (xx_none hq2) | exact xb_t ⟨j2, hj2, rfl, c14⟩ | exact xb_f (xx_one (P := fun j => wb j = false) (by omega) hj2 (fun h => xx_tf c14 h))
  · have hP : va_P D vwCl (bW k ow wc wl wb wk kk kf ku) H := hP
    have hD : va_D A (bW k ow wc wl wb wk kk kf ku) := hD
    refine lv_if_eq (tgt := 21) hx hb dX4_mayWrite_5 (by decide) (fun _ => ?_) (fun c => absurd c (by decide))
    refine lv_iconst (v := (nI 0)) hx hb dX4_mayWrite_21 (by decide) ?_
    refine xx_zret () hx hb hr hlocks rfl hS hK hP hD dX4_mayWrite_22 ?_
    first | exact xb_f (xx_none hq2) | exact xb_t ⟨j2, hj2, rfl, c14⟩ | exact xb_f (xx_one (P := fun j => wb j = false) (by omega) hj2 (fun h => xx_tf c14 h))
def p_W_levelOf (ow : Nat → Nat) (wc : Nat) (wl : Nat → Int32) (wb : Nat → Bool) (wk : Nat → Nat) (kk : Nat → Int64) (kf : Nat → Int64) (ku : Nat → Int64) (w : Nat) : Int32 → Unit → Prop := fun r u => r = wl w
set_option maxHeartbeats 4000000 in
set_option maxRecDepth 100000 in
theorem c_W_levelOf (l : Launch) (D : va_G) (k : Nat → ClassId) (ow : Nat → Nat) (wc : Nat) (wl : Nat → Int32) (wb : Nat → Bool) (wk : Nat → Nat) (kk : Nat → Int64) (kf : Nat → Int64) (ku : Nat → Int64) (w : Nat) (hwc : wc ≤ 12) (hw : w < wc) : xx_Ci l yX4_levelOf (.code yX4_levelOf cX4_levelOf 2 (some .int) :: xall) ({ frames := 1, cells := 0, slots := 0, locals := 21 } : Room) D vwCl (xT k) [.ref (ow 0), .int (nI w)] (bW k ow wc wl wb wk kk kf ku) (p_W_levelOf ow wc wl wb wk kk kf ku w) (fun (u : Unit) => bW k ow wc wl wb wk kk kf ku) 0 0 := by
  intro sz
  refine xx_met (Qf := fun A => va_Qi (p_W_levelOf ow wc wl wb wk kk kf ku w) (xx_B D vwCl (xT k) A (fun (u : Unit) => bW k ow wc wl wb wk kk kf ku)) A) (cc := cX4_levelOf) (maxL := 2) (ret := (some .int)) (by decide) rfl (Nat.le_of_ble_eq_true rfl) ?_
  intro p e s m below meth c A ls hx hb hr hts hown hlocks hin hml hA hS hP hD hK hN hl
  have hl : lv_has ls 2 [(0, .ref (ow 0)), (1, .int (nI w))] := hl
  have hown : s.vm.findClass RX4 = some m.cls := hown
  have hinW := inX4
  refine lv_aload_n hx hb dX4_levelOf_0 rfl (lv_at hl 0 rfl) ?_
  refine lv_iload_n hx hb dX4_levelOf_1 rfl (lv_at hl 1 rfl) ?_
  refine xx_calli ([]) [0, 1, 2, 3, 4, 5, 6] [] (va_runV (As := [.int (nI w)]) (rest := []) ⟨hx, hb, hml, hown, hts⟩ (c_W_has l D k ow wc wl wb wk kk kf ku (nI w) (by omega) s.heap.size) (cwV 1 hts (xx_gV tw_185 tw_186 tw_187 tw_3 tw_188) rfl rfl rfl (by decide +kernel) ⟨Nat.le_of_ble_eq_true rfl, Nat.le_of_ble_eq_true rfl⟩) (xx_preV hK hN hP hD [0, 1, 2, 3, 4, 5, 6] (by decide) rfl 4 0 rfl rfl) rfl rfl hl.1 rfl (lv_room (Nat.le_of_ble_eq_true rfl)) dX4_levelOf_2 ⟨Nat.le_of_ble_eq_true rfl, Nat.le_of_ble_eq_true rfl⟩) hP hD hS hA rfl rfl (by decide) (by decide) (fun r2 u2 H locs hw2 hP hD hS => ?_)
  rcases hw2 with ⟨rfl, j2, hj2, hx2⟩ | ⟨rfl, hq2⟩
  · have hx2 : w = j2 := (nI_eq (by omega) (by omega)).mp hx2
    subst hx2
    have hP : va_P D vwCl (bW k ow wc wl wb wk kk kf ku) H := hP
    have hD : va_D A (bW k ow wc wl wb wk kk kf ku) := hD
    refine lv_if_eq (tgt := 17) hx hb dX4_levelOf_5 (by decide) (fun c => absurd c (by decide)) (fun _ => ?_)
    refine lv_aload_n hx hb dX4_levelOf_8 rfl (lv_at hl 0 rfl) ?_
    refine va_get (D := D) (ci := 4) (v := .ref (ow 1)) (C := RX4) (T := TX4) (N := 7) hx hb hts hinW hown hK hP 0 rfl rfl 0 (by decide) (hts _ tw_30) (fun _ h9 => h9) rfl dX4_levelOf_9 ?_
    refine lv_iload_n hx hb dX4_levelOf_12 rfl (lv_at hl 1 rfl) ?_
    refine xx_iald hx hb hK hP 1 0 rfl rfl (show w < 12 by omega) (by decide) dX4_levelOf_13 ?_
    refine lv_goto (tgt := 18) hx hb dX4_levelOf_14 (by decide) ?_
    refine xx_iret () hx hb hr hlocks hS hK hP hD dX4_levelOf_18 ?_
    exact rfl
  · have hP : va_P D vwCl (bW k ow wc wl wb wk kk kf ku) H := hP
    have hD : va_D A (bW k ow wc wl wb wk kk kf ku) := hD
    exact absurd ⟨w, hw, rfl⟩ hq2
def p_W_shutOut (ow : Nat → Nat) (wc : Nat) (wl : Nat → Int32) (wb : Nat → Bool) (wk : Nat → Nat) (kk : Nat → Int64) (kf : Nat → Int64) (ku : Nat → Int64) (w : Nat) : (Nat → Bool) → Prop := fun u => u = xu_B wb w true
set_option maxHeartbeats 4000000 in
set_option maxRecDepth 100000 in
theorem c_W_shutOut (l : Launch) (D : va_G) (k : Nat → ClassId) (ow : Nat → Nat) (wc : Nat) (wl : Nat → Int32) (wb : Nat → Bool) (wk : Nat → Nat) (kk : Nat → Int64) (kf : Nat → Int64) (ku : Nat → Int64) (w : Nat) (hwc : wc ≤ 12) (hw : w < wc) : xx_Cv l yX4_shutOut (.code yX4_shutOut cX4_shutOut 2 none :: xall) ({ frames := 1, cells := 0, slots := 0, locals := 21 } : Room) D vwCl (xT k) [.ref (ow 0), .int (nI w)] (bW k ow wc wl wb wk kk kf ku) (p_W_shutOut ow wc wl wb wk kk kf ku w) (fun (u : Nat → Bool) => bW k ow wc wl u wk kk kf ku) 0 0 := by
  intro sz
  refine xx_met (Qf := fun A => va_Qv (p_W_shutOut ow wc wl wb wk kk kf ku w) (xx_B D vwCl (xT k) A (fun (u : Nat → Bool) => bW k ow wc wl u wk kk kf ku)) A) (cc := cX4_shutOut) (maxL := 2) (ret := none) (by decide) rfl (Nat.le_of_ble_eq_true rfl) ?_
  intro p e s m below meth c A ls hx hb hr hts hown hlocks hin hml hA hS hP hD hK hN hl
  have hl : lv_has ls 2 [(0, .ref (ow 0)), (1, .int (nI w))] := hl
  have hown : s.vm.findClass RX4 = some m.cls := hown
  have hinW := inX4
  refine lv_aload_n hx hb dX4_shutOut_0 rfl (lv_at hl 0 rfl) ?_
  refine lv_iload_n hx hb dX4_shutOut_1 rfl (lv_at hl 1 rfl) ?_
  refine xx_calli ([]) [0, 1, 2, 3, 4, 5, 6] [] (va_runV (As := [.int (nI w)]) (rest := []) ⟨hx, hb, hml, hown, hts⟩ (c_W_has l D k ow wc wl wb wk kk kf ku (nI w) (by omega) s.heap.size) (cwV 1 hts (xx_gV tw_185 tw_186 tw_187 tw_3 tw_188) rfl rfl rfl (by decide +kernel) ⟨Nat.le_of_ble_eq_true rfl, Nat.le_of_ble_eq_true rfl⟩) (xx_preV hK hN hP hD [0, 1, 2, 3, 4, 5, 6] (by decide) rfl 4 0 rfl rfl) rfl rfl hl.1 rfl (lv_room (Nat.le_of_ble_eq_true rfl)) dX4_shutOut_2 ⟨Nat.le_of_ble_eq_true rfl, Nat.le_of_ble_eq_true rfl⟩) hP hD hS hA rfl rfl (by decide) (by decide) (fun r2 u2 H locs hw2 hP hD hS => ?_)
  rcases hw2 with ⟨rfl, j2, hj2, hx2⟩ | ⟨rfl, hq2⟩
  · have hx2 : w = j2 := (nI_eq (by omega) (by omega)).mp hx2
    subst hx2
    have hP : va_P D vwCl (bW k ow wc wl wb wk kk kf ku) H := hP
    have hD : va_D A (bW k ow wc wl wb wk kk kf ku) := hD
    refine lv_if_eq (tgt := 15) hx hb dX4_shutOut_5 (by decide) (fun c => absurd c (by decide)) (fun _ => ?_)
    refine lv_aload_n hx hb dX4_shutOut_8 rfl (lv_at hl 0 rfl) ?_
    refine va_get (D := D) (ci := 4) (v := .ref (ow 2)) (C := RX4) (T := TX4) (N := 7) hx hb hts hinW hown hK hP 0 rfl rfl 1 (by decide) (hts _ tw_31) (fun _ h9 => h9) rfl dX4_shutOut_9 ?_
    refine lv_iload_n hx hb dX4_shutOut_12 rfl (lv_at hl 1 rfl) ?_
    refine lv_iconst (v := (nI 1)) hx hb dX4_shutOut_13 (by decide) ?_
    refine xx_zast (g := (fun z9 => bI ((xu_B wb w true) z9))) hx hb hK hP hD hS 2 1 rfl rfl (show w < 12 by omega) (by decide) (by decide) (xx_updB wb w true) dX4_shutOut_14 (fun H locs hP hD hS => ?_)
    have hP : va_P D vwCl (bW k ow wc wl (xu_B wb w true) wk kk kf ku) H := hP
    have hD : va_D A (bW k ow wc wl (xu_B wb w true) wk kk kf ku) := hD
    refine xx_vret (xu_B wb w true) hx hb hr hlocks hS hK hP hD dX4_shutOut_15 ?_
    exact rfl
  · have hP : va_P D vwCl (bW k ow wc wl wb wk kk kf ku) H := hP
    have hD : va_D A (bW k ow wc wl wb wk kk kf ku) := hD
    exact absurd ⟨w, hw, rfl⟩ hq2
def p_W_add (ow : Nat → Nat) (wc : Nat) (wl : Nat → Int32) (wb : Nat → Bool) (wk : Nat → Nat) (kk : Nat → Int64) (kf : Nat → Int64) (ku : Nat → Int64) (x : Int32) : Int32 → (Nat × (Nat → Int32)) → Prop := fun r u => (r = (-1) ∧ ¬ (wc < 12 ∧ ixN 3 x) ∧ u = (wc, wl)) ∨ (r = nI wc ∧ (wc < 12 ∧ ixN 3 x) ∧ u = (wc + 1, upd wl wc x))
set_option maxHeartbeats 4000000 in
set_option maxRecDepth 100000 in
theorem c_W_add (l : Launch) (D : va_G) (k : Nat → ClassId) (ow : Nat → Nat) (wc : Nat) (wl : Nat → Int32) (wb : Nat → Bool) (wk : Nat → Nat) (kk : Nat → Int64) (kf : Nat → Int64) (ku : Nat → Int64) (x : Int32) (hwc : wc ≤ 12) : xx_Ci l yX4_add (.code yX4_add cX4_add 3 (some .int) :: xall) ({ frames := 1, cells := 0, slots := 0, locals := 20 } : Room) D vwCl (xT k) [.ref (ow 0), .int x] (bW k ow wc wl wb wk kk kf ku) (p_W_add ow wc wl wb wk kk kf ku x) (fun (u : Nat × (Nat → Int32)) => bW k ow u.1 u.2 wb wk kk kf ku) 0 0 := by
  intro sz
  refine xx_met (Qf := fun A => va_Qi (p_W_add ow wc wl wb wk kk kf ku x) (xx_B D vwCl (xT k) A (fun (u : Nat × (Nat → Int32)) => bW k ow u.1 u.2 wb wk kk kf ku)) A) (cc := cX4_add) (maxL := 3) (ret := (some .int)) (by decide) rfl (Nat.le_of_ble_eq_true rfl) ?_
  intro p e s m below meth c A ls hx hb hr hts hown hlocks hin hml hA hS hP hD hK hN hl
  have hl : lv_has ls 3 [(0, .ref (ow 0)), (1, .int x)] := hl
  have hown : s.vm.findClass RX4 = some m.cls := hown
  have hinW := inX4
  refine lv_aload_n hx hb dX4_add_0 rfl (lv_at hl 0 rfl) ?_
  refine va_get (D := D) (ci := 4) (v := .int (nI wc)) (C := RX4) (T := TX4) (N := 7) hx hb hts hinW hown hK hP 0 rfl rfl 6 (by decide) (hts _ tw_36) (fun _ h9 => h9) rfl dX4_add_1 ?_
  refine lv_bipush (v := (nI 12)) hx hb dX4_add_4 (by decide) ?_
  refine lv_icmp_ge (tgt := 16) hx hb dX4_add_6 (by decide) (fun c6 => ?_) (fun c6 => ?_)
  · have c6 : 12 ≤ wc := (nI_leI (by omega) (by omega)).mp c6
    refine lv_iconst (v := (-1)) hx hb dX4_add_16 (by decide) ?_
    refine xx_iret (wc, wl) hx hb hr hlocks hS hK hP hD dX4_add_17 ?_
    first | exact Or.inl ⟨rfl, fun h => absurd h.1 (by omega), rfl⟩ | exact Or.inl ⟨rfl, fun h => absurd h.2 hq10, rfl⟩
  · have c6 : wc < 12 := Nat.lt_of_not_le (fun h => c6 ((nI_leI (by omega) (by omega)).mpr h))
    refine lv_iload_n hx hb dX4_add_9 rfl (lv_at hl 1 rfl) ?_
    refine xx_calli (bW k ow wc wl wb wk kk kf ku) [] [0, 1, 2, 3, 4, 5, 6] (va_runSN (As := [.int x]) (rest := []) ⟨hx, hb, hml, hown, hts⟩ (c_isLevel l D k x s.heap.size) ⟨va_cnB 1 hts (xx_gc tw_172) rfl rfl rfl (hN (RX4, 36, yX5_isLevel, "TrustRows") (by decide +kernel)) (hts _ tw_1) (by decide +kernel) ⟨Nat.le_of_ble_eq_true rfl, Nat.le_of_ble_eq_true rfl⟩, hts _ tw_171, trivial⟩ (xx_preS hK hN hP hD [] (by decide) rfl) rfl rfl hl.1 rfl (lv_room (Nat.le_of_ble_eq_true rfl)) dX4_add_10 ⟨Nat.le_of_ble_eq_true rfl, Nat.le_of_ble_eq_true rfl⟩) hP hD hS hA rfl rfl (by decide) (by decide) (fun r10 u10 H locs hw10 hP hD hS => ?_)
    rcases hw10 with ⟨rfl, hq10⟩ | ⟨rfl, hq10⟩
    · have hP : va_P D vwCl (bW k ow wc wl wb wk kk kf ku) H := hP
      have hD : va_D A (bW k ow wc wl wb wk kk kf ku) := hD
      refine lv_if_ne (tgt := 18) hx hb dX4_add_13 (by decide) (fun _ => ?_) (fun c => absurd c (by decide))
      refine lv_aload_n hx hb dX4_add_18 rfl (lv_at hl 0 rfl) ?_
      refine va_get (D := D) (ci := 4) (v := .int (nI wc)) (C := RX4) (T := TX4) (N := 7) hx hb hts hinW hown hK hP 0 rfl rfl 6 (by decide) (hts _ tw_36) (fun _ h9 => h9) rfl dX4_add_19 ?_
      refine lv_istore_n (lv' := [(2, .int (nI wc)), (0, .ref (ow 0)), (1, .int x)]) hx hb dX4_add_22 rfl hl (by decide) rfl (fun ls hl => ?_)
      refine lv_aload_n hx hb dX4_add_23 rfl (lv_at hl 1 rfl) ?_
      refine va_get (D := D) (ci := 4) (v := .ref (ow 1)) (C := RX4) (T := TX4) (N := 7) hx hb hts hinW hown hK hP 0 rfl rfl 0 (by decide) (hts _ tw_30) (fun _ h9 => h9) rfl dX4_add_24 ?_
      refine lv_iload_n hx hb dX4_add_27 rfl (lv_at hl 0 rfl) ?_
      refine lv_iload_n hx hb dX4_add_28 rfl (lv_at hl 2 rfl) ?_
      refine xx_iast (g := (upd wl wc x)) hx hb hK hP hD hS 1 0 rfl rfl (show wc < 12 by omega) (by decide) rfl dX4_add_29 (fun H locs hP hD hS => ?_)
      have hP : va_P D vwCl (bW k ow wc (upd wl wc x) wb wk kk kf ku) H := hP
      have hD : va_D A (bW k ow wc (upd wl wc x) wb wk kk kf ku) := hD
      refine lv_aload_n hx hb dX4_add_30 rfl (lv_at hl 1 rfl) ?_
      refine lv_dup hx hb dX4_add_31 rfl ?_
      refine va_get (D := D) (ci := 4) (v := .int (nI wc)) (C := RX4) (T := TX4) (N := 7) hx hb hts hinW hown hK hP 0 rfl rfl 6 (by decide) (hts _ tw_36) (fun _ h9 => h9) rfl dX4_add_32 ?_
      refine lv_iconst (v := (nI 1)) hx hb dX4_add_35 (by decide) ?_
      refine lv_iadd hx hb dX4_add_36 ?_
      refine xx_topi (nI_add wc 1) ?_
      refine va_put (D := D) (ci := 4) (v := .int (nI (wc + 1))) (ty := .int) (C := RX4) (T := TX4) (N := 7) hx hb hts hinW tyX4 tyX4_ok nmX4 hown hK hP hD hS 0 rfl rfl 6 (by decide) (hts _ tw_36) (fun _ h9 => h9) rfl (by decide +kernel) rfl rfl (Nat.le_of_ble_eq_true rfl) dX4_add_37 (fun H locs hP hD hS => ?_)
      have hP : va_P D vwCl (bW k ow (wc + 1) (upd wl wc x) wb wk kk kf ku) H := hP
      have hD : va_D A (bW k ow (wc + 1) (upd wl wc x) wb wk kk kf ku) := hD
      refine lv_iload_n hx hb dX4_add_40 rfl (lv_at hl 0 rfl) ?_
      refine xx_iret (wc + 1, (upd wl wc x)) hx hb hr hlocks hS hK hP hD dX4_add_41 ?_
      exact Or.inr ⟨rfl, ⟨c6, hq10⟩, rfl⟩
    · have hP : va_P D vwCl (bW k ow wc wl wb wk kk kf ku) H := hP
      have hD : va_D A (bW k ow wc wl wb wk kk kf ku) := hD
      refine lv_if_ne (tgt := 18) hx hb dX4_add_13 (by decide) (fun c => absurd c (by decide)) (fun _ => ?_)
      refine lv_iconst (v := (-1)) hx hb dX4_add_16 (by decide) ?_
      refine xx_iret (wc, wl) hx hb hr hlocks hS hK hP hD dX4_add_17 ?_
      first | exact Or.inl ⟨rfl, fun h => absurd h.1 (by omega), rfl⟩ | exact Or.inl ⟨rfl, fun h => absurd h.2 hq10, rfl⟩
def p_W_addKey (ow : Nat → Nat) (wc : Nat) (wl : Nat → Int32) (wb : Nat → Bool) (wk : Nat → Nat) (kk : Nat → Int64) (kf : Nat → Int64) (ku : Nat → Int64) (x : Int32) (key : Int64) (f : Int64) (g : Int64) : Int32 → ((Nat → Nat) × (Nat → Int64) × (Nat → Int64) × (Nat → Int64)) → Prop := fun r u => (r = (-1) ∧ ¬ (∃ j, j < wc ∧ x = nI j ∧ (wb j = false ∧ wk j < 4 ∧ ¬ (f < 0) ∧ f < g)) ∧ u = (wk, kk, kf, ku)) ∨ (∃ j, j < wc ∧ x = nI j ∧ (wb j = false ∧ wk j < 4 ∧ ¬ (f < 0) ∧ f < g) ∧ r = nI (wk j) ∧ u = (xu_N wk j (wk j + 1), vp_updL kk (j * 4 + wk j) key, vp_updL kf (j * 4 + wk j) f, vp_updL ku (j * 4 + wk j) g))
set_option maxHeartbeats 4000000 in
set_option maxRecDepth 100000 in
theorem c_W_addKey (l : Launch) (D : va_G) (k : Nat → ClassId) (ow : Nat → Nat) (wc : Nat) (wl : Nat → Int32) (wb : Nat → Bool) (wk : Nat → Nat) (kk : Nat → Int64) (kf : Nat → Int64) (ku : Nat → Int64) (x : Int32) (key : Int64) (f : Int64) (g : Int64) (hwc : wc ≤ 12) (hwk : ∀ i, wk i ≤ 4) : xx_Ci l yX4_addKey (.code yX4_addKey cX4_addKey 10 (some .int) :: xall) ({ frames := 2, cells := 0, slots := 0, locals := 42 } : Room) D vwCl (xT k) [.ref (ow 0), .int x, .long key, .long f, .long g] (bW k ow wc wl wb wk kk kf ku) (p_W_addKey ow wc wl wb wk kk kf ku x key f g) (fun (u : (Nat → Nat) × (Nat → Int64) × (Nat → Int64) × (Nat → Int64)) => bW k ow wc wl wb u.1 u.2.1 u.2.2.1 u.2.2.2) 0 0 := by
  intro sz
  refine xx_met (Qf := fun A => va_Qi (p_W_addKey ow wc wl wb wk kk kf ku x key f g) (xx_B D vwCl (xT k) A (fun (u : (Nat → Nat) × (Nat → Int64) × (Nat → Int64) × (Nat → Int64)) => bW k ow wc wl wb u.1 u.2.1 u.2.2.1 u.2.2.2)) A) (cc := cX4_addKey) (maxL := 10) (ret := (some .int)) (by decide) rfl (Nat.le_of_ble_eq_true rfl) ?_
  intro p e s m below meth c A ls hx hb hr hts hown hlocks hin hml hA hS hP hD hK hN hl
  have hl : lv_has ls 10 [(0, .ref (ow 0)), (1, .int x), (2, .long key), (4, .long f), (6, .long g)] := hl
  have hown : s.vm.findClass RX4 = some m.cls := hown
  have hinW := inX4
  refine lv_aload_n hx hb dX4_addKey_0 rfl (lv_at hl 0 rfl) ?_
  refine lv_iload_n hx hb dX4_addKey_1 rfl (lv_at hl 1 rfl) ?_
  refine xx_calli ([]) [0, 1, 2, 3, 4, 5, 6] [] (va_runV (As := [.int x]) (rest := []) ⟨hx, hb, hml, hown, hts⟩ (c_W_may l D k ow wc wl wb wk kk kf ku x (by omega) s.heap.size) (cwV 1 hts (xx_gV tw_181 tw_182 tw_183 tw_3 tw_184) rfl rfl rfl (by decide +kernel) ⟨Nat.le_of_ble_eq_true rfl, Nat.le_of_ble_eq_true rfl⟩) (xx_preV hK hN hP hD [0, 1, 2, 3, 4, 5, 6] (by decide) rfl 4 0 rfl rfl) rfl rfl hl.1 rfl (lv_room (Nat.le_of_ble_eq_true rfl)) dX4_addKey_2 ⟨Nat.le_of_ble_eq_true rfl, Nat.le_of_ble_eq_true rfl⟩) hP hD hS hA rfl rfl (by decide) (by decide) (fun r2 u2 H locs hw2 hP hD hS => ?_)
  rcases hw2 with ⟨rfl, j2, hj2, hx2, hb2⟩ | ⟨rfl, hq2⟩
  · subst hx2
    have hP : va_P D vwCl (bW k ow wc wl wb wk kk kf ku) H := hP
    have hD : va_D A (bW k ow wc wl wb wk kk kf ku) := hD
    refine lv_if_eq (tgt := 18) hx hb dX4_addKey_5 (by decide) (fun c => absurd c (by decide)) (fun _ => ?_)
    refine lv_aload_n hx hb dX4_addKey_8 rfl (lv_at hl 0 rfl) ?_
    refine va_get (D := D) (ci := 4) (v := .ref (ow 3)) (C := RX4) (T := TX4) (N := 7) hx hb hts hinW hown hK hP 0 rfl rfl 2 (by decide) (hts _ tw_32) (fun _ h9 => h9) rfl dX4_addKey_9 ?_
    refine lv_iload_n hx hb dX4_addKey_12 rfl (lv_at hl 1 rfl) ?_
    refine xx_iald hx hb hK hP 3 0 rfl rfl (show j2 < 12 by omega) (by decide) dX4_addKey_13 ?_
    refine lv_iconst (v := (nI 4)) hx hb dX4_addKey_14 (by decide) ?_
    have hk := hwk j2
    refine lv_icmp_lt (tgt := 20) hx hb dX4_addKey_15 (by decide) (fun c15 => ?_) (fun c15 => ?_)
    · have c15 : wk j2 < 4 := (nI_ltI (by omega) (by omega)).mp c15
      refine lv_lload hx hb dX4_addKey_20 (lv_at hl 3 rfl) ?_
      refine lv_lconst (v := 0) hx hb dX4_addKey_22 (by decide) ?_
      refine W.lcmp hx hb dX4_addKey_23 ?_
      refine lv_if_lt (tgt := 35) hx hb dX4_addKey_24 (by decide) (fun c24 => ?_) (fun c24 => ?_)
      · have c24 : f < 0 := (lg_cmp_lt f 0).mp c24
        refine lv_iconst (v := (-1)) hx hb dX4_addKey_35 (by decide) ?_
        refine xx_iret (wk, kk, kf, ku) hx hb hr hlocks hS hK hP hD dX4_addKey_36 ?_
        first | exact Or.inl ⟨rfl, xx_one (P := fun j => wb j = false ∧ wk j < 4 ∧ ¬ (f < 0) ∧ f < g) (by omega) hj2 (fun h => absurd c24 h.2.2.1), rfl⟩ | exact Or.inl ⟨rfl, xx_one (P := fun j => wb j = false ∧ wk j < 4 ∧ ¬ (f < 0) ∧ f < g) (by omega) hj2 (fun h => absurd h.2.2.2 c32), rfl⟩
      · have c24 : ¬ (f < 0) := fun h => c24 ((lg_cmp_lt f 0).mpr h)
        refine lv_lload hx hb dX4_addKey_27 (lv_at hl 4 rfl) ?_
        refine lv_lload hx hb dX4_addKey_29 (lv_at hl 3 rfl) ?_
        refine W.lcmp hx hb dX4_addKey_31 ?_
        refine lv_if_gt (tgt := 37) hx hb dX4_addKey_32 (by decide) (fun c32 => ?_) (fun c32 => ?_)
        · have c32 : f < g := (lg_cmp_gt g f).mp c32
          refine lv_aload_n hx hb dX4_addKey_37 rfl (lv_at hl 0 rfl) ?_
          refine va_get (D := D) (ci := 4) (v := .ref (ow 3)) (C := RX4) (T := TX4) (N := 7) hx hb hts hinW hown hK hP 0 rfl rfl 2 (by decide) (hts _ tw_32) (fun _ h9 => h9) rfl dX4_addKey_38 ?_
          refine lv_iload_n hx hb dX4_addKey_41 rfl (lv_at hl 1 rfl) ?_
          refine xx_iald hx hb hK hP 3 0 rfl rfl (show j2 < 12 by omega) (by decide) dX4_addKey_42 ?_
          refine lv_istore (lv' := [(8, .int (nI (wk j2))), (0, .ref (ow 0)), (1, .int (nI j2)), (2, .long key), (4, .long f), (6, .long g)]) hx hb dX4_addKey_43 hl (by decide) rfl (fun ls hl => ?_)
          refine lv_iload_n hx hb dX4_addKey_45 rfl (lv_at hl 2 rfl) ?_
          refine lv_iconst (v := (nI 4)) hx hb dX4_addKey_46 (by decide) ?_
          refine lv_imul hx hb dX4_addKey_47 ?_
          refine xx_topi (pk_mul j2 4) ?_
          refine lv_iload hx hb dX4_addKey_48 (lv_at hl 0 rfl) ?_
          refine lv_iadd hx hb dX4_addKey_50 ?_
          refine xx_topi (nI_add (j2 * 4) (wk j2)) ?_
          refine lv_istore (lv' := [(9, .int (nI ((j2 * 4) + (wk j2)))), (8, .int (nI (wk j2))), (0, .ref (ow 0)), (1, .int (nI j2)), (2, .long key), (4, .long f), (6, .long g)]) hx hb dX4_addKey_51 hl (by decide) rfl (fun ls hl => ?_)
          refine lv_aload_n hx hb dX4_addKey_53 rfl (lv_at hl 2 rfl) ?_
          refine va_get (D := D) (ci := 4) (v := .ref (ow 4)) (C := RX4) (T := TX4) (N := 7) hx hb hts hinW hown hK hP 0 rfl rfl 3 (by decide) (hts _ tw_33) (fun _ h9 => h9) rfl dX4_addKey_54 ?_
          refine lv_iload hx hb dX4_addKey_57 (lv_at hl 0 rfl) ?_
          refine lv_lload_n hx hb dX4_addKey_59 rfl (lv_at hl 4 rfl) ?_
          refine xx_last (g := (vp_updL kk ((j2 * 4) + (wk j2)) key)) hx hb hK hP hD hS 4 2 rfl rfl (show (j2 * 4) + (wk j2) < 48 by omega) (by decide) rfl dX4_addKey_60 (fun H locs hP hD hS => ?_)
          have hP : va_P D vwCl (bW k ow wc wl wb wk (vp_updL kk ((j2 * 4) + (wk j2)) key) kf ku) H := hP
          have hD : va_D A (bW k ow wc wl wb wk (vp_updL kk ((j2 * 4) + (wk j2)) key) kf ku) := hD
          refine lv_aload_n hx hb dX4_addKey_61 rfl (lv_at hl 2 rfl) ?_
          refine va_get (D := D) (ci := 4) (v := .ref (ow 5)) (C := RX4) (T := TX4) (N := 7) hx hb hts hinW hown hK hP 0 rfl rfl 4 (by decide) (hts _ tw_34) (fun _ h9 => h9) rfl dX4_addKey_62 ?_
          refine lv_iload hx hb dX4_addKey_65 (lv_at hl 0 rfl) ?_
          refine lv_lload hx hb dX4_addKey_67 (lv_at hl 5 rfl) ?_
          refine xx_last (g := (vp_updL kf ((j2 * 4) + (wk j2)) f)) hx hb hK hP hD hS 5 2 rfl rfl (show (j2 * 4) + (wk j2) < 48 by omega) (by decide) rfl dX4_addKey_69 (fun H locs hP hD hS => ?_)
          have hP : va_P D vwCl (bW k ow wc wl wb wk (vp_updL kk ((j2 * 4) + (wk j2)) key) (vp_updL kf ((j2 * 4) + (wk j2)) f) ku) H := hP
          have hD : va_D A (bW k ow wc wl wb wk (vp_updL kk ((j2 * 4) + (wk j2)) key) (vp_updL kf ((j2 * 4) + (wk j2)) f) ku) := hD
          refine lv_aload_n hx hb dX4_addKey_70 rfl (lv_at hl 2 rfl) ?_
          refine va_get (D := D) (ci := 4) (v := .ref (ow 6)) (C := RX4) (T := TX4) (N := 7) hx hb hts hinW hown hK hP 0 rfl rfl 5 (by decide) (hts _ tw_35) (fun _ h9 => h9) rfl dX4_addKey_71 ?_
          refine lv_iload hx hb dX4_addKey_74 (lv_at hl 0 rfl) ?_
          refine lv_lload hx hb dX4_addKey_76 (lv_at hl 6 rfl) ?_
          refine xx_last (g := (vp_updL ku ((j2 * 4) + (wk j2)) g)) hx hb hK hP hD hS 6 2 rfl rfl (show (j2 * 4) + (wk j2) < 48 by omega) (by decide) rfl dX4_addKey_78 (fun H locs hP hD hS => ?_)
          have hP : va_P D vwCl (bW k ow wc wl wb wk (vp_updL kk ((j2 * 4) + (wk j2)) key) (vp_updL kf ((j2 * 4) + (wk j2)) f) (vp_updL ku ((j2 * 4) + (wk j2)) g)) H := hP
          have hD : va_D A (bW k ow wc wl wb wk (vp_updL kk ((j2 * 4) + (wk j2)) key) (vp_updL kf ((j2 * 4) + (wk j2)) f) (vp_updL ku ((j2 * 4) + (wk j2)) g)) := hD
          refine lv_aload_n hx hb dX4_addKey_79 rfl (lv_at hl 2 rfl) ?_
          refine va_get (D := D) (ci := 4) (v := .ref (ow 3)) (C := RX4) (T := TX4) (N := 7) hx hb hts hinW hown hK hP 0 rfl rfl 2 (by decide) (hts _ tw_32) (fun _ h9 => h9) rfl dX4_addKey_80 ?_
          refine lv_iload_n hx hb dX4_addKey_83 rfl (lv_at hl 3 rfl) ?_
          refine lv_dup2_11 hx hb dX4_addKey_84 rfl rfl ?_
          refine xx_iald hx hb hK hP 3 0 rfl rfl (show j2 < 12 by omega) (by decide) dX4_addKey_85 ?_
          refine lv_iconst (v := (nI 1)) hx hb dX4_addKey_86 (by decide) ?_
          refine lv_iadd hx hb dX4_addKey_87 ?_
          refine xx_topi (nI_add (wk j2) 1) ?_
          refine xx_iast (g := (fun z9 => nI ((xu_N wk j2 ((wk j2) + 1)) z9))) hx hb hK hP hD hS 3 0 rfl rfl (show j2 < 12 by omega) (by decide) (xx_updN wk j2 ((wk j2) + 1)) dX4_addKey_88 (fun H locs hP hD hS => ?_)
          have hP : va_P D vwCl (bW k ow wc wl wb (xu_N wk j2 ((wk j2) + 1)) (vp_updL kk ((j2 * 4) + (wk j2)) key) (vp_updL kf ((j2 * 4) + (wk j2)) f) (vp_updL ku ((j2 * 4) + (wk j2)) g)) H := hP
          have hD : va_D A (bW k ow wc wl wb (xu_N wk j2 ((wk j2) + 1)) (vp_updL kk ((j2 * 4) + (wk j2)) key) (vp_updL kf ((j2 * 4) + (wk j2)) f) (vp_updL ku ((j2 * 4) + (wk j2)) g)) := hD
          refine lv_iload hx hb dX4_addKey_89 (lv_at hl 1 rfl) ?_
          refine xx_iret ((xu_N wk j2 ((wk j2) + 1)), (vp_updL kk ((j2 * 4) + (wk j2)) key), (vp_updL kf ((j2 * 4) + (wk j2)) f), (vp_updL ku ((j2 * 4) + (wk j2)) g)) hx hb hr hlocks hS hK hP hD dX4_addKey_91 ?_
          exact Or.inr ⟨j2, hj2, rfl, ⟨hb2, c15, c24, c32⟩, rfl, rfl⟩
        · have c32 : ¬ (f < g) := fun h => c32 ((lg_cmp_gt g f).mpr h)
          refine lv_iconst (v := (-1)) hx hb dX4_addKey_35 (by decide) ?_
          refine xx_iret (wk, kk, kf, ku) hx hb hr hlocks hS hK hP hD dX4_addKey_36 ?_
          first | exact Or.inl ⟨rfl, xx_one (P := fun j => wb j = false ∧ wk j < 4 ∧ ¬ (f < 0) ∧ f < g) (by omega) hj2 (fun h => absurd c24 h.2.2.1), rfl⟩ | exact Or.inl ⟨rfl, xx_one (P := fun j => wb j = false ∧ wk j < 4 ∧ ¬ (f < 0) ∧ f < g) (by omega) hj2 (fun h => absurd h.2.2.2 c32), rfl⟩
    · have c15 : 4 ≤ wk j2 := Nat.le_of_not_lt (fun h => c15 ((nI_ltI (by omega) (by omega)).mpr h))
      refine lv_iconst (v := (-1)) hx hb dX4_addKey_18 (by decide) ?_
      refine xx_iret (wk, kk, kf, ku) hx hb hr hlocks hS hK hP hD dX4_addKey_19 ?_
      first | exact Or.inl ⟨rfl, xx_none4 hq2, rfl⟩ | exact Or.inl ⟨rfl, xx_one (P := fun j => wb j = false ∧ wk j < 4 ∧ ¬ (f < 0) ∧ f < g) (by omega) hj2 (fun h => absurd h.2.1 (by omega)), rfl⟩
  · have hP : va_P D vwCl (bW k ow wc wl wb wk kk kf ku) H := hP
    have hD : va_D A (bW k ow wc wl wb wk kk kf ku) := hD
    refine lv_if_eq (tgt := 18) hx hb dX4_addKey_5 (by decide) (fun _ => ?_) (fun c => absurd c (by decide))
    refine lv_iconst (v := (-1)) hx hb dX4_addKey_18 (by decide) ?_
    refine xx_iret (wk, kk, kf, ku) hx hb hr hlocks hS hK hP hD dX4_addKey_19 ?_
    first | exact Or.inl ⟨rfl, xx_none4 hq2, rfl⟩ | exact Or.inl ⟨rfl, xx_one (P := fun j => wb j = false ∧ wk j < 4 ∧ ¬ (f < 0) ∧ f < g) (by omega) hj2 (fun h => absurd h.2.1 (by omega)), rfl⟩
def p_W_fits (ow : Nat → Nat) (wc : Nat) (wl : Nat → Int32) (wb : Nat → Bool) (wk : Nat → Nat) (kk : Nat → Int64) (kf : Nat → Int64) (ku : Nat → Int64) (w : Nat) (a : Int64) (d : Int64) (told : Int64) (tm : Int64) : Int32 → Unit → Prop := fun r u => xb r (∃ t, w * 4 ≤ t ∧ t < w * 4 + wk w ∧ (¬ (tm < kf t) ∧ ¬ (ku t ≤ tm) ∧ xs_sum (kk t) a d = told))
set_option maxHeartbeats 4000000 in
set_option maxRecDepth 100000 in
theorem c_W_fits (l : Launch) (D : va_G) (k : Nat → ClassId) (ow : Nat → Nat) (wc : Nat) (wl : Nat → Int32) (wb : Nat → Bool) (wk : Nat → Nat) (kk : Nat → Int64) (kf : Nat → Int64) (ku : Nat → Int64) (w : Nat) (a : Int64) (d : Int64) (told : Int64) (tm : Int64) (hwc : wc ≤ 12) (hw : w < wc) (hwk : ∀ i, wk i ≤ 4) : xx_Ci l yX4_fits (.code yX4_fits cX4_fits 14 (some .boolean) :: xall) ({ frames := 2, cells := 0, slots := 0, locals := 51 } : Room) D vwCl (xT k) [.ref (ow 0), .int (nI w), .long a, .long d, .long told, .long tm] (bW k ow wc wl wb wk kk kf ku) (p_W_fits ow wc wl wb wk kk kf ku w a d told tm) (fun (u : Unit) => bW k ow wc wl wb wk kk kf ku) 0 0 := by
  intro sz
  refine xx_met (Qf := fun A => va_Qi (p_W_fits ow wc wl wb wk kk kf ku w a d told tm) (xx_B D vwCl (xT k) A (fun (u : Unit) => bW k ow wc wl wb wk kk kf ku)) A) (cc := cX4_fits) (maxL := 14) (ret := (some .boolean)) (by decide) rfl (Nat.le_of_ble_eq_true rfl) ?_
  intro p e s m below meth c A ls hx hb hr hts hown hlocks hin hml hA hS hP hD hK hN hl
  have hl : lv_has ls 14 [(0, .ref (ow 0)), (1, .int (nI w)), (2, .long a), (4, .long d), (6, .long told), (8, .long tm)] := hl
  have hown : s.vm.findClass RX4 = some m.cls := hown
  have hinW := inX4
  have hk := hwk w
  refine lv_aload_n hx hb dX4_fits_0 rfl (lv_at hl 0 rfl) ?_
  refine lv_iload_n hx hb dX4_fits_1 rfl (lv_at hl 1 rfl) ?_
  refine xx_calli ([]) [0, 1, 2, 3, 4, 5, 6] [] (va_runV (As := [.int (nI w)]) (rest := []) ⟨hx, hb, hml, hown, hts⟩ (c_W_has l D k ow wc wl wb wk kk kf ku (nI w) (by omega) s.heap.size) (cwV 1 hts (xx_gV tw_185 tw_186 tw_187 tw_3 tw_188) rfl rfl rfl (by decide +kernel) ⟨Nat.le_of_ble_eq_true rfl, Nat.le_of_ble_eq_true rfl⟩) (xx_preV hK hN hP hD [0, 1, 2, 3, 4, 5, 6] (by decide) rfl 4 0 rfl rfl) rfl rfl hl.1 rfl (lv_room (Nat.le_of_ble_eq_true rfl)) dX4_fits_2 ⟨Nat.le_of_ble_eq_true rfl, Nat.le_of_ble_eq_true rfl⟩) hP hD hS hA rfl rfl (by decide) (by decide) (fun r2 u2 H locs hw2 hP hD hS => ?_)
  rcases hw2 with ⟨rfl, j2, hj2, hx2⟩ | ⟨rfl, hq2⟩
  · have hx2 : w = j2 := (nI_eq (by omega) (by omega)).mp hx2
    subst hx2
    have hP : va_P D vwCl (bW k ow wc wl wb wk kk kf ku) H := hP
    have hD : va_D A (bW k ow wc wl wb wk kk kf ku) := hD
    refine lv_if_ne (tgt := 10) hx hb dX4_fits_5 (by decide) (fun _ => ?_) (fun c => absurd c (by decide))
    refine lv_iload_n hx hb dX4_fits_10 rfl (lv_at hl 1 rfl) ?_
    refine lv_iconst (v := (nI 4)) hx hb dX4_fits_11 (by decide) ?_
    refine lv_imul hx hb dX4_fits_12 ?_
    refine xx_topi (pk_mul w 4) ?_
    refine lv_istore (lv' := [(10, .int (nI (w * 4))), (0, .ref (ow 0)), (1, .int (nI w)), (2, .long a), (4, .long d), (6, .long told), (8, .long tm)]) hx hb dX4_fits_13 hl (by decide) rfl (fun ls hl => ?_)
    refine lv_iload hx hb dX4_fits_15 (lv_at hl 0 rfl) ?_
    refine lv_aload_n hx hb dX4_fits_17 rfl (lv_at hl 1 rfl) ?_
    refine va_get (D := D) (ci := 4) (v := .ref (ow 3)) (C := RX4) (T := TX4) (N := 7) hx hb hts hinW hown hK hP 0 rfl rfl 2 (by decide) (hts _ tw_32) (fun _ h9 => h9) rfl dX4_fits_18 ?_
    refine lv_iload_n hx hb dX4_fits_21 rfl (lv_at hl 2 rfl) ?_
    refine xx_iald hx hb hK hP 3 0 rfl rfl (show w < 12 by omega) (by decide) dX4_fits_22 ?_
    refine lv_iadd hx hb dX4_fits_23 ?_
    refine xx_topi (nI_add (w * 4) (wk w)) ?_
    refine lv_istore (lv' := [(11, .int (nI ((w * 4) + (wk w)))), (10, .int (nI (w * 4))), (0, .ref (ow 0)), (1, .int (nI w)), (2, .long a), (4, .long d), (6, .long told), (8, .long tm)]) hx hb dX4_fits_24 hl (by decide) rfl (fun ls hl => ?_)
    refine lv_iload hx hb dX4_fits_26 (lv_at hl 1 rfl) ?_
    refine lv_istore (lv' := [(12, .int (nI (w * 4))), (11, .int (nI ((w * 4) + (wk w)))), (10, .int (nI (w * 4))), (0, .ref (ow 0)), (1, .int (nI w)), (2, .long a), (4, .long d), (6, .long told), (8, .long tm)]) hx hb dX4_fits_28 hl (by decide) rfl (fun ls hl => ?_)
    have loop30 : ∀ (dd : Nat) (t : Nat), (w * 4 + wk w) + 1 ≤ t + dd → (w * 4 ≤ t) → (t ≤ w * 4 + wk w) → (∀ j, w * 4 ≤ j → j < t → ¬ (¬ (tm < kf j) ∧ ¬ (ku j ≤ tm) ∧ xs_sum (kk j) a d = told)) → ∀ (H : Heap) (locs : List Loc) (ls : Array Slot), va_P D vwCl (bW k ow wc wl wb wk kk kf ku) H → va_D A (bW k ow wc wl wb wk kk kf ku) → va_S A s.heap H locs → lv_has ls 14 [(0, .ref (ow 0)), (1, .int (nI w)), (2, .long a), (4, .long d), (6, .long told), (8, .long tm), (11, .int (nI ((w * 4) + (wk w)))), (12, .int (nI t))] → W p l e ({ frames := 2, cells := 0, slots := 0, locals := 51 } : Room) s m [.ref (ow 0), .int (nI w), .long a, .long d, .long told, .long tm].toArray below meth c H locs 0 0 (MQ below (va_Qi (p_W_fits ow wc wl wb wk kk kf ku w a d told tm) (xx_B D vwCl (xT k) A (fun (u : Unit) => bW k ow wc wl wb wk kk kf ku)) A) [.ref (ow 0), .int (nI w), .long a, .long d, .long told, .long tm].toArray s 0 0 A) (F0 m 30 ls []) := by
      intro dd
      induction dd with
      | zero =>
        intro t hm h1 h2 h3
        exact absurd hm (by omega)
      | succ dd ih30 =>
        intro t hm h1 h2 h3 H locs ls hP hD hS hl
        refine lv_iload hx hb dX4_fits_30 (lv_at hl 7 rfl) ?_
        refine lv_iload hx hb dX4_fits_32 (lv_at hl 6 rfl) ?_
        refine lv_icmp_ge (tgt := 102) hx hb dX4_fits_34 (by decide) (fun c34 => ?_) (fun c34 => ?_)
        · have c34 : (w * 4) + (wk w) ≤ t := (nI_leI (by omega) (by omega)).mp c34
          refine lv_iconst (v := (nI 0)) hx hb dX4_fits_102 (by decide) ?_
          refine xx_zret () hx hb hr hlocks rfl hS hK hP hD dX4_fits_103 ?_
          exact xb_f (fun ⟨j, z1, z2, z3⟩ => h3 j z1 (by omega) z3)
        · have c34 : t < (w * 4) + (wk w) := Nat.lt_of_not_le (fun h => c34 ((nI_leI (by omega) (by omega)).mpr h))
          refine lv_aload_n hx hb dX4_fits_37 rfl (lv_at hl 0 rfl) ?_
          refine va_get (D := D) (ci := 4) (v := .ref (ow 5)) (C := RX4) (T := TX4) (N := 7) hx hb hts hinW hown hK hP 0 rfl rfl 4 (by decide) (hts _ tw_34) (fun _ h9 => h9) rfl dX4_fits_38 ?_
          refine lv_iload hx hb dX4_fits_41 (lv_at hl 7 rfl) ?_
          refine xx_lald hx hb hK hP 5 2 rfl rfl (show t < 48 by omega) (by decide) dX4_fits_43 ?_
          refine lv_lload hx hb dX4_fits_44 (lv_at hl 5 rfl) ?_
          refine W.lcmp hx hb dX4_fits_46 ?_
          refine lv_if_gt (tgt := 67) hx hb dX4_fits_47 (by decide) (fun c47 => ?_) (fun c47 => ?_)
          · have c47 : tm < (kf t) := (lg_cmp_gt (kf t) tm).mp c47
            refine lv_iconst (v := (nI 0)) hx hb dX4_fits_67 (by decide) ?_
            refine lv_istore (lv' := [(13, .int (nI 0)), (0, .ref (ow 0)), (1, .int (nI w)), (2, .long a), (4, .long d), (6, .long told), (8, .long tm), (11, .int (nI ((w * 4) + (wk w)))), (12, .int (nI t))]) hx hb dX4_fits_68 hl (by decide) rfl (fun ls hl => ?_)
            refine lv_iload hx hb dX4_fits_70 (lv_at hl 0 rfl) ?_
            refine lv_if_eq (tgt := 96) hx hb dX4_fits_72 (by decide) (fun _ => ?_) (fun c => absurd c (by decide))
            refine lv_iinc (v := (nI (t + 1))) (lv' := [(12, .int (nI (t + 1))), (13, .int (nI 0)), (0, .ref (ow 0)), (1, .int (nI w)), (2, .long a), (4, .long d), (6, .long told), (8, .long tm), (11, .int (nI ((w * 4) + (wk w))))]) hx hb dX4_fits_96 hl (k := 8) rfl (nI_1 t) (by decide) rfl (fun ls hl => ?_)
            refine lv_goto (tgt := 30) hx hb dX4_fits_99 (by decide) ?_
            exact ih30 (t + 1) (by omega) (by omega) (by omega) (by intro j z1 z2 z3; rcases Nat.lt_or_ge j t with z | z; exact h3 j z1 z z3; obtain rfl : j = t := (by omega); first | exact z3.1 c47 | exact z3.2.1 c60 | exact c91 z3.2.2) H locs ls hP hD hS (lv_sub hl [2, 3, 4, 5, 6, 7, 8, 0] rfl)
          · have c47 : ¬ (tm < (kf t)) := fun h => c47 ((lg_cmp_gt (kf t) tm).mpr h)
            refine lv_lload hx hb dX4_fits_50 (lv_at hl 5 rfl) ?_
            refine lv_aload_n hx hb dX4_fits_52 rfl (lv_at hl 0 rfl) ?_
            refine va_get (D := D) (ci := 4) (v := .ref (ow 6)) (C := RX4) (T := TX4) (N := 7) hx hb hts hinW hown hK hP 0 rfl rfl 5 (by decide) (hts _ tw_35) (fun _ h9 => h9) rfl dX4_fits_53 ?_
            refine lv_iload hx hb dX4_fits_56 (lv_at hl 7 rfl) ?_
            refine xx_lald hx hb hK hP 6 2 rfl rfl (show t < 48 by omega) (by decide) dX4_fits_58 ?_
            refine W.lcmp hx hb dX4_fits_59 ?_
            refine lv_if_ge (tgt := 67) hx hb dX4_fits_60 (by decide) (fun c60 => ?_) (fun c60 => ?_)
            · have c60 : (ku t) ≤ tm := (lg_cmp_ge tm (ku t)).mp c60
              refine lv_iconst (v := (nI 0)) hx hb dX4_fits_67 (by decide) ?_
              refine lv_istore (lv' := [(13, .int (nI 0)), (0, .ref (ow 0)), (1, .int (nI w)), (2, .long a), (4, .long d), (6, .long told), (8, .long tm), (11, .int (nI ((w * 4) + (wk w)))), (12, .int (nI t))]) hx hb dX4_fits_68 hl (by decide) rfl (fun ls hl => ?_)
              refine lv_iload hx hb dX4_fits_70 (lv_at hl 0 rfl) ?_
              refine lv_if_eq (tgt := 96) hx hb dX4_fits_72 (by decide) (fun _ => ?_) (fun c => absurd c (by decide))
              refine lv_iinc (v := (nI (t + 1))) (lv' := [(12, .int (nI (t + 1))), (13, .int (nI 0)), (0, .ref (ow 0)), (1, .int (nI w)), (2, .long a), (4, .long d), (6, .long told), (8, .long tm), (11, .int (nI ((w * 4) + (wk w))))]) hx hb dX4_fits_96 hl (k := 8) rfl (nI_1 t) (by decide) rfl (fun ls hl => ?_)
              refine lv_goto (tgt := 30) hx hb dX4_fits_99 (by decide) ?_
              exact ih30 (t + 1) (by omega) (by omega) (by omega) (by intro j z1 z2 z3; rcases Nat.lt_or_ge j t with z | z; exact h3 j z1 z z3; obtain rfl : j = t := (by omega); first | exact z3.1 c47 | exact z3.2.1 c60 | exact c91 z3.2.2) H locs ls hP hD hS (lv_sub hl [2, 3, 4, 5, 6, 7, 8, 0] rfl)
            · have c60 : ¬ ((ku t) ≤ tm) := fun h => c60 ((lg_cmp_ge tm (ku t)).mpr h)
              refine lv_iconst (v := (nI 1)) hx hb dX4_fits_63 (by decide) ?_
              refine lv_goto (tgt := 68) hx hb dX4_fits_64 (by decide) ?_
              refine lv_istore (lv' := [(13, .int (nI 1)), (0, .ref (ow 0)), (1, .int (nI w)), (2, .long a), (4, .long d), (6, .long told), (8, .long tm), (11, .int (nI ((w * 4) + (wk w)))), (12, .int (nI t))]) hx hb dX4_fits_68 hl (by decide) rfl (fun ls hl => ?_)
              refine lv_iload hx hb dX4_fits_70 (lv_at hl 0 rfl) ?_
              refine lv_if_eq (tgt := 96) hx hb dX4_fits_72 (by decide) (fun c => absurd c (by decide)) (fun _ => ?_)
              refine lv_aload_n hx hb dX4_fits_75 rfl (lv_at hl 1 rfl) ?_
              refine va_get (D := D) (ci := 4) (v := .ref (ow 4)) (C := RX4) (T := TX4) (N := 7) hx hb hts hinW hown hK hP 0 rfl rfl 3 (by decide) (hts _ tw_33) (fun _ h9 => h9) rfl dX4_fits_76 ?_
              refine lv_iload hx hb dX4_fits_79 (lv_at hl 8 rfl) ?_
              refine xx_lald hx hb hK hP 4 2 rfl rfl (show t < 48 by omega) (by decide) dX4_fits_81 ?_
              refine lv_lload_n hx hb dX4_fits_82 rfl (lv_at hl 3 rfl) ?_
              refine lv_lload hx hb dX4_fits_83 (lv_at hl 4 rfl) ?_
              refine xx_calll (bW k ow wc wl wb wk kk kf ku) [] [0, 1, 2, 3, 4, 5, 6] (va_runSN (As := [.long (kk t), .long a, .long d]) (rest := []) ⟨hx, hb, hml, hown, hts⟩ (c_sumUnder l D k (kk t) a d H.size) ⟨va_cnB 3 hts (xx_gc tw_195) rfl rfl rfl (hN (RX4, 46, yX5_sumUnder, "TrustRows") (by decide +kernel)) (hts _ tw_1) (by decide +kernel) ⟨Nat.le_of_ble_eq_true rfl, Nat.le_of_ble_eq_true rfl⟩, hts _ tw_194, trivial⟩ (xx_preS hK hN hP hD [] (by decide) rfl) rfl rfl hl.1 rfl (lv_room (Nat.le_of_ble_eq_true rfl)) dX4_fits_85 ⟨Nat.le_of_ble_eq_true rfl, Nat.le_of_ble_eq_true rfl⟩) hP hD hS hA rfl rfl (by decide) (by decide) (fun r85 u85 H locs hw85 hP hD hS => ?_)
              obtain rfl := hw85
              have hP : va_P D vwCl (bW k ow wc wl wb wk kk kf ku) H := hP
              have hD : va_D A (bW k ow wc wl wb wk kk kf ku) := hD
              refine lv_lload hx hb dX4_fits_88 (lv_at hl 5 rfl) ?_
              refine W.lcmp hx hb dX4_fits_90 ?_
              refine lv_if_ne (tgt := 96) hx hb dX4_fits_91 (by decide) (fun c91 => ?_) (fun c91 => ?_)
              · have c91 : ¬ ((xs_sum (kk t) a d) = told) := fun h => c91 ((lg_cmp_eq (xs_sum (kk t) a d) told).mpr h)
                refine lv_iinc (v := (nI (t + 1))) (lv' := [(12, .int (nI (t + 1))), (13, .int (nI 1)), (0, .ref (ow 0)), (1, .int (nI w)), (2, .long a), (4, .long d), (6, .long told), (8, .long tm), (11, .int (nI ((w * 4) + (wk w))))]) hx hb dX4_fits_96 hl (k := 8) rfl (nI_1 t) (by decide) rfl (fun ls hl => ?_)
                refine lv_goto (tgt := 30) hx hb dX4_fits_99 (by decide) ?_
                exact ih30 (t + 1) (by omega) (by omega) (by omega) (by intro j z1 z2 z3; rcases Nat.lt_or_ge j t with z | z; exact h3 j z1 z z3; obtain rfl : j = t := (by omega); first | exact z3.1 c47 | exact z3.2.1 c60 | exact c91 z3.2.2) H locs ls hP hD hS (lv_sub hl [2, 3, 4, 5, 6, 7, 8, 0] rfl)
              · have c91 : (xs_sum (kk t) a d) = told := (lg_cmp_eq (xs_sum (kk t) a d) told).mp c91
                refine lv_iconst (v := (nI 1)) hx hb dX4_fits_94 (by decide) ?_
                refine xx_zret () hx hb hr hlocks rfl hS hK hP hD dX4_fits_95 ?_
                exact xb_t ⟨t, h1, c34, c47, c60, c91⟩
    exact loop30 ((w * 4 + wk w) + 1) (w * 4) (by omega) (by omega) (by omega) (by intro j z1 z2; exact absurd z2 (by omega)) H locs ls hP hD hS (lv_sub hl [3, 4, 5, 6, 7, 8, 1, 0] rfl)
  · have hP : va_P D vwCl (bW k ow wc wl wb wk kk kf ku) H := hP
    have hD : va_D A (bW k ow wc wl wb wk kk kf ku) := hD
    exact absurd ⟨w, hw, rfl⟩ hq2
