theorem dX5_isPlace_0 : decode cX5_isPlace 0 = .ok (.iload_n 0, 1) := by decide +kernel
theorem dX5_isPlace_1 : decode cX5_isPlace 1 = .ok (.ifCond .lt 13, 3) := by decide +kernel
theorem dX5_isPlace_4 : decode cX5_isPlace 4 = .ok (.iload_n 0, 1) := by decide +kernel
theorem dX5_isPlace_5 : decode cX5_isPlace 5 = .ok (.bipush 7, 2) := by decide +kernel
theorem dX5_isPlace_7 : decode cX5_isPlace 7 = .ok (.if_icmp .gt 7, 3) := by decide +kernel
theorem dX5_isPlace_10 : decode cX5_isPlace 10 = .ok (.iconst 1, 1) := by decide +kernel
theorem dX5_isPlace_11 : decode cX5_isPlace 11 = .ok (.goto 4, 3) := by decide +kernel
theorem dX5_isPlace_14 : decode cX5_isPlace 14 = .ok (.iconst 0, 1) := by decide +kernel
theorem dX5_isPlace_15 : decode cX5_isPlace 15 = .ok (.ireturn, 1) := by decide +kernel
theorem dX5_isLevel_0 : decode cX5_isLevel 0 = .ok (.iload_n 0, 1) := by decide +kernel
theorem dX5_isLevel_1 : decode cX5_isLevel 1 = .ok (.ifCond .lt 12, 3) := by decide +kernel
theorem dX5_isLevel_4 : decode cX5_isLevel 4 = .ok (.iload_n 0, 1) := by decide +kernel
theorem dX5_isLevel_5 : decode cX5_isLevel 5 = .ok (.iconst 2, 1) := by decide +kernel
theorem dX5_isLevel_6 : decode cX5_isLevel 6 = .ok (.if_icmp .gt 7, 3) := by decide +kernel
theorem dX5_isLevel_9 : decode cX5_isLevel 9 = .ok (.iconst 1, 1) := by decide +kernel
theorem dX5_isLevel_10 : decode cX5_isLevel 10 = .ok (.goto 4, 3) := by decide +kernel
theorem dX5_isLevel_13 : decode cX5_isLevel 13 = .ok (.iconst 0, 1) := by decide +kernel
theorem dX5_isLevel_14 : decode cX5_isLevel 14 = .ok (.ireturn, 1) := by decide +kernel
theorem dX5_isPlaceOrAny_0 : decode cX5_isPlaceOrAny 0 = .ok (.iload_n 0, 1) := by decide +kernel
theorem dX5_isPlaceOrAny_1 : decode cX5_isPlaceOrAny 1 = .ok (.iconst (-1), 1) := by decide +kernel
theorem dX5_isPlaceOrAny_2 : decode cX5_isPlaceOrAny 2 = .ok (.if_icmp .eq 10, 3) := by decide +kernel
theorem dX5_isPlaceOrAny_5 : decode cX5_isPlaceOrAny 5 = .ok (.iload_n 0, 1) := by decide +kernel
theorem dX5_isPlaceOrAny_6 : decode cX5_isPlaceOrAny 6 = .ok (.invokestatic 112, 3) := by decide +kernel
theorem dX5_isPlaceOrAny_9 : decode cX5_isPlaceOrAny 9 = .ok (.ifCond .eq 7, 3) := by decide +kernel
theorem dX5_isPlaceOrAny_12 : decode cX5_isPlaceOrAny 12 = .ok (.iconst 1, 1) := by decide +kernel
theorem dX5_isPlaceOrAny_13 : decode cX5_isPlaceOrAny 13 = .ok (.goto 4, 3) := by decide +kernel
theorem dX5_isPlaceOrAny_16 : decode cX5_isPlaceOrAny 16 = .ok (.iconst 0, 1) := by decide +kernel
theorem dX5_isPlaceOrAny_17 : decode cX5_isPlaceOrAny 17 = .ok (.ireturn, 1) := by decide +kernel
theorem dX5_mixWord_0 : decode cX5_mixWord 0 = .ok (.lload_n 0, 1) := by decide +kernel
theorem dX5_mixWord_1 : decode cX5_mixWord 1 = .ok (.lstore 4, 2) := by decide +kernel
theorem dX5_mixWord_3 : decode cX5_mixWord 3 = .ok (.bipush 56, 2) := by decide +kernel
theorem dX5_mixWord_5 : decode cX5_mixWord 5 = .ok (.istore 6, 2) := by decide +kernel
theorem dX5_mixWord_7 : decode cX5_mixWord 7 = .ok (.iload 6, 2) := by decide +kernel
theorem dX5_mixWord_9 : decode cX5_mixWord 9 = .ok (.ifCond .lt 39, 3) := by decide +kernel
theorem dX5_mixWord_12 : decode cX5_mixWord 12 = .ok (.lload 4, 2) := by decide +kernel
theorem dX5_mixWord_14 : decode cX5_mixWord 14 = .ok (.lload_n 2, 1) := by decide +kernel
theorem dX5_mixWord_15 : decode cX5_mixWord 15 = .ok (.iload 6, 2) := by decide +kernel
theorem dX5_mixWord_17 : decode cX5_mixWord 17 = .ok (.lushr, 1) := by decide +kernel
theorem dX5_mixWord_18 : decode cX5_mixWord 18 = .ok (.ldc2_w 164, 3) := by decide +kernel
theorem dX5_mixWord_21 : decode cX5_mixWord 21 = .ok (.land, 1) := by decide +kernel
theorem dX5_mixWord_22 : decode cX5_mixWord 22 = .ok (.lxor, 1) := by decide +kernel
theorem dX5_mixWord_23 : decode cX5_mixWord 23 = .ok (.lstore 4, 2) := by decide +kernel
theorem dX5_mixWord_25 : decode cX5_mixWord 25 = .ok (.lload 4, 2) := by decide +kernel
theorem dX5_mixWord_27 : decode cX5_mixWord 27 = .ok (.bipush 11, 2) := by decide +kernel
theorem dX5_mixWord_29 : decode cX5_mixWord 29 = .ok (.lshl, 1) := by decide +kernel
theorem dX5_mixWord_30 : decode cX5_mixWord 30 = .ok (.lload 4, 2) := by decide +kernel
theorem dX5_mixWord_32 : decode cX5_mixWord 32 = .ok (.bipush 53, 2) := by decide +kernel
theorem dX5_mixWord_34 : decode cX5_mixWord 34 = .ok (.lushr, 1) := by decide +kernel
theorem dX5_mixWord_35 : decode cX5_mixWord 35 = .ok (.lor, 1) := by decide +kernel
theorem dX5_mixWord_36 : decode cX5_mixWord 36 = .ok (.ldc2_w 166, 3) := by decide +kernel
theorem dX5_mixWord_39 : decode cX5_mixWord 39 = .ok (.lmul, 1) := by decide +kernel
theorem dX5_mixWord_40 : decode cX5_mixWord 40 = .ok (.lstore 4, 2) := by decide +kernel
theorem dX5_mixWord_42 : decode cX5_mixWord 42 = .ok (.iinc 6 (-8), 3) := by decide +kernel
theorem dX5_mixWord_45 : decode cX5_mixWord 45 = .ok (.goto (-38), 3) := by decide +kernel
theorem dX5_mixWord_48 : decode cX5_mixWord 48 = .ok (.lload 4, 2) := by decide +kernel
theorem dX5_mixWord_50 : decode cX5_mixWord 50 = .ok (.lreturn, 1) := by decide +kernel
theorem dX5_sumUnder_0 : decode cX5_sumUnder 0 = .ok (.lload_n 0, 1) := by decide +kernel
theorem dX5_sumUnder_1 : decode cX5_sumUnder 1 = .ok (.lload_n 2, 1) := by decide +kernel
theorem dX5_sumUnder_2 : decode cX5_sumUnder 2 = .ok (.invokestatic 160, 3) := by decide +kernel
theorem dX5_sumUnder_5 : decode cX5_sumUnder 5 = .ok (.lload 4, 2) := by decide +kernel
theorem dX5_sumUnder_7 : decode cX5_sumUnder 7 = .ok (.invokestatic 160, 3) := by decide +kernel
theorem dX5_sumUnder_10 : decode cX5_sumUnder 10 = .ok (.lreturn, 1) := by decide +kernel
def p_isPlace (x : Int32) : Int32 → Unit → Prop := fun r u => xb r (ixN 8 x)
set_option maxHeartbeats 4000000 in
set_option maxRecDepth 100000 in
theorem c_isPlace (l : Launch) (D : va_G) (k : Nat → ClassId) (x : Int32) : xx_Ci l yX5_isPlace (.code yX5_isPlace cX5_isPlace 1 (some .boolean) :: xall) ({ frames := 0, cells := 0, slots := 0, locals := 0 } : Room) D vwCl (xT k) [.int x] ([]) (p_isPlace x) (fun (u : Unit) => []) 0 0 := by
  intro sz
  refine xx_met (Qf := fun A => va_Qi (p_isPlace x) (xx_B D vwCl (xT k) A (fun (u : Unit) => [])) A) (cc := cX5_isPlace) (maxL := 1) (ret := (some .boolean)) (by decide) rfl (Nat.le_of_ble_eq_true rfl) ?_
  intro p e s m below meth c A ls hx hb hr hts hown hlocks hin hml hA hS hP hD hK hN hl
  have hl : lv_has ls 1 [(0, .int x)] := hl
  have hown : s.vm.findClass RX5 = some m.cls := hown
  refine lv_iload_n hx hb dX5_isPlace_0 rfl (lv_at hl 0 rfl) ?_
  refine lv_if_lt (tgt := 14) hx hb dX5_isPlace_1 (by decide) (fun c1 => ?_) (fun c1 => ?_)
  · refine lv_iconst (v := (nI 0)) hx hb dX5_isPlace_14 (by decide) ?_
    refine xx_zret () hx hb hr hlocks rfl hS hK hP hD dX5_isPlace_15 ?_
    first | exact xb_f (xx_nix (by decide) (Or.inl c1)) | exact xb_f (xx_ngt (by decide) c7) | exact xb_t (xx_ile (by decide) c1 c7)
  · refine lv_iload_n hx hb dX5_isPlace_4 rfl (lv_at hl 0 rfl) ?_
    refine lv_bipush (v := (nI 7)) hx hb dX5_isPlace_5 (by decide) ?_
    refine lv_icmp_gt (tgt := 14) hx hb dX5_isPlace_7 (by decide) (fun c7 => ?_) (fun c7 => ?_)
    · refine lv_iconst (v := (nI 0)) hx hb dX5_isPlace_14 (by decide) ?_
      refine xx_zret () hx hb hr hlocks rfl hS hK hP hD dX5_isPlace_15 ?_
      first | exact xb_f (xx_nix (by decide) (Or.inl c1)) | exact xb_f (xx_ngt (by decide) c7) | exact xb_t (xx_ile (by decide) c1 c7)
    · refine lv_iconst (v := (nI 1)) hx hb dX5_isPlace_10 (by decide) ?_
      refine lv_goto (tgt := 15) hx hb dX5_isPlace_11 (by decide) ?_
      refine xx_zret () hx hb hr hlocks rfl hS hK hP hD dX5_isPlace_15 ?_
      first | exact xb_f (xx_nix (by decide) (Or.inl c1)) | exact xb_f (xx_ngt (by decide) c7) | exact xb_t (xx_ile (by decide) c1 c7)
def p_isLevel (x : Int32) : Int32 → Unit → Prop := fun r u => xb r (ixN 3 x)
set_option maxHeartbeats 4000000 in
set_option maxRecDepth 100000 in
theorem c_isLevel (l : Launch) (D : va_G) (k : Nat → ClassId) (x : Int32) : xx_Ci l yX5_isLevel (.code yX5_isLevel cX5_isLevel 1 (some .boolean) :: xall) ({ frames := 0, cells := 0, slots := 0, locals := 0 } : Room) D vwCl (xT k) [.int x] ([]) (p_isLevel x) (fun (u : Unit) => []) 0 0 := by
  intro sz
  refine xx_met (Qf := fun A => va_Qi (p_isLevel x) (xx_B D vwCl (xT k) A (fun (u : Unit) => [])) A) (cc := cX5_isLevel) (maxL := 1) (ret := (some .boolean)) (by decide) rfl (Nat.le_of_ble_eq_true rfl) ?_
  intro p e s m below meth c A ls hx hb hr hts hown hlocks hin hml hA hS hP hD hK hN hl
  have hl : lv_has ls 1 [(0, .int x)] := hl
  have hown : s.vm.findClass RX5 = some m.cls := hown
  refine lv_iload_n hx hb dX5_isLevel_0 rfl (lv_at hl 0 rfl) ?_
  refine lv_if_lt (tgt := 13) hx hb dX5_isLevel_1 (by decide) (fun c1 => ?_) (fun c1 => ?_)
  · refine lv_iconst (v := (nI 0)) hx hb dX5_isLevel_13 (by decide) ?_
    refine xx_zret () hx hb hr hlocks rfl hS hK hP hD dX5_isLevel_14 ?_
    first | exact xb_f (xx_nix (by decide) (Or.inl c1)) | exact xb_f (xx_ngt (by decide) c6) | exact xb_t (xx_ile (by decide) c1 c6)
  · refine lv_iload_n hx hb dX5_isLevel_4 rfl (lv_at hl 0 rfl) ?_
    refine lv_iconst (v := (nI 2)) hx hb dX5_isLevel_5 (by decide) ?_
    refine lv_icmp_gt (tgt := 13) hx hb dX5_isLevel_6 (by decide) (fun c6 => ?_) (fun c6 => ?_)
    · refine lv_iconst (v := (nI 0)) hx hb dX5_isLevel_13 (by decide) ?_
      refine xx_zret () hx hb hr hlocks rfl hS hK hP hD dX5_isLevel_14 ?_
      first | exact xb_f (xx_nix (by decide) (Or.inl c1)) | exact xb_f (xx_ngt (by decide) c6) | exact xb_t (xx_ile (by decide) c1 c6)
    · refine lv_iconst (v := (nI 1)) hx hb dX5_isLevel_9 (by decide) ?_
      refine lv_goto (tgt := 14) hx hb dX5_isLevel_10 (by decide) ?_
      refine xx_zret () hx hb hr hlocks rfl hS hK hP hD dX5_isLevel_14 ?_
      first | exact xb_f (xx_nix (by decide) (Or.inl c1)) | exact xb_f (xx_ngt (by decide) c6) | exact xb_t (xx_ile (by decide) c1 c6)
def p_isAny (x : Int32) : Int32 → Unit → Prop := fun r u => xb r (x = (-1) ∨ ixN 8 x)
set_option maxHeartbeats 4000000 in
set_option maxRecDepth 100000 in
theorem c_isAny (l : Launch) (D : va_G) (k : Nat → ClassId) (x : Int32) : xx_Ci l yX5_isPlaceOrAny (.code yX5_isPlaceOrAny cX5_isPlaceOrAny 1 (some .boolean) :: xall) ({ frames := 1, cells := 0, slots := 0, locals := 20 } : Room) D vwCl (xT k) [.int x] ([]) (p_isAny x) (fun (u : Unit) => []) 0 0 := by
  intro sz
  refine xx_met (Qf := fun A => va_Qi (p_isAny x) (xx_B D vwCl (xT k) A (fun (u : Unit) => [])) A) (cc := cX5_isPlaceOrAny) (maxL := 1) (ret := (some .boolean)) (by decide) rfl (Nat.le_of_ble_eq_true rfl) ?_
  intro p e s m below meth c A ls hx hb hr hts hown hlocks hin hml hA hS hP hD hK hN hl
  have hl : lv_has ls 1 [(0, .int x)] := hl
  have hown : s.vm.findClass RX5 = some m.cls := hown
  refine lv_iload_n hx hb dX5_isPlaceOrAny_0 rfl (lv_at hl 0 rfl) ?_
  refine lv_iconst (v := (-1)) hx hb dX5_isPlaceOrAny_1 (by decide) ?_
  refine lv_icmp_eq (tgt := 12) hx hb dX5_isPlaceOrAny_2 (by decide) (fun c2 => ?_) (fun c2 => ?_)
  · refine lv_iconst (v := (nI 1)) hx hb dX5_isPlaceOrAny_12 (by decide) ?_
    refine lv_goto (tgt := 17) hx hb dX5_isPlaceOrAny_13 (by decide) ?_
    refine xx_zret () hx hb hr hlocks rfl hS hK hP hD dX5_isPlaceOrAny_17 ?_
    first | exact xb_t (Or.inl c2) | exact xb_t (Or.inr hq6) | exact xb_f (fun h => h.elim c2 hq6)
  · refine lv_iload_n hx hb dX5_isPlaceOrAny_5 rfl (lv_at hl 0 rfl) ?_
    refine xx_calli ([]) [] [] (va_runS (As := [.int x]) (rest := []) ⟨hx, hb, hml, hown, hts⟩ (c_isPlace l D k x s.heap.size) (va_cwS 1 hts (xx_gS tw_271 tw_272 tw_1 tw_273) rfl rfl rfl (by decide +kernel) ⟨Nat.le_of_ble_eq_true rfl, Nat.le_of_ble_eq_true rfl⟩) (xx_preS hK hN hP hD [] (by decide) rfl) rfl rfl hl.1 rfl (lv_room (Nat.le_of_ble_eq_true rfl)) dX5_isPlaceOrAny_6 ⟨Nat.le_of_ble_eq_true rfl, Nat.le_of_ble_eq_true rfl⟩) hP hD hS hA rfl rfl (by decide) (by decide) (fun r6 u6 H locs hw6 hP hD hS => ?_)
    rcases hw6 with ⟨rfl, hq6⟩ | ⟨rfl, hq6⟩
    · have hP : va_P D vwCl ([]) H := hP
      have hD : va_D A ([]) := hD
      refine lv_if_eq (tgt := 16) hx hb dX5_isPlaceOrAny_9 (by decide) (fun c => absurd c (by decide)) (fun _ => ?_)
      refine lv_iconst (v := (nI 1)) hx hb dX5_isPlaceOrAny_12 (by decide) ?_
      refine lv_goto (tgt := 17) hx hb dX5_isPlaceOrAny_13 (by decide) ?_
      refine xx_zret () hx hb hr hlocks rfl hS hK hP hD dX5_isPlaceOrAny_17 ?_
      first | exact xb_t (Or.inl c2) | exact xb_t (Or.inr hq6) | exact xb_f (fun h => h.elim c2 hq6)
    · have hP : va_P D vwCl ([]) H := hP
      have hD : va_D A ([]) := hD
      refine lv_if_eq (tgt := 16) hx hb dX5_isPlaceOrAny_9 (by decide) (fun _ => ?_) (fun c => absurd c (by decide))
      refine lv_iconst (v := (nI 0)) hx hb dX5_isPlaceOrAny_16 (by decide) ?_
      refine xx_zret () hx hb hr hlocks rfl hS hK hP hD dX5_isPlaceOrAny_17 ?_
      first | exact xb_t (Or.inl c2) | exact xb_t (Or.inr hq6) | exact xb_f (fun h => h.elim c2 hq6)
def p_mixWord (x : Int64) (w : Int64) : Int64 → Unit → Prop := fun r u => r = xs_word x w
set_option maxHeartbeats 4000000 in
set_option maxRecDepth 100000 in
theorem c_mixWord (l : Launch) (D : va_G) (k : Nat → ClassId) (x : Int64) (w : Int64) : xx_Cl l yX5_mixWord (.code yX5_mixWord cX5_mixWord 7 (some .long) :: xall) ({ frames := 0, cells := 0, slots := 0, locals := 0 } : Room) D vwCl (xT k) [.long x, .long w] ([]) (p_mixWord x w) (fun (u : Unit) => []) 0 0 := by
  intro sz
  refine xx_met (Qf := fun A => va_Ql (p_mixWord x w) (xx_B D vwCl (xT k) A (fun (u : Unit) => [])) A) (cc := cX5_mixWord) (maxL := 7) (ret := (some .long)) (by decide) rfl (Nat.le_of_ble_eq_true rfl) ?_
  intro p e s m below meth c A ls hx hb hr hts hown hlocks hin hml hA hS hP hD hK hN hl
  have hl : lv_has ls 7 [(0, .long x), (2, .long w)] := hl
  have hown : s.vm.findClass RX5 = some m.cls := hown
  refine lv_lload_n hx hb dX5_mixWord_0 rfl (lv_at hl 0 rfl) ?_
  refine lv_lstore (lv' := [(4, .long x), (0, .long x), (2, .long w)]) hx hb dX5_mixWord_1 hl (by decide) rfl (fun ls hl => ?_)
  refine lv_bipush (v := (nI 56)) hx hb dX5_mixWord_3 (by decide) ?_
  refine lv_istore (lv' := [(6, .int (nI 56)), (4, .long x), (0, .long x), (2, .long w)]) hx hb dX5_mixWord_5 hl (by decide) rfl (fun ls hl => ?_)
  refine lv_iload hx hb dX5_mixWord_7 (lv_at hl 0 rfl) ?_
  refine lv_if_lt (tgt := 48) hx hb dX5_mixWord_9 (by decide) (fun c => absurd c (by decide)) (fun _ => ?_)
  refine lv_lload hx hb dX5_mixWord_12 (lv_at hl 1 rfl) ?_
  refine lv_lload_n hx hb dX5_mixWord_14 rfl (lv_at hl 3 rfl) ?_
  refine lv_iload hx hb dX5_mixWord_15 (lv_at hl 0 rfl) ?_
  refine lv_lushr (v := (w.toUInt64 >>> ((nI 56).toInt64.toUInt64 &&& Int64.toUInt64 63)).toInt64) hx hb dX5_mixWord_17 rfl ?_
  refine lv_ldc2 (v := 255) hx hb hown (hts _ tw_199) dX5_mixWord_18 ?_
  refine lv_land hx hb dX5_mixWord_21 ?_
  refine lv_lxor hx hb dX5_mixWord_22 ?_
  refine lv_lstore (lv' := [(4, .long (x ^^^ (((w.toUInt64 >>> ((nI 56).toInt64.toUInt64 &&& Int64.toUInt64 63)).toInt64) &&& 255))), (6, .int (nI 56)), (0, .long x), (2, .long w)]) hx hb dX5_mixWord_23 hl (by decide) rfl (fun ls hl => ?_)
  refine lv_lload hx hb dX5_mixWord_25 (lv_at hl 0 rfl) ?_
  refine lv_bipush (v := (nI 11)) hx hb dX5_mixWord_27 (by decide) ?_
  refine lv_lshl (v := (x ^^^ (((w.toUInt64 >>> ((nI 56).toInt64.toUInt64 &&& Int64.toUInt64 63)).toInt64) &&& 255)) <<< ((nI 11).toInt64 &&& 63)) hx hb dX5_mixWord_29 rfl ?_
  refine lv_lload hx hb dX5_mixWord_30 (lv_at hl 0 rfl) ?_
  refine lv_bipush (v := (nI 53)) hx hb dX5_mixWord_32 (by decide) ?_
  refine lv_lushr (v := ((x ^^^ (((w.toUInt64 >>> ((nI 56).toInt64.toUInt64 &&& Int64.toUInt64 63)).toInt64) &&& 255)).toUInt64 >>> ((nI 53).toInt64.toUInt64 &&& Int64.toUInt64 63)).toInt64) hx hb dX5_mixWord_34 rfl ?_
  refine lv_lor hx hb dX5_mixWord_35 ?_
  refine lv_ldc2 (v := (-7046029254386353131)) hx hb hown (hts _ tw_200) dX5_mixWord_36 ?_
  refine lv_lmul hx hb dX5_mixWord_39 ?_
  refine xx_topl (y := (xs_mix x w 56)) rfl ?_
  refine lv_topl (fun x56 ex56 => ?_)
  refine lv_lstore (lv' := [(4, .long x56), (6, .int (nI 56)), (0, .long x), (2, .long w)]) hx hb dX5_mixWord_40 hl (by decide) rfl (fun ls hl => ?_)
  refine lv_iinc (v := (nI 48)) (lv' := [(6, .int (nI 48)), (4, .long x56), (0, .long x), (2, .long w)]) hx hb dX5_mixWord_42 hl (k := 1) rfl (by decide) (by decide) rfl (fun ls hl => ?_)
  refine lv_goto (tgt := 7) hx hb dX5_mixWord_45 (by decide) ?_
  refine lv_iload hx hb dX5_mixWord_7 (lv_at hl 0 rfl) ?_
  refine lv_if_lt (tgt := 48) hx hb dX5_mixWord_9 (by decide) (fun c => absurd c (by decide)) (fun _ => ?_)
  refine lv_lload hx hb dX5_mixWord_12 (lv_at hl 1 rfl) ?_
  refine lv_lload_n hx hb dX5_mixWord_14 rfl (lv_at hl 3 rfl) ?_
  refine lv_iload hx hb dX5_mixWord_15 (lv_at hl 0 rfl) ?_
  refine lv_lushr (v := (w.toUInt64 >>> ((nI 48).toInt64.toUInt64 &&& Int64.toUInt64 63)).toInt64) hx hb dX5_mixWord_17 rfl ?_
  refine lv_ldc2 (v := 255) hx hb hown (hts _ tw_199) dX5_mixWord_18 ?_
  refine lv_land hx hb dX5_mixWord_21 ?_
  refine lv_lxor hx hb dX5_mixWord_22 ?_
  refine lv_lstore (lv' := [(4, .long (x56 ^^^ (((w.toUInt64 >>> ((nI 48).toInt64.toUInt64 &&& Int64.toUInt64 63)).toInt64) &&& 255))), (6, .int (nI 48)), (0, .long x), (2, .long w)]) hx hb dX5_mixWord_23 hl (by decide) rfl (fun ls hl => ?_)
  refine lv_lload hx hb dX5_mixWord_25 (lv_at hl 0 rfl) ?_
  refine lv_bipush (v := (nI 11)) hx hb dX5_mixWord_27 (by decide) ?_
  refine lv_lshl (v := (x56 ^^^ (((w.toUInt64 >>> ((nI 48).toInt64.toUInt64 &&& Int64.toUInt64 63)).toInt64) &&& 255)) <<< ((nI 11).toInt64 &&& 63)) hx hb dX5_mixWord_29 rfl ?_
  refine lv_lload hx hb dX5_mixWord_30 (lv_at hl 0 rfl) ?_
  refine lv_bipush (v := (nI 53)) hx hb dX5_mixWord_32 (by decide) ?_
  refine lv_lushr (v := ((x56 ^^^ (((w.toUInt64 >>> ((nI 48).toInt64.toUInt64 &&& Int64.toUInt64 63)).toInt64) &&& 255)).toUInt64 >>> ((nI 53).toInt64.toUInt64 &&& Int64.toUInt64 63)).toInt64) hx hb dX5_mixWord_34 rfl ?_
  refine lv_lor hx hb dX5_mixWord_35 ?_
  refine lv_ldc2 (v := (-7046029254386353131)) hx hb hown (hts _ tw_200) dX5_mixWord_36 ?_
  refine lv_lmul hx hb dX5_mixWord_39 ?_
  refine xx_topl (y := (xs_mix x56 w 48)) rfl ?_
  refine lv_topl (fun x48 ex48 => ?_)
  refine lv_lstore (lv' := [(4, .long x48), (6, .int (nI 48)), (0, .long x), (2, .long w)]) hx hb dX5_mixWord_40 hl (by decide) rfl (fun ls hl => ?_)
  refine lv_iinc (v := (nI 40)) (lv' := [(6, .int (nI 40)), (4, .long x48), (0, .long x), (2, .long w)]) hx hb dX5_mixWord_42 hl (k := 1) rfl (by decide) (by decide) rfl (fun ls hl => ?_)
  refine lv_goto (tgt := 7) hx hb dX5_mixWord_45 (by decide) ?_
  refine lv_iload hx hb dX5_mixWord_7 (lv_at hl 0 rfl) ?_
  refine lv_if_lt (tgt := 48) hx hb dX5_mixWord_9 (by decide) (fun c => absurd c (by decide)) (fun _ => ?_)
  refine lv_lload hx hb dX5_mixWord_12 (lv_at hl 1 rfl) ?_
  refine lv_lload_n hx hb dX5_mixWord_14 rfl (lv_at hl 3 rfl) ?_
  refine lv_iload hx hb dX5_mixWord_15 (lv_at hl 0 rfl) ?_
  refine lv_lushr (v := (w.toUInt64 >>> ((nI 40).toInt64.toUInt64 &&& Int64.toUInt64 63)).toInt64) hx hb dX5_mixWord_17 rfl ?_
  refine lv_ldc2 (v := 255) hx hb hown (hts _ tw_199) dX5_mixWord_18 ?_
  refine lv_land hx hb dX5_mixWord_21 ?_
  refine lv_lxor hx hb dX5_mixWord_22 ?_
  refine lv_lstore (lv' := [(4, .long (x48 ^^^ (((w.toUInt64 >>> ((nI 40).toInt64.toUInt64 &&& Int64.toUInt64 63)).toInt64) &&& 255))), (6, .int (nI 40)), (0, .long x), (2, .long w)]) hx hb dX5_mixWord_23 hl (by decide) rfl (fun ls hl => ?_)
  refine lv_lload hx hb dX5_mixWord_25 (lv_at hl 0 rfl) ?_
  refine lv_bipush (v := (nI 11)) hx hb dX5_mixWord_27 (by decide) ?_
  refine lv_lshl (v := (x48 ^^^ (((w.toUInt64 >>> ((nI 40).toInt64.toUInt64 &&& Int64.toUInt64 63)).toInt64) &&& 255)) <<< ((nI 11).toInt64 &&& 63)) hx hb dX5_mixWord_29 rfl ?_
  refine lv_lload hx hb dX5_mixWord_30 (lv_at hl 0 rfl) ?_
  refine lv_bipush (v := (nI 53)) hx hb dX5_mixWord_32 (by decide) ?_
  refine lv_lushr (v := ((x48 ^^^ (((w.toUInt64 >>> ((nI 40).toInt64.toUInt64 &&& Int64.toUInt64 63)).toInt64) &&& 255)).toUInt64 >>> ((nI 53).toInt64.toUInt64 &&& Int64.toUInt64 63)).toInt64) hx hb dX5_mixWord_34 rfl ?_
  refine lv_lor hx hb dX5_mixWord_35 ?_
  refine lv_ldc2 (v := (-7046029254386353131)) hx hb hown (hts _ tw_200) dX5_mixWord_36 ?_
  refine lv_lmul hx hb dX5_mixWord_39 ?_
  refine xx_topl (y := (xs_mix x48 w 40)) rfl ?_
  refine lv_topl (fun x40 ex40 => ?_)
  refine lv_lstore (lv' := [(4, .long x40), (6, .int (nI 40)), (0, .long x), (2, .long w)]) hx hb dX5_mixWord_40 hl (by decide) rfl (fun ls hl => ?_)
  refine lv_iinc (v := (nI 32)) (lv' := [(6, .int (nI 32)), (4, .long x40), (0, .long x), (2, .long w)]) hx hb dX5_mixWord_42 hl (k := 1) rfl (by decide) (by decide) rfl (fun ls hl => ?_)
  refine lv_goto (tgt := 7) hx hb dX5_mixWord_45 (by decide) ?_
  refine lv_iload hx hb dX5_mixWord_7 (lv_at hl 0 rfl) ?_
  refine lv_if_lt (tgt := 48) hx hb dX5_mixWord_9 (by decide) (fun c => absurd c (by decide)) (fun _ => ?_)
  refine lv_lload hx hb dX5_mixWord_12 (lv_at hl 1 rfl) ?_
  refine lv_lload_n hx hb dX5_mixWord_14 rfl (lv_at hl 3 rfl) ?_
  refine lv_iload hx hb dX5_mixWord_15 (lv_at hl 0 rfl) ?_
  refine lv_lushr (v := (w.toUInt64 >>> ((nI 32).toInt64.toUInt64 &&& Int64.toUInt64 63)).toInt64) hx hb dX5_mixWord_17 rfl ?_
  refine lv_ldc2 (v := 255) hx hb hown (hts _ tw_199) dX5_mixWord_18 ?_
  refine lv_land hx hb dX5_mixWord_21 ?_
  refine lv_lxor hx hb dX5_mixWord_22 ?_
  refine lv_lstore (lv' := [(4, .long (x40 ^^^ (((w.toUInt64 >>> ((nI 32).toInt64.toUInt64 &&& Int64.toUInt64 63)).toInt64) &&& 255))), (6, .int (nI 32)), (0, .long x), (2, .long w)]) hx hb dX5_mixWord_23 hl (by decide) rfl (fun ls hl => ?_)
  refine lv_lload hx hb dX5_mixWord_25 (lv_at hl 0 rfl) ?_
  refine lv_bipush (v := (nI 11)) hx hb dX5_mixWord_27 (by decide) ?_
  refine lv_lshl (v := (x40 ^^^ (((w.toUInt64 >>> ((nI 32).toInt64.toUInt64 &&& Int64.toUInt64 63)).toInt64) &&& 255)) <<< ((nI 11).toInt64 &&& 63)) hx hb dX5_mixWord_29 rfl ?_
  refine lv_lload hx hb dX5_mixWord_30 (lv_at hl 0 rfl) ?_
  refine lv_bipush (v := (nI 53)) hx hb dX5_mixWord_32 (by decide) ?_
  refine lv_lushr (v := ((x40 ^^^ (((w.toUInt64 >>> ((nI 32).toInt64.toUInt64 &&& Int64.toUInt64 63)).toInt64) &&& 255)).toUInt64 >>> ((nI 53).toInt64.toUInt64 &&& Int64.toUInt64 63)).toInt64) hx hb dX5_mixWord_34 rfl ?_
  refine lv_lor hx hb dX5_mixWord_35 ?_
  refine lv_ldc2 (v := (-7046029254386353131)) hx hb hown (hts _ tw_200) dX5_mixWord_36 ?_
  refine lv_lmul hx hb dX5_mixWord_39 ?_
  refine xx_topl (y := (xs_mix x40 w 32)) rfl ?_
  refine lv_topl (fun x32 ex32 => ?_)
  refine lv_lstore (lv' := [(4, .long x32), (6, .int (nI 32)), (0, .long x), (2, .long w)]) hx hb dX5_mixWord_40 hl (by decide) rfl (fun ls hl => ?_)
  refine lv_iinc (v := (nI 24)) (lv' := [(6, .int (nI 24)), (4, .long x32), (0, .long x), (2, .long w)]) hx hb dX5_mixWord_42 hl (k := 1) rfl (by decide) (by decide) rfl (fun ls hl => ?_)
  refine lv_goto (tgt := 7) hx hb dX5_mixWord_45 (by decide) ?_
  refine lv_iload hx hb dX5_mixWord_7 (lv_at hl 0 rfl) ?_
  refine lv_if_lt (tgt := 48) hx hb dX5_mixWord_9 (by decide) (fun c => absurd c (by decide)) (fun _ => ?_)
  refine lv_lload hx hb dX5_mixWord_12 (lv_at hl 1 rfl) ?_
  refine lv_lload_n hx hb dX5_mixWord_14 rfl (lv_at hl 3 rfl) ?_
  refine lv_iload hx hb dX5_mixWord_15 (lv_at hl 0 rfl) ?_
  refine lv_lushr (v := (w.toUInt64 >>> ((nI 24).toInt64.toUInt64 &&& Int64.toUInt64 63)).toInt64) hx hb dX5_mixWord_17 rfl ?_
  refine lv_ldc2 (v := 255) hx hb hown (hts _ tw_199) dX5_mixWord_18 ?_
  refine lv_land hx hb dX5_mixWord_21 ?_
  refine lv_lxor hx hb dX5_mixWord_22 ?_
  refine lv_lstore (lv' := [(4, .long (x32 ^^^ (((w.toUInt64 >>> ((nI 24).toInt64.toUInt64 &&& Int64.toUInt64 63)).toInt64) &&& 255))), (6, .int (nI 24)), (0, .long x), (2, .long w)]) hx hb dX5_mixWord_23 hl (by decide) rfl (fun ls hl => ?_)
  refine lv_lload hx hb dX5_mixWord_25 (lv_at hl 0 rfl) ?_
  refine lv_bipush (v := (nI 11)) hx hb dX5_mixWord_27 (by decide) ?_
  refine lv_lshl (v := (x32 ^^^ (((w.toUInt64 >>> ((nI 24).toInt64.toUInt64 &&& Int64.toUInt64 63)).toInt64) &&& 255)) <<< ((nI 11).toInt64 &&& 63)) hx hb dX5_mixWord_29 rfl ?_
  refine lv_lload hx hb dX5_mixWord_30 (lv_at hl 0 rfl) ?_
  refine lv_bipush (v := (nI 53)) hx hb dX5_mixWord_32 (by decide) ?_
  refine lv_lushr (v := ((x32 ^^^ (((w.toUInt64 >>> ((nI 24).toInt64.toUInt64 &&& Int64.toUInt64 63)).toInt64) &&& 255)).toUInt64 >>> ((nI 53).toInt64.toUInt64 &&& Int64.toUInt64 63)).toInt64) hx hb dX5_mixWord_34 rfl ?_
  refine lv_lor hx hb dX5_mixWord_35 ?_
  refine lv_ldc2 (v := (-7046029254386353131)) hx hb hown (hts _ tw_200) dX5_mixWord_36 ?_
  refine lv_lmul hx hb dX5_mixWord_39 ?_
  refine xx_topl (y := (xs_mix x32 w 24)) rfl ?_
  refine lv_topl (fun x24 ex24 => ?_)
  refine lv_lstore (lv' := [(4, .long x24), (6, .int (nI 24)), (0, .long x), (2, .long w)]) hx hb dX5_mixWord_40 hl (by decide) rfl (fun ls hl => ?_)
  refine lv_iinc (v := (nI 16)) (lv' := [(6, .int (nI 16)), (4, .long x24), (0, .long x), (2, .long w)]) hx hb dX5_mixWord_42 hl (k := 1) rfl (by decide) (by decide) rfl (fun ls hl => ?_)
  refine lv_goto (tgt := 7) hx hb dX5_mixWord_45 (by decide) ?_
  refine lv_iload hx hb dX5_mixWord_7 (lv_at hl 0 rfl) ?_
  refine lv_if_lt (tgt := 48) hx hb dX5_mixWord_9 (by decide) (fun c => absurd c (by decide)) (fun _ => ?_)
  refine lv_lload hx hb dX5_mixWord_12 (lv_at hl 1 rfl) ?_
  refine lv_lload_n hx hb dX5_mixWord_14 rfl (lv_at hl 3 rfl) ?_
  refine lv_iload hx hb dX5_mixWord_15 (lv_at hl 0 rfl) ?_
  refine lv_lushr (v := (w.toUInt64 >>> ((nI 16).toInt64.toUInt64 &&& Int64.toUInt64 63)).toInt64) hx hb dX5_mixWord_17 rfl ?_
  refine lv_ldc2 (v := 255) hx hb hown (hts _ tw_199) dX5_mixWord_18 ?_
  refine lv_land hx hb dX5_mixWord_21 ?_
  refine lv_lxor hx hb dX5_mixWord_22 ?_
  refine lv_lstore (lv' := [(4, .long (x24 ^^^ (((w.toUInt64 >>> ((nI 16).toInt64.toUInt64 &&& Int64.toUInt64 63)).toInt64) &&& 255))), (6, .int (nI 16)), (0, .long x), (2, .long w)]) hx hb dX5_mixWord_23 hl (by decide) rfl (fun ls hl => ?_)
  refine lv_lload hx hb dX5_mixWord_25 (lv_at hl 0 rfl) ?_
  refine lv_bipush (v := (nI 11)) hx hb dX5_mixWord_27 (by decide) ?_
  refine lv_lshl (v := (x24 ^^^ (((w.toUInt64 >>> ((nI 16).toInt64.toUInt64 &&& Int64.toUInt64 63)).toInt64) &&& 255)) <<< ((nI 11).toInt64 &&& 63)) hx hb dX5_mixWord_29 rfl ?_
  refine lv_lload hx hb dX5_mixWord_30 (lv_at hl 0 rfl) ?_
  refine lv_bipush (v := (nI 53)) hx hb dX5_mixWord_32 (by decide) ?_
  refine lv_lushr (v := ((x24 ^^^ (((w.toUInt64 >>> ((nI 16).toInt64.toUInt64 &&& Int64.toUInt64 63)).toInt64) &&& 255)).toUInt64 >>> ((nI 53).toInt64.toUInt64 &&& Int64.toUInt64 63)).toInt64) hx hb dX5_mixWord_34 rfl ?_
  refine lv_lor hx hb dX5_mixWord_35 ?_
  refine lv_ldc2 (v := (-7046029254386353131)) hx hb hown (hts _ tw_200) dX5_mixWord_36 ?_
  refine lv_lmul hx hb dX5_mixWord_39 ?_
  refine xx_topl (y := (xs_mix x24 w 16)) rfl ?_
  refine lv_topl (fun x16 ex16 => ?_)
  refine lv_lstore (lv' := [(4, .long x16), (6, .int (nI 16)), (0, .long x), (2, .long w)]) hx hb dX5_mixWord_40 hl (by decide) rfl (fun ls hl => ?_)
  refine lv_iinc (v := (nI 8)) (lv' := [(6, .int (nI 8)), (4, .long x16), (0, .long x), (2, .long w)]) hx hb dX5_mixWord_42 hl (k := 1) rfl (by decide) (by decide) rfl (fun ls hl => ?_)
  refine lv_goto (tgt := 7) hx hb dX5_mixWord_45 (by decide) ?_
  refine lv_iload hx hb dX5_mixWord_7 (lv_at hl 0 rfl) ?_
  refine lv_if_lt (tgt := 48) hx hb dX5_mixWord_9 (by decide) (fun c => absurd c (by decide)) (fun _ => ?_)
  refine lv_lload hx hb dX5_mixWord_12 (lv_at hl 1 rfl) ?_
  refine lv_lload_n hx hb dX5_mixWord_14 rfl (lv_at hl 3 rfl) ?_
  refine lv_iload hx hb dX5_mixWord_15 (lv_at hl 0 rfl) ?_
  refine lv_lushr (v := (w.toUInt64 >>> ((nI 8).toInt64.toUInt64 &&& Int64.toUInt64 63)).toInt64) hx hb dX5_mixWord_17 rfl ?_
  refine lv_ldc2 (v := 255) hx hb hown (hts _ tw_199) dX5_mixWord_18 ?_
  refine lv_land hx hb dX5_mixWord_21 ?_
  refine lv_lxor hx hb dX5_mixWord_22 ?_
  refine lv_lstore (lv' := [(4, .long (x16 ^^^ (((w.toUInt64 >>> ((nI 8).toInt64.toUInt64 &&& Int64.toUInt64 63)).toInt64) &&& 255))), (6, .int (nI 8)), (0, .long x), (2, .long w)]) hx hb dX5_mixWord_23 hl (by decide) rfl (fun ls hl => ?_)
  refine lv_lload hx hb dX5_mixWord_25 (lv_at hl 0 rfl) ?_
  refine lv_bipush (v := (nI 11)) hx hb dX5_mixWord_27 (by decide) ?_
  refine lv_lshl (v := (x16 ^^^ (((w.toUInt64 >>> ((nI 8).toInt64.toUInt64 &&& Int64.toUInt64 63)).toInt64) &&& 255)) <<< ((nI 11).toInt64 &&& 63)) hx hb dX5_mixWord_29 rfl ?_
  refine lv_lload hx hb dX5_mixWord_30 (lv_at hl 0 rfl) ?_
  refine lv_bipush (v := (nI 53)) hx hb dX5_mixWord_32 (by decide) ?_
  refine lv_lushr (v := ((x16 ^^^ (((w.toUInt64 >>> ((nI 8).toInt64.toUInt64 &&& Int64.toUInt64 63)).toInt64) &&& 255)).toUInt64 >>> ((nI 53).toInt64.toUInt64 &&& Int64.toUInt64 63)).toInt64) hx hb dX5_mixWord_34 rfl ?_
  refine lv_lor hx hb dX5_mixWord_35 ?_
  refine lv_ldc2 (v := (-7046029254386353131)) hx hb hown (hts _ tw_200) dX5_mixWord_36 ?_
  refine lv_lmul hx hb dX5_mixWord_39 ?_
  refine xx_topl (y := (xs_mix x16 w 8)) rfl ?_
  refine lv_topl (fun x8 ex8 => ?_)
  refine lv_lstore (lv' := [(4, .long x8), (6, .int (nI 8)), (0, .long x), (2, .long w)]) hx hb dX5_mixWord_40 hl (by decide) rfl (fun ls hl => ?_)
  refine lv_iinc (v := (nI 0)) (lv' := [(6, .int (nI 0)), (4, .long x8), (0, .long x), (2, .long w)]) hx hb dX5_mixWord_42 hl (k := 1) rfl (by decide) (by decide) rfl (fun ls hl => ?_)
  refine lv_goto (tgt := 7) hx hb dX5_mixWord_45 (by decide) ?_
  refine lv_iload hx hb dX5_mixWord_7 (lv_at hl 0 rfl) ?_
  refine lv_if_lt (tgt := 48) hx hb dX5_mixWord_9 (by decide) (fun c => absurd c (by decide)) (fun _ => ?_)
  refine lv_lload hx hb dX5_mixWord_12 (lv_at hl 1 rfl) ?_
  refine lv_lload_n hx hb dX5_mixWord_14 rfl (lv_at hl 3 rfl) ?_
  refine lv_iload hx hb dX5_mixWord_15 (lv_at hl 0 rfl) ?_
  refine lv_lushr (v := (w.toUInt64 >>> ((nI 0).toInt64.toUInt64 &&& Int64.toUInt64 63)).toInt64) hx hb dX5_mixWord_17 rfl ?_
  refine lv_ldc2 (v := 255) hx hb hown (hts _ tw_199) dX5_mixWord_18 ?_
  refine lv_land hx hb dX5_mixWord_21 ?_
  refine lv_lxor hx hb dX5_mixWord_22 ?_
  refine lv_lstore (lv' := [(4, .long (x8 ^^^ (((w.toUInt64 >>> ((nI 0).toInt64.toUInt64 &&& Int64.toUInt64 63)).toInt64) &&& 255))), (6, .int (nI 0)), (0, .long x), (2, .long w)]) hx hb dX5_mixWord_23 hl (by decide) rfl (fun ls hl => ?_)
  refine lv_lload hx hb dX5_mixWord_25 (lv_at hl 0 rfl) ?_
  refine lv_bipush (v := (nI 11)) hx hb dX5_mixWord_27 (by decide) ?_
  refine lv_lshl (v := (x8 ^^^ (((w.toUInt64 >>> ((nI 0).toInt64.toUInt64 &&& Int64.toUInt64 63)).toInt64) &&& 255)) <<< ((nI 11).toInt64 &&& 63)) hx hb dX5_mixWord_29 rfl ?_
  refine lv_lload hx hb dX5_mixWord_30 (lv_at hl 0 rfl) ?_
  refine lv_bipush (v := (nI 53)) hx hb dX5_mixWord_32 (by decide) ?_
  refine lv_lushr (v := ((x8 ^^^ (((w.toUInt64 >>> ((nI 0).toInt64.toUInt64 &&& Int64.toUInt64 63)).toInt64) &&& 255)).toUInt64 >>> ((nI 53).toInt64.toUInt64 &&& Int64.toUInt64 63)).toInt64) hx hb dX5_mixWord_34 rfl ?_
  refine lv_lor hx hb dX5_mixWord_35 ?_
  refine lv_ldc2 (v := (-7046029254386353131)) hx hb hown (hts _ tw_200) dX5_mixWord_36 ?_
  refine lv_lmul hx hb dX5_mixWord_39 ?_
  refine xx_topl (y := (xs_mix x8 w 0)) rfl ?_
  refine lv_topl (fun x0 ex0 => ?_)
  refine lv_lstore (lv' := [(4, .long x0), (6, .int (nI 0)), (0, .long x), (2, .long w)]) hx hb dX5_mixWord_40 hl (by decide) rfl (fun ls hl => ?_)
  refine lv_iinc (v := (-8)) (lv' := [(6, .int (-8)), (4, .long x0), (0, .long x), (2, .long w)]) hx hb dX5_mixWord_42 hl (k := 1) rfl (by decide) (by decide) rfl (fun ls hl => ?_)
  refine lv_goto (tgt := 7) hx hb dX5_mixWord_45 (by decide) ?_
  refine lv_iload hx hb dX5_mixWord_7 (lv_at hl 0 rfl) ?_
  refine lv_if_lt (tgt := 48) hx hb dX5_mixWord_9 (by decide) (fun _ => ?_) (fun c => absurd c (by decide))
  refine lv_lload hx hb dX5_mixWord_48 (lv_at hl 1 rfl) ?_
  refine xx_lret () hx hb hr hlocks hS hK hP hD dX5_mixWord_50 ?_
  subst ex0 ex8 ex16 ex24 ex32 ex40 ex48 ex56
  exact rfl
def p_sumUnder (x : Int64) (a : Int64) (d : Int64) : Int64 → Unit → Prop := fun r u => r = xs_sum x a d
set_option maxHeartbeats 4000000 in
set_option maxRecDepth 100000 in
theorem c_sumUnder (l : Launch) (D : va_G) (k : Nat → ClassId) (x : Int64) (a : Int64) (d : Int64) : xx_Cl l yX5_sumUnder (.code yX5_sumUnder cX5_sumUnder 6 (some .long) :: xall) ({ frames := 1, cells := 0, slots := 0, locals := 26 } : Room) D vwCl (xT k) [.long x, .long a, .long d] ([]) (p_sumUnder x a d) (fun (u : Unit) => []) 0 0 := by
  intro sz
  refine xx_met (Qf := fun A => va_Ql (p_sumUnder x a d) (xx_B D vwCl (xT k) A (fun (u : Unit) => [])) A) (cc := cX5_sumUnder) (maxL := 6) (ret := (some .long)) (by decide) rfl (Nat.le_of_ble_eq_true rfl) ?_
  intro p e s m below meth c A ls hx hb hr hts hown hlocks hin hml hA hS hP hD hK hN hl
  have hl : lv_has ls 6 [(0, .long x), (2, .long a), (4, .long d)] := hl
  have hown : s.vm.findClass RX5 = some m.cls := hown
  refine lv_lload_n hx hb dX5_sumUnder_0 rfl (lv_at hl 0 rfl) ?_
  refine lv_lload_n hx hb dX5_sumUnder_1 rfl (lv_at hl 1 rfl) ?_
  refine xx_calll ([]) [] [] (va_runS (As := [.long x, .long a]) (rest := []) ⟨hx, hb, hml, hown, hts⟩ (c_mixWord l D k x a s.heap.size) (va_cwS 2 hts (xx_gS tw_196 tw_197 tw_1 tw_198) rfl rfl rfl (by decide +kernel) ⟨Nat.le_of_ble_eq_true rfl, Nat.le_of_ble_eq_true rfl⟩) (xx_preS hK hN hP hD [] (by decide) rfl) rfl rfl hl.1 rfl (lv_room (Nat.le_of_ble_eq_true rfl)) dX5_sumUnder_2 ⟨Nat.le_of_ble_eq_true rfl, Nat.le_of_ble_eq_true rfl⟩) hP hD hS hA rfl rfl (by decide) (by decide) (fun r2 u2 H locs hw2 hP hD hS => ?_)
  obtain rfl := hw2
  have hP : va_P D vwCl ([]) H := hP
  have hD : va_D A ([]) := hD
  refine lv_lload hx hb dX5_sumUnder_5 (lv_at hl 2 rfl) ?_
  refine xx_calll ([]) [] [] (va_runS (As := [.long (xs_word x a), .long d]) (rest := []) ⟨hx, hb, hml, hown, hts⟩ (c_mixWord l D k (xs_word x a) d H.size) (va_cwS 2 hts (xx_gS tw_196 tw_197 tw_1 tw_198) rfl rfl rfl (by decide +kernel) ⟨Nat.le_of_ble_eq_true rfl, Nat.le_of_ble_eq_true rfl⟩) (xx_preS hK hN hP hD [] (by decide) rfl) rfl rfl hl.1 rfl (lv_room (Nat.le_of_ble_eq_true rfl)) dX5_sumUnder_7 ⟨Nat.le_of_ble_eq_true rfl, Nat.le_of_ble_eq_true rfl⟩) hP hD hS hA rfl rfl (by decide) (by decide) (fun r7 u7 H locs hw7 hP hD hS => ?_)
  obtain rfl := hw7
  have hP : va_P D vwCl ([]) H := hP
  have hD : va_D A ([]) := hD
  refine xx_lret () hx hb hr hlocks hS hK hP hD dX5_sumUnder_10 ?_
  exact rfl
