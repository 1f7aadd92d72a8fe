theorem dX5_result_0 : decode cX5_result 0 = .ok (.aload_n 0, 1) := by decide +kernel
theorem dX5_result_1 : decode cX5_result 1 = .ok (.getfield 25, 3) := by decide +kernel
theorem dX5_result_4 : decode cX5_result 4 = .ok (.iload_n 1, 1) := by decide +kernel
theorem dX5_result_5 : decode cX5_result 5 = .ok (.invokevirtual 77, 3) := by decide +kernel
theorem dX5_result_8 : decode cX5_result 8 = .ok (.ifCond .eq 10, 3) := by decide +kernel
theorem dX5_result_11 : decode cX5_result 11 = .ok (.lload 10, 2) := by decide +kernel
theorem dX5_result_13 : decode cX5_result 13 = .ok (.lconst 0, 1) := by decide +kernel
theorem dX5_result_14 : decode cX5_result 14 = .ok (.lcmp, 1) := by decide +kernel
theorem dX5_result_15 : decode cX5_result 15 = .ok (.ifCond .ge 5, 3) := by decide +kernel
theorem dX5_result_18 : decode cX5_result 18 = .ok (.iconst (-1), 1) := by decide +kernel
theorem dX5_result_19 : decode cX5_result 19 = .ok (.ireturn, 1) := by decide +kernel
theorem dX5_result_20 : decode cX5_result 20 = .ok (.lload 6, 2) := by decide +kernel
theorem dX5_result_22 : decode cX5_result 22 = .ok (.lload_n 2, 1) := by decide +kernel
theorem dX5_result_23 : decode cX5_result 23 = .ok (.lload 4, 2) := by decide +kernel
theorem dX5_result_25 : decode cX5_result 25 = .ok (.invokestatic 73, 3) := by decide +kernel
theorem dX5_result_28 : decode cX5_result 28 = .ok (.lload 8, 2) := by decide +kernel
theorem dX5_result_30 : decode cX5_result 30 = .ok (.lxor, 1) := by decide +kernel
theorem dX5_result_31 : decode cX5_result 31 = .ok (.lstore 12, 2) := by decide +kernel
theorem dX5_result_33 : decode cX5_result 33 = .ok (.aload_n 0, 1) := by decide +kernel
theorem dX5_result_34 : decode cX5_result 34 = .ok (.getfield 25, 3) := by decide +kernel
theorem dX5_result_37 : decode cX5_result 37 = .ok (.iload_n 1, 1) := by decide +kernel
theorem dX5_result_38 : decode cX5_result 38 = .ok (.lload_n 2, 1) := by decide +kernel
theorem dX5_result_39 : decode cX5_result 39 = .ok (.lload 4, 2) := by decide +kernel
theorem dX5_result_41 : decode cX5_result 41 = .ok (.lload 12, 2) := by decide +kernel
theorem dX5_result_43 : decode cX5_result 43 = .ok (.lload 10, 2) := by decide +kernel
theorem dX5_result_45 : decode cX5_result 45 = .ok (.invokevirtual 81, 3) := by decide +kernel
theorem dX5_result_48 : decode cX5_result 48 = .ok (.ifCond .ne 6, 3) := by decide +kernel
theorem dX5_result_51 : decode cX5_result 51 = .ok (.bipush (-2), 2) := by decide +kernel
theorem dX5_result_53 : decode cX5_result 53 = .ok (.ireturn, 1) := by decide +kernel
theorem dX5_result_54 : decode cX5_result 54 = .ok (.aload_n 0, 1) := by decide +kernel
theorem dX5_result_55 : decode cX5_result 55 = .ok (.getfield 32, 3) := by decide +kernel
theorem dX5_result_58 : decode cX5_result 58 = .ok (.iload_n 1, 1) := by decide +kernel
theorem dX5_result_59 : decode cX5_result 59 = .ok (.lload_n 2, 1) := by decide +kernel
theorem dX5_result_60 : decode cX5_result 60 = .ok (.lload 4, 2) := by decide +kernel
theorem dX5_result_62 : decode cX5_result 62 = .ok (.invokevirtual 85, 3) := by decide +kernel
theorem dX5_result_65 : decode cX5_result 65 = .ok (.ifCond .eq 6, 3) := by decide +kernel
theorem dX5_result_68 : decode cX5_result 68 = .ok (.bipush (-3), 2) := by decide +kernel
theorem dX5_result_70 : decode cX5_result 70 = .ok (.ireturn, 1) := by decide +kernel
theorem dX5_result_71 : decode cX5_result 71 = .ok (.aload_n 0, 1) := by decide +kernel
theorem dX5_result_72 : decode cX5_result 72 = .ok (.getfield 32, 3) := by decide +kernel
theorem dX5_result_75 : decode cX5_result 75 = .ok (.iload_n 1, 1) := by decide +kernel
theorem dX5_result_76 : decode cX5_result 76 = .ok (.aload_n 0, 1) := by decide +kernel
theorem dX5_result_77 : decode cX5_result 77 = .ok (.getfield 25, 3) := by decide +kernel
theorem dX5_result_80 : decode cX5_result 80 = .ok (.iload_n 1, 1) := by decide +kernel
theorem dX5_result_81 : decode cX5_result 81 = .ok (.invokevirtual 89, 3) := by decide +kernel
theorem dX5_result_84 : decode cX5_result 84 = .ok (.lload_n 2, 1) := by decide +kernel
theorem dX5_result_85 : decode cX5_result 85 = .ok (.lload 4, 2) := by decide +kernel
theorem dX5_result_87 : decode cX5_result 87 = .ok (.lload 10, 2) := by decide +kernel
theorem dX5_result_89 : decode cX5_result 89 = .ok (.invokevirtual 92, 3) := by decide +kernel
theorem dX5_result_92 : decode cX5_result 92 = .ok (.istore 14, 2) := by decide +kernel
theorem dX5_result_94 : decode cX5_result 94 = .ok (.iload 14, 2) := by decide +kernel
theorem dX5_result_96 : decode cX5_result 96 = .ok (.iconst (-1), 1) := by decide +kernel
theorem dX5_result_97 : decode cX5_result 97 = .ok (.if_icmp .ne 6, 3) := by decide +kernel
theorem dX5_result_100 : decode cX5_result 100 = .ok (.bipush (-4), 2) := by decide +kernel
theorem dX5_result_102 : decode cX5_result 102 = .ok (.ireturn, 1) := by decide +kernel
theorem dX5_result_103 : decode cX5_result 103 = .ok (.aload_n 0, 1) := by decide +kernel
theorem dX5_result_104 : decode cX5_result 104 = .ok (.iload 14, 2) := by decide +kernel
theorem dX5_result_106 : decode cX5_result 106 = .ok (.lload_n 2, 1) := by decide +kernel
theorem dX5_result_107 : decode cX5_result 107 = .ok (.invokevirtual 95, 3) := by decide +kernel
theorem dX5_result_110 : decode cX5_result 110 = .ok (.iload 14, 2) := by decide +kernel
theorem dX5_result_112 : decode cX5_result 112 = .ok (.ireturn, 1) := by decide +kernel
def p_T_result (ot : Nat) (tq : Int32) (ow : Nat → Nat) (oe : Nat → Nat) (oc : Nat → Nat) (ou : Nat → Nat) (oa : Nat → Nat) (to : Bool) (tt : Int64) (wc : Nat) (wl : Nat → Int32) (wb : Nat → Bool) (wk : Nat → Nat) (kk : Nat → Int64) (kf : Nat → Int64) (ku : Nat → Int64) (ec : Nat) (ew : Nat → Nat) (el : Nat → Int32) (ea : Nat → Int64) (ed : Nat → Int64) (et : Nat → Int64) (ex : Nat → Bool) (cc : Nat) (ca : Nat → Int64) (cl : Nat → Int32) (ch : Nat → Int32) (x : Int32) (a : Int64) (d : Int64) (un : Int64) (xr : Int64) (t : Int64) : Int32 → ((Nat × (Nat → Nat) × (Nat → Int32) × (Nat → Int64) × (Nat → Int64) × (Nat → Int64)) × (Nat × (Nat → Int64) × (Nat → Int32) × (Nat → Int32))) → Prop := fun r u => (r = (-1) ∧ ((¬ ∃ j, j < wc ∧ x = nI j ∧ wb j = false) ∨ t < 0) ∧ u = ((ec, ew, el, ea, ed, et), (cc, ca, cl, ch))) ∨ (∃ w, (w < wc ∧ x = nI w ∧ wb w = false ∧ ¬ t < 0) ∧ ((r = (-2) ∧ ¬ (∃ z, w * 4 ≤ z ∧ z < w * 4 + wk w ∧ (¬ (t < kf z) ∧ ¬ (ku z ≤ t) ∧ xs_sum (kk z) a d = (xs_sum un a d ^^^ xr))) ∧ u = ((ec, ew, el, ea, ed, et), (cc, ca, cl, ch))) ∨ (r = (-3) ∧ (∃ z, w * 4 ≤ z ∧ z < w * 4 + wk w ∧ (¬ (t < kf z) ∧ ¬ (ku z ≤ t) ∧ xs_sum (kk z) a d = (xs_sum un a d ^^^ xr))) ∧ (∃ i, i < ec ∧ (ew i = w ∧ ea i = a ∧ ed i = d ∧ ex i = false)) ∧ u = ((ec, ew, el, ea, ed, et), (cc, ca, cl, ch))) ∨ (r = (-4) ∧ (∃ z, w * 4 ≤ z ∧ z < w * 4 + wk w ∧ (¬ (t < kf z) ∧ ¬ (ku z ≤ t) ∧ xs_sum (kk z) a d = (xs_sum un a d ^^^ xr))) ∧ ¬ (∃ i, i < ec ∧ (ew i = w ∧ ea i = a ∧ ed i = d ∧ ex i = false)) ∧ 100 ≤ ec ∧ u = ((ec, ew, el, ea, ed, et), (cc, ca, cl, ch))) ∨ (r = nI ec ∧ (∃ z, w * 4 ≤ z ∧ z < w * 4 + wk w ∧ (¬ (t < kf z) ∧ ¬ (ku z ≤ t) ∧ xs_sum (kk z) a d = (xs_sum un a d ^^^ xr))) ∧ ¬ (∃ i, i < ec ∧ (ew i = w ∧ ea i = a ∧ ed i = d ∧ ex i = false)) ∧ ec < 100 ∧ u.1 = (ec + 1, xu_N ew ec w, upd el ec (wl w), vp_updL ea ec a, vp_updL ed ec d, vp_updL et ec t) ∧ p_T_note ot tq ow oe oc ou oa to tt (ec + 1) (xu_N ew ec w) (upd el ec (wl w)) (vp_updL ea ec a) (vp_updL ed ec d) (vp_updL et ec t) ex cc ca cl ch ec a u.2)))
set_option maxHeartbeats 4000000 in
set_option maxRecDepth 100000 in
theorem c_T_result (l : Launch) (D : va_G) (k : Nat → ClassId) (ot : Nat) (tq : Int32) (ow : Nat → Nat) (oe : Nat → Nat) (oc : Nat → Nat) (ou : Nat → Nat) (oa : Nat → Nat) (to : Bool) (tt : Int64) (wc : Nat) (wl : Nat → Int32) (wb : Nat → Bool) (wk : Nat → Nat) (kk : Nat → Int64) (kf : Nat → Int64) (ku : Nat → Int64) (ec : Nat) (ew : Nat → Nat) (el : Nat → Int32) (ea : Nat → Int64) (ed : Nat → Int64) (et : Nat → Int64) (ex : Nat → Bool) (cc : Nat) (ca : Nat → Int64) (cl : Nat → Int32) (ch : Nat → Int32) (x : Int32) (a : Int64) (d : Int64) (un : Int64) (xr : Int64) (t : Int64) (hwc : wc ≤ 12) (hwk : ∀ i, wk i ≤ 4) (hec : ec ≤ 100) (hew : ∀ i, ew i < 12) (hcc : cc ≤ 50) : xx_Ci l yX5_result (.code yX5_result cX5_result 15 (some .int) :: xall) ({ frames := 3, cells := 0, slots := 0, locals := 84 } : Room) D vwCl (xT k) [.ref ot, .int x, .long a, .long d, .long un, .long xr, .long t] ((bT k ot tq ow oe oc ou oa to tt) ++ (bW k ow wc wl wb wk kk kf ku) ++ (bE k oe ec ew el ea ed et ex) ++ (bC k oc cc ca cl ch)) (p_T_result ot tq ow oe oc ou oa to tt wc wl wb wk kk kf ku ec ew el ea ed et ex cc ca cl ch x a d un xr t) (fun (u : (Nat × (Nat → Nat) × (Nat → Int32) × (Nat → Int64) × (Nat → Int64) × (Nat → Int64)) × (Nat × (Nat → Int64) × (Nat → Int32) × (Nat → Int32))) => (bT k ot tq ow oe oc ou oa to tt) ++ (bW k ow wc wl wb wk kk kf ku) ++ (bE k oe u.1.1 u.1.2.1 u.1.2.2.1 u.1.2.2.2.1 u.1.2.2.2.2.1 u.1.2.2.2.2.2 ex) ++ (bC k oc u.2.1 u.2.2.1 u.2.2.2.1 u.2.2.2.2)) 0 0 := by
  intro sz
  refine xx_met (Qf := fun A => va_Qi (p_T_result ot tq ow oe oc ou oa to tt wc wl wb wk kk kf ku ec ew el ea ed et ex cc ca cl ch x a d un xr t) (xx_B D vwCl (xT k) A (fun (u : (Nat × (Nat → Nat) × (Nat → Int32) × (Nat → Int64) × (Nat → Int64) × (Nat → Int64)) × (Nat × (Nat → Int64) × (Nat → Int32) × (Nat → Int32))) => (bT k ot tq ow oe oc ou oa to tt) ++ (bW k ow wc wl wb wk kk kf ku) ++ (bE k oe u.1.1 u.1.2.1 u.1.2.2.1 u.1.2.2.2.1 u.1.2.2.2.2.1 u.1.2.2.2.2.2 ex) ++ (bC k oc u.2.1 u.2.2.1 u.2.2.2.1 u.2.2.2.2))) A) (cc := cX5_result) (maxL := 15) (ret := (some .int)) (by decide) rfl (Nat.le_of_ble_eq_true rfl) ?_
  intro p e s m below meth c A ls hx hb hr hts hown hlocks hin hml hA hS hP hD hK hN hl
  have hl : lv_has ls 15 [(0, .ref ot), (1, .int x), (2, .long a), (4, .long d), (6, .long un), (8, .long xr), (10, .long t)] := hl
  have hown : s.vm.findClass RX5 = some m.cls := hown
  have hinW := inX5
  refine lv_aload_n hx hb dX5_result_0 rfl (lv_at hl 0 rfl) ?_
  refine va_get (D := D) (ci := 5) (v := .ref (ow 0)) (C := RX5) (T := TX5) (N := 8) hx hb hts hinW hown hK hP 0 rfl rfl 1 (by decide) (hts _ tw_138) (fun _ h9 => h9) rfl dX5_result_1 ?_
  refine lv_iload_n hx hb dX5_result_4 rfl (lv_at hl 1 rfl) ?_
  refine xx_calli ((bT k ot tq ow oe oc ou oa to tt) ++ (bE k oe ec ew el ea ed et ex) ++ (bC k oc cc ca cl ch)) [1, 2, 3, 4, 5, 6, 7] [0, 8, 9, 10, 11, 12, 13, 14, 15, 16, 17, 18] (va_runV (As := [.int x]) (rest := []) ⟨hx, hb, hml, hown, hts⟩ (c_W_may l D k ow wc wl wb wk kk kf ku x (by omega) s.heap.size) (cwV 1 hts (xx_gV tw_205 tw_182 tw_183 tw_3 tw_184) rfl rfl rfl (by decide +kernel) ⟨Nat.le_of_ble_eq_true rfl, Nat.le_of_ble_eq_true rfl⟩) (xx_preV hK hN hP hD [1, 2, 3, 4, 5, 6, 7] (by decide) rfl 4 1 rfl rfl) rfl rfl hl.1 rfl (lv_room (Nat.le_of_ble_eq_true rfl)) dX5_result_5 ⟨Nat.le_of_ble_eq_true rfl, Nat.le_of_ble_eq_true rfl⟩) hP hD hS hA rfl rfl (by decide) (by decide) (fun r5 u5 H locs hw5 hP hD hS => ?_)
  rcases hw5 with ⟨rfl, j5, hj5, hx5, hb5⟩ | ⟨rfl, hq5⟩
  · subst hx5
    have hP : va_P D vwCl ((bT k ot tq ow oe oc ou oa to tt) ++ (bE k oe ec ew el ea ed et ex) ++ (bC k oc cc ca cl ch) ++ (bW k ow wc wl wb wk kk kf ku)) H := hP
    have hD : va_D A ((bT k ot tq ow oe oc ou oa to tt) ++ (bE k oe ec ew el ea ed et ex) ++ (bC k oc cc ca cl ch) ++ (bW k ow wc wl wb wk kk kf ku)) := hD
    refine lv_if_eq (tgt := 18) hx hb dX5_result_8 (by decide) (fun c => absurd c (by decide)) (fun _ => ?_)
    refine lv_lload hx hb dX5_result_11 (lv_at hl 6 rfl) ?_
    refine lv_lconst (v := 0) hx hb dX5_result_13 (by decide) ?_
    refine W.lcmp hx hb dX5_result_14 ?_
    refine lv_if_ge (tgt := 20) hx hb dX5_result_15 (by decide) (fun c15 => ?_) (fun c15 => ?_)
    · have c15 : 0 ≤ t := (lg_cmp_ge t 0).mp c15
      refine lv_lload hx hb dX5_result_20 (lv_at hl 4 rfl) ?_
      refine lv_lload_n hx hb dX5_result_22 rfl (lv_at hl 2 rfl) ?_
      refine lv_lload hx hb dX5_result_23 (lv_at hl 3 rfl) ?_
      refine xx_calll ((bT k ot tq ow oe oc ou oa to tt) ++ (bE k oe ec ew el ea ed et ex) ++ (bC k oc cc ca cl ch) ++ (bW k ow wc wl wb wk kk kf ku)) [] [0, 1, 2, 3, 4, 5, 6, 7, 8, 9, 10, 11, 12, 13, 14, 15, 16, 17, 18] (va_runS (As := [.long un, .long a, .long d]) (rest := []) ⟨hx, hb, hml, hown, hts⟩ (c_sumUnder l D k un a d H.size) (va_cwS 3 hts (xx_gS tw_193 tw_194 tw_1 tw_195) rfl rfl rfl (by decide +kernel) ⟨Nat.le_of_ble_eq_true rfl, Nat.le_of_ble_eq_true rfl⟩) (xx_preS hK hN hP hD [] (by decide) rfl) rfl rfl hl.1 rfl (lv_room (Nat.le_of_ble_eq_true rfl)) dX5_result_25 ⟨Nat.le_of_ble_eq_true rfl, Nat.le_of_ble_eq_true rfl⟩) hP hD hS hA rfl rfl (by decide) (by decide) (fun r25 u25 H locs hw25 hP hD hS => ?_)
      obtain rfl := hw25
      have hP : va_P D vwCl ((bT k ot tq ow oe oc ou oa to tt) ++ (bE k oe ec ew el ea ed et ex) ++ (bC k oc cc ca cl ch) ++ (bW k ow wc wl wb wk kk kf ku)) H := hP
      have hD : va_D A ((bT k ot tq ow oe oc ou oa to tt) ++ (bE k oe ec ew el ea ed et ex) ++ (bC k oc cc ca cl ch) ++ (bW k ow wc wl wb wk kk kf ku)) := hD
      refine lv_lload hx hb dX5_result_28 (lv_at hl 5 rfl) ?_
      refine lv_lxor hx hb dX5_result_30 ?_
      refine lv_lstore (lv' := [(12, .long ((xs_sum un a d) ^^^ xr)), (0, .ref ot), (1, .int (nI j5)), (2, .long a), (4, .long d), (6, .long un), (8, .long xr), (10, .long t)]) hx hb dX5_result_31 hl (by decide) rfl (fun ls hl => ?_)
      refine lv_aload_n hx hb dX5_result_33 rfl (lv_at hl 1 rfl) ?_
      refine va_get (D := D) (ci := 5) (v := .ref (ow 0)) (C := RX5) (T := TX5) (N := 8) hx hb hts hinW hown hK hP 0 rfl rfl 1 (by decide) (hts _ tw_138) (fun _ h9 => h9) rfl dX5_result_34 ?_
      refine lv_iload_n hx hb dX5_result_37 rfl (lv_at hl 2 rfl) ?_
      refine lv_lload_n hx hb dX5_result_38 rfl (lv_at hl 3 rfl) ?_
      refine lv_lload hx hb dX5_result_39 (lv_at hl 4 rfl) ?_
      refine lv_lload hx hb dX5_result_41 (lv_at hl 0 rfl) ?_
      refine lv_lload hx hb dX5_result_43 (lv_at hl 7 rfl) ?_
      refine xx_calli ((bT k ot tq ow oe oc ou oa to tt) ++ (bE k oe ec ew el ea ed et ex) ++ (bC k oc cc ca cl ch)) [12, 13, 14, 15, 16, 17, 18] [0, 1, 2, 3, 4, 5, 6, 7, 8, 9, 10, 11] (va_runV (As := [.int (nI j5), .long a, .long d, .long ((xs_sum un a d) ^^^ xr), .long t]) (rest := []) ⟨hx, hb, hml, hown, hts⟩ (c_W_fits l D k ow wc wl wb wk kk kf ku j5 a d ((xs_sum un a d) ^^^ xr) t hwc hj5 hwk H.size) (cwV 5 hts (xx_gV tw_206 tw_207 tw_208 tw_3 tw_209) rfl rfl rfl (by decide +kernel) ⟨Nat.le_of_ble_eq_true rfl, Nat.le_of_ble_eq_true rfl⟩) (xx_preV hK hN hP hD [12, 13, 14, 15, 16, 17, 18] (by decide) rfl 4 12 rfl rfl) rfl rfl hl.1 rfl (lv_room (Nat.le_of_ble_eq_true rfl)) dX5_result_45 ⟨Nat.le_of_ble_eq_true rfl, Nat.le_of_ble_eq_true rfl⟩) hP hD hS hA rfl rfl (by decide) (by decide) (fun r45 u45 H locs hw45 hP hD hS => ?_)
      rcases hw45 with ⟨rfl, hq45⟩ | ⟨rfl, hq45⟩
      · have hP : va_P D vwCl ((bT k ot tq ow oe oc ou oa to tt) ++ (bE k oe ec ew el ea ed et ex) ++ (bC k oc cc ca cl ch) ++ (bW k ow wc wl wb wk kk kf ku)) H := hP
        have hD : va_D A ((bT k ot tq ow oe oc ou oa to tt) ++ (bE k oe ec ew el ea ed et ex) ++ (bC k oc cc ca cl ch) ++ (bW k ow wc wl wb wk kk kf ku)) := hD
        refine lv_if_ne (tgt := 54) hx hb dX5_result_48 (by decide) (fun _ => ?_) (fun c => absurd c (by decide))
        refine lv_aload_n hx hb dX5_result_54 rfl (lv_at hl 1 rfl) ?_
        refine va_get (D := D) (ci := 5) (v := .ref (oe 0)) (C := RX5) (T := TX5) (N := 8) hx hb hts hinW hown hK hP 0 rfl rfl 2 (by decide) (hts _ tw_139) (fun _ h9 => h9) rfl dX5_result_55 ?_
        refine lv_iload_n hx hb dX5_result_58 rfl (lv_at hl 2 rfl) ?_
        refine lv_lload_n hx hb dX5_result_59 rfl (lv_at hl 3 rfl) ?_
        refine lv_lload hx hb dX5_result_60 (lv_at hl 4 rfl) ?_
        refine xx_calli ((bT k ot tq ow oe oc ou oa to tt) ++ (bC k oc cc ca cl ch) ++ (bW k ow wc wl wb wk kk kf ku)) [1, 2, 3, 4, 5, 6, 7] [0, 8, 9, 10, 11, 12, 13, 14, 15, 16, 17, 18] (va_runV (As := [.int (nI j5), .long a, .long d]) (rest := []) ⟨hx, hb, hml, hown, hts⟩ (c_E_like l D k oe ec ew el ea ed et ex j5 a d hec hew (by omega) H.size) (cwV 3 hts (xx_gV tw_211 tw_212 tw_213 tw_4 tw_214) rfl rfl rfl (by decide +kernel) ⟨Nat.le_of_ble_eq_true rfl, Nat.le_of_ble_eq_true rfl⟩) (xx_preV hK hN hP hD [1, 2, 3, 4, 5, 6, 7] (by decide) rfl 2 1 rfl rfl) rfl rfl hl.1 rfl (lv_room (Nat.le_of_ble_eq_true rfl)) dX5_result_62 ⟨Nat.le_of_ble_eq_true rfl, Nat.le_of_ble_eq_true rfl⟩) hP hD hS hA rfl rfl (by decide) (by decide) (fun r62 u62 H locs hw62 hP hD hS => ?_)
        rcases hw62 with ⟨rfl, hq62⟩ | ⟨rfl, hq62⟩
        · have hP : va_P D vwCl ((bT k ot tq ow oe oc ou oa to tt) ++ (bC k oc cc ca cl ch) ++ (bW k ow wc wl wb wk kk kf ku) ++ (bE k oe ec ew el ea ed et ex)) H := hP
          have hD : va_D A ((bT k ot tq ow oe oc ou oa to tt) ++ (bC k oc cc ca cl ch) ++ (bW k ow wc wl wb wk kk kf ku) ++ (bE k oe ec ew el ea ed et ex)) := hD
          refine lv_if_eq (tgt := 71) hx hb dX5_result_65 (by decide) (fun c => absurd c (by decide)) (fun _ => ?_)
          refine lv_bipush (v := (-3)) hx hb dX5_result_68 (by decide) ?_
          refine xx_iret ((ec, ew, el, ea, ed, et), (cc, ca, cl, ch)) hx hb hr hlocks hS hK (xx_subP hP [0, 5, 6, 7, 8, 9, 10, 11, 12, 13, 14, 15, 16, 17, 18, 1, 2, 3, 4] rfl) (hD.sub [0, 5, 6, 7, 8, 9, 10, 11, 12, 13, 14, 15, 16, 17, 18, 1, 2, 3, 4] (by decide) rfl) dX5_result_70 ?_
          exact Or.inr ⟨j5, ⟨hj5, rfl, hb5, xx_lnlt c15⟩, Or.inr (Or.inl ⟨rfl, hq45, hq62, rfl⟩)⟩
        · have hP : va_P D vwCl ((bT k ot tq ow oe oc ou oa to tt) ++ (bC k oc cc ca cl ch) ++ (bW k ow wc wl wb wk kk kf ku) ++ (bE k oe ec ew el ea ed et ex)) H := hP
          have hD : va_D A ((bT k ot tq ow oe oc ou oa to tt) ++ (bC k oc cc ca cl ch) ++ (bW k ow wc wl wb wk kk kf ku) ++ (bE k oe ec ew el ea ed et ex)) := hD
          refine lv_if_eq (tgt := 71) hx hb dX5_result_65 (by decide) (fun _ => ?_) (fun c => absurd c (by decide))
          refine lv_aload_n hx hb dX5_result_71 rfl (lv_at hl 1 rfl) ?_
          refine va_get (D := D) (ci := 5) (v := .ref (oe 0)) (C := RX5) (T := TX5) (N := 8) hx hb hts hinW hown hK hP 0 rfl rfl 2 (by decide) (hts _ tw_139) (fun _ h9 => h9) rfl dX5_result_72 ?_
          refine lv_iload_n hx hb dX5_result_75 rfl (lv_at hl 2 rfl) ?_
          refine lv_aload_n hx hb dX5_result_76 rfl (lv_at hl 1 rfl) ?_
          refine va_get (D := D) (ci := 5) (v := .ref (ow 0)) (C := RX5) (T := TX5) (N := 8) hx hb hts hinW hown hK hP 0 rfl rfl 1 (by decide) (hts _ tw_138) (fun _ h9 => h9) rfl dX5_result_77 ?_
          refine lv_iload_n hx hb dX5_result_80 rfl (lv_at hl 2 rfl) ?_
          refine xx_calli ((bT k ot tq ow oe oc ou oa to tt) ++ (bC k oc cc ca cl ch) ++ (bE k oe ec ew el ea ed et ex)) [5, 6, 7, 8, 9, 10, 11] [0, 1, 2, 3, 4, 12, 13, 14, 15, 16, 17, 18] (va_runV (As := [.int (nI j5)]) (rest := [.int (nI j5), .ref (oe 0)]) ⟨hx, hb, hml, hown, hts⟩ (c_W_levelOf l D k ow wc wl wb wk kk kf ku j5 hwc hj5 H.size) (cwV 1 hts (xx_gV tw_215 tw_216 tw_217 tw_3 tw_218) rfl rfl rfl (by decide +kernel) ⟨Nat.le_of_ble_eq_true rfl, Nat.le_of_ble_eq_true rfl⟩) (xx_preV hK hN hP hD [5, 6, 7, 8, 9, 10, 11] (by decide) rfl 4 5 rfl rfl) rfl rfl hl.1 rfl (lv_room (Nat.le_of_ble_eq_true rfl)) dX5_result_81 ⟨Nat.le_of_ble_eq_true rfl, Nat.le_of_ble_eq_true rfl⟩) hP hD hS hA rfl rfl (by decide) (by decide) (fun r81 u81 H locs hw81 hP hD hS => ?_)
          obtain rfl := hw81
          have hP : va_P D vwCl ((bT k ot tq ow oe oc ou oa to tt) ++ (bC k oc cc ca cl ch) ++ (bE k oe ec ew el ea ed et ex) ++ (bW k ow wc wl wb wk kk kf ku)) H := hP
          have hD : va_D A ((bT k ot tq ow oe oc ou oa to tt) ++ (bC k oc cc ca cl ch) ++ (bE k oe ec ew el ea ed et ex) ++ (bW k ow wc wl wb wk kk kf ku)) := hD
          refine lv_lload_n hx hb dX5_result_84 rfl (lv_at hl 3 rfl) ?_
          refine lv_lload hx hb dX5_result_85 (lv_at hl 4 rfl) ?_
          refine lv_lload hx hb dX5_result_87 (lv_at hl 7 rfl) ?_
          refine xx_calli ((bT k ot tq ow oe oc ou oa to tt) ++ (bC k oc cc ca cl ch) ++ (bW k ow wc wl wb wk kk kf ku)) [5, 6, 7, 8, 9, 10, 11] [0, 1, 2, 3, 4, 12, 13, 14, 15, 16, 17, 18] (va_runV (As := [.int (nI j5), .int (wl j5), .long a, .long d, .long t]) (rest := []) ⟨hx, hb, hml, hown, hts⟩ (c_E_add l D k oe ec ew el ea ed et ex j5 (wl j5) a d t (by omega) H.size) (cwV 5 hts (xx_gV tw_219 tw_220 tw_221 tw_4 tw_222) rfl rfl rfl (by decide +kernel) ⟨Nat.le_of_ble_eq_true rfl, Nat.le_of_ble_eq_true rfl⟩) (xx_preV hK hN hP hD [5, 6, 7, 8, 9, 10, 11] (by decide) rfl 2 5 rfl rfl) rfl rfl hl.1 rfl (lv_room (Nat.le_of_ble_eq_true rfl)) dX5_result_89 ⟨Nat.le_of_ble_eq_true rfl, Nat.le_of_ble_eq_true rfl⟩) hP hD hS hA rfl rfl (by decide) (by decide) (fun r89 u89 H locs hw89 hP hD hS => ?_)
          rcases hw89 with ⟨rfl, hq89, rfl⟩ | ⟨rfl, hq89, rfl⟩
          · have hP : va_P D vwCl ((bT k ot tq ow oe oc ou oa to tt) ++ (bC k oc cc ca cl ch) ++ (bW k ow wc wl wb wk kk kf ku) ++ (bE k oe ec ew el ea ed et ex)) H := hP
            have hD : va_D A ((bT k ot tq ow oe oc ou oa to tt) ++ (bC k oc cc ca cl ch) ++ (bW k ow wc wl wb wk kk kf ku) ++ (bE k oe ec ew el ea ed et ex)) := hD
            refine lv_istore (lv' := [(14, .int (-1)), (12, .long ((xs_sum un a d) ^^^ xr)), (0, .ref ot), (1, .int (nI j5)), (2, .long a), (4, .long d), (6, .long un), (8, .long xr), (10, .long t)]) hx hb dX5_result_92 hl (by decide) rfl (fun ls hl => ?_)
            refine lv_iload hx hb dX5_result_94 (lv_at hl 0 rfl) ?_
            refine lv_iconst (v := (-1)) hx hb dX5_result_96 (by decide) ?_
            refine lv_icmp_ne (tgt := 103) hx hb dX5_result_97 (by decide) (fun c => absurd c (by decide)) (fun _ => ?_)
            refine lv_bipush (v := (-4)) hx hb dX5_result_100 (by decide) ?_
            refine xx_iret ((ec, ew, el, ea, ed, et), (cc, ca, cl, ch)) hx hb hr hlocks hS hK (xx_subP hP [0, 5, 6, 7, 8, 9, 10, 11, 12, 13, 14, 15, 16, 17, 18, 1, 2, 3, 4] rfl) (hD.sub [0, 5, 6, 7, 8, 9, 10, 11, 12, 13, 14, 15, 16, 17, 18, 1, 2, 3, 4] (by decide) rfl) dX5_result_102 ?_
            exact Or.inr ⟨j5, ⟨hj5, rfl, hb5, xx_lnlt c15⟩, Or.inr (Or.inr (Or.inl ⟨rfl, hq45, hq62, hq89, rfl⟩))⟩
          · have hP : va_P D vwCl ((bT k ot tq ow oe oc ou oa to tt) ++ (bC k oc cc ca cl ch) ++ (bW k ow wc wl wb wk kk kf ku) ++ (bE k oe (ec + 1) (xu_N ew ec j5) (upd el ec (wl j5)) (vp_updL ea ec a) (vp_updL ed ec d) (vp_updL et ec t) ex)) H := hP
            have hD : va_D A ((bT k ot tq ow oe oc ou oa to tt) ++ (bC k oc cc ca cl ch) ++ (bW k ow wc wl wb wk kk kf ku) ++ (bE k oe (ec + 1) (xu_N ew ec j5) (upd el ec (wl j5)) (vp_updL ea ec a) (vp_updL ed ec d) (vp_updL et ec t) ex)) := hD
            refine lv_istore (lv' := [(14, .int (nI ec)), (12, .long ((xs_sum un a d) ^^^ xr)), (0, .ref ot), (1, .int (nI j5)), (2, .long a), (4, .long d), (6, .long un), (8, .long xr), (10, .long t)]) hx hb dX5_result_92 hl (by decide) rfl (fun ls hl => ?_)
            refine lv_iload hx hb dX5_result_94 (lv_at hl 0 rfl) ?_
            refine lv_iconst (v := (-1)) hx hb dX5_result_96 (by decide) ?_
            refine lv_icmp_ne (tgt := 103) hx hb dX5_result_97 (by decide) (fun _ => ?_) (fun c => absurd c (xx_nm1 (by omega)))
            refine lv_aload_n hx hb dX5_result_103 rfl (lv_at hl 2 rfl) ?_
            refine lv_iload hx hb dX5_result_104 (lv_at hl 0 rfl) ?_
            refine lv_lload_n hx hb dX5_result_106 rfl (lv_at hl 4 rfl) ?_
            refine xx_callv (bW k ow wc wl wb wk kk kf ku) [0, 12, 13, 14, 15, 16, 17, 18, 1, 2, 3, 4] [5, 6, 7, 8, 9, 10, 11] (va_runV (As := [.int (nI ec), .long a]) (rest := []) ⟨hx, hb, hml, hown, hts⟩ (c_T_note l D k ot tq ow oe oc ou oa to tt (ec + 1) (xu_N ew ec j5) (upd el ec (wl j5)) (vp_updL ea ec a) (vp_updL ed ec d) (vp_updL et ec t) ex cc ca cl ch ec a (by omega) hcc (by omega) H.size) (cwV 2 hts (xx_gV tw_223 tw_225 ts_0 tw_1 tw_226) rfl rfl rfl (by decide +kernel) ⟨Nat.le_of_ble_eq_true rfl, Nat.le_of_ble_eq_true rfl⟩) (xx_preV hK hN hP hD [0, 12, 13, 14, 15, 16, 17, 18, 1, 2, 3, 4] (by decide) rfl 5 0 rfl rfl) rfl rfl hl.1 rfl (lv_room (Nat.le_of_ble_eq_true rfl)) dX5_result_107 ⟨Nat.le_of_ble_eq_true rfl, Nat.le_of_ble_eq_true rfl⟩) hP hD hS hA rfl rfl (by decide) (by decide) (fun u107 H locs hw107 hP hD hS => ?_)
            have hP : va_P D vwCl ((bW k ow wc wl wb wk kk kf ku) ++ (bT k ot tq ow oe oc ou oa to tt) ++ (bE k oe (ec + 1) (xu_N ew ec j5) (upd el ec (wl j5)) (vp_updL ea ec a) (vp_updL ed ec d) (vp_updL et ec t) ex) ++ (bC k oc u107.1 u107.2.1 u107.2.2.1 u107.2.2.2)) H := hP
            have hD : va_D A ((bW k ow wc wl wb wk kk kf ku) ++ (bT k ot tq ow oe oc ou oa to tt) ++ (bE k oe (ec + 1) (xu_N ew ec j5) (upd el ec (wl j5)) (vp_updL ea ec a) (vp_updL ed ec d) (vp_updL et ec t) ex) ++ (bC k oc u107.1 u107.2.1 u107.2.2.1 u107.2.2.2)) := hD
            refine lv_iload hx hb dX5_result_110 (lv_at hl 0 rfl) ?_
            refine xx_iret ((ec + 1, (xu_N ew ec j5), (upd el ec (wl j5)), (vp_updL ea ec a), (vp_updL ed ec d), (vp_updL et ec t)), (u107.1, u107.2.1, u107.2.2.1, u107.2.2.2)) hx hb hr hlocks hS hK (xx_subP hP [7, 0, 1, 2, 3, 4, 5, 6, 8, 9, 10, 11, 12, 13, 14, 15, 16, 17, 18] rfl) (hD.sub [7, 0, 1, 2, 3, 4, 5, 6, 8, 9, 10, 11, 12, 13, 14, 15, 16, 17, 18] (by decide) rfl) dX5_result_112 ?_
            exact Or.inr ⟨j5, ⟨hj5, rfl, hb5, xx_lnlt c15⟩, Or.inr (Or.inr (Or.inr ⟨rfl, hq45, hq62, hq89, rfl, hw107⟩))⟩
      · have hP : va_P D vwCl ((bT k ot tq ow oe oc ou oa to tt) ++ (bE k oe ec ew el ea ed et ex) ++ (bC k oc cc ca cl ch) ++ (bW k ow wc wl wb wk kk kf ku)) H := hP
        have hD : va_D A ((bT k ot tq ow oe oc ou oa to tt) ++ (bE k oe ec ew el ea ed et ex) ++ (bC k oc cc ca cl ch) ++ (bW k ow wc wl wb wk kk kf ku)) := hD
        refine lv_if_ne (tgt := 54) hx hb dX5_result_48 (by decide) (fun c => absurd c (by decide)) (fun _ => ?_)
        refine lv_bipush (v := (-2)) hx hb dX5_result_51 (by decide) ?_
        refine xx_iret ((ec, ew, el, ea, ed, et), (cc, ca, cl, ch)) hx hb hr hlocks hS hK (xx_subP hP [0, 12, 13, 14, 15, 16, 17, 18, 1, 2, 3, 4, 5, 6, 7, 8, 9, 10, 11] rfl) (hD.sub [0, 12, 13, 14, 15, 16, 17, 18, 1, 2, 3, 4, 5, 6, 7, 8, 9, 10, 11] (by decide) rfl) dX5_result_53 ?_
        exact Or.inr ⟨j5, ⟨hj5, rfl, hb5, xx_lnlt c15⟩, Or.inl ⟨rfl, hq45, rfl⟩⟩
    · have c15 : ¬ (0 ≤ t) := fun h => c15 ((lg_cmp_ge t 0).mpr h)
      refine lv_iconst (v := (-1)) hx hb dX5_result_18 (by decide) ?_
      refine xx_iret ((ec, ew, el, ea, ed, et), (cc, ca, cl, ch)) hx hb hr hlocks hS hK (xx_subP hP [0, 12, 13, 14, 15, 16, 17, 18, 1, 2, 3, 4, 5, 6, 7, 8, 9, 10, 11] rfl) (hD.sub [0, 12, 13, 14, 15, 16, 17, 18, 1, 2, 3, 4, 5, 6, 7, 8, 9, 10, 11] (by decide) rfl) dX5_result_19 ?_
      first | exact Or.inl ⟨rfl, Or.inl hq5, rfl⟩ | exact Or.inl ⟨rfl, Or.inr (xx_lnle c15), rfl⟩
  · have hP : va_P D vwCl ((bT k ot tq ow oe oc ou oa to tt) ++ (bE k oe ec ew el ea ed et ex) ++ (bC k oc cc ca cl ch) ++ (bW k ow wc wl wb wk kk kf ku)) H := hP
    have hD : va_D A ((bT k ot tq ow oe oc ou oa to tt) ++ (bE k oe ec ew el ea ed et ex) ++ (bC k oc cc ca cl ch) ++ (bW k ow wc wl wb wk kk kf ku)) := hD
    refine lv_if_eq (tgt := 18) hx hb dX5_result_8 (by decide) (fun _ => ?_) (fun c => absurd c (by decide))
    refine lv_iconst (v := (-1)) hx hb dX5_result_18 (by decide) ?_
    refine xx_iret ((ec, ew, el, ea, ed, et), (cc, ca, cl, ch)) hx hb hr hlocks hS hK (xx_subP hP [0, 12, 13, 14, 15, 16, 17, 18, 1, 2, 3, 4, 5, 6, 7, 8, 9, 10, 11] rfl) (hD.sub [0, 12, 13, 14, 15, 16, 17, 18, 1, 2, 3, 4, 5, 6, 7, 8, 9, 10, 11] (by decide) rfl) dX5_result_19 ?_
    first | exact Or.inl ⟨rfl, Or.inl hq5, rfl⟩ | exact Or.inl ⟨rfl, Or.inr (xx_lnle c15), rfl⟩
