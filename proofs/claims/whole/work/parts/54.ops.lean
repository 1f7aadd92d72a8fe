set_option maxHeartbeats 4000000 in
set_option maxRecDepth 100000 in
theorem law_stands {p : Program} {l : Launch} {e : Env} {s : State} {m : MethodId} {below : List Frame} {meth : Method} {c : Code} {D : va_G} {k : Nat → ClassId} {A : Nat → Prop} {Q : State → Prop} {b L : Nat} {xs : Nat → Int32} (C : LC p s m c D k A b L xs) {i : Nat} (hi : i + 12 ≤ L) (K : LK p l e s m below meth c D k A Q b 1132 i) : LK p l e s m below meth c D k A Q b 653 i := by
  obtain ⟨hx, hb, hml, hown, hts, hX, hbl, hbA, hA, hK, hN, hL⟩ := C
  intro ot ow oe oc ou oa om mth tq to tt wc wl wb wk kk kf ku ec ew el ea ed et ex cc ca cl ch uc ut ub ul uw ac as hI H locs ls hP hD hS hl
  obtain ⟨⟨hwc, hwk, hec, hew, hcc, huc, hac⟩, hI2⟩ := id hI
  refine lv_aload_n hx hb dL_law_653 rfl (lv_at hl 1 rfl) ?_
  refine lv_aload_n hx hb dL_law_654 rfl (lv_at hl 0 rfl) ?_
  refine lv_iload_n hx hb dL_law_655 rfl (lv_at hl 3 rfl) ?_
  refine lv_iconst (v := (nI 1)) hx hb dL_law_656 (by decide) ?_
  refine lv_iadd hx hb dL_law_657 ?_
  refine xx_topi (nI_add i 1) ?_
  refine xx_sld hx hb hX hbl hbA hS (show i + 1 < L by omega) (by omega) dL_law_658 ?_
  refine xx_calli ((bW k ow wc wl wb wk kk kf ku) ++ (bC k oc cc ca cl ch) ++ (bU k ou uc ut ub ul uw) ++ (bA k oa ac as) ++ (bM k om mth tq to wc wl wb wk kk kf ku ec ew ea ed et ex cc ca cl ch uc ut ub ul uw tt ac as)) [0, 8, 9, 10, 11, 12, 13, 14] [1, 2, 3, 4, 5, 6, 7, 15, 16, 17, 18, 19, 20, 21, 22, 23, 24, 25, 26, 27, 28, 29, 30, 31, 32, 33, 34, 35, 36, 37, 38, 39, 40, 41, 42, 43, 44, 45] (va_runV (As := [.int (xs (i + 1))]) (rest := []) ⟨hx, hb, hml, hown, hts⟩ (c_T_stands l D k ot tq ow oe oc ou oa to tt ec ew el ea ed et ex (xs (i + 1)) hec H.size) (cwV 1 hts (xx_gV tw_243 tw_244 tw_245 tw_1 tw_246) rfl rfl rfl (by decide +kernel) ⟨Nat.le_of_ble_eq_true rfl, Nat.le_of_ble_eq_true rfl⟩) (xx_preV hK hN hP hD [0, 8, 9, 10, 11, 12, 13, 14] (by decide) rfl 5 0 rfl rfl) rfl rfl hl.1 rfl (lv_room (Nat.le_of_ble_eq_true rfl)) dL_law_659 ⟨Nat.le_of_ble_eq_true rfl, Nat.le_of_ble_eq_true rfl⟩) hP hD hS hA rfl rfl (by decide) (by decide) (fun r659 u659 H locs hw659 hP hD hS => ?_)
  have hP : va_P D vwCl ((bW k ow wc wl wb wk kk kf ku) ++ (bC k oc cc ca cl ch) ++ (bU k ou uc ut ub ul uw) ++ (bA k oa ac as) ++ (bM k om mth tq to wc wl wb wk kk kf ku ec ew ea ed et ex cc ca cl ch uc ut ub ul uw tt ac as) ++ (bT k ot tq ow oe oc ou oa to tt) ++ (bE k oe ec ew el ea ed et ex)) H := hP
  have hD : va_D A ((bW k ow wc wl wb wk kk kf ku) ++ (bC k oc cc ca cl ch) ++ (bU k ou uc ut ub ul uw) ++ (bA k oa ac as) ++ (bM k om mth tq to wc wl wb wk kk kf ku ec ew ea ed et ex cc ca cl ch uc ut ub ul uw tt ac as) ++ (bT k ot tq ow oe oc ou oa to tt) ++ (bE k oe ec ew el ea ed et ex)) := hD
  refine lv_aload_n hx hb dL_law_662 rfl (lv_at hl 2 rfl) ?_
  refine lv_aload_n hx hb dL_law_663 rfl (lv_at hl 0 rfl) ?_
  refine lv_iload_n hx hb dL_law_664 rfl (lv_at hl 3 rfl) ?_
  refine lv_iconst (v := (nI 1)) hx hb dL_law_665 (by decide) ?_
  refine lv_iadd hx hb dL_law_666 ?_
  refine xx_topi (nI_add i 1) ?_
  refine xx_sld hx hb hX hbl hbA hS (show i + 1 < L by omega) (by omega) dL_law_667 ?_
  refine xx_calli ((bW k ow wc wl wb wk kk kf ku) ++ (bC k oc cc ca cl ch) ++ (bU k ou uc ut ub ul uw) ++ (bA k oa ac as) ++ (bT k ot tq ow oe oc ou oa to tt) ++ (bE k oe ec ew el ea ed et ex)) [18, 19, 20, 21, 22, 23, 24, 25, 26, 27, 28, 29, 30, 31, 32, 33, 34, 35, 36, 37] [0, 1, 2, 3, 4, 5, 6, 7, 8, 9, 10, 11, 12, 13, 14, 15, 16, 17, 38, 39, 40, 41, 42, 43, 44, 45] (va_runV (As := [.int (xs (i + 1))]) (rest := [.int r659]) ⟨hx, hb, hml, hown, hts⟩ (c_M_stands l D k om mth tq to wc wl wb wk kk kf ku ec ew ea ed et ex cc ca cl ch uc ut ub ul uw tt ac as (xs (i + 1)) hec H.size) (cwV 1 hts (xx_gV tw_508 tw_509 tw_510 tw_8 tw_511) rfl rfl rfl (by decide +kernel) ⟨Nat.le_of_ble_eq_true rfl, Nat.le_of_ble_eq_true rfl⟩) (xx_preV hK hN hP hD [18, 19, 20, 21, 22, 23, 24, 25, 26, 27, 28, 29, 30, 31, 32, 33, 34, 35, 36, 37] (by decide) rfl 6 18 rfl rfl) rfl rfl hl.1 rfl (lv_room (Nat.le_of_ble_eq_true rfl)) dL_law_668 ⟨Nat.le_of_ble_eq_true rfl, Nat.le_of_ble_eq_true rfl⟩) hP hD hS hA rfl rfl (by decide) (by decide) (fun r668 u668 H locs hw668 hP hD hS => ?_)
  have hP : va_P D vwCl ((bW k ow wc wl wb wk kk kf ku) ++ (bC k oc cc ca cl ch) ++ (bU k ou uc ut ub ul uw) ++ (bA k oa ac as) ++ (bT k ot tq ow oe oc ou oa to tt) ++ (bE k oe ec ew el ea ed et ex) ++ (bM k om (nI 0) tq to wc wl wb wk kk kf ku ec ew ea ed et ex cc ca cl ch uc ut ub ul uw tt ac as)) H := hP
  have hD : va_D A ((bW k ow wc wl wb wk kk kf ku) ++ (bC k oc cc ca cl ch) ++ (bU k ou uc ut ub ul uw) ++ (bA k oa ac as) ++ (bT k ot tq ow oe oc ou oa to tt) ++ (bE k oe ec ew el ea ed et ex) ++ (bM k om (nI 0) tq to wc wl wb wk kk kf ku ec ew ea ed et ex cc ca cl ch uc ut ub ul uw tt ac as)) := hD
  have e1 := sim_stands hw659 hw668
  refine lv_icmp_eq (tgt := 1132) hx hb dL_law_671 (by decide) (fun _ => ?_) (fun c => absurd e1 c)
  exact K ot ow oe oc ou oa om (nI 0) tq to tt wc wl wb wk kk kf ku ec ew el ea ed et ex cc ca cl ch uc ut ub ul uw ac as hI H locs ls (xx_subP hP [18, 0, 1, 2, 3, 4, 5, 6, 19, 20, 21, 22, 23, 24, 25, 7, 8, 9, 10, 11, 12, 13, 14, 15, 16, 17, 26, 27, 28, 29, 30, 31, 32, 33, 34, 35, 36, 37, 38, 39, 40, 41, 42, 43, 44, 45] rfl) (hD.sub [18, 0, 1, 2, 3, 4, 5, 6, 19, 20, 21, 22, 23, 24, 25, 7, 8, 9, 10, 11, 12, 13, 14, 15, 16, 17, 26, 27, 28, 29, 30, 31, 32, 33, 34, 35, 36, 37, 38, 39, 40, 41, 42, 43, 44, 45] (by decide) rfl) hS (lv_sub hl [0, 1, 2, 3] rfl)
set_option maxHeartbeats 4000000 in
set_option maxRecDepth 100000 in
theorem law_bar {p : Program} {l : Launch} {e : Env} {s : State} {m : MethodId} {below : List Frame} {meth : Method} {c : Code} {D : va_G} {k : Nat → ClassId} {A : Nat → Prop} {Q : State → Prop} {b L : Nat} {xs : Nat → Int32} (C : LC p s m c D k A b L xs) {i : Nat} (hi : i + 12 ≤ L) (K : LK p l e s m below meth c D k A Q b 1132 i) : LK p l e s m below meth c D k A Q b 676 i := by
  obtain ⟨hx, hb, hml, hown, hts, hX, hbl, hbA, hA, hK, hN, hL⟩ := C
  intro ot ow oe oc ou oa om mth tq to tt wc wl wb wk kk kf ku ec ew el ea ed et ex cc ca cl ch uc ut ub ul uw ac as hI H locs ls hP hD hS hl
  obtain ⟨⟨hwc, hwk, hec, hew, hcc, huc, hac⟩, hI2⟩ := id hI
  refine lv_aload_n hx hb dL_law_676 rfl (lv_at hl 1 rfl) ?_
  refine lv_aload_n hx hb dL_law_677 rfl (lv_at hl 0 rfl) ?_
  refine lv_iload_n hx hb dL_law_678 rfl (lv_at hl 3 rfl) ?_
  refine lv_iconst (v := (nI 1)) hx hb dL_law_679 (by decide) ?_
  refine lv_iadd hx hb dL_law_680 ?_
  refine xx_topi (nI_add i 1) ?_
  refine xx_sld hx hb hX hbl hbA hS (show i + 1 < L by omega) (by omega) dL_law_681 ?_
  refine xx_calli ((bC k oc cc ca cl ch) ++ (bU k ou uc ut ub ul uw) ++ (bA k oa ac as) ++ (bM k om mth tq to wc wl wb wk kk kf ku ec ew ea ed et ex cc ca cl ch uc ut ub ul uw tt ac as)) [0, 1, 2, 3, 4, 5, 6, 7, 8, 9, 10, 11, 12, 13, 14] [15, 16, 17, 18, 19, 20, 21, 22, 23, 24, 25, 26, 27, 28, 29, 30, 31, 32, 33, 34, 35, 36, 37, 38, 39, 40, 41, 42, 43, 44, 45] (va_runV (As := [.int (xs (i + 1))]) (rest := []) ⟨hx, hb, hml, hown, hts⟩ (c_T_bar l D k ot tq ow oe oc ou oa to tt wc wl wb wk kk kf ku ec ew el ea ed et ex (xs (i + 1)) hwc hec hew H.size) (cwV 1 hts (xx_gV tw_248 tw_249 tw_250 tw_1 tw_251) rfl rfl rfl (by decide +kernel) ⟨Nat.le_of_ble_eq_true rfl, Nat.le_of_ble_eq_true rfl⟩) (xx_preV hK hN hP hD [0, 1, 2, 3, 4, 5, 6, 7, 8, 9, 10, 11, 12, 13, 14] (by decide) rfl 5 0 rfl rfl) rfl rfl hl.1 rfl (lv_room (Nat.le_of_ble_eq_true rfl)) dL_law_682 ⟨Nat.le_of_ble_eq_true rfl, Nat.le_of_ble_eq_true rfl⟩) hP hD hS hA rfl rfl (by decide) (by decide) (fun r682 u682 H locs hw682 hP hD hS => ?_)
  have hP : va_P D vwCl ((bC k oc cc ca cl ch) ++ (bU k ou uc ut ub ul uw) ++ (bA k oa ac as) ++ (bM k om mth tq to wc wl wb wk kk kf ku ec ew ea ed et ex cc ca cl ch uc ut ub ul uw tt ac as) ++ (bT k ot tq ow oe oc ou oa to tt) ++ (bW k ow wc wl u682.1 wk kk kf ku) ++ (bE k oe ec ew el ea ed et u682.2)) H := hP
  have hD : va_D A ((bC k oc cc ca cl ch) ++ (bU k ou uc ut ub ul uw) ++ (bA k oa ac as) ++ (bM k om mth tq to wc wl wb wk kk kf ku ec ew ea ed et ex cc ca cl ch uc ut ub ul uw tt ac as) ++ (bT k ot tq ow oe oc ou oa to tt) ++ (bW k ow wc wl u682.1 wk kk kf ku) ++ (bE k oe ec ew el ea ed et u682.2)) := hD
  refine lv_aload_n hx hb dL_law_685 rfl (lv_at hl 2 rfl) ?_
  refine lv_aload_n hx hb dL_law_686 rfl (lv_at hl 0 rfl) ?_
  refine lv_iload_n hx hb dL_law_687 rfl (lv_at hl 3 rfl) ?_
  refine lv_iconst (v := (nI 1)) hx hb dL_law_688 (by decide) ?_
  refine lv_iadd hx hb dL_law_689 ?_
  refine xx_topi (nI_add i 1) ?_
  refine xx_sld hx hb hX hbl hbA hS (show i + 1 < L by omega) (by omega) dL_law_690 ?_
  refine xx_calli ((bC k oc cc ca cl ch) ++ (bU k ou uc ut ub ul uw) ++ (bA k oa ac as) ++ (bT k ot tq ow oe oc ou oa to tt) ++ (bW k ow wc wl u682.1 wk kk kf ku) ++ (bE k oe ec ew el ea ed et u682.2)) [11, 12, 13, 14, 15, 16, 17, 18, 19, 20, 21, 22, 23, 24, 25, 26, 27, 28, 29, 30] [0, 1, 2, 3, 4, 5, 6, 7, 8, 9, 10, 31, 32, 33, 34, 35, 36, 37, 38, 39, 40, 41, 42, 43, 44, 45] (va_runV (As := [.int (xs (i + 1))]) (rest := [.int r682]) ⟨hx, hb, hml, hown, hts⟩ (c_M_bar l D k om mth tq to wc wl wb wk kk kf ku ec ew ea ed et ex cc ca cl ch uc ut ub ul uw tt ac as (xs (i + 1)) hwc hec hew H.size) (cwV 1 hts (xx_gV tw_512 tw_513 tw_514 tw_8 tw_515) rfl rfl rfl (by decide +kernel) ⟨Nat.le_of_ble_eq_true rfl, Nat.le_of_ble_eq_true rfl⟩) (xx_preV hK hN hP hD [11, 12, 13, 14, 15, 16, 17, 18, 19, 20, 21, 22, 23, 24, 25, 26, 27, 28, 29, 30] (by decide) rfl 6 11 rfl rfl) rfl rfl hl.1 rfl (lv_room (Nat.le_of_ble_eq_true rfl)) dL_law_691 ⟨Nat.le_of_ble_eq_true rfl, Nat.le_of_ble_eq_true rfl⟩) hP hD hS hA rfl rfl (by decide) (by decide) (fun r691 u691 H locs hw691 hP hD hS => ?_)
  have hP : va_P D vwCl ((bC k oc cc ca cl ch) ++ (bU k ou uc ut ub ul uw) ++ (bA k oa ac as) ++ (bT k ot tq ow oe oc ou oa to tt) ++ (bW k ow wc wl u682.1 wk kk kf ku) ++ (bE k oe ec ew el ea ed et u682.2) ++ (bM k om (nI 0) tq to wc wl u691.1 wk kk kf ku ec ew ea ed et u691.2 cc ca cl ch uc ut ub ul uw tt ac as)) H := hP
  have hD : va_D A ((bC k oc cc ca cl ch) ++ (bU k ou uc ut ub ul uw) ++ (bA k oa ac as) ++ (bT k ot tq ow oe oc ou oa to tt) ++ (bW k ow wc wl u682.1 wk kk kf ku) ++ (bE k oe ec ew el ea ed et u682.2) ++ (bM k om (nI 0) tq to wc wl u691.1 wk kk kf ku ec ew ea ed et u691.2 cc ca cl ch uc ut ub ul uw tt ac as)) := hD
  obtain ⟨e1, e2, hI⟩ := sim_bar hI hw682 hw691
  rw [e2] at hP hD
  have hP : va_P D vwCl ((bC k oc cc ca cl ch) ++ (bU k ou uc ut ub ul uw) ++ (bA k oa ac as) ++ (bT k ot tq ow oe oc ou oa to tt) ++ (bW k ow wc wl u682.1 wk kk kf ku) ++ (bE k oe ec ew el ea ed et u682.2) ++ (bM k om (nI 0) tq to wc wl u682.1 wk kk kf ku ec ew ea ed et u682.2 cc ca cl ch uc ut ub ul uw tt ac as)) H := hP
  have hD : va_D A ((bC k oc cc ca cl ch) ++ (bU k ou uc ut ub ul uw) ++ (bA k oa ac as) ++ (bT k ot tq ow oe oc ou oa to tt) ++ (bW k ow wc wl u682.1 wk kk kf ku) ++ (bE k oe ec ew el ea ed et u682.2) ++ (bM k om (nI 0) tq to wc wl u682.1 wk kk kf ku ec ew ea ed et u682.2 cc ca cl ch uc ut ub ul uw tt ac as)) := hD
  refine lv_icmp_eq (tgt := 1132) hx hb dL_law_694 (by decide) (fun _ => ?_) (fun c => absurd e1 c)
  exact K ot ow oe oc ou oa om (nI 0) tq to tt wc wl u682.1 wk kk kf ku ec ew el ea ed et u682.2 cc ca cl ch uc ut ub ul uw ac as hI H locs ls (xx_subP hP [11, 12, 13, 14, 15, 16, 17, 18, 19, 20, 21, 22, 23, 24, 25, 0, 1, 2, 3, 4, 5, 6, 7, 8, 9, 10, 26, 27, 28, 29, 30, 31, 32, 33, 34, 35, 36, 37, 38, 39, 40, 41, 42, 43, 44, 45] rfl) (hD.sub [11, 12, 13, 14, 15, 16, 17, 18, 19, 20, 21, 22, 23, 24, 25, 0, 1, 2, 3, 4, 5, 6, 7, 8, 9, 10, 26, 27, 28, 29, 30, 31, 32, 33, 34, 35, 36, 37, 38, 39, 40, 41, 42, 43, 44, 45] (by decide) rfl) hS (lv_sub hl [0, 1, 2, 3] rfl)
set_option maxHeartbeats 4000000 in
set_option maxRecDepth 100000 in
theorem law_rule {p : Program} {l : Launch} {e : Env} {s : State} {m : MethodId} {below : List Frame} {meth : Method} {c : Code} {D : va_G} {k : Nat → ClassId} {A : Nat → Prop} {Q : State → Prop} {b L : Nat} {xs : Nat → Int32} (C : LC p s m c D k A b L xs) {i : Nat} (hi : i + 12 ≤ L) (K : LK p l e s m below meth c D k A Q b 1132 i) : LK p l e s m below meth c D k A Q b 699 i := by
  obtain ⟨hx, hb, hml, hown, hts, hX, hbl, hbA, hA, hK, hN, hL⟩ := C
  intro ot ow oe oc ou oa om mth tq to tt wc wl wb wk kk kf ku ec ew el ea ed et ex cc ca cl ch uc ut ub ul uw ac as hI H locs ls hP hD hS hl
  obtain ⟨⟨hwc, hwk, hec, hew, hcc, huc, hac⟩, hI2⟩ := id hI
  refine lv_aload_n hx hb dL_law_699 rfl (lv_at hl 1 rfl) ?_
  refine lv_aload_n hx hb dL_law_700 rfl (lv_at hl 0 rfl) ?_
  refine lv_iload_n hx hb dL_law_701 rfl (lv_at hl 3 rfl) ?_
  refine lv_iconst (v := (nI 1)) hx hb dL_law_702 (by decide) ?_
  refine lv_iadd hx hb dL_law_703 ?_
  refine xx_topi (nI_add i 1) ?_
  refine xx_sld hx hb hX hbl hbA hS (show i + 1 < L by omega) (by omega) dL_law_704 ?_
  refine lv_aload_n hx hb dL_law_705 rfl (lv_at hl 0 rfl) ?_
  refine lv_iload_n hx hb dL_law_706 rfl (lv_at hl 3 rfl) ?_
  refine lv_iconst (v := (nI 2)) hx hb dL_law_707 (by decide) ?_
  refine lv_iadd hx hb dL_law_708 ?_
  refine xx_topi (nI_add i 2) ?_
  refine xx_sld hx hb hX hbl hbA hS (show i + 2 < L by omega) (by omega) dL_law_709 ?_
  refine lv_aload_n hx hb dL_law_710 rfl (lv_at hl 0 rfl) ?_
  refine lv_iload_n hx hb dL_law_711 rfl (lv_at hl 3 rfl) ?_
  refine lv_iconst (v := (nI 3)) hx hb dL_law_712 (by decide) ?_
  refine lv_iadd hx hb dL_law_713 ?_
  refine xx_topi (nI_add i 3) ?_
  refine xx_sld hx hb hX hbl hbA hS (show i + 3 < L by omega) (by omega) dL_law_714 ?_
  refine lv_aload_n hx hb dL_law_715 rfl (lv_at hl 0 rfl) ?_
  refine lv_iload_n hx hb dL_law_716 rfl (lv_at hl 3 rfl) ?_
  refine lv_iconst (v := (nI 4)) hx hb dL_law_717 (by decide) ?_
  refine lv_iadd hx hb dL_law_718 ?_
  refine xx_topi (nI_add i 4) ?_
  refine xx_sld hx hb hX hbl hbA hS (show i + 4 < L by omega) (by omega) dL_law_719 ?_
  refine xx_calli ((bW k ow wc wl wb wk kk kf ku) ++ (bE k oe ec ew el ea ed et ex) ++ (bC k oc cc ca cl ch) ++ (bA k oa ac as) ++ (bM k om mth tq to wc wl wb wk kk kf ku ec ew ea ed et ex cc ca cl ch uc ut ub ul uw tt ac as)) [0, 19, 20, 21, 22, 23] [1, 2, 3, 4, 5, 6, 7, 8, 9, 10, 11, 12, 13, 14, 15, 16, 17, 18, 24, 25, 26, 27, 28, 29, 30, 31, 32, 33, 34, 35, 36, 37, 38, 39, 40, 41, 42, 43, 44, 45] (va_runV (As := [.int (xs (i + 1)), .int (xs (i + 2)), .int (xs (i + 3)), .int (xs (i + 4))]) (rest := []) ⟨hx, hb, hml, hown, hts⟩ (c_T_rule l D k ot tq ow oe oc ou oa to tt uc ut ub ul uw (xs (i + 1)) (xs (i + 2)) (xs (i + 3)) (xs (i + 4)) huc H.size) (cwV 4 hts (xx_gV tw_260 tw_261 tw_262 tw_1 tw_263) rfl rfl rfl (by decide +kernel) ⟨Nat.le_of_ble_eq_true rfl, Nat.le_of_ble_eq_true rfl⟩) (xx_preV hK hN hP hD [0, 19, 20, 21, 22, 23] (by decide) rfl 5 0 rfl rfl) rfl rfl hl.1 rfl (lv_room (Nat.le_of_ble_eq_true rfl)) dL_law_720 ⟨Nat.le_of_ble_eq_true rfl, Nat.le_of_ble_eq_true rfl⟩) hP hD hS hA rfl rfl (by decide) (by decide) (fun r720 u720 H locs hw720 hP hD hS => ?_)
  have hP : va_P D vwCl ((bW k ow wc wl wb wk kk kf ku) ++ (bE k oe ec ew el ea ed et ex) ++ (bC k oc cc ca cl ch) ++ (bA k oa ac as) ++ (bM k om mth tq to wc wl wb wk kk kf ku ec ew ea ed et ex cc ca cl ch uc ut ub ul uw tt ac as) ++ (bT k ot tq ow oe oc ou oa to tt) ++ (bU k ou u720.1 u720.2.1 u720.2.2.1 u720.2.2.2.1 u720.2.2.2.2)) H := hP
  have hD : va_D A ((bW k ow wc wl wb wk kk kf ku) ++ (bE k oe ec ew el ea ed et ex) ++ (bC k oc cc ca cl ch) ++ (bA k oa ac as) ++ (bM k om mth tq to wc wl wb wk kk kf ku ec ew ea ed et ex cc ca cl ch uc ut ub ul uw tt ac as) ++ (bT k ot tq ow oe oc ou oa to tt) ++ (bU k ou u720.1 u720.2.1 u720.2.2.1 u720.2.2.2.1 u720.2.2.2.2)) := hD
  refine lv_aload_n hx hb dL_law_723 rfl (lv_at hl 2 rfl) ?_
  refine lv_aload_n hx hb dL_law_724 rfl (lv_at hl 0 rfl) ?_
  refine lv_iload_n hx hb dL_law_725 rfl (lv_at hl 3 rfl) ?_
  refine lv_iconst (v := (nI 1)) hx hb dL_law_726 (by decide) ?_
  refine lv_iadd hx hb dL_law_727 ?_
  refine xx_topi (nI_add i 1) ?_
  refine xx_sld hx hb hX hbl hbA hS (show i + 1 < L by omega) (by omega) dL_law_728 ?_
  refine lv_aload_n hx hb dL_law_729 rfl (lv_at hl 0 rfl) ?_
  refine lv_iload_n hx hb dL_law_730 rfl (lv_at hl 3 rfl) ?_
  refine lv_iconst (v := (nI 2)) hx hb dL_law_731 (by decide) ?_
  refine lv_iadd hx hb dL_law_732 ?_
  refine xx_topi (nI_add i 2) ?_
  refine xx_sld hx hb hX hbl hbA hS (show i + 2 < L by omega) (by omega) dL_law_733 ?_
  refine lv_aload_n hx hb dL_law_734 rfl (lv_at hl 0 rfl) ?_
  refine lv_iload_n hx hb dL_law_735 rfl (lv_at hl 3 rfl) ?_
  refine lv_iconst (v := (nI 3)) hx hb dL_law_736 (by decide) ?_
  refine lv_iadd hx hb dL_law_737 ?_
  refine xx_topi (nI_add i 3) ?_
  refine xx_sld hx hb hX hbl hbA hS (show i + 3 < L by omega) (by omega) dL_law_738 ?_
  refine lv_aload_n hx hb dL_law_739 rfl (lv_at hl 0 rfl) ?_
  refine lv_iload_n hx hb dL_law_740 rfl (lv_at hl 3 rfl) ?_
  refine lv_iconst (v := (nI 4)) hx hb dL_law_741 (by decide) ?_
  refine lv_iadd hx hb dL_law_742 ?_
  refine xx_topi (nI_add i 4) ?_
  refine xx_sld hx hb hX hbl hbA hS (show i + 4 < L by omega) (by omega) dL_law_743 ?_
  refine xx_calli ((bW k ow wc wl wb wk kk kf ku) ++ (bE k oe ec ew el ea ed et ex) ++ (bC k oc cc ca cl ch) ++ (bA k oa ac as) ++ (bT k ot tq ow oe oc ou oa to tt) ++ (bU k ou u720.1 u720.2.1 u720.2.2.1 u720.2.2.2.1 u720.2.2.2.2)) [20, 21, 22, 23, 24, 25, 26, 27, 28, 29, 30, 31, 32, 33, 34, 35, 36, 37, 38, 39] [0, 1, 2, 3, 4, 5, 6, 7, 8, 9, 10, 11, 12, 13, 14, 15, 16, 17, 18, 19, 40, 41, 42, 43, 44, 45] (va_runV (As := [.int (xs (i + 1)), .int (xs (i + 2)), .int (xs (i + 3)), .int (xs (i + 4))]) (rest := [.int r720]) ⟨hx, hb, hml, hown, hts⟩ (c_M_rule l D k om mth tq to wc wl wb wk kk kf ku ec ew ea ed et ex cc ca cl ch uc ut ub ul uw tt ac as (xs (i + 1)) (xs (i + 2)) (xs (i + 3)) (xs (i + 4)) huc H.size) (cwV 4 hts (xx_gV tw_516 tw_517 tw_518 tw_8 tw_519) rfl rfl rfl (by decide +kernel) ⟨Nat.le_of_ble_eq_true rfl, Nat.le_of_ble_eq_true rfl⟩) (xx_preV hK hN hP hD [20, 21, 22, 23, 24, 25, 26, 27, 28, 29, 30, 31, 32, 33, 34, 35, 36, 37, 38, 39] (by decide) rfl 6 20 rfl rfl) rfl rfl hl.1 rfl (lv_room (Nat.le_of_ble_eq_true rfl)) dL_law_744 ⟨Nat.le_of_ble_eq_true rfl, Nat.le_of_ble_eq_true rfl⟩) hP hD hS hA rfl rfl (by decide) (by decide) (fun r744 u744 H locs hw744 hP hD hS => ?_)
  have hP : va_P D vwCl ((bW k ow wc wl wb wk kk kf ku) ++ (bE k oe ec ew el ea ed et ex) ++ (bC k oc cc ca cl ch) ++ (bA k oa ac as) ++ (bT k ot tq ow oe oc ou oa to tt) ++ (bU k ou u720.1 u720.2.1 u720.2.2.1 u720.2.2.2.1 u720.2.2.2.2) ++ (bM k om (nI 0) tq to wc wl wb wk kk kf ku ec ew ea ed et ex cc ca cl ch u744.1 u744.2.1 u744.2.2.1 u744.2.2.2.1 u744.2.2.2.2 tt ac as)) H := hP
  have hD : va_D A ((bW k ow wc wl wb wk kk kf ku) ++ (bE k oe ec ew el ea ed et ex) ++ (bC k oc cc ca cl ch) ++ (bA k oa ac as) ++ (bT k ot tq ow oe oc ou oa to tt) ++ (bU k ou u720.1 u720.2.1 u720.2.2.1 u720.2.2.2.1 u720.2.2.2.2) ++ (bM k om (nI 0) tq to wc wl wb wk kk kf ku ec ew ea ed et ex cc ca cl ch u744.1 u744.2.1 u744.2.2.1 u744.2.2.2.1 u744.2.2.2.2 tt ac as)) := hD
  obtain ⟨e1, e2, hI⟩ := sim_rule hI hw720 hw744
  rw [e2] at hP hD
  have hP : va_P D vwCl ((bW k ow wc wl wb wk kk kf ku) ++ (bE k oe ec ew el ea ed et ex) ++ (bC k oc cc ca cl ch) ++ (bA k oa ac as) ++ (bT k ot tq ow oe oc ou oa to tt) ++ (bU k ou u720.1 u720.2.1 u720.2.2.1 u720.2.2.2.1 u720.2.2.2.2) ++ (bM k om (nI 0) tq to wc wl wb wk kk kf ku ec ew ea ed et ex cc ca cl ch u720.1 u720.2.1 u720.2.2.1 u720.2.2.2.1 u720.2.2.2.2 tt ac as)) H := hP
  have hD : va_D A ((bW k ow wc wl wb wk kk kf ku) ++ (bE k oe ec ew el ea ed et ex) ++ (bC k oc cc ca cl ch) ++ (bA k oa ac as) ++ (bT k ot tq ow oe oc ou oa to tt) ++ (bU k ou u720.1 u720.2.1 u720.2.2.1 u720.2.2.2.1 u720.2.2.2.2) ++ (bM k om (nI 0) tq to wc wl wb wk kk kf ku ec ew ea ed et ex cc ca cl ch u720.1 u720.2.1 u720.2.2.1 u720.2.2.2.1 u720.2.2.2.2 tt ac as)) := hD
  refine lv_icmp_eq (tgt := 1132) hx hb dL_law_747 (by decide) (fun _ => ?_) (fun c => absurd e1 c)
  exact K ot ow oe oc ou oa om (nI 0) tq to tt wc wl wb wk kk kf ku ec ew el ea ed et ex cc ca cl ch u720.1 u720.2.1 u720.2.2.1 u720.2.2.2.1 u720.2.2.2.2 ac as hI H locs ls (xx_subP hP [20, 0, 1, 2, 3, 4, 5, 6, 7, 8, 9, 10, 11, 12, 13, 14, 15, 16, 17, 21, 22, 23, 24, 25, 18, 19, 26, 27, 28, 29, 30, 31, 32, 33, 34, 35, 36, 37, 38, 39, 40, 41, 42, 43, 44, 45] rfl) (hD.sub [20, 0, 1, 2, 3, 4, 5, 6, 7, 8, 9, 10, 11, 12, 13, 14, 15, 16, 17, 21, 22, 23, 24, 25, 18, 19, 26, 27, 28, 29, 30, 31, 32, 33, 34, 35, 36, 37, 38, 39, 40, 41, 42, 43, 44, 45] (by decide) rfl) hS (lv_sub hl [0, 1, 2, 3] rfl)
set_option maxHeartbeats 4000000 in
set_option maxRecDepth 100000 in
theorem law_ruleFor {p : Program} {l : Launch} {e : Env} {s : State} {m : MethodId} {below : List Frame} {meth : Method} {c : Code} {D : va_G} {k : Nat → ClassId} {A : Nat → Prop} {Q : State → Prop} {b L : Nat} {xs : Nat → Int32} (C : LC p s m c D k A b L xs) {i : Nat} (hi : i + 12 ≤ L) (K : LK p l e s m below meth c D k A Q b 1132 i) : LK p l e s m below meth c D k A Q b 752 i := by
  obtain ⟨hx, hb, hml, hown, hts, hX, hbl, hbA, hA, hK, hN, hL⟩ := C
  intro ot ow oe oc ou oa om mth tq to tt wc wl wb wk kk kf ku ec ew el ea ed et ex cc ca cl ch uc ut ub ul uw ac as hI H locs ls hP hD hS hl
  obtain ⟨⟨hwc, hwk, hec, hew, hcc, huc, hac⟩, hI2⟩ := id hI
  refine lv_aload_n hx hb dL_law_752 rfl (lv_at hl 1 rfl) ?_
  refine lv_aload_n hx hb dL_law_753 rfl (lv_at hl 0 rfl) ?_
  refine lv_iload_n hx hb dL_law_754 rfl (lv_at hl 3 rfl) ?_
  refine lv_iconst (v := (nI 1)) hx hb dL_law_755 (by decide) ?_
  refine lv_iadd hx hb dL_law_756 ?_
  refine xx_topi (nI_add i 1) ?_
  refine xx_sld hx hb hX hbl hbA hS (show i + 1 < L by omega) (by omega) dL_law_757 ?_
  refine lv_aload_n hx hb dL_law_758 rfl (lv_at hl 0 rfl) ?_
  refine lv_iload_n hx hb dL_law_759 rfl (lv_at hl 3 rfl) ?_
  refine lv_iconst (v := (nI 2)) hx hb dL_law_760 (by decide) ?_
  refine lv_iadd hx hb dL_law_761 ?_
  refine xx_topi (nI_add i 2) ?_
  refine xx_sld hx hb hX hbl hbA hS (show i + 2 < L by omega) (by omega) dL_law_762 ?_
  refine xx_calli ((bW k ow wc wl wb wk kk kf ku) ++ (bE k oe ec ew el ea ed et ex) ++ (bC k oc cc ca cl ch) ++ (bA k oa ac as) ++ (bM k om mth tq to wc wl wb wk kk kf ku ec ew ea ed et ex cc ca cl ch uc ut ub ul uw tt ac as)) [0, 19, 20, 21, 22, 23] [1, 2, 3, 4, 5, 6, 7, 8, 9, 10, 11, 12, 13, 14, 15, 16, 17, 18, 24, 25, 26, 27, 28, 29, 30, 31, 32, 33, 34, 35, 36, 37, 38, 39, 40, 41, 42, 43, 44, 45] (va_runV (As := [.int (xs (i + 1)), .int (xs (i + 2))]) (rest := []) ⟨hx, hb, hml, hown, hts⟩ (c_T_ruleFor l D k ot tq ow oe oc ou oa to tt uc ut ub ul uw (xs (i + 1)) (xs (i + 2)) huc H.size) (cwV 2 hts (xx_gV tw_275 tw_276 tw_277 tw_1 tw_278) rfl rfl rfl (by decide +kernel) ⟨Nat.le_of_ble_eq_true rfl, Nat.le_of_ble_eq_true rfl⟩) (xx_preV hK hN hP hD [0, 19, 20, 21, 22, 23] (by decide) rfl 5 0 rfl rfl) rfl rfl hl.1 rfl (lv_room (Nat.le_of_ble_eq_true rfl)) dL_law_763 ⟨Nat.le_of_ble_eq_true rfl, Nat.le_of_ble_eq_true rfl⟩) hP hD hS hA rfl rfl (by decide) (by decide) (fun r763 u763 H locs hw763 hP hD hS => ?_)
  have hP : va_P D vwCl ((bW k ow wc wl wb wk kk kf ku) ++ (bE k oe ec ew el ea ed et ex) ++ (bC k oc cc ca cl ch) ++ (bA k oa ac as) ++ (bM k om mth tq to wc wl wb wk kk kf ku ec ew ea ed et ex cc ca cl ch uc ut ub ul uw tt ac as) ++ (bT k ot tq ow oe oc ou oa to tt) ++ (bU k ou uc ut ub ul uw)) H := hP
  have hD : va_D A ((bW k ow wc wl wb wk kk kf ku) ++ (bE k oe ec ew el ea ed et ex) ++ (bC k oc cc ca cl ch) ++ (bA k oa ac as) ++ (bM k om mth tq to wc wl wb wk kk kf ku ec ew ea ed et ex cc ca cl ch uc ut ub ul uw tt ac as) ++ (bT k ot tq ow oe oc ou oa to tt) ++ (bU k ou uc ut ub ul uw)) := hD
  refine lv_aload_n hx hb dL_law_766 rfl (lv_at hl 2 rfl) ?_
  refine lv_aload_n hx hb dL_law_767 rfl (lv_at hl 0 rfl) ?_
  refine lv_iload_n hx hb dL_law_768 rfl (lv_at hl 3 rfl) ?_
  refine lv_iconst (v := (nI 1)) hx hb dL_law_769 (by decide) ?_
  refine lv_iadd hx hb dL_law_770 ?_
  refine xx_topi (nI_add i 1) ?_
  refine xx_sld hx hb hX hbl hbA hS (show i + 1 < L by omega) (by omega) dL_law_771 ?_
  refine lv_aload_n hx hb dL_law_772 rfl (lv_at hl 0 rfl) ?_
  refine lv_iload_n hx hb dL_law_773 rfl (lv_at hl 3 rfl) ?_
  refine lv_iconst (v := (nI 2)) hx hb dL_law_774 (by decide) ?_
  refine lv_iadd hx hb dL_law_775 ?_
  refine xx_topi (nI_add i 2) ?_
  refine xx_sld hx hb hX hbl hbA hS (show i + 2 < L by omega) (by omega) dL_law_776 ?_
  refine xx_calli ((bW k ow wc wl wb wk kk kf ku) ++ (bE k oe ec ew el ea ed et ex) ++ (bC k oc cc ca cl ch) ++ (bA k oa ac as) ++ (bT k ot tq ow oe oc ou oa to tt) ++ (bU k ou uc ut ub ul uw)) [20, 21, 22, 23, 24, 25, 26, 27, 28, 29, 30, 31, 32, 33, 34, 35, 36, 37, 38, 39] [0, 1, 2, 3, 4, 5, 6, 7, 8, 9, 10, 11, 12, 13, 14, 15, 16, 17, 18, 19, 40, 41, 42, 43, 44, 45] (va_runV (As := [.int (xs (i + 1)), .int (xs (i + 2))]) (rest := [.int r763]) ⟨hx, hb, hml, hown, hts⟩ (c_M_ruleFor l D k om mth tq to wc wl wb wk kk kf ku ec ew ea ed et ex cc ca cl ch uc ut ub ul uw tt ac as (xs (i + 1)) (xs (i + 2)) huc H.size) (cwV 2 hts (xx_gV tw_520 tw_521 tw_522 tw_8 tw_523) rfl rfl rfl (by decide +kernel) ⟨Nat.le_of_ble_eq_true rfl, Nat.le_of_ble_eq_true rfl⟩) (xx_preV hK hN hP hD [20, 21, 22, 23, 24, 25, 26, 27, 28, 29, 30, 31, 32, 33, 34, 35, 36, 37, 38, 39] (by decide) rfl 6 20 rfl rfl) rfl rfl hl.1 rfl (lv_room (Nat.le_of_ble_eq_true rfl)) dL_law_777 ⟨Nat.le_of_ble_eq_true rfl, Nat.le_of_ble_eq_true rfl⟩) hP hD hS hA rfl rfl (by decide) (by decide) (fun r777 u777 H locs hw777 hP hD hS => ?_)
  have hP : va_P D vwCl ((bW k ow wc wl wb wk kk kf ku) ++ (bE k oe ec ew el ea ed et ex) ++ (bC k oc cc ca cl ch) ++ (bA k oa ac as) ++ (bT k ot tq ow oe oc ou oa to tt) ++ (bU k ou uc ut ub ul uw) ++ (bM k om (nI 0) tq to wc wl wb wk kk kf ku ec ew ea ed et ex cc ca cl ch uc ut ub ul uw tt ac as)) H := hP
  have hD : va_D A ((bW k ow wc wl wb wk kk kf ku) ++ (bE k oe ec ew el ea ed et ex) ++ (bC k oc cc ca cl ch) ++ (bA k oa ac as) ++ (bT k ot tq ow oe oc ou oa to tt) ++ (bU k ou uc ut ub ul uw) ++ (bM k om (nI 0) tq to wc wl wb wk kk kf ku ec ew ea ed et ex cc ca cl ch uc ut ub ul uw tt ac as)) := hD
  have e1 := sim_ruleFor hw763 hw777
  refine lv_icmp_eq (tgt := 1132) hx hb dL_law_780 (by decide) (fun _ => ?_) (fun c => absurd e1 c)
  exact K ot ow oe oc ou oa om (nI 0) tq to tt wc wl wb wk kk kf ku ec ew el ea ed et ex cc ca cl ch uc ut ub ul uw ac as hI H locs ls (xx_subP hP [20, 0, 1, 2, 3, 4, 5, 6, 7, 8, 9, 10, 11, 12, 13, 14, 15, 16, 17, 21, 22, 23, 24, 25, 18, 19, 26, 27, 28, 29, 30, 31, 32, 33, 34, 35, 36, 37, 38, 39, 40, 41, 42, 43, 44, 45] rfl) (hD.sub [20, 0, 1, 2, 3, 4, 5, 6, 7, 8, 9, 10, 11, 12, 13, 14, 15, 16, 17, 21, 22, 23, 24, 25, 18, 19, 26, 27, 28, 29, 30, 31, 32, 33, 34, 35, 36, 37, 38, 39, 40, 41, 42, 43, 44, 45] (by decide) rfl) hS (lv_sub hl [0, 1, 2, 3] rfl)
set_option maxHeartbeats 4000000 in
set_option maxRecDepth 100000 in
theorem law_own {p : Program} {l : Launch} {e : Env} {s : State} {m : MethodId} {below : List Frame} {meth : Method} {c : Code} {D : va_G} {k : Nat → ClassId} {A : Nat → Prop} {Q : State → Prop} {b L : Nat} {xs : Nat → Int32} (C : LC p s m c D k A b L xs) {i : Nat} (hi : i + 12 ≤ L) (K : LK p l e s m below meth c D k A Q b 1132 i) : LK p l e s m below meth c D k A Q b 785 i := by
  obtain ⟨hx, hb, hml, hown, hts, hX, hbl, hbA, hA, hK, hN, hL⟩ := C
  intro ot ow oe oc ou oa om mth tq to tt wc wl wb wk kk kf ku ec ew el ea ed et ex cc ca cl ch uc ut ub ul uw ac as hI H locs ls hP hD hS hl
  obtain ⟨⟨hwc, hwk, hec, hew, hcc, huc, hac⟩, hI2⟩ := id hI
  by_cases hz : xs (i + 1) = 0
  · refine lv_aload_n hx hb dL_law_785 rfl (lv_at hl 1 rfl) ?_
    refine lv_aload_n hx hb dL_law_786 rfl (lv_at hl 0 rfl) ?_
    refine lv_iload_n hx hb dL_law_787 rfl (lv_at hl 3 rfl) ?_
    refine lv_iconst (v := (nI 1)) hx hb dL_law_788 (by decide) ?_
    refine lv_iadd hx hb dL_law_789 ?_
    refine xx_topi (nI_add i 1) ?_
    refine xx_sld hx hb hX hbl hbA hS (show i + 1 < L by omega) (by omega) dL_law_790 ?_
    refine lv_if_eq (tgt := 798) hx hb dL_law_791 (by decide) (fun _ => ?_) (fun c => absurd hz c)
    refine lv_iconst (v := (nI 0)) hx hb dL_law_798 (by decide) ?_
    refine xx_callv ((bW k ow wc wl wb wk kk kf ku) ++ (bE k oe ec ew el ea ed et ex) ++ (bC k oc cc ca cl ch) ++ (bU k ou uc ut ub ul uw) ++ (bA k oa ac as) ++ (bM k om mth tq to wc wl wb wk kk kf ku ec ew ea ed et ex cc ca cl ch uc ut ub ul uw tt ac as)) [0] [1, 2, 3, 4, 5, 6, 7, 8, 9, 10, 11, 12, 13, 14, 15, 16, 17, 18, 19, 20, 21, 22, 23, 24, 25, 26, 27, 28, 29, 30, 31, 32, 33, 34, 35, 36, 37, 38, 39, 40, 41, 42, 43, 44, 45] (va_runV (As := [.int (nI 0)]) (rest := []) ⟨hx, hb, hml, hown, hts⟩ (c_T_own l D k ot tq ow oe oc ou oa to tt false H.size) (cwV 1 hts (xx_gV tw_291 tw_292 tw_293 tw_1 tw_294) rfl rfl rfl (by decide +kernel) ⟨Nat.le_of_ble_eq_true rfl, Nat.le_of_ble_eq_true rfl⟩) (xx_preV hK hN hP hD [0] (by decide) rfl 5 0 rfl rfl) rfl rfl hl.1 rfl (lv_room (Nat.le_of_ble_eq_true rfl)) dL_law_799 ⟨Nat.le_of_ble_eq_true rfl, Nat.le_of_ble_eq_true rfl⟩) hP hD hS hA rfl rfl (by decide) (by decide) (fun u799 H locs hw799 hP hD hS => ?_)
    have hP : va_P D vwCl ((bW k ow wc wl wb wk kk kf ku) ++ (bE k oe ec ew el ea ed et ex) ++ (bC k oc cc ca cl ch) ++ (bU k ou uc ut ub ul uw) ++ (bA k oa ac as) ++ (bM k om mth tq to wc wl wb wk kk kf ku ec ew ea ed et ex cc ca cl ch uc ut ub ul uw tt ac as) ++ (bT k ot tq ow oe oc ou oa false tt)) H := hP
    have hD : va_D A ((bW k ow wc wl wb wk kk kf ku) ++ (bE k oe ec ew el ea ed et ex) ++ (bC k oc cc ca cl ch) ++ (bU k ou uc ut ub ul uw) ++ (bA k oa ac as) ++ (bM k om mth tq to wc wl wb wk kk kf ku ec ew ea ed et ex cc ca cl ch uc ut ub ul uw tt ac as) ++ (bT k ot tq ow oe oc ou oa false tt)) := hD
    refine lv_aload_n hx hb dL_law_802 rfl (lv_at hl 2 rfl) ?_
    refine lv_aload_n hx hb dL_law_803 rfl (lv_at hl 0 rfl) ?_
    refine lv_iload_n hx hb dL_law_804 rfl (lv_at hl 3 rfl) ?_
    refine lv_iconst (v := (nI 1)) hx hb dL_law_805 (by decide) ?_
    refine lv_iadd hx hb dL_law_806 ?_
    refine xx_topi (nI_add i 1) ?_
    refine xx_sld hx hb hX hbl hbA hS (show i + 1 < L by omega) (by omega) dL_law_807 ?_
    refine lv_if_eq (tgt := 815) hx hb dL_law_808 (by decide) (fun _ => ?_) (fun c => absurd hz c)
    refine lv_iconst (v := (nI 0)) hx hb dL_law_815 (by decide) ?_
    refine xx_callv ((bW k ow wc wl wb wk kk kf ku) ++ (bE k oe ec ew el ea ed et ex) ++ (bC k oc cc ca cl ch) ++ (bU k ou uc ut ub ul uw) ++ (bA k oa ac as) ++ (bT k ot tq ow oe oc ou oa false tt)) [25, 26, 27, 28, 29, 30, 31, 32, 33, 34, 35, 36, 37, 38, 39, 40, 41, 42, 43, 44] [0, 1, 2, 3, 4, 5, 6, 7, 8, 9, 10, 11, 12, 13, 14, 15, 16, 17, 18, 19, 20, 21, 22, 23, 24, 45] (va_runV (As := [.int (nI 0)]) (rest := []) ⟨hx, hb, hml, hown, hts⟩ (c_M_own l D k om mth tq to wc wl wb wk kk kf ku ec ew ea ed et ex cc ca cl ch uc ut ub ul uw tt ac as false H.size) (cwV 1 hts (xx_gV tw_535 tw_536 tw_537 tw_8 tw_538) rfl rfl rfl (by decide +kernel) ⟨Nat.le_of_ble_eq_true rfl, Nat.le_of_ble_eq_true rfl⟩) (xx_preV hK hN hP hD [25, 26, 27, 28, 29, 30, 31, 32, 33, 34, 35, 36, 37, 38, 39, 40, 41, 42, 43, 44] (by decide) rfl 6 25 rfl rfl) rfl rfl hl.1 rfl (lv_room (Nat.le_of_ble_eq_true rfl)) dL_law_816 ⟨Nat.le_of_ble_eq_true rfl, Nat.le_of_ble_eq_true rfl⟩) hP hD hS hA rfl rfl (by decide) (by decide) (fun u816 H locs hw816 hP hD hS => ?_)
    have hP : va_P D vwCl ((bW k ow wc wl wb wk kk kf ku) ++ (bE k oe ec ew el ea ed et ex) ++ (bC k oc cc ca cl ch) ++ (bU k ou uc ut ub ul uw) ++ (bA k oa ac as) ++ (bT k ot tq ow oe oc ou oa false tt) ++ (bM k om (nI 0) tq false wc wl wb wk kk kf ku ec ew ea ed et ex cc ca cl ch uc ut ub ul uw tt ac as)) H := hP
    have hD : va_D A ((bW k ow wc wl wb wk kk kf ku) ++ (bE k oe ec ew el ea ed et ex) ++ (bC k oc cc ca cl ch) ++ (bU k ou uc ut ub ul uw) ++ (bA k oa ac as) ++ (bT k ot tq ow oe oc ou oa false tt) ++ (bM k om (nI 0) tq false wc wl wb wk kk kf ku ec ew ea ed et ex cc ca cl ch uc ut ub ul uw tt ac as)) := hD
    refine lv_goto (tgt := 1132) hx hb dL_law_819 (by decide) ?_
    exact K ot ow oe oc ou oa om (nI 0) tq false tt wc wl wb wk kk kf ku ec ew el ea ed et ex cc ca cl ch uc ut ub ul uw ac as hI H locs ls (xx_subP hP [25, 0, 1, 2, 3, 4, 5, 6, 7, 8, 9, 10, 11, 12, 13, 14, 15, 16, 17, 18, 19, 20, 21, 22, 23, 24, 26, 27, 28, 29, 30, 31, 32, 33, 34, 35, 36, 37, 38, 39, 40, 41, 42, 43, 44, 45] rfl) (hD.sub [25, 0, 1, 2, 3, 4, 5, 6, 7, 8, 9, 10, 11, 12, 13, 14, 15, 16, 17, 18, 19, 20, 21, 22, 23, 24, 26, 27, 28, 29, 30, 31, 32, 33, 34, 35, 36, 37, 38, 39, 40, 41, 42, 43, 44, 45] (by decide) rfl) hS (lv_sub hl [0, 1, 2, 3] rfl)
  · refine lv_aload_n hx hb dL_law_785 rfl (lv_at hl 1 rfl) ?_
    refine lv_aload_n hx hb dL_law_786 rfl (lv_at hl 0 rfl) ?_
    refine lv_iload_n hx hb dL_law_787 rfl (lv_at hl 3 rfl) ?_
    refine lv_iconst (v := (nI 1)) hx hb dL_law_788 (by decide) ?_
    refine lv_iadd hx hb dL_law_789 ?_
    refine xx_topi (nI_add i 1) ?_
    refine xx_sld hx hb hX hbl hbA hS (show i + 1 < L by omega) (by omega) dL_law_790 ?_
    refine lv_if_eq (tgt := 798) hx hb dL_law_791 (by decide) (fun c => absurd c hz) (fun _ => ?_)
    refine lv_iconst (v := (nI 1)) hx hb dL_law_794 (by decide) ?_
    refine lv_goto (tgt := 799) hx hb dL_law_795 (by decide) ?_
    refine xx_callv ((bW k ow wc wl wb wk kk kf ku) ++ (bE k oe ec ew el ea ed et ex) ++ (bC k oc cc ca cl ch) ++ (bU k ou uc ut ub ul uw) ++ (bA k oa ac as) ++ (bM k om mth tq to wc wl wb wk kk kf ku ec ew ea ed et ex cc ca cl ch uc ut ub ul uw tt ac as)) [0] [1, 2, 3, 4, 5, 6, 7, 8, 9, 10, 11, 12, 13, 14, 15, 16, 17, 18, 19, 20, 21, 22, 23, 24, 25, 26, 27, 28, 29, 30, 31, 32, 33, 34, 35, 36, 37, 38, 39, 40, 41, 42, 43, 44, 45] (va_runV (As := [.int (nI 1)]) (rest := []) ⟨hx, hb, hml, hown, hts⟩ (c_T_own l D k ot tq ow oe oc ou oa to tt true H.size) (cwV 1 hts (xx_gV tw_291 tw_292 tw_293 tw_1 tw_294) rfl rfl rfl (by decide +kernel) ⟨Nat.le_of_ble_eq_true rfl, Nat.le_of_ble_eq_true rfl⟩) (xx_preV hK hN hP hD [0] (by decide) rfl 5 0 rfl rfl) rfl rfl hl.1 rfl (lv_room (Nat.le_of_ble_eq_true rfl)) dL_law_799 ⟨Nat.le_of_ble_eq_true rfl, Nat.le_of_ble_eq_true rfl⟩) hP hD hS hA rfl rfl (by decide) (by decide) (fun u799 H locs hw799 hP hD hS => ?_)
    have hP : va_P D vwCl ((bW k ow wc wl wb wk kk kf ku) ++ (bE k oe ec ew el ea ed et ex) ++ (bC k oc cc ca cl ch) ++ (bU k ou uc ut ub ul uw) ++ (bA k oa ac as) ++ (bM k om mth tq to wc wl wb wk kk kf ku ec ew ea ed et ex cc ca cl ch uc ut ub ul uw tt ac as) ++ (bT k ot tq ow oe oc ou oa true tt)) H := hP
    have hD : va_D A ((bW k ow wc wl wb wk kk kf ku) ++ (bE k oe ec ew el ea ed et ex) ++ (bC k oc cc ca cl ch) ++ (bU k ou uc ut ub ul uw) ++ (bA k oa ac as) ++ (bM k om mth tq to wc wl wb wk kk kf ku ec ew ea ed et ex cc ca cl ch uc ut ub ul uw tt ac as) ++ (bT k ot tq ow oe oc ou oa true tt)) := hD
    refine lv_aload_n hx hb dL_law_802 rfl (lv_at hl 2 rfl) ?_
    refine lv_aload_n hx hb dL_law_803 rfl (lv_at hl 0 rfl) ?_
    refine lv_iload_n hx hb dL_law_804 rfl (lv_at hl 3 rfl) ?_
    refine lv_iconst (v := (nI 1)) hx hb dL_law_805 (by decide) ?_
    refine lv_iadd hx hb dL_law_806 ?_
    refine xx_topi (nI_add i 1) ?_
    refine xx_sld hx hb hX hbl hbA hS (show i + 1 < L by omega) (by omega) dL_law_807 ?_
    refine lv_if_eq (tgt := 815) hx hb dL_law_808 (by decide) (fun c => absurd c hz) (fun _ => ?_)
    refine lv_iconst (v := (nI 1)) hx hb dL_law_811 (by decide) ?_
    refine lv_goto (tgt := 816) hx hb dL_law_812 (by decide) ?_
    refine xx_callv ((bW k ow wc wl wb wk kk kf ku) ++ (bE k oe ec ew el ea ed et ex) ++ (bC k oc cc ca cl ch) ++ (bU k ou uc ut ub ul uw) ++ (bA k oa ac as) ++ (bT k ot tq ow oe oc ou oa true tt)) [25, 26, 27, 28, 29, 30, 31, 32, 33, 34, 35, 36, 37, 38, 39, 40, 41, 42, 43, 44] [0, 1, 2, 3, 4, 5, 6, 7, 8, 9, 10, 11, 12, 13, 14, 15, 16, 17, 18, 19, 20, 21, 22, 23, 24, 45] (va_runV (As := [.int (nI 1)]) (rest := []) ⟨hx, hb, hml, hown, hts⟩ (c_M_own l D k om mth tq to wc wl wb wk kk kf ku ec ew ea ed et ex cc ca cl ch uc ut ub ul uw tt ac as true H.size) (cwV 1 hts (xx_gV tw_535 tw_536 tw_537 tw_8 tw_538) rfl rfl rfl (by decide +kernel) ⟨Nat.le_of_ble_eq_true rfl, Nat.le_of_ble_eq_true rfl⟩) (xx_preV hK hN hP hD [25, 26, 27, 28, 29, 30, 31, 32, 33, 34, 35, 36, 37, 38, 39, 40, 41, 42, 43, 44] (by decide) rfl 6 25 rfl rfl) rfl rfl hl.1 rfl (lv_room (Nat.le_of_ble_eq_true rfl)) dL_law_816 ⟨Nat.le_of_ble_eq_true rfl, Nat.le_of_ble_eq_true rfl⟩) hP hD hS hA rfl rfl (by decide) (by decide) (fun u816 H locs hw816 hP hD hS => ?_)
    have hP : va_P D vwCl ((bW k ow wc wl wb wk kk kf ku) ++ (bE k oe ec ew el ea ed et ex) ++ (bC k oc cc ca cl ch) ++ (bU k ou uc ut ub ul uw) ++ (bA k oa ac as) ++ (bT k ot tq ow oe oc ou oa true tt) ++ (bM k om (nI 0) tq true wc wl wb wk kk kf ku ec ew ea ed et ex cc ca cl ch uc ut ub ul uw tt ac as)) H := hP
    have hD : va_D A ((bW k ow wc wl wb wk kk kf ku) ++ (bE k oe ec ew el ea ed et ex) ++ (bC k oc cc ca cl ch) ++ (bU k ou uc ut ub ul uw) ++ (bA k oa ac as) ++ (bT k ot tq ow oe oc ou oa true tt) ++ (bM k om (nI 0) tq true wc wl wb wk kk kf ku ec ew ea ed et ex cc ca cl ch uc ut ub ul uw tt ac as)) := hD
    refine lv_goto (tgt := 1132) hx hb dL_law_819 (by decide) ?_
    exact K ot ow oe oc ou oa om (nI 0) tq true tt wc wl wb wk kk kf ku ec ew el ea ed et ex cc ca cl ch uc ut ub ul uw ac as hI H locs ls (xx_subP hP [25, 0, 1, 2, 3, 4, 5, 6, 7, 8, 9, 10, 11, 12, 13, 14, 15, 16, 17, 18, 19, 20, 21, 22, 23, 24, 26, 27, 28, 29, 30, 31, 32, 33, 34, 35, 36, 37, 38, 39, 40, 41, 42, 43, 44, 45] rfl) (hD.sub [25, 0, 1, 2, 3, 4, 5, 6, 7, 8, 9, 10, 11, 12, 13, 14, 15, 16, 17, 18, 19, 20, 21, 22, 23, 24, 26, 27, 28, 29, 30, 31, 32, 33, 34, 35, 36, 37, 38, 39, 40, 41, 42, 43, 44, 45] (by decide) rfl) hS (lv_sub hl [0, 1, 2, 3] rfl)
