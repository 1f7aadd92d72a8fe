set_option maxHeartbeats 4000000 in
set_option maxRecDepth 100000 in
theorem law_take {p : Program} {l : Launch} {e : Env} {s : State} {m : MethodId} {below : List Frame} {meth : Method} {c : Code} {D : va_G} {k : Nat → ClassId} {A : Nat → Prop} {Q : State → Prop} {b L : Nat} {xs : Nat → Int32} (C : LC p s m c D k A b L xs) {i : Nat} (hi : i + 12 ≤ L) (K : LK p l e s m below meth c D k A Q b 1132 i) : LK p l e s m below meth c D k A Q b 822 i := by
  obtain ⟨hx, hb, hml, hown, hts, hX, hbl, hbA, hA, hK, hN, hL⟩ := C
  intro ot ow oe oc ou oa om mth tq to tt wc wl wb wk kk kf ku ec ew el ea ed et ex cc ca cl ch uc ut ub ul uw ac as hI H locs ls hP hD hS hl
  obtain ⟨⟨hwc, hwk, hec, hew, hcc, huc, hac⟩, hI2⟩ := id hI
  refine lv_aload_n hx hb dL_law_822 rfl (lv_at hl 1 rfl) ?_
  refine lv_aload_n hx hb dL_law_823 rfl (lv_at hl 0 rfl) ?_
  refine lv_iload_n hx hb dL_law_824 rfl (lv_at hl 3 rfl) ?_
  refine lv_iconst (v := (nI 1)) hx hb dL_law_825 (by decide) ?_
  refine lv_iadd hx hb dL_law_826 ?_
  refine xx_topi (nI_add i 1) ?_
  refine xx_sld hx hb hX hbl hbA hS (show i + 1 < L by omega) (by omega) dL_law_827 ?_
  refine lv_i2l (v := (xs (i + 1)).toInt64) hx hb dL_law_828 rfl ?_
  refine lv_bipush (v := (nI 32)) hx hb dL_law_829 (by decide) ?_
  refine lv_lshl (v := (xs (i + 1)).toInt64 <<< ((nI 32).toInt64 &&& 63)) hx hb dL_law_831 rfl ?_
  refine lv_aload_n hx hb dL_law_832 rfl (lv_at hl 0 rfl) ?_
  refine lv_iload_n hx hb dL_law_833 rfl (lv_at hl 3 rfl) ?_
  refine lv_iconst (v := (nI 2)) hx hb dL_law_834 (by decide) ?_
  refine lv_iadd hx hb dL_law_835 ?_
  refine xx_topi (nI_add i 2) ?_
  refine xx_sld hx hb hX hbl hbA hS (show i + 2 < L by omega) (by omega) dL_law_836 ?_
  refine lv_i2l (v := (xs (i + 2)).toInt64) hx hb dL_law_837 rfl ?_
  refine lv_ldc2 (v := 4294967295) hx hb hown (hts _ tw_583) dL_law_838 ?_
  refine lv_land hx hb dL_law_841 ?_
  refine lv_lor hx hb dL_law_842 ?_
  refine xx_topl (y := (xs_long (xs (i + 1)) (xs (i + 2)))) rfl ?_
  refine lv_aload_n hx hb dL_law_843 rfl (lv_at hl 0 rfl) ?_
  refine lv_iload_n hx hb dL_law_844 rfl (lv_at hl 3 rfl) ?_
  refine lv_iconst (v := (nI 3)) hx hb dL_law_845 (by decide) ?_
  refine lv_iadd hx hb dL_law_846 ?_
  refine xx_topi (nI_add i 3) ?_
  refine xx_sld hx hb hX hbl hbA hS (show i + 3 < L by omega) (by omega) dL_law_847 ?_
  refine lv_aload_n hx hb dL_law_848 rfl (lv_at hl 0 rfl) ?_
  refine lv_iload_n hx hb dL_law_849 rfl (lv_at hl 3 rfl) ?_
  refine lv_iconst (v := (nI 4)) hx hb dL_law_850 (by decide) ?_
  refine lv_iadd hx hb dL_law_851 ?_
  refine xx_topi (nI_add i 4) ?_
  refine xx_sld hx hb hX hbl hbA hS (show i + 4 < L by omega) (by omega) dL_law_852 ?_
  refine lv_aload_n hx hb dL_law_853 rfl (lv_at hl 0 rfl) ?_
  refine lv_iload_n hx hb dL_law_854 rfl (lv_at hl 3 rfl) ?_
  refine lv_iconst (v := (nI 5)) hx hb dL_law_855 (by decide) ?_
  refine lv_iadd hx hb dL_law_856 ?_
  refine xx_topi (nI_add i 5) ?_
  refine xx_sld hx hb hX hbl hbA hS (show i + 5 < L by omega) (by omega) dL_law_857 ?_
  refine lv_i2l (v := (xs (i + 5)).toInt64) hx hb dL_law_858 rfl ?_
  refine lv_bipush (v := (nI 32)) hx hb dL_law_859 (by decide) ?_
  refine lv_lshl (v := (xs (i + 5)).toInt64 <<< ((nI 32).toInt64 &&& 63)) hx hb dL_law_861 rfl ?_
  refine lv_aload_n hx hb dL_law_862 rfl (lv_at hl 0 rfl) ?_
  refine lv_iload_n hx hb dL_law_863 rfl (lv_at hl 3 rfl) ?_
  refine lv_bipush (v := (nI 6)) hx hb dL_law_864 (by decide) ?_
  refine lv_iadd hx hb dL_law_866 ?_
  refine xx_topi (nI_add i 6) ?_
  refine xx_sld hx hb hX hbl hbA hS (show i + 6 < L by omega) (by omega) dL_law_867 ?_
  refine lv_i2l (v := (xs (i + 6)).toInt64) hx hb dL_law_868 rfl ?_
  refine lv_ldc2 (v := 4294967295) hx hb hown (hts _ tw_583) dL_law_869 ?_
  refine lv_land hx hb dL_law_872 ?_
  refine lv_lor hx hb dL_law_873 ?_
  refine xx_topl (y := (xs_long (xs (i + 5)) (xs (i + 6)))) rfl ?_
  refine xx_calli ((bW k ow wc wl wb wk kk kf ku) ++ (bM k om mth tq to wc wl wb wk kk kf ku ec ew ea ed et ex cc ca cl ch uc ut ub ul uw tt ac as)) [0, 8, 9, 10, 11, 12, 13, 14, 15, 16, 17, 18, 19, 20, 21, 22, 23, 24, 25] [1, 2, 3, 4, 5, 6, 7, 26, 27, 28, 29, 30, 31, 32, 33, 34, 35, 36, 37, 38, 39, 40, 41, 42, 43, 44, 45] (va_runV (As := [.long (xs_long (xs (i + 1)) (xs (i + 2))), .int (xs (i + 3)), .int (xs (i + 4)), .long (xs_long (xs (i + 5)) (xs (i + 6)))]) (rest := []) ⟨hx, hb, hml, hown, hts⟩ (c_T_take l D k ot tq ow oe oc ou oa to tt ec ew el ea ed et ex cc ca cl ch uc ut ub ul uw ac as (xs_long (xs (i + 1)) (xs (i + 2))) (xs (i + 3)) (xs (i + 4)) (xs_long (xs (i + 5)) (xs (i + 6))) hec hew hcc huc hac H.size) (cwV 4 hts (xx_gV tw_295 tw_296 tw_297 tw_1 tw_298) rfl rfl rfl (by decide +kernel) ⟨Nat.le_of_ble_eq_true rfl, Nat.le_of_ble_eq_true rfl⟩) (xx_preV hK hN hP hD [0, 8, 9, 10, 11, 12, 13, 14, 15, 16, 17, 18, 19, 20, 21, 22, 23, 24, 25] (by decide) rfl 5 0 rfl rfl) rfl rfl hl.1 rfl (lv_room (Nat.le_of_ble_eq_true rfl)) dL_law_874 ⟨Nat.le_of_ble_eq_true rfl, Nat.le_of_ble_eq_true rfl⟩) hP hD hS hA rfl rfl (by decide) (by decide) (fun r874 u874 H locs hw874 hP hD hS => ?_)
  have hP : va_P D vwCl ((bW k ow wc wl wb wk kk kf ku) ++ (bM k om mth tq to wc wl wb wk kk kf ku ec ew ea ed et ex cc ca cl ch uc ut ub ul uw tt ac as) ++ (bT k ot tq ow oe oc ou oa to u874.1) ++ (bE k oe ec ew el ea ed et ex) ++ (bC k oc cc ca cl ch) ++ (bU k ou uc ut ub ul uw) ++ (bA k oa u874.2.1 u874.2.2)) H := hP
  have hD : va_D A ((bW k ow wc wl wb wk kk kf ku) ++ (bM k om mth tq to wc wl wb wk kk kf ku ec ew ea ed et ex cc ca cl ch uc ut ub ul uw tt ac as) ++ (bT k ot tq ow oe oc ou oa to u874.1) ++ (bE k oe ec ew el ea ed et ex) ++ (bC k oc cc ca cl ch) ++ (bU k ou uc ut ub ul uw) ++ (bA k oa u874.2.1 u874.2.2)) := hD
  refine lv_aload_n hx hb dL_law_877 rfl (lv_at hl 2 rfl) ?_
  refine lv_aload_n hx hb dL_law_878 rfl (lv_at hl 0 rfl) ?_
  refine lv_iload_n hx hb dL_law_879 rfl (lv_at hl 3 rfl) ?_
  refine lv_iconst (v := (nI 1)) hx hb dL_law_880 (by decide) ?_
  refine lv_iadd hx hb dL_law_881 ?_
  refine xx_topi (nI_add i 1) ?_
  refine xx_sld hx hb hX hbl hbA hS (show i + 1 < L by omega) (by omega) dL_law_882 ?_
  refine lv_i2l (v := (xs (i + 1)).toInt64) hx hb dL_law_883 rfl ?_
  refine lv_bipush (v := (nI 32)) hx hb dL_law_884 (by decide) ?_
  refine lv_lshl (v := (xs (i + 1)).toInt64 <<< ((nI 32).toInt64 &&& 63)) hx hb dL_law_886 rfl ?_
  refine lv_aload_n hx hb dL_law_887 rfl (lv_at hl 0 rfl) ?_
  refine lv_iload_n hx hb dL_law_888 rfl (lv_at hl 3 rfl) ?_
  refine lv_iconst (v := (nI 2)) hx hb dL_law_889 (by decide) ?_
  refine lv_iadd hx hb dL_law_890 ?_
  refine xx_topi (nI_add i 2) ?_
  refine xx_sld hx hb hX hbl hbA hS (show i + 2 < L by omega) (by omega) dL_law_891 ?_
  refine lv_i2l (v := (xs (i + 2)).toInt64) hx hb dL_law_892 rfl ?_
  refine lv_ldc2 (v := 4294967295) hx hb hown (hts _ tw_583) dL_law_893 ?_
  refine lv_land hx hb dL_law_896 ?_
  refine lv_lor hx hb dL_law_897 ?_
  refine xx_topl (y := (xs_long (xs (i + 1)) (xs (i + 2)))) rfl ?_
  refine lv_aload_n hx hb dL_law_898 rfl (lv_at hl 0 rfl) ?_
  refine lv_iload_n hx hb dL_law_899 rfl (lv_at hl 3 rfl) ?_
  refine lv_iconst (v := (nI 3)) hx hb dL_law_900 (by decide) ?_
  refine lv_iadd hx hb dL_law_901 ?_
  refine xx_topi (nI_add i 3) ?_
  refine xx_sld hx hb hX hbl hbA hS (show i + 3 < L by omega) (by omega) dL_law_902 ?_
  refine lv_aload_n hx hb dL_law_903 rfl (lv_at hl 0 rfl) ?_
  refine lv_iload_n hx hb dL_law_904 rfl (lv_at hl 3 rfl) ?_
  refine lv_iconst (v := (nI 4)) hx hb dL_law_905 (by decide) ?_
  refine lv_iadd hx hb dL_law_906 ?_
  refine xx_topi (nI_add i 4) ?_
  refine xx_sld hx hb hX hbl hbA hS (show i + 4 < L by omega) (by omega) dL_law_907 ?_
  refine lv_aload_n hx hb dL_law_908 rfl (lv_at hl 0 rfl) ?_
  refine lv_iload_n hx hb dL_law_909 rfl (lv_at hl 3 rfl) ?_
  refine lv_iconst (v := (nI 5)) hx hb dL_law_910 (by decide) ?_
  refine lv_iadd hx hb dL_law_911 ?_
  refine xx_topi (nI_add i 5) ?_
  refine xx_sld hx hb hX hbl hbA hS (show i + 5 < L by omega) (by omega) dL_law_912 ?_
  refine lv_i2l (v := (xs (i + 5)).toInt64) hx hb dL_law_913 rfl ?_
  refine lv_bipush (v := (nI 32)) hx hb dL_law_914 (by decide) ?_
  refine lv_lshl (v := (xs (i + 5)).toInt64 <<< ((nI 32).toInt64 &&& 63)) hx hb dL_law_916 rfl ?_
  refine lv_aload_n hx hb dL_law_917 rfl (lv_at hl 0 rfl) ?_
  refine lv_iload_n hx hb dL_law_918 rfl (lv_at hl 3 rfl) ?_
  refine lv_bipush (v := (nI 6)) hx hb dL_law_919 (by decide) ?_
  refine lv_iadd hx hb dL_law_921 ?_
  refine xx_topi (nI_add i 6) ?_
  refine xx_sld hx hb hX hbl hbA hS (show i + 6 < L by omega) (by omega) dL_law_922 ?_
  refine lv_i2l (v := (xs (i + 6)).toInt64) hx hb dL_law_923 rfl ?_
  refine lv_ldc2 (v := 4294967295) hx hb hown (hts _ tw_583) dL_law_924 ?_
  refine lv_land hx hb dL_law_927 ?_
  refine lv_lor hx hb dL_law_928 ?_
  refine xx_topl (y := (xs_long (xs (i + 5)) (xs (i + 6)))) rfl ?_
  refine xx_calli ((bW k ow wc wl wb wk kk kf ku) ++ (bT k ot tq ow oe oc ou oa to u874.1) ++ (bE k oe ec ew el ea ed et ex) ++ (bC k oc cc ca cl ch) ++ (bU k ou uc ut ub ul uw) ++ (bA k oa u874.2.1 u874.2.2)) [7, 8, 9, 10, 11, 12, 13, 14, 15, 16, 17, 18, 19, 20, 21, 22, 23, 24, 25, 26] [0, 1, 2, 3, 4, 5, 6, 27, 28, 29, 30, 31, 32, 33, 34, 35, 36, 37, 38, 39, 40, 41, 42, 43, 44, 45] (va_runV (As := [.long (xs_long (xs (i + 1)) (xs (i + 2))), .int (xs (i + 3)), .int (xs (i + 4)), .long (xs_long (xs (i + 5)) (xs (i + 6)))]) (rest := [.int r874]) ⟨hx, hb, hml, hown, hts⟩ (c_M_take l D k om mth tq to wc wl wb wk kk kf ku ec ew ea ed et ex cc ca cl ch uc ut ub ul uw tt ac as (xs_long (xs (i + 1)) (xs (i + 2))) (xs (i + 3)) (xs (i + 4)) (xs_long (xs (i + 5)) (xs (i + 6))) hwc hec hew hcc huc hac H.size) (cwV 4 hts (xx_gV tw_539 tw_540 tw_541 tw_8 tw_542) rfl rfl rfl (by decide +kernel) ⟨Nat.le_of_ble_eq_true rfl, Nat.le_of_ble_eq_true rfl⟩) (xx_preV hK hN hP hD [7, 8, 9, 10, 11, 12, 13, 14, 15, 16, 17, 18, 19, 20, 21, 22, 23, 24, 25, 26] (by decide) rfl 6 7 rfl rfl) rfl rfl hl.1 rfl (lv_room (Nat.le_of_ble_eq_true rfl)) dL_law_929 ⟨Nat.le_of_ble_eq_true rfl, Nat.le_of_ble_eq_true rfl⟩) hP hD hS hA rfl rfl (by decide) (by decide) (fun r929 u929 H locs hw929 hP hD hS => ?_)
  have hP : va_P D vwCl ((bW k ow wc wl wb wk kk kf ku) ++ (bT k ot tq ow oe oc ou oa to u874.1) ++ (bE k oe ec ew el ea ed et ex) ++ (bC k oc cc ca cl ch) ++ (bU k ou uc ut ub ul uw) ++ (bA k oa u874.2.1 u874.2.2) ++ (bM k om (nI 0) tq to wc wl wb wk kk kf ku ec ew ea ed et ex cc ca cl ch uc ut ub ul uw u929.1 u929.2.1 u929.2.2)) H := hP
  have hD : va_D A ((bW k ow wc wl wb wk kk kf ku) ++ (bT k ot tq ow oe oc ou oa to u874.1) ++ (bE k oe ec ew el ea ed et ex) ++ (bC k oc cc ca cl ch) ++ (bU k ou uc ut ub ul uw) ++ (bA k oa u874.2.1 u874.2.2) ++ (bM k om (nI 0) tq to wc wl wb wk kk kf ku ec ew ea ed et ex cc ca cl ch uc ut ub ul uw u929.1 u929.2.1 u929.2.2)) := hD
  obtain ⟨e1, e2, hI⟩ := sim_take hI hw874 hw929
  rw [e2] at hP hD
  have hP : va_P D vwCl ((bW k ow wc wl wb wk kk kf ku) ++ (bT k ot tq ow oe oc ou oa to u874.1) ++ (bE k oe ec ew el ea ed et ex) ++ (bC k oc cc ca cl ch) ++ (bU k ou uc ut ub ul uw) ++ (bA k oa u874.2.1 u874.2.2) ++ (bM k om (nI 0) tq to wc wl wb wk kk kf ku ec ew ea ed et ex cc ca cl ch uc ut ub ul uw u874.1 u874.2.1 u874.2.2)) H := hP
  have hD : va_D A ((bW k ow wc wl wb wk kk kf ku) ++ (bT k ot tq ow oe oc ou oa to u874.1) ++ (bE k oe ec ew el ea ed et ex) ++ (bC k oc cc ca cl ch) ++ (bU k ou uc ut ub ul uw) ++ (bA k oa u874.2.1 u874.2.2) ++ (bM k om (nI 0) tq to wc wl wb wk kk kf ku ec ew ea ed et ex cc ca cl ch uc ut ub ul uw u874.1 u874.2.1 u874.2.2)) := hD
  refine lv_icmp_eq (tgt := 1132) hx hb dL_law_932 (by decide) (fun _ => ?_) (fun c => absurd e1 c)
  exact K ot ow oe oc ou oa om (nI 0) tq to u874.1 wc wl wb wk kk kf ku ec ew el ea ed et ex cc ca cl ch uc ut ub ul uw u874.2.1 u874.2.2 hI H locs ls (xx_subP hP [7, 0, 1, 2, 3, 4, 5, 6, 8, 9, 10, 11, 12, 13, 14, 15, 16, 17, 18, 19, 20, 21, 22, 23, 24, 25, 26, 27, 28, 29, 30, 31, 32, 33, 34, 35, 36, 37, 38, 39, 40, 41, 42, 43, 44, 45] rfl) (hD.sub [7, 0, 1, 2, 3, 4, 5, 6, 8, 9, 10, 11, 12, 13, 14, 15, 16, 17, 18, 19, 20, 21, 22, 23, 24, 25, 26, 27, 28, 29, 30, 31, 32, 33, 34, 35, 36, 37, 38, 39, 40, 41, 42, 43, 44, 45] (by decide) rfl) hS (lv_sub hl [0, 1, 2, 3] rfl)
set_option maxHeartbeats 4000000 in
set_option maxRecDepth 100000 in
theorem law_taken {p : Program} {l : Launch} {e : Env} {s : State} {m : MethodId} {below : List Frame} {meth : Method} {c : Code} {D : va_G} {k : Nat → ClassId} {A : Nat → Prop} {Q : State → Prop} {b L : Nat} {xs : Nat → Int32} (C : LC p s m c D k A b L xs) {i : Nat} (hi : i + 12 ≤ L) (K : LK p l e s m below meth c D k A Q b 1132 i) : LK p l e s m below meth c D k A Q b 937 i := by
  obtain ⟨hx, hb, hml, hown, hts, hX, hbl, hbA, hA, hK, hN, hL⟩ := C
  intro ot ow oe oc ou oa om mth tq to tt wc wl wb wk kk kf ku ec ew el ea ed et ex cc ca cl ch uc ut ub ul uw ac as hI H locs ls hP hD hS hl
  obtain ⟨⟨hwc, hwk, hec, hew, hcc, huc, hac⟩, hI2⟩ := id hI
  refine lv_aload_n hx hb dL_law_937 rfl (lv_at hl 1 rfl) ?_
  refine xx_calll ((bW k ow wc wl wb wk kk kf ku) ++ (bE k oe ec ew el ea ed et ex) ++ (bC k oc cc ca cl ch) ++ (bU k ou uc ut ub ul uw) ++ (bA k oa ac as) ++ (bM k om mth tq to wc wl wb wk kk kf ku ec ew ea ed et ex cc ca cl ch uc ut ub ul uw tt ac as)) [0] [1, 2, 3, 4, 5, 6, 7, 8, 9, 10, 11, 12, 13, 14, 15, 16, 17, 18, 19, 20, 21, 22, 23, 24, 25, 26, 27, 28, 29, 30, 31, 32, 33, 34, 35, 36, 37, 38, 39, 40, 41, 42, 43, 44, 45] (va_runV (As := []) (rest := []) ⟨hx, hb, hml, hown, hts⟩ (c_T_taken l D k ot tq ow oe oc ou oa to tt H.size) (cwV 0 hts (xx_gV tw_343 tw_344 tw_345 tw_1 tw_346) rfl rfl rfl (by decide +kernel) ⟨Nat.le_of_ble_eq_true rfl, Nat.le_of_ble_eq_true rfl⟩) (xx_preV hK hN hP hD [0] (by decide) rfl 5 0 rfl rfl) rfl rfl hl.1 rfl (lv_room (Nat.le_of_ble_eq_true rfl)) dL_law_938 ⟨Nat.le_of_ble_eq_true rfl, Nat.le_of_ble_eq_true rfl⟩) hP hD hS hA rfl rfl (by decide) (by decide) (fun r938 u938 H locs hw938 hP hD hS => ?_)
  have hP : va_P D vwCl ((bW k ow wc wl wb wk kk kf ku) ++ (bE k oe ec ew el ea ed et ex) ++ (bC k oc cc ca cl ch) ++ (bU k ou uc ut ub ul uw) ++ (bA k oa ac as) ++ (bM k om mth tq to wc wl wb wk kk kf ku ec ew ea ed et ex cc ca cl ch uc ut ub ul uw tt ac as) ++ (bT k ot tq ow oe oc ou oa to tt)) H := hP
  have hD : va_D A ((bW k ow wc wl wb wk kk kf ku) ++ (bE k oe ec ew el ea ed et ex) ++ (bC k oc cc ca cl ch) ++ (bU k ou uc ut ub ul uw) ++ (bA k oa ac as) ++ (bM k om mth tq to wc wl wb wk kk kf ku ec ew ea ed et ex cc ca cl ch uc ut ub ul uw tt ac as) ++ (bT k ot tq ow oe oc ou oa to tt)) := hD
  refine lv_aload_n hx hb dL_law_941 rfl (lv_at hl 2 rfl) ?_
  refine xx_calll ((bW k ow wc wl wb wk kk kf ku) ++ (bE k oe ec ew el ea ed et ex) ++ (bC k oc cc ca cl ch) ++ (bU k ou uc ut ub ul uw) ++ (bA k oa ac as) ++ (bT k ot tq ow oe oc ou oa to tt)) [25, 26, 27, 28, 29, 30, 31, 32, 33, 34, 35, 36, 37, 38, 39, 40, 41, 42, 43, 44] [0, 1, 2, 3, 4, 5, 6, 7, 8, 9, 10, 11, 12, 13, 14, 15, 16, 17, 18, 19, 20, 21, 22, 23, 24, 45] (va_runV (As := []) (rest := [.long r938]) ⟨hx, hb, hml, hown, hts⟩ (c_M_taken l D k om mth tq to wc wl wb wk kk kf ku ec ew ea ed et ex cc ca cl ch uc ut ub ul uw tt ac as H.size) (cwV 0 hts (xx_gV tw_567 tw_568 tw_569 tw_8 tw_570) rfl rfl rfl (by decide +kernel) ⟨Nat.le_of_ble_eq_true rfl, Nat.le_of_ble_eq_true rfl⟩) (xx_preV hK hN hP hD [25, 26, 27, 28, 29, 30, 31, 32, 33, 34, 35, 36, 37, 38, 39, 40, 41, 42, 43, 44] (by decide) rfl 6 25 rfl rfl) rfl rfl hl.1 rfl (lv_room (Nat.le_of_ble_eq_true rfl)) dL_law_942 ⟨Nat.le_of_ble_eq_true rfl, Nat.le_of_ble_eq_true rfl⟩) hP hD hS hA rfl rfl (by decide) (by decide) (fun r942 u942 H locs hw942 hP hD hS => ?_)
  have hP : va_P D vwCl ((bW k ow wc wl wb wk kk kf ku) ++ (bE k oe ec ew el ea ed et ex) ++ (bC k oc cc ca cl ch) ++ (bU k ou uc ut ub ul uw) ++ (bA k oa ac as) ++ (bT k ot tq ow oe oc ou oa to tt) ++ (bM k om (nI 0) tq to wc wl wb wk kk kf ku ec ew ea ed et ex cc ca cl ch uc ut ub ul uw tt ac as)) H := hP
  have hD : va_D A ((bW k ow wc wl wb wk kk kf ku) ++ (bE k oe ec ew el ea ed et ex) ++ (bC k oc cc ca cl ch) ++ (bU k ou uc ut ub ul uw) ++ (bA k oa ac as) ++ (bT k ot tq ow oe oc ou oa to tt) ++ (bM k om (nI 0) tq to wc wl wb wk kk kf ku ec ew ea ed et ex cc ca cl ch uc ut ub ul uw tt ac as)) := hD
  have e1 := sim_taken hw938 hw942
  refine W.lcmp hx hb dL_law_945 ?_
  refine lv_if_eq (tgt := 1132) hx hb dL_law_946 (by decide) (fun _ => ?_) (fun c => absurd ((lg_cmp_eq _ _).mpr e1) c)
  exact K ot ow oe oc ou oa om (nI 0) tq to tt wc wl wb wk kk kf ku ec ew el ea ed et ex cc ca cl ch uc ut ub ul uw ac as hI H locs ls (xx_subP hP [25, 0, 1, 2, 3, 4, 5, 6, 7, 8, 9, 10, 11, 12, 13, 14, 15, 16, 17, 18, 19, 20, 21, 22, 23, 24, 26, 27, 28, 29, 30, 31, 32, 33, 34, 35, 36, 37, 38, 39, 40, 41, 42, 43, 44, 45] rfl) (hD.sub [25, 0, 1, 2, 3, 4, 5, 6, 7, 8, 9, 10, 11, 12, 13, 14, 15, 16, 17, 18, 19, 20, 21, 22, 23, 24, 26, 27, 28, 29, 30, 31, 32, 33, 34, 35, 36, 37, 38, 39, 40, 41, 42, 43, 44, 45] (by decide) rfl) hS (lv_sub hl [0, 1, 2, 3] rfl)
set_option maxHeartbeats 4000000 in
set_option maxRecDepth 100000 in
theorem law_counted {p : Program} {l : Launch} {e : Env} {s : State} {m : MethodId} {below : List Frame} {meth : Method} {c : Code} {D : va_G} {k : Nat → ClassId} {A : Nat → Prop} {Q : State → Prop} {b L : Nat} {xs : Nat → Int32} (C : LC p s m c D k A b L xs) {i : Nat} (hi : i + 12 ≤ L) (K : LK p l e s m below meth c D k A Q b 1132 i) : LK p l e s m below meth c D k A Q b 951 i := by
  obtain ⟨hx, hb, hml, hown, hts, hX, hbl, hbA, hA, hK, hN, hL⟩ := C
  intro ot ow oe oc ou oa om mth tq to tt wc wl wb wk kk kf ku ec ew el ea ed et ex cc ca cl ch uc ut ub ul uw ac as hI H locs ls hP hD hS hl
  obtain ⟨⟨hwc, hwk, hec, hew, hcc, huc, hac⟩, hI2⟩ := id hI
  refine lv_aload_n hx hb dL_law_951 rfl (lv_at hl 1 rfl) ?_
  refine lv_aload_n hx hb dL_law_952 rfl (lv_at hl 0 rfl) ?_
  refine lv_iload_n hx hb dL_law_953 rfl (lv_at hl 3 rfl) ?_
  refine lv_iconst (v := (nI 1)) hx hb dL_law_954 (by decide) ?_
  refine lv_iadd hx hb dL_law_955 ?_
  refine xx_topi (nI_add i 1) ?_
  refine xx_sld hx hb hX hbl hbA hS (show i + 1 < L by omega) (by omega) dL_law_956 ?_
  refine lv_i2l (v := (xs (i + 1)).toInt64) hx hb dL_law_957 rfl ?_
  refine lv_bipush (v := (nI 32)) hx hb dL_law_958 (by decide) ?_
  refine lv_lshl (v := (xs (i + 1)).toInt64 <<< ((nI 32).toInt64 &&& 63)) hx hb dL_law_960 rfl ?_
  refine lv_aload_n hx hb dL_law_961 rfl (lv_at hl 0 rfl) ?_
  refine lv_iload_n hx hb dL_law_962 rfl (lv_at hl 3 rfl) ?_
  refine lv_iconst (v := (nI 2)) hx hb dL_law_963 (by decide) ?_
  refine lv_iadd hx hb dL_law_964 ?_
  refine xx_topi (nI_add i 2) ?_
  refine xx_sld hx hb hX hbl hbA hS (show i + 2 < L by omega) (by omega) dL_law_965 ?_
  refine lv_i2l (v := (xs (i + 2)).toInt64) hx hb dL_law_966 rfl ?_
  refine lv_ldc2 (v := 4294967295) hx hb hown (hts _ tw_583) dL_law_967 ?_
  refine lv_land hx hb dL_law_970 ?_
  refine lv_lor hx hb dL_law_971 ?_
  refine xx_topl (y := (xs_long (xs (i + 1)) (xs (i + 2)))) rfl ?_
  refine lv_aload_n hx hb dL_law_972 rfl (lv_at hl 0 rfl) ?_
  refine lv_iload_n hx hb dL_law_973 rfl (lv_at hl 3 rfl) ?_
  refine lv_iconst (v := (nI 3)) hx hb dL_law_974 (by decide) ?_
  refine lv_iadd hx hb dL_law_975 ?_
  refine xx_topi (nI_add i 3) ?_
  refine xx_sld hx hb hX hbl hbA hS (show i + 3 < L by omega) (by omega) dL_law_976 ?_
  refine lv_aload_n hx hb dL_law_977 rfl (lv_at hl 0 rfl) ?_
  refine lv_iload_n hx hb dL_law_978 rfl (lv_at hl 3 rfl) ?_
  refine lv_iconst (v := (nI 4)) hx hb dL_law_979 (by decide) ?_
  refine lv_iadd hx hb dL_law_980 ?_
  refine xx_topi (nI_add i 4) ?_
  refine xx_sld hx hb hX hbl hbA hS (show i + 4 < L by omega) (by omega) dL_law_981 ?_
  refine lv_aload_n hx hb dL_law_982 rfl (lv_at hl 0 rfl) ?_
  refine lv_iload_n hx hb dL_law_983 rfl (lv_at hl 3 rfl) ?_
  refine lv_iconst (v := (nI 5)) hx hb dL_law_984 (by decide) ?_
  refine lv_iadd hx hb dL_law_985 ?_
  refine xx_topi (nI_add i 5) ?_
  refine xx_sld hx hb hX hbl hbA hS (show i + 5 < L by omega) (by omega) dL_law_986 ?_
  refine lv_i2l (v := (xs (i + 5)).toInt64) hx hb dL_law_987 rfl ?_
  refine lv_bipush (v := (nI 32)) hx hb dL_law_988 (by decide) ?_
  refine lv_lshl (v := (xs (i + 5)).toInt64 <<< ((nI 32).toInt64 &&& 63)) hx hb dL_law_990 rfl ?_
  refine lv_aload_n hx hb dL_law_991 rfl (lv_at hl 0 rfl) ?_
  refine lv_iload_n hx hb dL_law_992 rfl (lv_at hl 3 rfl) ?_
  refine lv_bipush (v := (nI 6)) hx hb dL_law_993 (by decide) ?_
  refine lv_iadd hx hb dL_law_995 ?_
  refine xx_topi (nI_add i 6) ?_
  refine xx_sld hx hb hX hbl hbA hS (show i + 6 < L by omega) (by omega) dL_law_996 ?_
  refine lv_i2l (v := (xs (i + 6)).toInt64) hx hb dL_law_997 rfl ?_
  refine lv_ldc2 (v := 4294967295) hx hb hown (hts _ tw_583) dL_law_998 ?_
  refine lv_land hx hb dL_law_1001 ?_
  refine lv_lor hx hb dL_law_1002 ?_
  refine xx_topl (y := (xs_long (xs (i + 5)) (xs (i + 6)))) rfl ?_
  refine xx_calli ((bW k ow wc wl wb wk kk kf ku) ++ (bC k oc cc ca cl ch) ++ (bA k oa ac as) ++ (bM k om mth tq to wc wl wb wk kk kf ku ec ew ea ed et ex cc ca cl ch uc ut ub ul uw tt ac as)) [0, 8, 9, 10, 11, 12, 13, 14, 19, 20, 21, 22, 23] [1, 2, 3, 4, 5, 6, 7, 15, 16, 17, 18, 24, 25, 26, 27, 28, 29, 30, 31, 32, 33, 34, 35, 36, 37, 38, 39, 40, 41, 42, 43, 44, 45] (va_runV (As := [.long (xs_long (xs (i + 1)) (xs (i + 2))), .int (xs (i + 3)), .int (xs (i + 4)), .long (xs_long (xs (i + 5)) (xs (i + 6)))]) (rest := []) ⟨hx, hb, hml, hown, hts⟩ (c_T_counted l D k ot tq ow oe oc ou oa to tt ec ew el ea ed et ex uc ut ub ul uw (xs_long (xs (i + 1)) (xs (i + 2))) (xs (i + 3)) (xs (i + 4)) (xs_long (xs (i + 5)) (xs (i + 6))) hec hew huc H.size) (cwV 4 hts (xx_gV tw_347 tw_348 tw_349 tw_1 tw_350) rfl rfl rfl (by decide +kernel) ⟨Nat.le_of_ble_eq_true rfl, Nat.le_of_ble_eq_true rfl⟩) (xx_preV hK hN hP hD [0, 8, 9, 10, 11, 12, 13, 14, 19, 20, 21, 22, 23] (by decide) rfl 5 0 rfl rfl) rfl rfl hl.1 rfl (lv_room (Nat.le_of_ble_eq_true rfl)) dL_law_1003 ⟨Nat.le_of_ble_eq_true rfl, Nat.le_of_ble_eq_true rfl⟩) hP hD hS hA rfl rfl (by decide) (by decide) (fun r1003 u1003 H locs hw1003 hP hD hS => ?_)
  have hP : va_P D vwCl ((bW k ow wc wl wb wk kk kf ku) ++ (bC k oc cc ca cl ch) ++ (bA k oa ac as) ++ (bM k om mth tq to wc wl wb wk kk kf ku ec ew ea ed et ex cc ca cl ch uc ut ub ul uw tt ac as) ++ (bT k ot tq ow oe oc ou oa to tt) ++ (bE k oe ec ew el ea ed et ex) ++ (bU k ou uc ut ub ul uw)) H := hP
  have hD : va_D A ((bW k ow wc wl wb wk kk kf ku) ++ (bC k oc cc ca cl ch) ++ (bA k oa ac as) ++ (bM k om mth tq to wc wl wb wk kk kf ku ec ew ea ed et ex cc ca cl ch uc ut ub ul uw tt ac as) ++ (bT k ot tq ow oe oc ou oa to tt) ++ (bE k oe ec ew el ea ed et ex) ++ (bU k ou uc ut ub ul uw)) := hD
  refine lv_aload_n hx hb dL_law_1006 rfl (lv_at hl 2 rfl) ?_
  refine lv_aload_n hx hb dL_law_1007 rfl (lv_at hl 0 rfl) ?_
  refine lv_iload_n hx hb dL_law_1008 rfl (lv_at hl 3 rfl) ?_
  refine lv_iconst (v := (nI 1)) hx hb dL_law_1009 (by decide) ?_
  refine lv_iadd hx hb dL_law_1010 ?_
  refine xx_topi (nI_add i 1) ?_
  refine xx_sld hx hb hX hbl hbA hS (show i + 1 < L by omega) (by omega) dL_law_1011 ?_
  refine lv_i2l (v := (xs (i + 1)).toInt64) hx hb dL_law_1012 rfl ?_
  refine lv_bipush (v := (nI 32)) hx hb dL_law_1013 (by decide) ?_
  refine lv_lshl (v := (xs (i + 1)).toInt64 <<< ((nI 32).toInt64 &&& 63)) hx hb dL_law_1015 rfl ?_
  refine lv_aload_n hx hb dL_law_1016 rfl (lv_at hl 0 rfl) ?_
  refine lv_iload_n hx hb dL_law_1017 rfl (lv_at hl 3 rfl) ?_
  refine lv_iconst (v := (nI 2)) hx hb dL_law_1018 (by decide) ?_
  refine lv_iadd hx hb dL_law_1019 ?_
  refine xx_topi (nI_add i 2) ?_
  refine xx_sld hx hb hX hbl hbA hS (show i + 2 < L by omega) (by omega) dL_law_1020 ?_
  refine lv_i2l (v := (xs (i + 2)).toInt64) hx hb dL_law_1021 rfl ?_
  refine lv_ldc2 (v := 4294967295) hx hb hown (hts _ tw_583) dL_law_1022 ?_
  refine lv_land hx hb dL_law_1025 ?_
  refine lv_lor hx hb dL_law_1026 ?_
  refine xx_topl (y := (xs_long (xs (i + 1)) (xs (i + 2)))) rfl ?_
  refine lv_aload_n hx hb dL_law_1027 rfl (lv_at hl 0 rfl) ?_
  refine lv_iload_n hx hb dL_law_1028 rfl (lv_at hl 3 rfl) ?_
  refine lv_iconst (v := (nI 3)) hx hb dL_law_1029 (by decide) ?_
  refine lv_iadd hx hb dL_law_1030 ?_
  refine xx_topi (nI_add i 3) ?_
  refine xx_sld hx hb hX hbl hbA hS (show i + 3 < L by omega) (by omega) dL_law_1031 ?_
  refine lv_aload_n hx hb dL_law_1032 rfl (lv_at hl 0 rfl) ?_
  refine lv_iload_n hx hb dL_law_1033 rfl (lv_at hl 3 rfl) ?_
  refine lv_iconst (v := (nI 4)) hx hb dL_law_1034 (by decide) ?_
  refine lv_iadd hx hb dL_law_1035 ?_
  refine xx_topi (nI_add i 4) ?_
  refine xx_sld hx hb hX hbl hbA hS (show i + 4 < L by omega) (by omega) dL_law_1036 ?_
  refine lv_aload_n hx hb dL_law_1037 rfl (lv_at hl 0 rfl) ?_
  refine lv_iload_n hx hb dL_law_1038 rfl (lv_at hl 3 rfl) ?_
  refine lv_iconst (v := (nI 5)) hx hb dL_law_1039 (by decide) ?_
  refine lv_iadd hx hb dL_law_1040 ?_
  refine xx_topi (nI_add i 5) ?_
  refine xx_sld hx hb hX hbl hbA hS (show i + 5 < L by omega) (by omega) dL_law_1041 ?_
  refine lv_i2l (v := (xs (i + 5)).toInt64) hx hb dL_law_1042 rfl ?_
  refine lv_bipush (v := (nI 32)) hx hb dL_law_1043 (by decide) ?_
  refine lv_lshl (v := (xs (i + 5)).toInt64 <<< ((nI 32).toInt64 &&& 63)) hx hb dL_law_1045 rfl ?_
  refine lv_aload_n hx hb dL_law_1046 rfl (lv_at hl 0 rfl) ?_
  refine lv_iload_n hx hb dL_law_1047 rfl (lv_at hl 3 rfl) ?_
  refine lv_bipush (v := (nI 6)) hx hb dL_law_1048 (by decide) ?_
  refine lv_iadd hx hb dL_law_1050 ?_
  refine xx_topi (nI_add i 6) ?_
  refine xx_sld hx hb hX hbl hbA hS (show i + 6 < L by omega) (by omega) dL_law_1051 ?_
  refine lv_i2l (v := (xs (i + 6)).toInt64) hx hb dL_law_1052 rfl ?_
  refine lv_ldc2 (v := 4294967295) hx hb hown (hts _ tw_583) dL_law_1053 ?_
  refine lv_land hx hb dL_law_1056 ?_
  refine lv_lor hx hb dL_law_1057 ?_
  refine xx_topl (y := (xs_long (xs (i + 5)) (xs (i + 6)))) rfl ?_
  refine xx_calli ((bW k ow wc wl wb wk kk kf ku) ++ (bC k oc cc ca cl ch) ++ (bA k oa ac as) ++ (bT k ot tq ow oe oc ou oa to tt) ++ (bE k oe ec ew el ea ed et ex) ++ (bU k ou uc ut ub ul uw)) [13, 14, 15, 16, 17, 18, 19, 20, 21, 22, 23, 24, 25, 26, 27, 28, 29, 30, 31, 32] [0, 1, 2, 3, 4, 5, 6, 7, 8, 9, 10, 11, 12, 33, 34, 35, 36, 37, 38, 39, 40, 41, 42, 43, 44, 45] (va_runV (As := [.long (xs_long (xs (i + 1)) (xs (i + 2))), .int (xs (i + 3)), .int (xs (i + 4)), .long (xs_long (xs (i + 5)) (xs (i + 6)))]) (rest := [.int r1003]) ⟨hx, hb, hml, hown, hts⟩ (c_M_counted l D k om mth tq to wc wl wb wk kk kf ku ec ew ea ed et ex cc ca cl ch uc ut ub ul uw tt ac as (xs_long (xs (i + 1)) (xs (i + 2))) (xs (i + 3)) (xs (i + 4)) (xs_long (xs (i + 5)) (xs (i + 6))) hwc hec hew huc H.size) (cwV 4 hts (xx_gV tw_571 tw_572 tw_573 tw_8 tw_574) rfl rfl rfl (by decide +kernel) ⟨Nat.le_of_ble_eq_true rfl, Nat.le_of_ble_eq_true rfl⟩) (xx_preV hK hN hP hD [13, 14, 15, 16, 17, 18, 19, 20, 21, 22, 23, 24, 25, 26, 27, 28, 29, 30, 31, 32] (by decide) rfl 6 13 rfl rfl) rfl rfl hl.1 rfl (lv_room (Nat.le_of_ble_eq_true rfl)) dL_law_1058 ⟨Nat.le_of_ble_eq_true rfl, Nat.le_of_ble_eq_true rfl⟩) hP hD hS hA rfl rfl (by decide) (by decide) (fun r1058 u1058 H locs hw1058 hP hD hS => ?_)
  have hP : va_P D vwCl ((bW k ow wc wl wb wk kk kf ku) ++ (bC k oc cc ca cl ch) ++ (bA k oa ac as) ++ (bT k ot tq ow oe oc ou oa to tt) ++ (bE k oe ec ew el ea ed et ex) ++ (bU k ou uc ut ub ul uw) ++ (bM k om (nI 0) tq to wc wl wb wk kk kf ku ec ew ea ed et ex cc ca cl ch uc ut ub ul uw tt ac as)) H := hP
  have hD : va_D A ((bW k ow wc wl wb wk kk kf ku) ++ (bC k oc cc ca cl ch) ++ (bA k oa ac as) ++ (bT k ot tq ow oe oc ou oa to tt) ++ (bE k oe ec ew el ea ed et ex) ++ (bU k ou uc ut ub ul uw) ++ (bM k om (nI 0) tq to wc wl wb wk kk kf ku ec ew ea ed et ex cc ca cl ch uc ut ub ul uw tt ac as)) := hD
  have e1 := sim_counted hI hw1003 hw1058
  refine lv_icmp_eq (tgt := 1132) hx hb dL_law_1061 (by decide) (fun _ => ?_) (fun c => absurd e1 c)
  exact K ot ow oe oc ou oa om (nI 0) tq to tt wc wl wb wk kk kf ku ec ew el ea ed et ex cc ca cl ch uc ut ub ul uw ac as hI H locs ls (xx_subP hP [13, 0, 1, 2, 3, 4, 5, 6, 14, 15, 16, 17, 18, 19, 20, 7, 8, 9, 10, 21, 22, 23, 24, 25, 11, 12, 26, 27, 28, 29, 30, 31, 32, 33, 34, 35, 36, 37, 38, 39, 40, 41, 42, 43, 44, 45] rfl) (hD.sub [13, 0, 1, 2, 3, 4, 5, 6, 14, 15, 16, 17, 18, 19, 20, 7, 8, 9, 10, 21, 22, 23, 24, 25, 11, 12, 26, 27, 28, 29, 30, 31, 32, 33, 34, 35, 36, 37, 38, 39, 40, 41, 42, 43, 44, 45] (by decide) rfl) hS (lv_sub hl [0, 1, 2, 3] rfl)
set_option maxHeartbeats 4000000 in
set_option maxRecDepth 100000 in
theorem law_clash {p : Program} {l : Launch} {e : Env} {s : State} {m : MethodId} {below : List Frame} {meth : Method} {c : Code} {D : va_G} {k : Nat → ClassId} {A : Nat → Prop} {Q : State → Prop} {b L : Nat} {xs : Nat → Int32} (C : LC p s m c D k A b L xs) {i : Nat} (hi : i + 12 ≤ L) (K : LK p l e s m below meth c D k A Q b 1132 i) : LK p l e s m below meth c D k A Q b 1066 i := by
  obtain ⟨hx, hb, hml, hown, hts, hX, hbl, hbA, hA, hK, hN, hL⟩ := C
  intro ot ow oe oc ou oa om mth tq to tt wc wl wb wk kk kf ku ec ew el ea ed et ex cc ca cl ch uc ut ub ul uw ac as hI H locs ls hP hD hS hl
  obtain ⟨⟨hwc, hwk, hec, hew, hcc, huc, hac⟩, hI2⟩ := id hI
  refine lv_aload_n hx hb dL_law_1066 rfl (lv_at hl 1 rfl) ?_
  refine lv_aload_n hx hb dL_law_1067 rfl (lv_at hl 0 rfl) ?_
  refine lv_iload_n hx hb dL_law_1068 rfl (lv_at hl 3 rfl) ?_
  refine lv_iconst (v := (nI 1)) hx hb dL_law_1069 (by decide) ?_
  refine lv_iadd hx hb dL_law_1070 ?_
  refine xx_topi (nI_add i 1) ?_
  refine xx_sld hx hb hX hbl hbA hS (show i + 1 < L by omega) (by omega) dL_law_1071 ?_
  refine lv_aload_n hx hb dL_law_1072 rfl (lv_at hl 0 rfl) ?_
  refine lv_iload_n hx hb dL_law_1073 rfl (lv_at hl 3 rfl) ?_
  refine lv_iconst (v := (nI 2)) hx hb dL_law_1074 (by decide) ?_
  refine lv_iadd hx hb dL_law_1075 ?_
  refine xx_topi (nI_add i 2) ?_
  refine xx_sld hx hb hX hbl hbA hS (show i + 2 < L by omega) (by omega) dL_law_1076 ?_
  refine xx_calli ((bW k ow wc wl wb wk kk kf ku) ++ (bE k oe ec ew el ea ed et ex) ++ (bU k ou uc ut ub ul uw) ++ (bA k oa ac as) ++ (bM k om mth tq to wc wl wb wk kk kf ku ec ew ea ed et ex cc ca cl ch uc ut ub ul uw tt ac as)) [0, 15, 16, 17, 18] [1, 2, 3, 4, 5, 6, 7, 8, 9, 10, 11, 12, 13, 14, 19, 20, 21, 22, 23, 24, 25, 26, 27, 28, 29, 30, 31, 32, 33, 34, 35, 36, 37, 38, 39, 40, 41, 42, 43, 44, 45] (va_runV (As := [.int (xs (i + 1)), .int (xs (i + 2))]) (rest := []) ⟨hx, hb, hml, hown, hts⟩ (c_T_clash l D k ot tq ow oe oc ou oa to tt cc ca cl ch (xs (i + 1)) (xs (i + 2)) hcc H.size) (cwV 2 hts (xx_gV tw_351 tw_352 tw_353 tw_1 tw_354) rfl rfl rfl (by decide +kernel) ⟨Nat.le_of_ble_eq_true rfl, Nat.le_of_ble_eq_true rfl⟩) (xx_preV hK hN hP hD [0, 15, 16, 17, 18] (by decide) rfl 5 0 rfl rfl) rfl rfl hl.1 rfl (lv_room (Nat.le_of_ble_eq_true rfl)) dL_law_1077 ⟨Nat.le_of_ble_eq_true rfl, Nat.le_of_ble_eq_true rfl⟩) hP hD hS hA rfl rfl (by decide) (by decide) (fun r1077 u1077 H locs hw1077 hP hD hS => ?_)
  have hP : va_P D vwCl ((bW k ow wc wl wb wk kk kf ku) ++ (bE k oe ec ew el ea ed et ex) ++ (bU k ou uc ut ub ul uw) ++ (bA k oa ac as) ++ (bM k om mth tq to wc wl wb wk kk kf ku ec ew ea ed et ex cc ca cl ch uc ut ub ul uw tt ac as) ++ (bT k ot tq ow oe oc ou oa to tt) ++ (bC k oc cc ca cl ch)) H := hP
  have hD : va_D A ((bW k ow wc wl wb wk kk kf ku) ++ (bE k oe ec ew el ea ed et ex) ++ (bU k ou uc ut ub ul uw) ++ (bA k oa ac as) ++ (bM k om mth tq to wc wl wb wk kk kf ku ec ew ea ed et ex cc ca cl ch uc ut ub ul uw tt ac as) ++ (bT k ot tq ow oe oc ou oa to tt) ++ (bC k oc cc ca cl ch)) := hD
  refine lv_aload_n hx hb dL_law_1080 rfl (lv_at hl 2 rfl) ?_
  refine lv_aload_n hx hb dL_law_1081 rfl (lv_at hl 0 rfl) ?_
  refine lv_iload_n hx hb dL_law_1082 rfl (lv_at hl 3 rfl) ?_
  refine lv_iconst (v := (nI 1)) hx hb dL_law_1083 (by decide) ?_
  refine lv_iadd hx hb dL_law_1084 ?_
  refine xx_topi (nI_add i 1) ?_
  refine xx_sld hx hb hX hbl hbA hS (show i + 1 < L by omega) (by omega) dL_law_1085 ?_
  refine lv_aload_n hx hb dL_law_1086 rfl (lv_at hl 0 rfl) ?_
  refine lv_iload_n hx hb dL_law_1087 rfl (lv_at hl 3 rfl) ?_
  refine lv_iconst (v := (nI 2)) hx hb dL_law_1088 (by decide) ?_
  refine lv_iadd hx hb dL_law_1089 ?_
  refine xx_topi (nI_add i 2) ?_
  refine xx_sld hx hb hX hbl hbA hS (show i + 2 < L by omega) (by omega) dL_law_1090 ?_
  refine xx_calli ((bW k ow wc wl wb wk kk kf ku) ++ (bE k oe ec ew el ea ed et ex) ++ (bU k ou uc ut ub ul uw) ++ (bA k oa ac as) ++ (bT k ot tq ow oe oc ou oa to tt) ++ (bC k oc cc ca cl ch)) [21, 22, 23, 24, 25, 26, 27, 28, 29, 30, 31, 32, 33, 34, 35, 36, 37, 38, 39, 40] [0, 1, 2, 3, 4, 5, 6, 7, 8, 9, 10, 11, 12, 13, 14, 15, 16, 17, 18, 19, 20, 41, 42, 43, 44, 45] (va_runV (As := [.int (xs (i + 1)), .int (xs (i + 2))]) (rest := [.int r1077]) ⟨hx, hb, hml, hown, hts⟩ (c_M_clash l D k om mth tq to wc wl wb wk kk kf ku ec ew ea ed et ex cc ca cl ch uc ut ub ul uw tt ac as (xs (i + 1)) (xs (i + 2)) hcc H.size) (cwV 2 hts (xx_gV tw_575 tw_576 tw_577 tw_8 tw_578) rfl rfl rfl (by decide +kernel) ⟨Nat.le_of_ble_eq_true rfl, Nat.le_of_ble_eq_true rfl⟩) (xx_preV hK hN hP hD [21, 22, 23, 24, 25, 26, 27, 28, 29, 30, 31, 32, 33, 34, 35, 36, 37, 38, 39, 40] (by decide) rfl 6 21 rfl rfl) rfl rfl hl.1 rfl (lv_room (Nat.le_of_ble_eq_true rfl)) dL_law_1091 ⟨Nat.le_of_ble_eq_true rfl, Nat.le_of_ble_eq_true rfl⟩) hP hD hS hA rfl rfl (by decide) (by decide) (fun r1091 u1091 H locs hw1091 hP hD hS => ?_)
  have hP : va_P D vwCl ((bW k ow wc wl wb wk kk kf ku) ++ (bE k oe ec ew el ea ed et ex) ++ (bU k ou uc ut ub ul uw) ++ (bA k oa ac as) ++ (bT k ot tq ow oe oc ou oa to tt) ++ (bC k oc cc ca cl ch) ++ (bM k om (nI 0) tq to wc wl wb wk kk kf ku ec ew ea ed et ex cc ca cl ch uc ut ub ul uw tt ac as)) H := hP
  have hD : va_D A ((bW k ow wc wl wb wk kk kf ku) ++ (bE k oe ec ew el ea ed et ex) ++ (bU k ou uc ut ub ul uw) ++ (bA k oa ac as) ++ (bT k ot tq ow oe oc ou oa to tt) ++ (bC k oc cc ca cl ch) ++ (bM k om (nI 0) tq to wc wl wb wk kk kf ku ec ew ea ed et ex cc ca cl ch uc ut ub ul uw tt ac as)) := hD
  have e1 := sim_clash hcc hw1077 hw1091
  refine lv_icmp_eq (tgt := 1132) hx hb dL_law_1094 (by decide) (fun _ => ?_) (fun c => absurd e1 c)
  exact K ot ow oe oc ou oa om (nI 0) tq to tt wc wl wb wk kk kf ku ec ew el ea ed et ex cc ca cl ch uc ut ub ul uw ac as hI H locs ls (xx_subP hP [21, 0, 1, 2, 3, 4, 5, 6, 7, 8, 9, 10, 11, 12, 13, 22, 23, 24, 25, 14, 15, 16, 17, 18, 19, 20, 26, 27, 28, 29, 30, 31, 32, 33, 34, 35, 36, 37, 38, 39, 40, 41, 42, 43, 44, 45] rfl) (hD.sub [21, 0, 1, 2, 3, 4, 5, 6, 7, 8, 9, 10, 11, 12, 13, 22, 23, 24, 25, 14, 15, 16, 17, 18, 19, 20, 26, 27, 28, 29, 30, 31, 32, 33, 34, 35, 36, 37, 38, 39, 40, 41, 42, 43, 44, 45] (by decide) rfl) hS (lv_sub hl [0, 1, 2, 3] rfl)
set_option maxHeartbeats 4000000 in
set_option maxRecDepth 100000 in
theorem law_audit {p : Program} {l : Launch} {e : Env} {s : State} {m : MethodId} {below : List Frame} {meth : Method} {c : Code} {D : va_G} {k : Nat → ClassId} {A : Nat → Prop} {Q : State → Prop} {b L : Nat} {xs : Nat → Int32} (C : LC p s m c D k A b L xs) {i : Nat} (hi : i + 12 ≤ L) (K : LK p l e s m below meth c D k A Q b 1132 i) : LK p l e s m below meth c D k A Q b 1099 i := by
  obtain ⟨hx, hb, hml, hown, hts, hX, hbl, hbA, hA, hK, hN, hL⟩ := C
  intro ot ow oe oc ou oa om mth tq to tt wc wl wb wk kk kf ku ec ew el ea ed et ex cc ca cl ch uc ut ub ul uw ac as hI H locs ls hP hD hS hl
  obtain ⟨⟨hwc, hwk, hec, hew, hcc, huc, hac⟩, hI2⟩ := id hI
  refine lv_aload_n hx hb dL_law_1099 rfl (lv_at hl 1 rfl) ?_
  refine lv_aload_n hx hb dL_law_1100 rfl (lv_at hl 0 rfl) ?_
  refine lv_iload_n hx hb dL_law_1101 rfl (lv_at hl 3 rfl) ?_
  refine lv_iconst (v := (nI 1)) hx hb dL_law_1102 (by decide) ?_
  refine lv_iadd hx hb dL_law_1103 ?_
  refine xx_topi (nI_add i 1) ?_
  refine xx_sld hx hb hX hbl hbA hS (show i + 1 < L by omega) (by omega) dL_law_1104 ?_
  refine lv_aload_n hx hb dL_law_1105 rfl (lv_at hl 0 rfl) ?_
  refine lv_iload_n hx hb dL_law_1106 rfl (lv_at hl 3 rfl) ?_
  refine lv_iconst (v := (nI 2)) hx hb dL_law_1107 (by decide) ?_
  refine lv_iadd hx hb dL_law_1108 ?_
  refine xx_topi (nI_add i 2) ?_
  refine xx_sld hx hb hX hbl hbA hS (show i + 2 < L by omega) (by omega) dL_law_1109 ?_
  refine xx_calli ((bW k ow wc wl wb wk kk kf ku) ++ (bE k oe ec ew el ea ed et ex) ++ (bC k oc cc ca cl ch) ++ (bU k ou uc ut ub ul uw) ++ (bM k om mth tq to wc wl wb wk kk kf ku ec ew ea ed et ex cc ca cl ch uc ut ub ul uw tt ac as)) [0, 24, 25] [1, 2, 3, 4, 5, 6, 7, 8, 9, 10, 11, 12, 13, 14, 15, 16, 17, 18, 19, 20, 21, 22, 23, 26, 27, 28, 29, 30, 31, 32, 33, 34, 35, 36, 37, 38, 39, 40, 41, 42, 43, 44, 45] (va_runV (As := [.int (xs (i + 1)), .int (xs (i + 2))]) (rest := []) ⟨hx, hb, hml, hown, hts⟩ (c_T_audit l D k ot tq ow oe oc ou oa to tt ac as (xs (i + 1)) (xs (i + 2)) hac H.size) (cwV 2 hts (xx_gV tw_359 tw_360 tw_361 tw_1 tw_362) rfl rfl rfl (by decide +kernel) ⟨Nat.le_of_ble_eq_true rfl, Nat.le_of_ble_eq_true rfl⟩) (xx_preV hK hN hP hD [0, 24, 25] (by decide) rfl 5 0 rfl rfl) rfl rfl hl.1 rfl (lv_room (Nat.le_of_ble_eq_true rfl)) dL_law_1110 ⟨Nat.le_of_ble_eq_true rfl, Nat.le_of_ble_eq_true rfl⟩) hP hD hS hA rfl rfl (by decide) (by decide) (fun r1110 u1110 H locs hw1110 hP hD hS => ?_)
  have hP : va_P D vwCl ((bW k ow wc wl wb wk kk kf ku) ++ (bE k oe ec ew el ea ed et ex) ++ (bC k oc cc ca cl ch) ++ (bU k ou uc ut ub ul uw) ++ (bM k om mth tq to wc wl wb wk kk kf ku ec ew ea ed et ex cc ca cl ch uc ut ub ul uw tt ac as) ++ (bT k ot tq ow oe oc ou oa to tt) ++ (bA k oa ac as)) H := hP
  have hD : va_D A ((bW k ow wc wl wb wk kk kf ku) ++ (bE k oe ec ew el ea ed et ex) ++ (bC k oc cc ca cl ch) ++ (bU k ou uc ut ub ul uw) ++ (bM k om mth tq to wc wl wb wk kk kf ku ec ew ea ed et ex cc ca cl ch uc ut ub ul uw tt ac as) ++ (bT k ot tq ow oe oc ou oa to tt) ++ (bA k oa ac as)) := hD
  refine lv_aload_n hx hb dL_law_1113 rfl (lv_at hl 2 rfl) ?_
  refine lv_aload_n hx hb dL_law_1114 rfl (lv_at hl 0 rfl) ?_
  refine lv_iload_n hx hb dL_law_1115 rfl (lv_at hl 3 rfl) ?_
  refine lv_iconst (v := (nI 1)) hx hb dL_law_1116 (by decide) ?_
  refine lv_iadd hx hb dL_law_1117 ?_
  refine xx_topi (nI_add i 1) ?_
  refine xx_sld hx hb hX hbl hbA hS (show i + 1 < L by omega) (by omega) dL_law_1118 ?_
  refine lv_aload_n hx hb dL_law_1119 rfl (lv_at hl 0 rfl) ?_
  refine lv_iload_n hx hb dL_law_1120 rfl (lv_at hl 3 rfl) ?_
  refine lv_iconst (v := (nI 2)) hx hb dL_law_1121 (by decide) ?_
  refine lv_iadd hx hb dL_law_1122 ?_
  refine xx_topi (nI_add i 2) ?_
  refine xx_sld hx hb hX hbl hbA hS (show i + 2 < L by omega) (by omega) dL_law_1123 ?_
  refine xx_calli ((bW k ow wc wl wb wk kk kf ku) ++ (bE k oe ec ew el ea ed et ex) ++ (bC k oc cc ca cl ch) ++ (bU k ou uc ut ub ul uw) ++ (bT k ot tq ow oe oc ou oa to tt) ++ (bA k oa ac as)) [23, 24, 25, 26, 27, 28, 29, 30, 31, 32, 33, 34, 35, 36, 37, 38, 39, 40, 41, 42] [0, 1, 2, 3, 4, 5, 6, 7, 8, 9, 10, 11, 12, 13, 14, 15, 16, 17, 18, 19, 20, 21, 22, 43, 44, 45] (va_runV (As := [.int (xs (i + 1)), .int (xs (i + 2))]) (rest := [.int r1110]) ⟨hx, hb, hml, hown, hts⟩ (c_M_audit l D k om mth tq to wc wl wb wk kk kf ku ec ew ea ed et ex cc ca cl ch uc ut ub ul uw tt ac as (xs (i + 1)) (xs (i + 2)) hac H.size) (cwV 2 hts (xx_gV tw_579 tw_580 tw_581 tw_8 tw_582) rfl rfl rfl (by decide +kernel) ⟨Nat.le_of_ble_eq_true rfl, Nat.le_of_ble_eq_true rfl⟩) (xx_preV hK hN hP hD [23, 24, 25, 26, 27, 28, 29, 30, 31, 32, 33, 34, 35, 36, 37, 38, 39, 40, 41, 42] (by decide) rfl 6 23 rfl rfl) rfl rfl hl.1 rfl (lv_room (Nat.le_of_ble_eq_true rfl)) dL_law_1124 ⟨Nat.le_of_ble_eq_true rfl, Nat.le_of_ble_eq_true rfl⟩) hP hD hS hA rfl rfl (by decide) (by decide) (fun r1124 u1124 H locs hw1124 hP hD hS => ?_)
  have hP : va_P D vwCl ((bW k ow wc wl wb wk kk kf ku) ++ (bE k oe ec ew el ea ed et ex) ++ (bC k oc cc ca cl ch) ++ (bU k ou uc ut ub ul uw) ++ (bT k ot tq ow oe oc ou oa to tt) ++ (bA k oa ac as) ++ (bM k om (nI 0) tq to wc wl wb wk kk kf ku ec ew ea ed et ex cc ca cl ch uc ut ub ul uw tt ac as)) H := hP
  have hD : va_D A ((bW k ow wc wl wb wk kk kf ku) ++ (bE k oe ec ew el ea ed et ex) ++ (bC k oc cc ca cl ch) ++ (bU k ou uc ut ub ul uw) ++ (bT k ot tq ow oe oc ou oa to tt) ++ (bA k oa ac as) ++ (bM k om (nI 0) tq to wc wl wb wk kk kf ku ec ew ea ed et ex cc ca cl ch uc ut ub ul uw tt ac as)) := hD
  have e1 := sim_audit hac hw1110 hw1124
  refine lv_icmp_eq (tgt := 1132) hx hb dL_law_1127 (by decide) (fun _ => ?_) (fun c => absurd e1 c)
  exact K ot ow oe oc ou oa om (nI 0) tq to tt wc wl wb wk kk kf ku ec ew el ea ed et ex cc ca cl ch uc ut ub ul uw ac as hI H locs ls (xx_subP hP [23, 0, 1, 2, 3, 4, 5, 6, 7, 8, 9, 10, 11, 12, 13, 14, 15, 16, 17, 18, 19, 20, 21, 22, 24, 25, 26, 27, 28, 29, 30, 31, 32, 33, 34, 35, 36, 37, 38, 39, 40, 41, 42, 43, 44, 45] rfl) (hD.sub [23, 0, 1, 2, 3, 4, 5, 6, 7, 8, 9, 10, 11, 12, 13, 14, 15, 16, 17, 18, 19, 20, 21, 22, 24, 25, 26, 27, 28, 29, 30, 31, 32, 33, 34, 35, 36, 37, 38, 39, 40, 41, 42, 43, 44, 45] (by decide) rfl) hS (lv_sub hl [0, 1, 2, 3] rfl)
