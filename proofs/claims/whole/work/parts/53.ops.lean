set_option maxHeartbeats 4000000 in
set_option maxRecDepth 100000 in
theorem law_writer {p : Program} {l : Launch} {e : Env} {s : State} {m : MethodId} {below : List Frame} {meth : Method} {c : Code} {D : va_G} {k : Nat → ClassId} {A : Nat → Prop} {Q : State → Prop} {b L : Nat} {xs : Nat → Int32} (C : LC p s m c D k A b L xs) {i : Nat} (hi : i + 12 ≤ L) (K : LK p l e s m below meth c D k A Q b 1132 i) : LK p l e s m below meth c D k A Q b 112 i := by
  obtain ⟨hx, hb, hml, hown, hts, hX, hbl, hbA, hA, hK, hN, hL⟩ := C
  intro ot ow oe oc ou oa om mth tq to tt wc wl wb wk kk kf ku ec ew el ea ed et ex cc ca cl ch uc ut ub ul uw ac as hI H locs ls hP hD hS hl
  obtain ⟨⟨hwc, hwk, hec, hew, hcc, huc, hac⟩, hI2⟩ := id hI
  refine lv_aload_n hx hb dL_law_112 rfl (lv_at hl 1 rfl) ?_
  refine lv_aload_n hx hb dL_law_113 rfl (lv_at hl 0 rfl) ?_
  refine lv_iload_n hx hb dL_law_114 rfl (lv_at hl 3 rfl) ?_
  refine lv_iconst (v := (nI 1)) hx hb dL_law_115 (by decide) ?_
  refine lv_iadd hx hb dL_law_116 ?_
  refine xx_topi (nI_add i 1) ?_
  refine xx_sld hx hb hX hbl hbA hS (show i + 1 < L by omega) (by omega) dL_law_117 ?_
  refine xx_calli ((bE k oe ec ew el ea ed et ex) ++ (bC k oc cc ca cl ch) ++ (bU k ou uc ut ub ul uw) ++ (bA k oa ac as) ++ (bM k om mth tq to wc wl wb wk kk kf ku ec ew ea ed et ex cc ca cl ch uc ut ub ul uw tt ac as)) [0, 1, 2, 3, 4, 5, 6, 7] [8, 9, 10, 11, 12, 13, 14, 15, 16, 17, 18, 19, 20, 21, 22, 23, 24, 25, 26, 27, 28, 29, 30, 31, 32, 33, 34, 35, 36, 37, 38, 39, 40, 41, 42, 43, 44, 45] (va_runV (As := [.int (xs (i + 1))]) (rest := []) ⟨hx, hb, hml, hown, hts⟩ (c_T_writer l D k ot tq ow oe oc ou oa to tt wc wl wb wk kk kf ku (xs (i + 1)) hwc H.size) (cwV 1 hts (xx_gV tw_162 tw_163 tw_164 tw_1 tw_165) rfl rfl rfl (by decide +kernel) ⟨Nat.le_of_ble_eq_true rfl, Nat.le_of_ble_eq_true rfl⟩) (xx_preV hK hN hP hD [0, 1, 2, 3, 4, 5, 6, 7] (by decide) rfl 5 0 rfl rfl) rfl rfl hl.1 rfl (lv_room (Nat.le_of_ble_eq_true rfl)) dL_law_118 ⟨Nat.le_of_ble_eq_true rfl, Nat.le_of_ble_eq_true rfl⟩) hP hD hS hA rfl rfl (by decide) (by decide) (fun r118 u118 H locs hw118 hP hD hS => ?_)
  have hP : va_P D vwCl ((bE k oe ec ew el ea ed et ex) ++ (bC k oc cc ca cl ch) ++ (bU k ou uc ut ub ul uw) ++ (bA k oa ac as) ++ (bM k om mth tq to wc wl wb wk kk kf ku ec ew ea ed et ex cc ca cl ch uc ut ub ul uw tt ac as) ++ (bT k ot tq ow oe oc ou oa to tt) ++ (bW k ow u118.1 u118.2 wb wk kk kf ku)) H := hP
  have hD : va_D A ((bE k oe ec ew el ea ed et ex) ++ (bC k oc cc ca cl ch) ++ (bU k ou uc ut ub ul uw) ++ (bA k oa ac as) ++ (bM k om mth tq to wc wl wb wk kk kf ku ec ew ea ed et ex cc ca cl ch uc ut ub ul uw tt ac as) ++ (bT k ot tq ow oe oc ou oa to tt) ++ (bW k ow u118.1 u118.2 wb wk kk kf ku)) := hD
  refine lv_aload_n hx hb dL_law_121 rfl (lv_at hl 2 rfl) ?_
  refine lv_aload_n hx hb dL_law_122 rfl (lv_at hl 0 rfl) ?_
  refine lv_iload_n hx hb dL_law_123 rfl (lv_at hl 3 rfl) ?_
  refine lv_iconst (v := (nI 1)) hx hb dL_law_124 (by decide) ?_
  refine lv_iadd hx hb dL_law_125 ?_
  refine xx_topi (nI_add i 1) ?_
  refine xx_sld hx hb hX hbl hbA hS (show i + 1 < L by omega) (by omega) dL_law_126 ?_
  refine xx_calli ((bE k oe ec ew el ea ed et ex) ++ (bC k oc cc ca cl ch) ++ (bU k ou uc ut ub ul uw) ++ (bA k oa ac as) ++ (bT k ot tq ow oe oc ou oa to tt) ++ (bW k ow u118.1 u118.2 wb wk kk kf ku)) [18, 19, 20, 21, 22, 23, 24, 25, 26, 27, 28, 29, 30, 31, 32, 33, 34, 35, 36, 37] [0, 1, 2, 3, 4, 5, 6, 7, 8, 9, 10, 11, 12, 13, 14, 15, 16, 17, 38, 39, 40, 41, 42, 43, 44, 45] (va_runV (As := [.int (xs (i + 1))]) (rest := [.int r118]) ⟨hx, hb, hml, hown, hts⟩ (c_M_writer l D k om mth tq to wc wl wb wk kk kf ku ec ew ea ed et ex cc ca cl ch uc ut ub ul uw tt ac as (xs (i + 1)) hwc H.size) (cwV 1 hts (xx_gV tw_461 tw_462 tw_463 tw_8 tw_464) rfl rfl rfl (by decide +kernel) ⟨Nat.le_of_ble_eq_true rfl, Nat.le_of_ble_eq_true rfl⟩) (xx_preV hK hN hP hD [18, 19, 20, 21, 22, 23, 24, 25, 26, 27, 28, 29, 30, 31, 32, 33, 34, 35, 36, 37] (by decide) rfl 6 18 rfl rfl) rfl rfl hl.1 rfl (lv_room (Nat.le_of_ble_eq_true rfl)) dL_law_127 ⟨Nat.le_of_ble_eq_true rfl, Nat.le_of_ble_eq_true rfl⟩) hP hD hS hA rfl rfl (by decide) (by decide) (fun r127 u127 H locs hw127 hP hD hS => ?_)
  have hP : va_P D vwCl ((bE k oe ec ew el ea ed et ex) ++ (bC k oc cc ca cl ch) ++ (bU k ou uc ut ub ul uw) ++ (bA k oa ac as) ++ (bT k ot tq ow oe oc ou oa to tt) ++ (bW k ow u118.1 u118.2 wb wk kk kf ku) ++ (bM k om (nI 0) tq to u127.1 u127.2 wb wk kk kf ku ec ew ea ed et ex cc ca cl ch uc ut ub ul uw tt ac as)) H := hP
  have hD : va_D A ((bE k oe ec ew el ea ed et ex) ++ (bC k oc cc ca cl ch) ++ (bU k ou uc ut ub ul uw) ++ (bA k oa ac as) ++ (bT k ot tq ow oe oc ou oa to tt) ++ (bW k ow u118.1 u118.2 wb wk kk kf ku) ++ (bM k om (nI 0) tq to u127.1 u127.2 wb wk kk kf ku ec ew ea ed et ex cc ca cl ch uc ut ub ul uw tt ac as)) := hD
  obtain ⟨e1, e2, hI⟩ := sim_writer hI hw118 hw127
  rw [e2] at hP hD
  have hP : va_P D vwCl ((bE k oe ec ew el ea ed et ex) ++ (bC k oc cc ca cl ch) ++ (bU k ou uc ut ub ul uw) ++ (bA k oa ac as) ++ (bT k ot tq ow oe oc ou oa to tt) ++ (bW k ow u118.1 u118.2 wb wk kk kf ku) ++ (bM k om (nI 0) tq to u118.1 u118.2 wb wk kk kf ku ec ew ea ed et ex cc ca cl ch uc ut ub ul uw tt ac as)) H := hP
  have hD : va_D A ((bE k oe ec ew el ea ed et ex) ++ (bC k oc cc ca cl ch) ++ (bU k ou uc ut ub ul uw) ++ (bA k oa ac as) ++ (bT k ot tq ow oe oc ou oa to tt) ++ (bW k ow u118.1 u118.2 wb wk kk kf ku) ++ (bM k om (nI 0) tq to u118.1 u118.2 wb wk kk kf ku ec ew ea ed et ex cc ca cl ch uc ut ub ul uw tt ac as)) := hD
  refine lv_icmp_eq (tgt := 1132) hx hb dL_law_130 (by decide) (fun _ => ?_) (fun c => absurd e1 c)
  exact K ot ow oe oc ou oa om (nI 0) tq to tt u118.1 u118.2 wb wk kk kf ku ec ew el ea ed et ex cc ca cl ch uc ut ub ul uw ac as hI H locs ls (xx_subP hP [18, 19, 20, 21, 22, 23, 24, 25, 0, 1, 2, 3, 4, 5, 6, 7, 8, 9, 10, 11, 12, 13, 14, 15, 16, 17, 26, 27, 28, 29, 30, 31, 32, 33, 34, 35, 36, 37, 38, 39, 40, 41, 42, 43, 44, 45] rfl) (hD.sub [18, 19, 20, 21, 22, 23, 24, 25, 0, 1, 2, 3, 4, 5, 6, 7, 8, 9, 10, 11, 12, 13, 14, 15, 16, 17, 26, 27, 28, 29, 30, 31, 32, 33, 34, 35, 36, 37, 38, 39, 40, 41, 42, 43, 44, 45] (by decide) rfl) hS (lv_sub hl [0, 1, 2, 3] rfl)
set_option maxHeartbeats 4000000 in
set_option maxRecDepth 100000 in
theorem law_key {p : Program} {l : Launch} {e : Env} {s : State} {m : MethodId} {below : List Frame} {meth : Method} {c : Code} {D : va_G} {k : Nat → ClassId} {A : Nat → Prop} {Q : State → Prop} {b L : Nat} {xs : Nat → Int32} (C : LC p s m c D k A b L xs) {i : Nat} (hi : i + 12 ≤ L) (K : LK p l e s m below meth c D k A Q b 1132 i) : LK p l e s m below meth c D k A Q b 135 i := by
  obtain ⟨hx, hb, hml, hown, hts, hX, hbl, hbA, hA, hK, hN, hL⟩ := C
  intro ot ow oe oc ou oa om mth tq to tt wc wl wb wk kk kf ku ec ew el ea ed et ex cc ca cl ch uc ut ub ul uw ac as hI H locs ls hP hD hS hl
  obtain ⟨⟨hwc, hwk, hec, hew, hcc, huc, hac⟩, hI2⟩ := id hI
  refine lv_aload_n hx hb dL_law_135 rfl (lv_at hl 1 rfl) ?_
  refine lv_aload_n hx hb dL_law_136 rfl (lv_at hl 0 rfl) ?_
  refine lv_iload_n hx hb dL_law_137 rfl (lv_at hl 3 rfl) ?_
  refine lv_iconst (v := (nI 1)) hx hb dL_law_138 (by decide) ?_
  refine lv_iadd hx hb dL_law_139 ?_
  refine xx_topi (nI_add i 1) ?_
  refine xx_sld hx hb hX hbl hbA hS (show i + 1 < L by omega) (by omega) dL_law_140 ?_
  refine lv_aload_n hx hb dL_law_141 rfl (lv_at hl 0 rfl) ?_
  refine lv_iload_n hx hb dL_law_142 rfl (lv_at hl 3 rfl) ?_
  refine lv_iconst (v := (nI 2)) hx hb dL_law_143 (by decide) ?_
  refine lv_iadd hx hb dL_law_144 ?_
  refine xx_topi (nI_add i 2) ?_
  refine xx_sld hx hb hX hbl hbA hS (show i + 2 < L by omega) (by omega) dL_law_145 ?_
  refine lv_i2l (v := (xs (i + 2)).toInt64) hx hb dL_law_146 rfl ?_
  refine lv_bipush (v := (nI 32)) hx hb dL_law_147 (by decide) ?_
  refine lv_lshl (v := (xs (i + 2)).toInt64 <<< ((nI 32).toInt64 &&& 63)) hx hb dL_law_149 rfl ?_
  refine lv_aload_n hx hb dL_law_150 rfl (lv_at hl 0 rfl) ?_
  refine lv_iload_n hx hb dL_law_151 rfl (lv_at hl 3 rfl) ?_
  refine lv_iconst (v := (nI 3)) hx hb dL_law_152 (by decide) ?_
  refine lv_iadd hx hb dL_law_153 ?_
  refine xx_topi (nI_add i 3) ?_
  refine xx_sld hx hb hX hbl hbA hS (show i + 3 < L by omega) (by omega) dL_law_154 ?_
  refine lv_i2l (v := (xs (i + 3)).toInt64) hx hb dL_law_155 rfl ?_
  refine lv_ldc2 (v := 4294967295) hx hb hown (hts _ tw_583) dL_law_156 ?_
  refine lv_land hx hb dL_law_159 ?_
  refine lv_lor hx hb dL_law_160 ?_
  refine xx_topl (y := (xs_long (xs (i + 2)) (xs (i + 3)))) rfl ?_
  refine lv_aload_n hx hb dL_law_161 rfl (lv_at hl 0 rfl) ?_
  refine lv_iload_n hx hb dL_law_162 rfl (lv_at hl 3 rfl) ?_
  refine lv_iconst (v := (nI 4)) hx hb dL_law_163 (by decide) ?_
  refine lv_iadd hx hb dL_law_164 ?_
  refine xx_topi (nI_add i 4) ?_
  refine xx_sld hx hb hX hbl hbA hS (show i + 4 < L by omega) (by omega) dL_law_165 ?_
  refine lv_i2l (v := (xs (i + 4)).toInt64) hx hb dL_law_166 rfl ?_
  refine lv_bipush (v := (nI 32)) hx hb dL_law_167 (by decide) ?_
  refine lv_lshl (v := (xs (i + 4)).toInt64 <<< ((nI 32).toInt64 &&& 63)) hx hb dL_law_169 rfl ?_
  refine lv_aload_n hx hb dL_law_170 rfl (lv_at hl 0 rfl) ?_
  refine lv_iload_n hx hb dL_law_171 rfl (lv_at hl 3 rfl) ?_
  refine lv_iconst (v := (nI 5)) hx hb dL_law_172 (by decide) ?_
  refine lv_iadd hx hb dL_law_173 ?_
  refine xx_topi (nI_add i 5) ?_
  refine xx_sld hx hb hX hbl hbA hS (show i + 5 < L by omega) (by omega) dL_law_174 ?_
  refine lv_i2l (v := (xs (i + 5)).toInt64) hx hb dL_law_175 rfl ?_
  refine lv_ldc2 (v := 4294967295) hx hb hown (hts _ tw_583) dL_law_176 ?_
  refine lv_land hx hb dL_law_179 ?_
  refine lv_lor hx hb dL_law_180 ?_
  refine xx_topl (y := (xs_long (xs (i + 4)) (xs (i + 5)))) rfl ?_
  refine lv_aload_n hx hb dL_law_181 rfl (lv_at hl 0 rfl) ?_
  refine lv_iload_n hx hb dL_law_182 rfl (lv_at hl 3 rfl) ?_
  refine lv_bipush (v := (nI 6)) hx hb dL_law_183 (by decide) ?_
  refine lv_iadd hx hb dL_law_185 ?_
  refine xx_topi (nI_add i 6) ?_
  refine xx_sld hx hb hX hbl hbA hS (show i + 6 < L by omega) (by omega) dL_law_186 ?_
  refine lv_i2l (v := (xs (i + 6)).toInt64) hx hb dL_law_187 rfl ?_
  refine lv_bipush (v := (nI 32)) hx hb dL_law_188 (by decide) ?_
  refine lv_lshl (v := (xs (i + 6)).toInt64 <<< ((nI 32).toInt64 &&& 63)) hx hb dL_law_190 rfl ?_
  refine lv_aload_n hx hb dL_law_191 rfl (lv_at hl 0 rfl) ?_
  refine lv_iload_n hx hb dL_law_192 rfl (lv_at hl 3 rfl) ?_
  refine lv_bipush (v := (nI 7)) hx hb dL_law_193 (by decide) ?_
  refine lv_iadd hx hb dL_law_195 ?_
  refine xx_topi (nI_add i 7) ?_
  refine xx_sld hx hb hX hbl hbA hS (show i + 7 < L by omega) (by omega) dL_law_196 ?_
  refine lv_i2l (v := (xs (i + 7)).toInt64) hx hb dL_law_197 rfl ?_
  refine lv_ldc2 (v := 4294967295) hx hb hown (hts _ tw_583) dL_law_198 ?_
  refine lv_land hx hb dL_law_201 ?_
  refine lv_lor hx hb dL_law_202 ?_
  refine xx_topl (y := (xs_long (xs (i + 6)) (xs (i + 7)))) rfl ?_
  refine xx_calli ((bE k oe ec ew el ea ed et ex) ++ (bC k oc cc ca cl ch) ++ (bU k ou uc ut ub ul uw) ++ (bA k oa ac as) ++ (bM k om mth tq to wc wl wb wk kk kf ku ec ew ea ed et ex cc ca cl ch uc ut ub ul uw tt ac as)) [0, 1, 2, 3, 4, 5, 6, 7] [8, 9, 10, 11, 12, 13, 14, 15, 16, 17, 18, 19, 20, 21, 22, 23, 24, 25, 26, 27, 28, 29, 30, 31, 32, 33, 34, 35, 36, 37, 38, 39, 40, 41, 42, 43, 44, 45] (va_runV (As := [.int (xs (i + 1)), .long (xs_long (xs (i + 2)) (xs (i + 3))), .long (xs_long (xs (i + 4)) (xs (i + 5))), .long (xs_long (xs (i + 6)) (xs (i + 7)))]) (rest := []) ⟨hx, hb, hml, hown, hts⟩ (c_T_key l D k ot tq ow oe oc ou oa to tt wc wl wb wk kk kf ku (xs (i + 1)) (xs_long (xs (i + 2)) (xs (i + 3))) (xs_long (xs (i + 4)) (xs (i + 5))) (xs_long (xs (i + 6)) (xs (i + 7))) hwc hwk H.size) (cwV 4 hts (xx_gV tw_173 tw_174 tw_175 tw_1 tw_176) rfl rfl rfl (by decide +kernel) ⟨Nat.le_of_ble_eq_true rfl, Nat.le_of_ble_eq_true rfl⟩) (xx_preV hK hN hP hD [0, 1, 2, 3, 4, 5, 6, 7] (by decide) rfl 5 0 rfl rfl) rfl rfl hl.1 rfl (lv_room (Nat.le_of_ble_eq_true rfl)) dL_law_203 ⟨Nat.le_of_ble_eq_true rfl, Nat.le_of_ble_eq_true rfl⟩) hP hD hS hA rfl rfl (by decide) (by decide) (fun r203 u203 H locs hw203 hP hD hS => ?_)
  have hP : va_P D vwCl ((bE k oe ec ew el ea ed et ex) ++ (bC k oc cc ca cl ch) ++ (bU k ou uc ut ub ul uw) ++ (bA k oa ac as) ++ (bM k om mth tq to wc wl wb wk kk kf ku ec ew ea ed et ex cc ca cl ch uc ut ub ul uw tt ac as) ++ (bT k ot tq ow oe oc ou oa to tt) ++ (bW k ow wc wl wb u203.1 u203.2.1 u203.2.2.1 u203.2.2.2)) H := hP
  have hD : va_D A ((bE k oe ec ew el ea ed et ex) ++ (bC k oc cc ca cl ch) ++ (bU k ou uc ut ub ul uw) ++ (bA k oa ac as) ++ (bM k om mth tq to wc wl wb wk kk kf ku ec ew ea ed et ex cc ca cl ch uc ut ub ul uw tt ac as) ++ (bT k ot tq ow oe oc ou oa to tt) ++ (bW k ow wc wl wb u203.1 u203.2.1 u203.2.2.1 u203.2.2.2)) := hD
  refine lv_aload_n hx hb dL_law_206 rfl (lv_at hl 2 rfl) ?_
  refine lv_aload_n hx hb dL_law_207 rfl (lv_at hl 0 rfl) ?_
  refine lv_iload_n hx hb dL_law_208 rfl (lv_at hl 3 rfl) ?_
  refine lv_iconst (v := (nI 1)) hx hb dL_law_209 (by decide) ?_
  refine lv_iadd hx hb dL_law_210 ?_
  refine xx_topi (nI_add i 1) ?_
  refine xx_sld hx hb hX hbl hbA hS (show i + 1 < L by omega) (by omega) dL_law_211 ?_
  refine lv_aload_n hx hb dL_law_212 rfl (lv_at hl 0 rfl) ?_
  refine lv_iload_n hx hb dL_law_213 rfl (lv_at hl 3 rfl) ?_
  refine lv_iconst (v := (nI 2)) hx hb dL_law_214 (by decide) ?_
  refine lv_iadd hx hb dL_law_215 ?_
  refine xx_topi (nI_add i 2) ?_
  refine xx_sld hx hb hX hbl hbA hS (show i + 2 < L by omega) (by omega) dL_law_216 ?_
  refine lv_i2l (v := (xs (i + 2)).toInt64) hx hb dL_law_217 rfl ?_
  refine lv_bipush (v := (nI 32)) hx hb dL_law_218 (by decide) ?_
  refine lv_lshl (v := (xs (i + 2)).toInt64 <<< ((nI 32).toInt64 &&& 63)) hx hb dL_law_220 rfl ?_
  refine lv_aload_n hx hb dL_law_221 rfl (lv_at hl 0 rfl) ?_
  refine lv_iload_n hx hb dL_law_222 rfl (lv_at hl 3 rfl) ?_
  refine lv_iconst (v := (nI 3)) hx hb dL_law_223 (by decide) ?_
  refine lv_iadd hx hb dL_law_224 ?_
  refine xx_topi (nI_add i 3) ?_
  refine xx_sld hx hb hX hbl hbA hS (show i + 3 < L by omega) (by omega) dL_law_225 ?_
  refine lv_i2l (v := (xs (i + 3)).toInt64) hx hb dL_law_226 rfl ?_
  refine lv_ldc2 (v := 4294967295) hx hb hown (hts _ tw_583) dL_law_227 ?_
  refine lv_land hx hb dL_law_230 ?_
  refine lv_lor hx hb dL_law_231 ?_
  refine xx_topl (y := (xs_long (xs (i + 2)) (xs (i + 3)))) rfl ?_
  refine lv_aload_n hx hb dL_law_232 rfl (lv_at hl 0 rfl) ?_
  refine lv_iload_n hx hb dL_law_233 rfl (lv_at hl 3 rfl) ?_
  refine lv_iconst (v := (nI 4)) hx hb dL_law_234 (by decide) ?_
  refine lv_iadd hx hb dL_law_235 ?_
  refine xx_topi (nI_add i 4) ?_
  refine xx_sld hx hb hX hbl hbA hS (show i + 4 < L by omega) (by omega) dL_law_236 ?_
  refine lv_i2l (v := (xs (i + 4)).toInt64) hx hb dL_law_237 rfl ?_
  refine lv_bipush (v := (nI 32)) hx hb dL_law_238 (by decide) ?_
  refine lv_lshl (v := (xs (i + 4)).toInt64 <<< ((nI 32).toInt64 &&& 63)) hx hb dL_law_240 rfl ?_
  refine lv_aload_n hx hb dL_law_241 rfl (lv_at hl 0 rfl) ?_
  refine lv_iload_n hx hb dL_law_242 rfl (lv_at hl 3 rfl) ?_
  refine lv_iconst (v := (nI 5)) hx hb dL_law_243 (by decide) ?_
  refine lv_iadd hx hb dL_law_244 ?_
  refine xx_topi (nI_add i 5) ?_
  refine xx_sld hx hb hX hbl hbA hS (show i + 5 < L by omega) (by omega) dL_law_245 ?_
  refine lv_i2l (v := (xs (i + 5)).toInt64) hx hb dL_law_246 rfl ?_
  refine lv_ldc2 (v := 4294967295) hx hb hown (hts _ tw_583) dL_law_247 ?_
  refine lv_land hx hb dL_law_250 ?_
  refine lv_lor hx hb dL_law_251 ?_
  refine xx_topl (y := (xs_long (xs (i + 4)) (xs (i + 5)))) rfl ?_
  refine lv_aload_n hx hb dL_law_252 rfl (lv_at hl 0 rfl) ?_
  refine lv_iload_n hx hb dL_law_253 rfl (lv_at hl 3 rfl) ?_
  refine lv_bipush (v := (nI 6)) hx hb dL_law_254 (by decide) ?_
  refine lv_iadd hx hb dL_law_256 ?_
  refine xx_topi (nI_add i 6) ?_
  refine xx_sld hx hb hX hbl hbA hS (show i + 6 < L by omega) (by omega) dL_law_257 ?_
  refine lv_i2l (v := (xs (i + 6)).toInt64) hx hb dL_law_258 rfl ?_
  refine lv_bipush (v := (nI 32)) hx hb dL_law_259 (by decide) ?_
  refine lv_lshl (v := (xs (i + 6)).toInt64 <<< ((nI 32).toInt64 &&& 63)) hx hb dL_law_261 rfl ?_
  refine lv_aload_n hx hb dL_law_262 rfl (lv_at hl 0 rfl) ?_
  refine lv_iload_n hx hb dL_law_263 rfl (lv_at hl 3 rfl) ?_
  refine lv_bipush (v := (nI 7)) hx hb dL_law_264 (by decide) ?_
  refine lv_iadd hx hb dL_law_266 ?_
  refine xx_topi (nI_add i 7) ?_
  refine xx_sld hx hb hX hbl hbA hS (show i + 7 < L by omega) (by omega) dL_law_267 ?_
  refine lv_i2l (v := (xs (i + 7)).toInt64) hx hb dL_law_268 rfl ?_
  refine lv_ldc2 (v := 4294967295) hx hb hown (hts _ tw_583) dL_law_269 ?_
  refine lv_land hx hb dL_law_272 ?_
  refine lv_lor hx hb dL_law_273 ?_
  refine xx_topl (y := (xs_long (xs (i + 6)) (xs (i + 7)))) rfl ?_
  refine xx_calli ((bE k oe ec ew el ea ed et ex) ++ (bC k oc cc ca cl ch) ++ (bU k ou uc ut ub ul uw) ++ (bA k oa ac as) ++ (bT k ot tq ow oe oc ou oa to tt) ++ (bW k ow wc wl wb u203.1 u203.2.1 u203.2.2.1 u203.2.2.2)) [18, 19, 20, 21, 22, 23, 24, 25, 26, 27, 28, 29, 30, 31, 32, 33, 34, 35, 36, 37] [0, 1, 2, 3, 4, 5, 6, 7, 8, 9, 10, 11, 12, 13, 14, 15, 16, 17, 38, 39, 40, 41, 42, 43, 44, 45] (va_runV (As := [.int (xs (i + 1)), .long (xs_long (xs (i + 2)) (xs (i + 3))), .long (xs_long (xs (i + 4)) (xs (i + 5))), .long (xs_long (xs (i + 6)) (xs (i + 7)))]) (rest := [.int r203]) ⟨hx, hb, hml, hown, hts⟩ (c_M_key l D k om mth tq to wc wl wb wk kk kf ku ec ew ea ed et ex cc ca cl ch uc ut ub ul uw tt ac as (xs (i + 1)) (xs_long (xs (i + 2)) (xs (i + 3))) (xs_long (xs (i + 4)) (xs (i + 5))) (xs_long (xs (i + 6)) (xs (i + 7))) hwc hwk H.size) (cwV 4 hts (xx_gV tw_468 tw_469 tw_470 tw_8 tw_471) rfl rfl rfl (by decide +kernel) ⟨Nat.le_of_ble_eq_true rfl, Nat.le_of_ble_eq_true rfl⟩) (xx_preV hK hN hP hD [18, 19, 20, 21, 22, 23, 24, 25, 26, 27, 28, 29, 30, 31, 32, 33, 34, 35, 36, 37] (by decide) rfl 6 18 rfl rfl) rfl rfl hl.1 rfl (lv_room (Nat.le_of_ble_eq_true rfl)) dL_law_274 ⟨Nat.le_of_ble_eq_true rfl, Nat.le_of_ble_eq_true rfl⟩) hP hD hS hA rfl rfl (by decide) (by decide) (fun r274 u274 H locs hw274 hP hD hS => ?_)
  have hP : va_P D vwCl ((bE k oe ec ew el ea ed et ex) ++ (bC k oc cc ca cl ch) ++ (bU k ou uc ut ub ul uw) ++ (bA k oa ac as) ++ (bT k ot tq ow oe oc ou oa to tt) ++ (bW k ow wc wl wb u203.1 u203.2.1 u203.2.2.1 u203.2.2.2) ++ (bM k om (nI 0) tq to wc wl wb u274.1 u274.2.1 u274.2.2.1 u274.2.2.2 ec ew ea ed et ex cc ca cl ch uc ut ub ul uw tt ac as)) H := hP
  have hD : va_D A ((bE k oe ec ew el ea ed et ex) ++ (bC k oc cc ca cl ch) ++ (bU k ou uc ut ub ul uw) ++ (bA k oa ac as) ++ (bT k ot tq ow oe oc ou oa to tt) ++ (bW k ow wc wl wb u203.1 u203.2.1 u203.2.2.1 u203.2.2.2) ++ (bM k om (nI 0) tq to wc wl wb u274.1 u274.2.1 u274.2.2.1 u274.2.2.2 ec ew ea ed et ex cc ca cl ch uc ut ub ul uw tt ac as)) := hD
  obtain ⟨e1, e2, hI⟩ := sim_key hI hw203 hw274
  rw [e2] at hP hD
  have hP : va_P D vwCl ((bE k oe ec ew el ea ed et ex) ++ (bC k oc cc ca cl ch) ++ (bU k ou uc ut ub ul uw) ++ (bA k oa ac as) ++ (bT k ot tq ow oe oc ou oa to tt) ++ (bW k ow wc wl wb u203.1 u203.2.1 u203.2.2.1 u203.2.2.2) ++ (bM k om (nI 0) tq to wc wl wb u203.1 u203.2.1 u203.2.2.1 u203.2.2.2 ec ew ea ed et ex cc ca cl ch uc ut ub ul uw tt ac as)) H := hP
  have hD : va_D A ((bE k oe ec ew el ea ed et ex) ++ (bC k oc cc ca cl ch) ++ (bU k ou uc ut ub ul uw) ++ (bA k oa ac as) ++ (bT k ot tq ow oe oc ou oa to tt) ++ (bW k ow wc wl wb u203.1 u203.2.1 u203.2.2.1 u203.2.2.2) ++ (bM k om (nI 0) tq to wc wl wb u203.1 u203.2.1 u203.2.2.1 u203.2.2.2 ec ew ea ed et ex cc ca cl ch uc ut ub ul uw tt ac as)) := hD
  refine lv_icmp_eq (tgt := 1132) hx hb dL_law_277 (by decide) (fun _ => ?_) (fun c => absurd e1 c)
  exact K ot ow oe oc ou oa om (nI 0) tq to tt wc wl wb u203.1 u203.2.1 u203.2.2.1 u203.2.2.2 ec ew el ea ed et ex cc ca cl ch uc ut ub ul uw ac as hI H locs ls (xx_subP hP [18, 19, 20, 21, 22, 23, 24, 25, 0, 1, 2, 3, 4, 5, 6, 7, 8, 9, 10, 11, 12, 13, 14, 15, 16, 17, 26, 27, 28, 29, 30, 31, 32, 33, 34, 35, 36, 37, 38, 39, 40, 41, 42, 43, 44, 45] rfl) (hD.sub [18, 19, 20, 21, 22, 23, 24, 25, 0, 1, 2, 3, 4, 5, 6, 7, 8, 9, 10, 11, 12, 13, 14, 15, 16, 17, 26, 27, 28, 29, 30, 31, 32, 33, 34, 35, 36, 37, 38, 39, 40, 41, 42, 43, 44, 45] (by decide) rfl) hS (lv_sub hl [0, 1, 2, 3] rfl)
set_option maxHeartbeats 4000000 in
set_option maxRecDepth 100000 in
theorem law_sum {p : Program} {l : Launch} {e : Env} {s : State} {m : MethodId} {below : List Frame} {meth : Method} {c : Code} {D : va_G} {k : Nat → ClassId} {A : Nat → Prop} {Q : State → Prop} {b L : Nat} {xs : Nat → Int32} (C : LC p s m c D k A b L xs) {i : Nat} (hi : i + 12 ≤ L) (K : LK p l e s m below meth c D k A Q b 1132 i) : LK p l e s m below meth c D k A Q b 282 i := by
  obtain ⟨hx, hb, hml, hown, hts, hX, hbl, hbA, hA, hK, hN, hL⟩ := C
  intro ot ow oe oc ou oa om mth tq to tt wc wl wb wk kk kf ku ec ew el ea ed et ex cc ca cl ch uc ut ub ul uw ac as hI H locs ls hP hD hS hl
  obtain ⟨⟨hwc, hwk, hec, hew, hcc, huc, hac⟩, hI2⟩ := id hI
  refine lv_aload_n hx hb dL_law_282 rfl (lv_at hl 1 rfl) ?_
  refine lv_aload_n hx hb dL_law_283 rfl (lv_at hl 0 rfl) ?_
  refine lv_iload_n hx hb dL_law_284 rfl (lv_at hl 3 rfl) ?_
  refine lv_iconst (v := (nI 1)) hx hb dL_law_285 (by decide) ?_
  refine lv_iadd hx hb dL_law_286 ?_
  refine xx_topi (nI_add i 1) ?_
  refine xx_sld hx hb hX hbl hbA hS (show i + 1 < L by omega) (by omega) dL_law_287 ?_
  refine lv_i2l (v := (xs (i + 1)).toInt64) hx hb dL_law_288 rfl ?_
  refine lv_bipush (v := (nI 32)) hx hb dL_law_289 (by decide) ?_
  refine lv_lshl (v := (xs (i + 1)).toInt64 <<< ((nI 32).toInt64 &&& 63)) hx hb dL_law_291 rfl ?_
  refine lv_aload_n hx hb dL_law_292 rfl (lv_at hl 0 rfl) ?_
  refine lv_iload_n hx hb dL_law_293 rfl (lv_at hl 3 rfl) ?_
  refine lv_iconst (v := (nI 2)) hx hb dL_law_294 (by decide) ?_
  refine lv_iadd hx hb dL_law_295 ?_
  refine xx_topi (nI_add i 2) ?_
  refine xx_sld hx hb hX hbl hbA hS (show i + 2 < L by omega) (by omega) dL_law_296 ?_
  refine lv_i2l (v := (xs (i + 2)).toInt64) hx hb dL_law_297 rfl ?_
  refine lv_ldc2 (v := 4294967295) hx hb hown (hts _ tw_583) dL_law_298 ?_
  refine lv_land hx hb dL_law_301 ?_
  refine lv_lor hx hb dL_law_302 ?_
  refine xx_topl (y := (xs_long (xs (i + 1)) (xs (i + 2)))) rfl ?_
  refine lv_aload_n hx hb dL_law_303 rfl (lv_at hl 0 rfl) ?_
  refine lv_iload_n hx hb dL_law_304 rfl (lv_at hl 3 rfl) ?_
  refine lv_iconst (v := (nI 3)) hx hb dL_law_305 (by decide) ?_
  refine lv_iadd hx hb dL_law_306 ?_
  refine xx_topi (nI_add i 3) ?_
  refine xx_sld hx hb hX hbl hbA hS (show i + 3 < L by omega) (by omega) dL_law_307 ?_
  refine lv_i2l (v := (xs (i + 3)).toInt64) hx hb dL_law_308 rfl ?_
  refine lv_bipush (v := (nI 32)) hx hb dL_law_309 (by decide) ?_
  refine lv_lshl (v := (xs (i + 3)).toInt64 <<< ((nI 32).toInt64 &&& 63)) hx hb dL_law_311 rfl ?_
  refine lv_aload_n hx hb dL_law_312 rfl (lv_at hl 0 rfl) ?_
  refine lv_iload_n hx hb dL_law_313 rfl (lv_at hl 3 rfl) ?_
  refine lv_iconst (v := (nI 4)) hx hb dL_law_314 (by decide) ?_
  refine lv_iadd hx hb dL_law_315 ?_
  refine xx_topi (nI_add i 4) ?_
  refine xx_sld hx hb hX hbl hbA hS (show i + 4 < L by omega) (by omega) dL_law_316 ?_
  refine lv_i2l (v := (xs (i + 4)).toInt64) hx hb dL_law_317 rfl ?_
  refine lv_ldc2 (v := 4294967295) hx hb hown (hts _ tw_583) dL_law_318 ?_
  refine lv_land hx hb dL_law_321 ?_
  refine lv_lor hx hb dL_law_322 ?_
  refine xx_topl (y := (xs_long (xs (i + 3)) (xs (i + 4)))) rfl ?_
  refine lv_aload_n hx hb dL_law_323 rfl (lv_at hl 0 rfl) ?_
  refine lv_iload_n hx hb dL_law_324 rfl (lv_at hl 3 rfl) ?_
  refine lv_iconst (v := (nI 5)) hx hb dL_law_325 (by decide) ?_
  refine lv_iadd hx hb dL_law_326 ?_
  refine xx_topi (nI_add i 5) ?_
  refine xx_sld hx hb hX hbl hbA hS (show i + 5 < L by omega) (by omega) dL_law_327 ?_
  refine lv_i2l (v := (xs (i + 5)).toInt64) hx hb dL_law_328 rfl ?_
  refine lv_bipush (v := (nI 32)) hx hb dL_law_329 (by decide) ?_
  refine lv_lshl (v := (xs (i + 5)).toInt64 <<< ((nI 32).toInt64 &&& 63)) hx hb dL_law_331 rfl ?_
  refine lv_aload_n hx hb dL_law_332 rfl (lv_at hl 0 rfl) ?_
  refine lv_iload_n hx hb dL_law_333 rfl (lv_at hl 3 rfl) ?_
  refine lv_bipush (v := (nI 6)) hx hb dL_law_334 (by decide) ?_
  refine lv_iadd hx hb dL_law_336 ?_
  refine xx_topi (nI_add i 6) ?_
  refine xx_sld hx hb hX hbl hbA hS (show i + 6 < L by omega) (by omega) dL_law_337 ?_
  refine lv_i2l (v := (xs (i + 6)).toInt64) hx hb dL_law_338 rfl ?_
  refine lv_ldc2 (v := 4294967295) hx hb hown (hts _ tw_583) dL_law_339 ?_
  refine lv_land hx hb dL_law_342 ?_
  refine lv_lor hx hb dL_law_343 ?_
  refine xx_topl (y := (xs_long (xs (i + 5)) (xs (i + 6)))) rfl ?_
  refine xx_calll ((bW k ow wc wl wb wk kk kf ku) ++ (bE k oe ec ew el ea ed et ex) ++ (bC k oc cc ca cl ch) ++ (bU k ou uc ut ub ul uw) ++ (bA k oa ac as) ++ (bM k om mth tq to wc wl wb wk kk kf ku ec ew ea ed et ex cc ca cl ch uc ut ub ul uw tt ac as)) [0] [1, 2, 3, 4, 5, 6, 7, 8, 9, 10, 11, 12, 13, 14, 15, 16, 17, 18, 19, 20, 21, 22, 23, 24, 25, 26, 27, 28, 29, 30, 31, 32, 33, 34, 35, 36, 37, 38, 39, 40, 41, 42, 43, 44, 45] (va_runV (As := [.long (xs_long (xs (i + 1)) (xs (i + 2))), .long (xs_long (xs (i + 3)) (xs (i + 4))), .long (xs_long (xs (i + 5)) (xs (i + 6)))]) (rest := []) ⟨hx, hb, hml, hown, hts⟩ (c_T_sum l D k ot tq ow oe oc ou oa to tt (xs_long (xs (i + 1)) (xs (i + 2))) (xs_long (xs (i + 3)) (xs (i + 4))) (xs_long (xs (i + 5)) (xs (i + 6))) H.size) (cwV 3 hts (xx_gV tw_189 tw_190 tw_191 tw_1 tw_192) rfl rfl rfl (by decide +kernel) ⟨Nat.le_of_ble_eq_true rfl, Nat.le_of_ble_eq_true rfl⟩) (xx_preV hK hN hP hD [0] (by decide) rfl 5 0 rfl rfl) rfl rfl hl.1 rfl (lv_room (Nat.le_of_ble_eq_true rfl)) dL_law_344 ⟨Nat.le_of_ble_eq_true rfl, Nat.le_of_ble_eq_true rfl⟩) hP hD hS hA rfl rfl (by decide) (by decide) (fun r344 u344 H locs hw344 hP hD hS => ?_)
  have hP : va_P D vwCl ((bW k ow wc wl wb wk kk kf ku) ++ (bE k oe ec ew el ea ed et ex) ++ (bC k oc cc ca cl ch) ++ (bU k ou uc ut ub ul uw) ++ (bA k oa ac as) ++ (bM k om mth tq to wc wl wb wk kk kf ku ec ew ea ed et ex cc ca cl ch uc ut ub ul uw tt ac as) ++ (bT k ot tq ow oe oc ou oa to tt)) H := hP
  have hD : va_D A ((bW k ow wc wl wb wk kk kf ku) ++ (bE k oe ec ew el ea ed et ex) ++ (bC k oc cc ca cl ch) ++ (bU k ou uc ut ub ul uw) ++ (bA k oa ac as) ++ (bM k om mth tq to wc wl wb wk kk kf ku ec ew ea ed et ex cc ca cl ch uc ut ub ul uw tt ac as) ++ (bT k ot tq ow oe oc ou oa to tt)) := hD
  refine lv_aload_n hx hb dL_law_347 rfl (lv_at hl 2 rfl) ?_
  refine lv_aload_n hx hb dL_law_348 rfl (lv_at hl 0 rfl) ?_
  refine lv_iload_n hx hb dL_law_349 rfl (lv_at hl 3 rfl) ?_
  refine lv_iconst (v := (nI 1)) hx hb dL_law_350 (by decide) ?_
  refine lv_iadd hx hb dL_law_351 ?_
  refine xx_topi (nI_add i 1) ?_
  refine xx_sld hx hb hX hbl hbA hS (show i + 1 < L by omega) (by omega) dL_law_352 ?_
  refine lv_i2l (v := (xs (i + 1)).toInt64) hx hb dL_law_353 rfl ?_
  refine lv_bipush (v := (nI 32)) hx hb dL_law_354 (by decide) ?_
  refine lv_lshl (v := (xs (i + 1)).toInt64 <<< ((nI 32).toInt64 &&& 63)) hx hb dL_law_356 rfl ?_
  refine lv_aload_n hx hb dL_law_357 rfl (lv_at hl 0 rfl) ?_
  refine lv_iload_n hx hb dL_law_358 rfl (lv_at hl 3 rfl) ?_
  refine lv_iconst (v := (nI 2)) hx hb dL_law_359 (by decide) ?_
  refine lv_iadd hx hb dL_law_360 ?_
  refine xx_topi (nI_add i 2) ?_
  refine xx_sld hx hb hX hbl hbA hS (show i + 2 < L by omega) (by omega) dL_law_361 ?_
  refine lv_i2l (v := (xs (i + 2)).toInt64) hx hb dL_law_362 rfl ?_
  refine lv_ldc2 (v := 4294967295) hx hb hown (hts _ tw_583) dL_law_363 ?_
  refine lv_land hx hb dL_law_366 ?_
  refine lv_lor hx hb dL_law_367 ?_
  refine xx_topl (y := (xs_long (xs (i + 1)) (xs (i + 2)))) rfl ?_
  refine lv_aload_n hx hb dL_law_368 rfl (lv_at hl 0 rfl) ?_
  refine lv_iload_n hx hb dL_law_369 rfl (lv_at hl 3 rfl) ?_
  refine lv_iconst (v := (nI 3)) hx hb dL_law_370 (by decide) ?_
  refine lv_iadd hx hb dL_law_371 ?_
  refine xx_topi (nI_add i 3) ?_
  refine xx_sld hx hb hX hbl hbA hS (show i + 3 < L by omega) (by omega) dL_law_372 ?_
  refine lv_i2l (v := (xs (i + 3)).toInt64) hx hb dL_law_373 rfl ?_
  refine lv_bipush (v := (nI 32)) hx hb dL_law_374 (by decide) ?_
  refine lv_lshl (v := (xs (i + 3)).toInt64 <<< ((nI 32).toInt64 &&& 63)) hx hb dL_law_376 rfl ?_
  refine lv_aload_n hx hb dL_law_377 rfl (lv_at hl 0 rfl) ?_
  refine lv_iload_n hx hb dL_law_378 rfl (lv_at hl 3 rfl) ?_
  refine lv_iconst (v := (nI 4)) hx hb dL_law_379 (by decide) ?_
  refine lv_iadd hx hb dL_law_380 ?_
  refine xx_topi (nI_add i 4) ?_
  refine xx_sld hx hb hX hbl hbA hS (show i + 4 < L by omega) (by omega) dL_law_381 ?_
  refine lv_i2l (v := (xs (i + 4)).toInt64) hx hb dL_law_382 rfl ?_
  refine lv_ldc2 (v := 4294967295) hx hb hown (hts _ tw_583) dL_law_383 ?_
  refine lv_land hx hb dL_law_386 ?_
  refine lv_lor hx hb dL_law_387 ?_
  refine xx_topl (y := (xs_long (xs (i + 3)) (xs (i + 4)))) rfl ?_
  refine lv_aload_n hx hb dL_law_388 rfl (lv_at hl 0 rfl) ?_
  refine lv_iload_n hx hb dL_law_389 rfl (lv_at hl 3 rfl) ?_
  refine lv_iconst (v := (nI 5)) hx hb dL_law_390 (by decide) ?_
  refine lv_iadd hx hb dL_law_391 ?_
  refine xx_topi (nI_add i 5) ?_
  refine xx_sld hx hb hX hbl hbA hS (show i + 5 < L by omega) (by omega) dL_law_392 ?_
  refine lv_i2l (v := (xs (i + 5)).toInt64) hx hb dL_law_393 rfl ?_
  refine lv_bipush (v := (nI 32)) hx hb dL_law_394 (by decide) ?_
  refine lv_lshl (v := (xs (i + 5)).toInt64 <<< ((nI 32).toInt64 &&& 63)) hx hb dL_law_396 rfl ?_
  refine lv_aload_n hx hb dL_law_397 rfl (lv_at hl 0 rfl) ?_
  refine lv_iload_n hx hb dL_law_398 rfl (lv_at hl 3 rfl) ?_
  refine lv_bipush (v := (nI 6)) hx hb dL_law_399 (by decide) ?_
  refine lv_iadd hx hb dL_law_401 ?_
  refine xx_topi (nI_add i 6) ?_
  refine xx_sld hx hb hX hbl hbA hS (show i + 6 < L by omega) (by omega) dL_law_402 ?_
  refine lv_i2l (v := (xs (i + 6)).toInt64) hx hb dL_law_403 rfl ?_
  refine lv_ldc2 (v := 4294967295) hx hb hown (hts _ tw_583) dL_law_404 ?_
  refine lv_land hx hb dL_law_407 ?_
  refine lv_lor hx hb dL_law_408 ?_
  refine xx_topl (y := (xs_long (xs (i + 5)) (xs (i + 6)))) rfl ?_
  refine xx_calll ((bW k ow wc wl wb wk kk kf ku) ++ (bE k oe ec ew el ea ed et ex) ++ (bC k oc cc ca cl ch) ++ (bU k ou uc ut ub ul uw) ++ (bA k oa ac as) ++ (bT k ot tq ow oe oc ou oa to tt)) [25, 26, 27, 28, 29, 30, 31, 32, 33, 34, 35, 36, 37, 38, 39, 40, 41, 42, 43, 44] [0, 1, 2, 3, 4, 5, 6, 7, 8, 9, 10, 11, 12, 13, 14, 15, 16, 17, 18, 19, 20, 21, 22, 23, 24, 45] (va_runV (As := [.long (xs_long (xs (i + 1)) (xs (i + 2))), .long (xs_long (xs (i + 3)) (xs (i + 4))), .long (xs_long (xs (i + 5)) (xs (i + 6)))]) (rest := [.long r344]) ⟨hx, hb, hml, hown, hts⟩ (c_M_sum l D k om mth tq to wc wl wb wk kk kf ku ec ew ea ed et ex cc ca cl ch uc ut ub ul uw tt ac as (xs_long (xs (i + 1)) (xs (i + 2))) (xs_long (xs (i + 3)) (xs (i + 4))) (xs_long (xs (i + 5)) (xs (i + 6))) H.size) (cwV 3 hts (xx_gV tw_476 tw_477 tw_478 tw_8 tw_479) rfl rfl rfl (by decide +kernel) ⟨Nat.le_of_ble_eq_true rfl, Nat.le_of_ble_eq_true rfl⟩) (xx_preV hK hN hP hD [25, 26, 27, 28, 29, 30, 31, 32, 33, 34, 35, 36, 37, 38, 39, 40, 41, 42, 43, 44] (by decide) rfl 6 25 rfl rfl) rfl rfl hl.1 rfl (lv_room (Nat.le_of_ble_eq_true rfl)) dL_law_409 ⟨Nat.le_of_ble_eq_true rfl, Nat.le_of_ble_eq_true rfl⟩) hP hD hS hA rfl rfl (by decide) (by decide) (fun r409 u409 H locs hw409 hP hD hS => ?_)
  have hP : va_P D vwCl ((bW k ow wc wl wb wk kk kf ku) ++ (bE k oe ec ew el ea ed et ex) ++ (bC k oc cc ca cl ch) ++ (bU k ou uc ut ub ul uw) ++ (bA k oa ac as) ++ (bT k ot tq ow oe oc ou oa to tt) ++ (bM k om (nI 0) tq to wc wl wb wk kk kf ku ec ew ea ed et ex cc ca cl ch uc ut ub ul uw tt ac as)) H := hP
  have hD : va_D A ((bW k ow wc wl wb wk kk kf ku) ++ (bE k oe ec ew el ea ed et ex) ++ (bC k oc cc ca cl ch) ++ (bU k ou uc ut ub ul uw) ++ (bA k oa ac as) ++ (bT k ot tq ow oe oc ou oa to tt) ++ (bM k om (nI 0) tq to wc wl wb wk kk kf ku ec ew ea ed et ex cc ca cl ch uc ut ub ul uw tt ac as)) := hD
  have e1 := sim_sum hw344 hw409
  refine W.lcmp hx hb dL_law_412 ?_
  refine lv_if_eq (tgt := 1132) hx hb dL_law_413 (by decide) (fun _ => ?_) (fun c => absurd ((lg_cmp_eq _ _).mpr e1) c)
  exact K ot ow oe oc ou oa om (nI 0) tq to tt wc wl wb wk kk kf ku ec ew el ea ed et ex cc ca cl ch uc ut ub ul uw ac as hI H locs ls (xx_subP hP [25, 0, 1, 2, 3, 4, 5, 6, 7, 8, 9, 10, 11, 12, 13, 14, 15, 16, 17, 18, 19, 20, 21, 22, 23, 24, 26, 27, 28, 29, 30, 31, 32, 33, 34, 35, 36, 37, 38, 39, 40, 41, 42, 43, 44, 45] rfl) (hD.sub [25, 0, 1, 2, 3, 4, 5, 6, 7, 8, 9, 10, 11, 12, 13, 14, 15, 16, 17, 18, 19, 20, 21, 22, 23, 24, 26, 27, 28, 29, 30, 31, 32, 33, 34, 35, 36, 37, 38, 39, 40, 41, 42, 43, 44, 45] (by decide) rfl) hS (lv_sub hl [0, 1, 2, 3] rfl)
set_option maxHeartbeats 4000000 in
set_option maxRecDepth 100000 in
theorem law_result {p : Program} {l : Launch} {e : Env} {s : State} {m : MethodId} {below : List Frame} {meth : Method} {c : Code} {D : va_G} {k : Nat → ClassId} {A : Nat → Prop} {Q : State → Prop} {b L : Nat} {xs : Nat → Int32} (C : LC p s m c D k A b L xs) {i : Nat} (hi : i + 12 ≤ L) (K : LK p l e s m below meth c D k A Q b 1132 i) : LK p l e s m below meth c D k A Q b 418 i := by
  obtain ⟨hx, hb, hml, hown, hts, hX, hbl, hbA, hA, hK, hN, hL⟩ := C
  intro ot ow oe oc ou oa om mth tq to tt wc wl wb wk kk kf ku ec ew el ea ed et ex cc ca cl ch uc ut ub ul uw ac as hI H locs ls hP hD hS hl
  obtain ⟨⟨hwc, hwk, hec, hew, hcc, huc, hac⟩, hI2⟩ := id hI
  refine lv_aload_n hx hb dL_law_418 rfl (lv_at hl 1 rfl) ?_
  refine lv_aload_n hx hb dL_law_419 rfl (lv_at hl 0 rfl) ?_
  refine lv_iload_n hx hb dL_law_420 rfl (lv_at hl 3 rfl) ?_
  refine lv_iconst (v := (nI 1)) hx hb dL_law_421 (by decide) ?_
  refine lv_iadd hx hb dL_law_422 ?_
  refine xx_topi (nI_add i 1) ?_
  refine xx_sld hx hb hX hbl hbA hS (show i + 1 < L by omega) (by omega) dL_law_423 ?_
  refine lv_aload_n hx hb dL_law_424 rfl (lv_at hl 0 rfl) ?_
  refine lv_iload_n hx hb dL_law_425 rfl (lv_at hl 3 rfl) ?_
  refine lv_iconst (v := (nI 2)) hx hb dL_law_426 (by decide) ?_
  refine lv_iadd hx hb dL_law_427 ?_
  refine xx_topi (nI_add i 2) ?_
  refine xx_sld hx hb hX hbl hbA hS (show i + 2 < L by omega) (by omega) dL_law_428 ?_
  refine lv_i2l (v := (xs (i + 2)).toInt64) hx hb dL_law_429 rfl ?_
  refine lv_bipush (v := (nI 32)) hx hb dL_law_430 (by decide) ?_
  refine lv_lshl (v := (xs (i + 2)).toInt64 <<< ((nI 32).toInt64 &&& 63)) hx hb dL_law_432 rfl ?_
  refine lv_aload_n hx hb dL_law_433 rfl (lv_at hl 0 rfl) ?_
  refine lv_iload_n hx hb dL_law_434 rfl (lv_at hl 3 rfl) ?_
  refine lv_iconst (v := (nI 3)) hx hb dL_law_435 (by decide) ?_
  refine lv_iadd hx hb dL_law_436 ?_
  refine xx_topi (nI_add i 3) ?_
  refine xx_sld hx hb hX hbl hbA hS (show i + 3 < L by omega) (by omega) dL_law_437 ?_
  refine lv_i2l (v := (xs (i + 3)).toInt64) hx hb dL_law_438 rfl ?_
  refine lv_ldc2 (v := 4294967295) hx hb hown (hts _ tw_583) dL_law_439 ?_
  refine lv_land hx hb dL_law_442 ?_
  refine lv_lor hx hb dL_law_443 ?_
  refine xx_topl (y := (xs_long (xs (i + 2)) (xs (i + 3)))) rfl ?_
  refine lv_aload_n hx hb dL_law_444 rfl (lv_at hl 0 rfl) ?_
  refine lv_iload_n hx hb dL_law_445 rfl (lv_at hl 3 rfl) ?_
  refine lv_iconst (v := (nI 4)) hx hb dL_law_446 (by decide) ?_
  refine lv_iadd hx hb dL_law_447 ?_
  refine xx_topi (nI_add i 4) ?_
  refine xx_sld hx hb hX hbl hbA hS (show i + 4 < L by omega) (by omega) dL_law_448 ?_
  refine lv_i2l (v := (xs (i + 4)).toInt64) hx hb dL_law_449 rfl ?_
  refine lv_bipush (v := (nI 32)) hx hb dL_law_450 (by decide) ?_
  refine lv_lshl (v := (xs (i + 4)).toInt64 <<< ((nI 32).toInt64 &&& 63)) hx hb dL_law_452 rfl ?_
  refine lv_aload_n hx hb dL_law_453 rfl (lv_at hl 0 rfl) ?_
  refine lv_iload_n hx hb dL_law_454 rfl (lv_at hl 3 rfl) ?_
  refine lv_iconst (v := (nI 5)) hx hb dL_law_455 (by decide) ?_
  refine lv_iadd hx hb dL_law_456 ?_
  refine xx_topi (nI_add i 5) ?_
  refine xx_sld hx hb hX hbl hbA hS (show i + 5 < L by omega) (by omega) dL_law_457 ?_
  refine lv_i2l (v := (xs (i + 5)).toInt64) hx hb dL_law_458 rfl ?_
  refine lv_ldc2 (v := 4294967295) hx hb hown (hts _ tw_583) dL_law_459 ?_
  refine lv_land hx hb dL_law_462 ?_
  refine lv_lor hx hb dL_law_463 ?_
  refine xx_topl (y := (xs_long (xs (i + 4)) (xs (i + 5)))) rfl ?_
  refine lv_aload_n hx hb dL_law_464 rfl (lv_at hl 0 rfl) ?_
  refine lv_iload_n hx hb dL_law_465 rfl (lv_at hl 3 rfl) ?_
  refine lv_bipush (v := (nI 6)) hx hb dL_law_466 (by decide) ?_
  refine lv_iadd hx hb dL_law_468 ?_
  refine xx_topi (nI_add i 6) ?_
  refine xx_sld hx hb hX hbl hbA hS (show i + 6 < L by omega) (by omega) dL_law_469 ?_
  refine lv_i2l (v := (xs (i + 6)).toInt64) hx hb dL_law_470 rfl ?_
  refine lv_bipush (v := (nI 32)) hx hb dL_law_471 (by decide) ?_
  refine lv_lshl (v := (xs (i + 6)).toInt64 <<< ((nI 32).toInt64 &&& 63)) hx hb dL_law_473 rfl ?_
  refine lv_aload_n hx hb dL_law_474 rfl (lv_at hl 0 rfl) ?_
  refine lv_iload_n hx hb dL_law_475 rfl (lv_at hl 3 rfl) ?_
  refine lv_bipush (v := (nI 7)) hx hb dL_law_476 (by decide) ?_
  refine lv_iadd hx hb dL_law_478 ?_
  refine xx_topi (nI_add i 7) ?_
  refine xx_sld hx hb hX hbl hbA hS (show i + 7 < L by omega) (by omega) dL_law_479 ?_
  refine lv_i2l (v := (xs (i + 7)).toInt64) hx hb dL_law_480 rfl ?_
  refine lv_ldc2 (v := 4294967295) hx hb hown (hts _ tw_583) dL_law_481 ?_
  refine lv_land hx hb dL_law_484 ?_
  refine lv_lor hx hb dL_law_485 ?_
  refine xx_topl (y := (xs_long (xs (i + 6)) (xs (i + 7)))) rfl ?_
  refine lv_aload_n hx hb dL_law_486 rfl (lv_at hl 0 rfl) ?_
  refine lv_iload_n hx hb dL_law_487 rfl (lv_at hl 3 rfl) ?_
  refine lv_bipush (v := (nI 8)) hx hb dL_law_488 (by decide) ?_
  refine lv_iadd hx hb dL_law_490 ?_
  refine xx_topi (nI_add i 8) ?_
  refine xx_sld hx hb hX hbl hbA hS (show i + 8 < L by omega) (by omega) dL_law_491 ?_
  refine lv_i2l (v := (xs (i + 8)).toInt64) hx hb dL_law_492 rfl ?_
  refine lv_bipush (v := (nI 32)) hx hb dL_law_493 (by decide) ?_
  refine lv_lshl (v := (xs (i + 8)).toInt64 <<< ((nI 32).toInt64 &&& 63)) hx hb dL_law_495 rfl ?_
  refine lv_aload_n hx hb dL_law_496 rfl (lv_at hl 0 rfl) ?_
  refine lv_iload_n hx hb dL_law_497 rfl (lv_at hl 3 rfl) ?_
  refine lv_bipush (v := (nI 9)) hx hb dL_law_498 (by decide) ?_
  refine lv_iadd hx hb dL_law_500 ?_
  refine xx_topi (nI_add i 9) ?_
  refine xx_sld hx hb hX hbl hbA hS (show i + 9 < L by omega) (by omega) dL_law_501 ?_
  refine lv_i2l (v := (xs (i + 9)).toInt64) hx hb dL_law_502 rfl ?_
  refine lv_ldc2 (v := 4294967295) hx hb hown (hts _ tw_583) dL_law_503 ?_
  refine lv_land hx hb dL_law_506 ?_
  refine lv_lor hx hb dL_law_507 ?_
  refine xx_topl (y := (xs_long (xs (i + 8)) (xs (i + 9)))) rfl ?_
  refine lv_aload_n hx hb dL_law_508 rfl (lv_at hl 0 rfl) ?_
  refine lv_iload_n hx hb dL_law_509 rfl (lv_at hl 3 rfl) ?_
  refine lv_bipush (v := (nI 10)) hx hb dL_law_510 (by decide) ?_
  refine lv_iadd hx hb dL_law_512 ?_
  refine xx_topi (nI_add i 10) ?_
  refine xx_sld hx hb hX hbl hbA hS (show i + 10 < L by omega) (by omega) dL_law_513 ?_
  refine lv_i2l (v := (xs (i + 10)).toInt64) hx hb dL_law_514 rfl ?_
  refine lv_bipush (v := (nI 32)) hx hb dL_law_515 (by decide) ?_
  refine lv_lshl (v := (xs (i + 10)).toInt64 <<< ((nI 32).toInt64 &&& 63)) hx hb dL_law_517 rfl ?_
  refine lv_aload_n hx hb dL_law_518 rfl (lv_at hl 0 rfl) ?_
  refine lv_iload_n hx hb dL_law_519 rfl (lv_at hl 3 rfl) ?_
  refine lv_bipush (v := (nI 11)) hx hb dL_law_520 (by decide) ?_
  refine lv_iadd hx hb dL_law_522 ?_
  refine xx_topi (nI_add i 11) ?_
  refine xx_sld hx hb hX hbl hbA hS (show i + 11 < L by omega) (by omega) dL_law_523 ?_
  refine lv_i2l (v := (xs (i + 11)).toInt64) hx hb dL_law_524 rfl ?_
  refine lv_ldc2 (v := 4294967295) hx hb hown (hts _ tw_583) dL_law_525 ?_
  refine lv_land hx hb dL_law_528 ?_
  refine lv_lor hx hb dL_law_529 ?_
  refine xx_topl (y := (xs_long (xs (i + 10)) (xs (i + 11)))) rfl ?_
  refine xx_calli ((bU k ou uc ut ub ul uw) ++ (bA k oa ac as) ++ (bM k om mth tq to wc wl wb wk kk kf ku ec ew ea ed et ex cc ca cl ch uc ut ub ul uw tt ac as)) [0, 1, 2, 3, 4, 5, 6, 7, 8, 9, 10, 11, 12, 13, 14, 15, 16, 17, 18] [19, 20, 21, 22, 23, 24, 25, 26, 27, 28, 29, 30, 31, 32, 33, 34, 35, 36, 37, 38, 39, 40, 41, 42, 43, 44, 45] (va_runV (As := [.int (xs (i + 1)), .long (xs_long (xs (i + 2)) (xs (i + 3))), .long (xs_long (xs (i + 4)) (xs (i + 5))), .long (xs_long (xs (i + 6)) (xs (i + 7))), .long (xs_long (xs (i + 8)) (xs (i + 9))), .long (xs_long (xs (i + 10)) (xs (i + 11)))]) (rest := []) ⟨hx, hb, hml, hown, hts⟩ (c_T_result l D k ot tq ow oe oc ou oa to tt wc wl wb wk kk kf ku ec ew el ea ed et ex cc ca cl ch (xs (i + 1)) (xs_long (xs (i + 2)) (xs (i + 3))) (xs_long (xs (i + 4)) (xs (i + 5))) (xs_long (xs (i + 6)) (xs (i + 7))) (xs_long (xs (i + 8)) (xs (i + 9))) (xs_long (xs (i + 10)) (xs (i + 11))) hwc hwk hec hew hcc H.size) (cwV 6 hts (xx_gV tw_201 tw_202 tw_203 tw_1 tw_204) rfl rfl rfl (by decide +kernel) ⟨Nat.le_of_ble_eq_true rfl, Nat.le_of_ble_eq_true rfl⟩) (xx_preV hK hN hP hD [0, 1, 2, 3, 4, 5, 6, 7, 8, 9, 10, 11, 12, 13, 14, 15, 16, 17, 18] (by decide) rfl 5 0 rfl rfl) rfl rfl hl.1 rfl (lv_room (Nat.le_of_ble_eq_true rfl)) dL_law_530 ⟨Nat.le_of_ble_eq_true rfl, Nat.le_of_ble_eq_true rfl⟩) hP hD hS hA rfl rfl (by decide) (by decide) (fun r530 u530 H locs hw530 hP hD hS => ?_)
  have hP : va_P D vwCl ((bU k ou uc ut ub ul uw) ++ (bA k oa ac as) ++ (bM k om mth tq to wc wl wb wk kk kf ku ec ew ea ed et ex cc ca cl ch uc ut ub ul uw tt ac as) ++ (bT k ot tq ow oe oc ou oa to tt) ++ (bW k ow wc wl wb wk kk kf ku) ++ (bE k oe u530.1.1 u530.1.2.1 u530.1.2.2.1 u530.1.2.2.2.1 u530.1.2.2.2.2.1 u530.1.2.2.2.2.2 ex) ++ (bC k oc u530.2.1 u530.2.2.1 u530.2.2.2.1 u530.2.2.2.2)) H := hP
  have hD : va_D A ((bU k ou uc ut ub ul uw) ++ (bA k oa ac as) ++ (bM k om mth tq to wc wl wb wk kk kf ku ec ew ea ed et ex cc ca cl ch uc ut ub ul uw tt ac as) ++ (bT k ot tq ow oe oc ou oa to tt) ++ (bW k ow wc wl wb wk kk kf ku) ++ (bE k oe u530.1.1 u530.1.2.1 u530.1.2.2.1 u530.1.2.2.2.1 u530.1.2.2.2.2.1 u530.1.2.2.2.2.2 ex) ++ (bC k oc u530.2.1 u530.2.2.1 u530.2.2.2.1 u530.2.2.2.2)) := hD
  refine lv_aload_n hx hb dL_law_533 rfl (lv_at hl 2 rfl) ?_
  refine lv_aload_n hx hb dL_law_534 rfl (lv_at hl 0 rfl) ?_
  refine lv_iload_n hx hb dL_law_535 rfl (lv_at hl 3 rfl) ?_
  refine lv_iconst (v := (nI 1)) hx hb dL_law_536 (by decide) ?_
  refine lv_iadd hx hb dL_law_537 ?_
  refine xx_topi (nI_add i 1) ?_
  refine xx_sld hx hb hX hbl hbA hS (show i + 1 < L by omega) (by omega) dL_law_538 ?_
  refine lv_aload_n hx hb dL_law_539 rfl (lv_at hl 0 rfl) ?_
  refine lv_iload_n hx hb dL_law_540 rfl (lv_at hl 3 rfl) ?_
  refine lv_iconst (v := (nI 2)) hx hb dL_law_541 (by decide) ?_
  refine lv_iadd hx hb dL_law_542 ?_
  refine xx_topi (nI_add i 2) ?_
  refine xx_sld hx hb hX hbl hbA hS (show i + 2 < L by omega) (by omega) dL_law_543 ?_
  refine lv_i2l (v := (xs (i + 2)).toInt64) hx hb dL_law_544 rfl ?_
  refine lv_bipush (v := (nI 32)) hx hb dL_law_545 (by decide) ?_
  refine lv_lshl (v := (xs (i + 2)).toInt64 <<< ((nI 32).toInt64 &&& 63)) hx hb dL_law_547 rfl ?_
  refine lv_aload_n hx hb dL_law_548 rfl (lv_at hl 0 rfl) ?_
  refine lv_iload_n hx hb dL_law_549 rfl (lv_at hl 3 rfl) ?_
  refine lv_iconst (v := (nI 3)) hx hb dL_law_550 (by decide) ?_
  refine lv_iadd hx hb dL_law_551 ?_
  refine xx_topi (nI_add i 3) ?_
  refine xx_sld hx hb hX hbl hbA hS (show i + 3 < L by omega) (by omega) dL_law_552 ?_
  refine lv_i2l (v := (xs (i + 3)).toInt64) hx hb dL_law_553 rfl ?_
  refine lv_ldc2 (v := 4294967295) hx hb hown (hts _ tw_583) dL_law_554 ?_
  refine lv_land hx hb dL_law_557 ?_
  refine lv_lor hx hb dL_law_558 ?_
  refine xx_topl (y := (xs_long (xs (i + 2)) (xs (i + 3)))) rfl ?_
  refine lv_aload_n hx hb dL_law_559 rfl (lv_at hl 0 rfl) ?_
  refine lv_iload_n hx hb dL_law_560 rfl (lv_at hl 3 rfl) ?_
  refine lv_iconst (v := (nI 4)) hx hb dL_law_561 (by decide) ?_
  refine lv_iadd hx hb dL_law_562 ?_
  refine xx_topi (nI_add i 4) ?_
  refine xx_sld hx hb hX hbl hbA hS (show i + 4 < L by omega) (by omega) dL_law_563 ?_
  refine lv_i2l (v := (xs (i + 4)).toInt64) hx hb dL_law_564 rfl ?_
  refine lv_bipush (v := (nI 32)) hx hb dL_law_565 (by decide) ?_
  refine lv_lshl (v := (xs (i + 4)).toInt64 <<< ((nI 32).toInt64 &&& 63)) hx hb dL_law_567 rfl ?_
  refine lv_aload_n hx hb dL_law_568 rfl (lv_at hl 0 rfl) ?_
  refine lv_iload_n hx hb dL_law_569 rfl (lv_at hl 3 rfl) ?_
  refine lv_iconst (v := (nI 5)) hx hb dL_law_570 (by decide) ?_
  refine lv_iadd hx hb dL_law_571 ?_
  refine xx_topi (nI_add i 5) ?_
  refine xx_sld hx hb hX hbl hbA hS (show i + 5 < L by omega) (by omega) dL_law_572 ?_
  refine lv_i2l (v := (xs (i + 5)).toInt64) hx hb dL_law_573 rfl ?_
  refine lv_ldc2 (v := 4294967295) hx hb hown (hts _ tw_583) dL_law_574 ?_
  refine lv_land hx hb dL_law_577 ?_
  refine lv_lor hx hb dL_law_578 ?_
  refine xx_topl (y := (xs_long (xs (i + 4)) (xs (i + 5)))) rfl ?_
  refine lv_aload_n hx hb dL_law_579 rfl (lv_at hl 0 rfl) ?_
  refine lv_iload_n hx hb dL_law_580 rfl (lv_at hl 3 rfl) ?_
  refine lv_bipush (v := (nI 6)) hx hb dL_law_581 (by decide) ?_
  refine lv_iadd hx hb dL_law_583 ?_
  refine xx_topi (nI_add i 6) ?_
  refine xx_sld hx hb hX hbl hbA hS (show i + 6 < L by omega) (by omega) dL_law_584 ?_
  refine lv_i2l (v := (xs (i + 6)).toInt64) hx hb dL_law_585 rfl ?_
  refine lv_bipush (v := (nI 32)) hx hb dL_law_586 (by decide) ?_
  refine lv_lshl (v := (xs (i + 6)).toInt64 <<< ((nI 32).toInt64 &&& 63)) hx hb dL_law_588 rfl ?_
  refine lv_aload_n hx hb dL_law_589 rfl (lv_at hl 0 rfl) ?_
  refine lv_iload_n hx hb dL_law_590 rfl (lv_at hl 3 rfl) ?_
  refine lv_bipush (v := (nI 7)) hx hb dL_law_591 (by decide) ?_
  refine lv_iadd hx hb dL_law_593 ?_
  refine xx_topi (nI_add i 7) ?_
  refine xx_sld hx hb hX hbl hbA hS (show i + 7 < L by omega) (by omega) dL_law_594 ?_
  refine lv_i2l (v := (xs (i + 7)).toInt64) hx hb dL_law_595 rfl ?_
  refine lv_ldc2 (v := 4294967295) hx hb hown (hts _ tw_583) dL_law_596 ?_
  refine lv_land hx hb dL_law_599 ?_
  refine lv_lor hx hb dL_law_600 ?_
  refine xx_topl (y := (xs_long (xs (i + 6)) (xs (i + 7)))) rfl ?_
  refine lv_aload_n hx hb dL_law_601 rfl (lv_at hl 0 rfl) ?_
  refine lv_iload_n hx hb dL_law_602 rfl (lv_at hl 3 rfl) ?_
  refine lv_bipush (v := (nI 8)) hx hb dL_law_603 (by decide) ?_
  refine lv_iadd hx hb dL_law_605 ?_
  refine xx_topi (nI_add i 8) ?_
  refine xx_sld hx hb hX hbl hbA hS (show i + 8 < L by omega) (by omega) dL_law_606 ?_
  refine lv_i2l (v := (xs (i + 8)).toInt64) hx hb dL_law_607 rfl ?_
  refine lv_bipush (v := (nI 32)) hx hb dL_law_608 (by decide) ?_
  refine lv_lshl (v := (xs (i + 8)).toInt64 <<< ((nI 32).toInt64 &&& 63)) hx hb dL_law_610 rfl ?_
  refine lv_aload_n hx hb dL_law_611 rfl (lv_at hl 0 rfl) ?_
  refine lv_iload_n hx hb dL_law_612 rfl (lv_at hl 3 rfl) ?_
  refine lv_bipush (v := (nI 9)) hx hb dL_law_613 (by decide) ?_
  refine lv_iadd hx hb dL_law_615 ?_
  refine xx_topi (nI_add i 9) ?_
  refine xx_sld hx hb hX hbl hbA hS (show i + 9 < L by omega) (by omega) dL_law_616 ?_
  refine lv_i2l (v := (xs (i + 9)).toInt64) hx hb dL_law_617 rfl ?_
  refine lv_ldc2 (v := 4294967295) hx hb hown (hts _ tw_583) dL_law_618 ?_
  refine lv_land hx hb dL_law_621 ?_
  refine lv_lor hx hb dL_law_622 ?_
  refine xx_topl (y := (xs_long (xs (i + 8)) (xs (i + 9)))) rfl ?_
  refine lv_aload_n hx hb dL_law_623 rfl (lv_at hl 0 rfl) ?_
  refine lv_iload_n hx hb dL_law_624 rfl (lv_at hl 3 rfl) ?_
  refine lv_bipush (v := (nI 10)) hx hb dL_law_625 (by decide) ?_
  refine lv_iadd hx hb dL_law_627 ?_
  refine xx_topi (nI_add i 10) ?_
  refine xx_sld hx hb hX hbl hbA hS (show i + 10 < L by omega) (by omega) dL_law_628 ?_
  refine lv_i2l (v := (xs (i + 10)).toInt64) hx hb dL_law_629 rfl ?_
  refine lv_bipush (v := (nI 32)) hx hb dL_law_630 (by decide) ?_
  refine lv_lshl (v := (xs (i + 10)).toInt64 <<< ((nI 32).toInt64 &&& 63)) hx hb dL_law_632 rfl ?_
  refine lv_aload_n hx hb dL_law_633 rfl (lv_at hl 0 rfl) ?_
  refine lv_iload_n hx hb dL_law_634 rfl (lv_at hl 3 rfl) ?_
  refine lv_bipush (v := (nI 11)) hx hb dL_law_635 (by decide) ?_
  refine lv_iadd hx hb dL_law_637 ?_
  refine xx_topi (nI_add i 11) ?_
  refine xx_sld hx hb hX hbl hbA hS (show i + 11 < L by omega) (by omega) dL_law_638 ?_
  refine lv_i2l (v := (xs (i + 11)).toInt64) hx hb dL_law_639 rfl ?_
  refine lv_ldc2 (v := 4294967295) hx hb hown (hts _ tw_583) dL_law_640 ?_
  refine lv_land hx hb dL_law_643 ?_
  refine lv_lor hx hb dL_law_644 ?_
  refine xx_topl (y := (xs_long (xs (i + 10)) (xs (i + 11)))) rfl ?_
  refine xx_calli ((bU k ou uc ut ub ul uw) ++ (bA k oa ac as) ++ (bT k ot tq ow oe oc ou oa to tt) ++ (bW k ow wc wl wb wk kk kf ku) ++ (bE k oe u530.1.1 u530.1.2.1 u530.1.2.2.1 u530.1.2.2.2.1 u530.1.2.2.2.2.1 u530.1.2.2.2.2.2 ex) ++ (bC k oc u530.2.1 u530.2.2.1 u530.2.2.2.1 u530.2.2.2.2)) [7, 8, 9, 10, 11, 12, 13, 14, 15, 16, 17, 18, 19, 20, 21, 22, 23, 24, 25, 26] [0, 1, 2, 3, 4, 5, 6, 27, 28, 29, 30, 31, 32, 33, 34, 35, 36, 37, 38, 39, 40, 41, 42, 43, 44, 45] (va_runV (As := [.int (xs (i + 1)), .long (xs_long (xs (i + 2)) (xs (i + 3))), .long (xs_long (xs (i + 4)) (xs (i + 5))), .long (xs_long (xs (i + 6)) (xs (i + 7))), .long (xs_long (xs (i + 8)) (xs (i + 9))), .long (xs_long (xs (i + 10)) (xs (i + 11)))]) (rest := [.int r530]) ⟨hx, hb, hml, hown, hts⟩ (c_M_result l D k om mth tq to wc wl wb wk kk kf ku ec ew ea ed et ex cc ca cl ch uc ut ub ul uw tt ac as (xs (i + 1)) (xs_long (xs (i + 2)) (xs (i + 3))) (xs_long (xs (i + 4)) (xs (i + 5))) (xs_long (xs (i + 6)) (xs (i + 7))) (xs_long (xs (i + 8)) (xs (i + 9))) (xs_long (xs (i + 10)) (xs (i + 11))) hwc hwk hec hew hcc H.size) (cwV 6 hts (xx_gV tw_488 tw_489 tw_490 tw_8 tw_491) rfl rfl rfl (by decide +kernel) ⟨Nat.le_of_ble_eq_true rfl, Nat.le_of_ble_eq_true rfl⟩) (xx_preV hK hN hP hD [7, 8, 9, 10, 11, 12, 13, 14, 15, 16, 17, 18, 19, 20, 21, 22, 23, 24, 25, 26] (by decide) rfl 6 7 rfl rfl) rfl rfl hl.1 rfl (lv_room (Nat.le_of_ble_eq_true rfl)) dL_law_645 ⟨Nat.le_of_ble_eq_true rfl, Nat.le_of_ble_eq_true rfl⟩) hP hD hS hA rfl rfl (by decide) (by decide) (fun r645 u645 H locs hw645 hP hD hS => ?_)
  have hP : va_P D vwCl ((bU k ou uc ut ub ul uw) ++ (bA k oa ac as) ++ (bT k ot tq ow oe oc ou oa to tt) ++ (bW k ow wc wl wb wk kk kf ku) ++ (bE k oe u530.1.1 u530.1.2.1 u530.1.2.2.1 u530.1.2.2.2.1 u530.1.2.2.2.2.1 u530.1.2.2.2.2.2 ex) ++ (bC k oc u530.2.1 u530.2.2.1 u530.2.2.2.1 u530.2.2.2.2) ++ (bM k om (nI 0) tq to wc wl wb wk kk kf ku u645.1.1 u645.1.2.1 u645.1.2.2.1 u645.1.2.2.2.1 u645.1.2.2.2.2 ex u645.2.1 u645.2.2.1 u645.2.2.2.1 u645.2.2.2.2 uc ut ub ul uw tt ac as)) H := hP
  have hD : va_D A ((bU k ou uc ut ub ul uw) ++ (bA k oa ac as) ++ (bT k ot tq ow oe oc ou oa to tt) ++ (bW k ow wc wl wb wk kk kf ku) ++ (bE k oe u530.1.1 u530.1.2.1 u530.1.2.2.1 u530.1.2.2.2.1 u530.1.2.2.2.2.1 u530.1.2.2.2.2.2 ex) ++ (bC k oc u530.2.1 u530.2.2.1 u530.2.2.2.1 u530.2.2.2.2) ++ (bM k om (nI 0) tq to wc wl wb wk kk kf ku u645.1.1 u645.1.2.1 u645.1.2.2.1 u645.1.2.2.2.1 u645.1.2.2.2.2 ex u645.2.1 u645.2.2.1 u645.2.2.2.1 u645.2.2.2.2 uc ut ub ul uw tt ac as)) := hD
  obtain ⟨e1, e2, hI⟩ := sim_result hI hw530 hw645
  rw [e2] at hP hD
  have hP : va_P D vwCl ((bU k ou uc ut ub ul uw) ++ (bA k oa ac as) ++ (bT k ot tq ow oe oc ou oa to tt) ++ (bW k ow wc wl wb wk kk kf ku) ++ (bE k oe u530.1.1 u530.1.2.1 u530.1.2.2.1 u530.1.2.2.2.1 u530.1.2.2.2.2.1 u530.1.2.2.2.2.2 ex) ++ (bC k oc u530.2.1 u530.2.2.1 u530.2.2.2.1 u530.2.2.2.2) ++ (bM k om (nI 0) tq to wc wl wb wk kk kf ku u530.1.1 u530.1.2.1 u530.1.2.2.2.1 u530.1.2.2.2.2.1 u530.1.2.2.2.2.2 ex u530.2.1 u530.2.2.1 u530.2.2.2.1 u530.2.2.2.2 uc ut ub ul uw tt ac as)) H := hP
  have hD : va_D A ((bU k ou uc ut ub ul uw) ++ (bA k oa ac as) ++ (bT k ot tq ow oe oc ou oa to tt) ++ (bW k ow wc wl wb wk kk kf ku) ++ (bE k oe u530.1.1 u530.1.2.1 u530.1.2.2.1 u530.1.2.2.2.1 u530.1.2.2.2.2.1 u530.1.2.2.2.2.2 ex) ++ (bC k oc u530.2.1 u530.2.2.1 u530.2.2.2.1 u530.2.2.2.2) ++ (bM k om (nI 0) tq to wc wl wb wk kk kf ku u530.1.1 u530.1.2.1 u530.1.2.2.2.1 u530.1.2.2.2.2.1 u530.1.2.2.2.2.2 ex u530.2.1 u530.2.2.1 u530.2.2.2.1 u530.2.2.2.2 uc ut ub ul uw tt ac as)) := hD
  refine lv_icmp_eq (tgt := 1132) hx hb dL_law_648 (by decide) (fun _ => ?_) (fun c => absurd e1 c)
  exact K ot ow oe oc ou oa om (nI 0) tq to tt wc wl wb wk kk kf ku u530.1.1 u530.1.2.1 u530.1.2.2.1 u530.1.2.2.2.1 u530.1.2.2.2.2.1 u530.1.2.2.2.2.2 ex u530.2.1 u530.2.2.1 u530.2.2.2.1 u530.2.2.2.2 uc ut ub ul uw ac as hI H locs ls (xx_subP hP [7, 8, 9, 10, 11, 12, 13, 14, 15, 16, 17, 18, 19, 20, 21, 22, 23, 24, 25, 0, 1, 2, 3, 4, 5, 6, 26, 27, 28, 29, 30, 31, 32, 33, 34, 35, 36, 37, 38, 39, 40, 41, 42, 43, 44, 45] rfl) (hD.sub [7, 8, 9, 10, 11, 12, 13, 14, 15, 16, 17, 18, 19, 20, 21, 22, 23, 24, 25, 0, 1, 2, 3, 4, 5, 6, 26, 27, 28, 29, 30, 31, 32, 33, 34, 35, 36, 37, 38, 39, 40, 41, 42, 43, 44, 45] (by decide) rfl) hS (lv_sub hl [0, 1, 2, 3] rfl)
