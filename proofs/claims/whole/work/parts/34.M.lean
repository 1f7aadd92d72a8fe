theorem dX6_result_0 : decode cX6_result 0 = .ok (.aload_n 0, 1) := by decide +kernel
theorem dX6_result_1 : decode cX6_result 1 = .ok (.iconst 0, 1) := by decide +kernel
theorem dX6_result_2 : decode cX6_result 2 = .ok (.putfield 73, 3) := by decide +kernel
theorem dX6_result_5 : decode cX6_result 5 = .ok (.aload_n 0, 1) := by decide +kernel
theorem dX6_result_6 : decode cX6_result 6 = .ok (.iload_n 1, 1) := by decide +kernel
theorem dX6_result_7 : decode cX6_result 7 = .ok (.invokevirtual 83, 3) := by decide +kernel
theorem dX6_result_10 : decode cX6_result 10 = .ok (.ifCond .eq 19, 3) := by decide +kernel
theorem dX6_result_13 : decode cX6_result 13 = .ok (.aload_n 0, 1) := by decide +kernel
theorem dX6_result_14 : decode cX6_result 14 = .ok (.getfield 13, 3) := by decide +kernel
theorem dX6_result_17 : decode cX6_result 17 = .ok (.iload_n 1, 1) := by decide +kernel
theorem dX6_result_18 : decode cX6_result 18 = .ok (.baload, 1) := by decide +kernel
theorem dX6_result_19 : decode cX6_result 19 = .ok (.ifCond .ne 10, 3) := by decide +kernel
theorem dX6_result_22 : decode cX6_result 22 = .ok (.lload 10, 2) := by decide +kernel
theorem dX6_result_24 : decode cX6_result 24 = .ok (.lconst 0, 1) := by decide +kernel
theorem dX6_result_25 : decode cX6_result 25 = .ok (.lcmp, 1) := by decide +kernel
theorem dX6_result_26 : decode cX6_result 26 = .ok (.ifCond .ge 5, 3) := by decide +kernel
theorem dX6_result_29 : decode cX6_result 29 = .ok (.iconst (-1), 1) := by decide +kernel
theorem dX6_result_30 : decode cX6_result 30 = .ok (.ireturn, 1) := by decide +kernel
theorem dX6_result_31 : decode cX6_result 31 = .ok (.aload_n 0, 1) := by decide +kernel
theorem dX6_result_32 : decode cX6_result 32 = .ok (.iload_n 1, 1) := by decide +kernel
theorem dX6_result_33 : decode cX6_result 33 = .ok (.lload_n 2, 1) := by decide +kernel
theorem dX6_result_34 : decode cX6_result 34 = .ok (.lload 4, 2) := by decide +kernel
theorem dX6_result_36 : decode cX6_result 36 = .ok (.lload 6, 2) := by decide +kernel
theorem dX6_result_38 : decode cX6_result 38 = .ok (.lload_n 2, 1) := by decide +kernel
theorem dX6_result_39 : decode cX6_result 39 = .ok (.lload 4, 2) := by decide +kernel
theorem dX6_result_41 : decode cX6_result 41 = .ok (.invokestatic 95, 3) := by decide +kernel
theorem dX6_result_44 : decode cX6_result 44 = .ok (.lload 8, 2) := by decide +kernel
theorem dX6_result_46 : decode cX6_result 46 = .ok (.lxor, 1) := by decide +kernel
theorem dX6_result_47 : decode cX6_result 47 = .ok (.lload 10, 2) := by decide +kernel
theorem dX6_result_49 : decode cX6_result 49 = .ok (.invokevirtual 105, 3) := by decide +kernel
theorem dX6_result_52 : decode cX6_result 52 = .ok (.ifCond .ne 6, 3) := by decide +kernel
theorem dX6_result_55 : decode cX6_result 55 = .ok (.bipush (-2), 2) := by decide +kernel
theorem dX6_result_57 : decode cX6_result 57 = .ok (.ireturn, 1) := by decide +kernel
theorem dX6_result_58 : decode cX6_result 58 = .ok (.aload_n 0, 1) := by decide +kernel
theorem dX6_result_59 : decode cX6_result 59 = .ok (.iload_n 1, 1) := by decide +kernel
theorem dX6_result_60 : decode cX6_result 60 = .ok (.lload_n 2, 1) := by decide +kernel
theorem dX6_result_61 : decode cX6_result 61 = .ok (.lload 4, 2) := by decide +kernel
theorem dX6_result_63 : decode cX6_result 63 = .ok (.invokevirtual 109, 3) := by decide +kernel
theorem dX6_result_66 : decode cX6_result 66 = .ok (.ifCond .eq 6, 3) := by decide +kernel
theorem dX6_result_69 : decode cX6_result 69 = .ok (.bipush (-3), 2) := by decide +kernel
theorem dX6_result_71 : decode cX6_result 71 = .ok (.ireturn, 1) := by decide +kernel
theorem dX6_result_72 : decode cX6_result 72 = .ok (.aload_n 0, 1) := by decide +kernel
theorem dX6_result_73 : decode cX6_result 73 = .ok (.getfield 99, 3) := by decide +kernel
theorem dX6_result_76 : decode cX6_result 76 = .ok (.bipush 100, 2) := by decide +kernel
theorem dX6_result_78 : decode cX6_result 78 = .ok (.if_icmp .ne 6, 3) := by decide +kernel
theorem dX6_result_81 : decode cX6_result 81 = .ok (.bipush (-4), 2) := by decide +kernel
theorem dX6_result_83 : decode cX6_result 83 = .ok (.ireturn, 1) := by decide +kernel
theorem dX6_result_84 : decode cX6_result 84 = .ok (.aload_n 0, 1) := by decide +kernel
theorem dX6_result_85 : decode cX6_result 85 = .ok (.getfield 99, 3) := by decide +kernel
theorem dX6_result_88 : decode cX6_result 88 = .ok (.istore 12, 2) := by decide +kernel
theorem dX6_result_90 : decode cX6_result 90 = .ok (.aload_n 0, 1) := by decide +kernel
theorem dX6_result_91 : decode cX6_result 91 = .ok (.getfield 30, 3) := by decide +kernel
theorem dX6_result_94 : decode cX6_result 94 = .ok (.iload 12, 2) := by decide +kernel
theorem dX6_result_96 : decode cX6_result 96 = .ok (.iload_n 1, 1) := by decide +kernel
theorem dX6_result_97 : decode cX6_result 97 = .ok (.iastore, 1) := by decide +kernel
theorem dX6_result_98 : decode cX6_result 98 = .ok (.aload_n 0, 1) := by decide +kernel
theorem dX6_result_99 : decode cX6_result 99 = .ok (.getfield 33, 3) := by decide +kernel
theorem dX6_result_102 : decode cX6_result 102 = .ok (.iload 12, 2) := by decide +kernel
theorem dX6_result_104 : decode cX6_result 104 = .ok (.lload_n 2, 1) := by decide +kernel
theorem dX6_result_105 : decode cX6_result 105 = .ok (.lastore, 1) := by decide +kernel
theorem dX6_result_106 : decode cX6_result 106 = .ok (.aload_n 0, 1) := by decide +kernel
theorem dX6_result_107 : decode cX6_result 107 = .ok (.getfield 36, 3) := by decide +kernel
theorem dX6_result_110 : decode cX6_result 110 = .ok (.iload 12, 2) := by decide +kernel
theorem dX6_result_112 : decode cX6_result 112 = .ok (.lload 4, 2) := by decide +kernel
theorem dX6_result_114 : decode cX6_result 114 = .ok (.lastore, 1) := by decide +kernel
theorem dX6_result_115 : decode cX6_result 115 = .ok (.aload_n 0, 1) := by decide +kernel
theorem dX6_result_116 : decode cX6_result 116 = .ok (.getfield 39, 3) := by decide +kernel
theorem dX6_result_119 : decode cX6_result 119 = .ok (.iload 12, 2) := by decide +kernel
theorem dX6_result_121 : decode cX6_result 121 = .ok (.lload 10, 2) := by decide +kernel
theorem dX6_result_123 : decode cX6_result 123 = .ok (.lastore, 1) := by decide +kernel
theorem dX6_result_124 : decode cX6_result 124 = .ok (.aload_n 0, 1) := by decide +kernel
theorem dX6_result_125 : decode cX6_result 125 = .ok (.dup, 1) := by decide +kernel
theorem dX6_result_126 : decode cX6_result 126 = .ok (.getfield 99, 3) := by decide +kernel
theorem dX6_result_129 : decode cX6_result 129 = .ok (.iconst 1, 1) := by decide +kernel
theorem dX6_result_130 : decode cX6_result 130 = .ok (.iadd, 1) := by decide +kernel
theorem dX6_result_131 : decode cX6_result 131 = .ok (.putfield 99, 3) := by decide +kernel
theorem dX6_result_134 : decode cX6_result 134 = .ok (.aload_n 0, 1) := by decide +kernel
theorem dX6_result_135 : decode cX6_result 135 = .ok (.iload 12, 2) := by decide +kernel
theorem dX6_result_137 : decode cX6_result 137 = .ok (.invokevirtual 113, 3) := by decide +kernel
theorem dX6_result_140 : decode cX6_result 140 = .ok (.istore 13, 2) := by decide +kernel
theorem dX6_result_142 : decode cX6_result 142 = .ok (.iload 13, 2) := by decide +kernel
theorem dX6_result_144 : decode cX6_result 144 = .ok (.iconst (-1), 1) := by decide +kernel
theorem dX6_result_145 : decode cX6_result 145 = .ok (.if_icmp .eq 53, 3) := by decide +kernel
theorem dX6_result_148 : decode cX6_result 148 = .ok (.aload_n 0, 1) := by decide +kernel
theorem dX6_result_149 : decode cX6_result 149 = .ok (.lload_n 2, 1) := by decide +kernel
theorem dX6_result_150 : decode cX6_result 150 = .ok (.invokevirtual 117, 3) := by decide +kernel
theorem dX6_result_153 : decode cX6_result 153 = .ok (.ifCond .ne 45, 3) := by decide +kernel
theorem dX6_result_156 : decode cX6_result 156 = .ok (.aload_n 0, 1) := by decide +kernel
theorem dX6_result_157 : decode cX6_result 157 = .ok (.getfield 45, 3) := by decide +kernel
theorem dX6_result_160 : decode cX6_result 160 = .ok (.aload_n 0, 1) := by decide +kernel
theorem dX6_result_161 : decode cX6_result 161 = .ok (.getfield 102, 3) := by decide +kernel
theorem dX6_result_164 : decode cX6_result 164 = .ok (.lload_n 2, 1) := by decide +kernel
theorem dX6_result_165 : decode cX6_result 165 = .ok (.lastore, 1) := by decide +kernel
theorem dX6_result_166 : decode cX6_result 166 = .ok (.aload_n 0, 1) := by decide +kernel
theorem dX6_result_167 : decode cX6_result 167 = .ok (.getfield 48, 3) := by decide +kernel
theorem dX6_result_170 : decode cX6_result 170 = .ok (.aload_n 0, 1) := by decide +kernel
theorem dX6_result_171 : decode cX6_result 171 = .ok (.getfield 102, 3) := by decide +kernel
theorem dX6_result_174 : decode cX6_result 174 = .ok (.iload 13, 2) := by decide +kernel
theorem dX6_result_176 : decode cX6_result 176 = .ok (.iastore, 1) := by decide +kernel
theorem dX6_result_177 : decode cX6_result 177 = .ok (.aload_n 0, 1) := by decide +kernel
theorem dX6_result_178 : decode cX6_result 178 = .ok (.getfield 51, 3) := by decide +kernel
theorem dX6_result_181 : decode cX6_result 181 = .ok (.aload_n 0, 1) := by decide +kernel
theorem dX6_result_182 : decode cX6_result 182 = .ok (.getfield 102, 3) := by decide +kernel
theorem dX6_result_185 : decode cX6_result 185 = .ok (.iload 12, 2) := by decide +kernel
theorem dX6_result_187 : decode cX6_result 187 = .ok (.iastore, 1) := by decide +kernel
theorem dX6_result_188 : decode cX6_result 188 = .ok (.aload_n 0, 1) := by decide +kernel
theorem dX6_result_189 : decode cX6_result 189 = .ok (.dup, 1) := by decide +kernel
theorem dX6_result_190 : decode cX6_result 190 = .ok (.getfield 102, 3) := by decide +kernel
theorem dX6_result_193 : decode cX6_result 193 = .ok (.iconst 1, 1) := by decide +kernel
theorem dX6_result_194 : decode cX6_result 194 = .ok (.iadd, 1) := by decide +kernel
theorem dX6_result_195 : decode cX6_result 195 = .ok (.putfield 102, 3) := by decide +kernel
theorem dX6_result_198 : decode cX6_result 198 = .ok (.iload 12, 2) := by decide +kernel
theorem dX6_result_200 : decode cX6_result 200 = .ok (.ireturn, 1) := by decide +kernel
def p_M_result (om : Nat → Nat) (mth : Int32) (tq : Int32) (to : Bool) (wc : Nat) (wl : Nat → Int32) (wb : Nat → Bool) (wk : Nat → Nat) (kk : Nat → Int64) (kf : Nat → Int64) (ku : Nat → Int64) (ec : Nat) (ew : Nat → Nat) (ea : Nat → Int64) (ed : Nat → Int64) (et : Nat → Int64) (ex : Nat → Bool) (cc : Nat) (ca : Nat → Int64) (cl : Nat → Int32) (ch : Nat → Int32) (uc : Nat) (ut : Nat → Int32) (ub : Nat → Int32) (ul : Nat → Int32) (uw : Nat → Int32) (tt : Int64) (ac : Nat) (as : Nat → Int32) (x : Int32) (a : Int64) (d : Int64) (un : Int64) (xr : Int64) (t : Int64) : Int32 → ((Nat × (Nat → Nat) × (Nat → Int64) × (Nat → Int64) × (Nat → Int64)) × (Nat × (Nat → Int64) × (Nat → Int32) × (Nat → Int32))) → Prop := fun r u => (r = (-1) ∧ ((¬ ∃ j, j < wc ∧ x = nI j ∧ wb j = false) ∨ t < 0) ∧ u = ((ec, ew, ea, ed, et), (cc, ca, cl, ch))) ∨ (∃ w, (w < wc ∧ x = nI w ∧ wb w = false ∧ ¬ t < 0) ∧ ((r = (-2) ∧ ¬ (∃ z, w * 4 ≤ z ∧ z < w * 4 + wk w ∧ (¬ (t < kf z) ∧ ¬ (ku z ≤ t) ∧ xs_sum (kk z) a d = (xs_sum un a d ^^^ xr))) ∧ u = ((ec, ew, ea, ed, et), (cc, ca, cl, ch))) ∨ (r = (-3) ∧ (∃ z, w * 4 ≤ z ∧ z < w * 4 + wk w ∧ (¬ (t < kf z) ∧ ¬ (ku z ≤ t) ∧ xs_sum (kk z) a d = (xs_sum un a d ^^^ xr))) ∧ (∃ i, i < ec ∧ (ew i = w ∧ ea i = a ∧ ed i = d ∧ ex i = false)) ∧ u = ((ec, ew, ea, ed, et), (cc, ca, cl, ch))) ∨ (r = (-4) ∧ (∃ z, w * 4 ≤ z ∧ z < w * 4 + wk w ∧ (¬ (t < kf z) ∧ ¬ (ku z ≤ t) ∧ xs_sum (kk z) a d = (xs_sum un a d ^^^ xr))) ∧ ¬ (∃ i, i < ec ∧ (ew i = w ∧ ea i = a ∧ ed i = d ∧ ex i = false)) ∧ 100 ≤ ec ∧ u = ((ec, ew, ea, ed, et), (cc, ca, cl, ch))) ∨ (r = nI ec ∧ (∃ z, w * 4 ≤ z ∧ z < w * 4 + wk w ∧ (¬ (t < kf z) ∧ ¬ (ku z ≤ t) ∧ xs_sum (kk z) a d = (xs_sum un a d ^^^ xr))) ∧ ¬ (∃ i, i < ec ∧ (ew i = w ∧ ea i = a ∧ ed i = d ∧ ex i = false)) ∧ ec < 100 ∧ u.1 = (ec + 1, xu_N ew ec w, vp_updL ea ec a, vp_updL ed ec d, vp_updL et ec t) ∧ ∃ q, p_M_against om (nI 0) tq to wc wl wb wk kk kf ku (ec + 1) (xu_N ew ec w) (vp_updL ea ec a) (vp_updL ed ec d) (vp_updL et ec t) ex cc ca cl ch uc ut ub ul uw tt ac as ec q () ∧ (((¬ q = (-1) ∧ ¬ (∃ i, i < cc ∧ ca i = a)) ∧ u.2 = (cc + 1, vp_updL ca cc a, upd cl cc q, upd ch cc (nI ec))) ∨ (¬ (¬ q = (-1) ∧ ¬ (∃ i, i < cc ∧ ca i = a)) ∧ u.2 = (cc, ca, cl, ch))))))
set_option maxHeartbeats 4000000 in
set_option maxRecDepth 100000 in
theorem c_M_result (l : Launch) (D : va_G) (k : Nat → ClassId) (om : Nat → Nat) (mth : Int32) (tq : Int32) (to : Bool) (wc : Nat) (wl : Nat → Int32) (wb : Nat → Bool) (wk : Nat → Nat) (kk : Nat → Int64) (kf : Nat → Int64) (ku : Nat → Int64) (ec : Nat) (ew : Nat → Nat) (ea : Nat → Int64) (ed : Nat → Int64) (et : Nat → Int64) (ex : Nat → Bool) (cc : Nat) (ca : Nat → Int64) (cl : Nat → Int32) (ch : Nat → Int32) (uc : Nat) (ut : Nat → Int32) (ub : Nat → Int32) (ul : Nat → Int32) (uw : Nat → Int32) (tt : Int64) (ac : Nat) (as : Nat → Int32) (x : Int32) (a : Int64) (d : Int64) (un : Int64) (xr : Int64) (t : Int64) (hwc : wc ≤ 12) (hwk : ∀ i, wk i ≤ 4) (hec : ec ≤ 100) (hew : ∀ i, ew i < 12) (hcc : cc ≤ 50) : xx_Ci l yX6_result (.code yX6_result cX6_result 14 (some .int) :: xall) ({ frames := 3, cells := 0, slots := 0, locals := 84 } : Room) D vwCl (xT k) [.ref (om 0), .int x, .long a, .long d, .long un, .long xr, .long t] (bM k om mth tq to wc wl wb wk kk kf ku ec ew ea ed et ex cc ca cl ch uc ut ub ul uw tt ac as) (p_M_result om mth tq to wc wl wb wk kk kf ku ec ew ea ed et ex cc ca cl ch uc ut ub ul uw tt ac as x a d un xr t) (fun (u : (Nat × (Nat → Nat) × (Nat → Int64) × (Nat → Int64) × (Nat → Int64)) × (Nat × (Nat → Int64) × (Nat → Int32) × (Nat → Int32))) => bM k om (nI 0) tq to wc wl wb wk kk kf ku u.1.1 u.1.2.1 u.1.2.2.1 u.1.2.2.2.1 u.1.2.2.2.2 ex u.2.1 u.2.2.1 u.2.2.2.1 u.2.2.2.2 uc ut ub ul uw tt ac as) 0 0 := by
  intro sz
  refine xx_met (Qf := fun A => va_Qi (p_M_result om mth tq to wc wl wb wk kk kf ku ec ew ea ed et ex cc ca cl ch uc ut ub ul uw tt ac as x a d un xr t) (xx_B D vwCl (xT k) A (fun (u : (Nat × (Nat → Nat) × (Nat → Int64) × (Nat → Int64) × (Nat → Int64)) × (Nat × (Nat → Int64) × (Nat → Int32) × (Nat → Int32))) => bM k om (nI 0) tq to wc wl wb wk kk kf ku u.1.1 u.1.2.1 u.1.2.2.1 u.1.2.2.2.1 u.1.2.2.2.2 ex u.2.1 u.2.2.1 u.2.2.2.1 u.2.2.2.2 uc ut ub ul uw tt ac as)) A) (cc := cX6_result) (maxL := 14) (ret := (some .int)) (by decide) rfl (Nat.le_of_ble_eq_true rfl) ?_
  intro p e s m below meth c A ls hx hb hr hts hown hlocks hin hml hA hS hP hD hK hN hl
  have hl : lv_has ls 14 [(0, .ref (om 0)), (1, .int x), (2, .long a), (4, .long d), (6, .long un), (8, .long xr), (10, .long t)] := hl
  have hown : s.vm.findClass RX6 = some m.cls := hown
  have hinW := inX6
  refine lv_aload_n hx hb dX6_result_0 rfl (lv_at hl 0 rfl) ?_
  refine lv_iconst (v := (nI 0)) hx hb dX6_result_1 (by decide) ?_
  refine va_put (D := D) (ci := 6) (v := .int (nI 0)) (ty := .int) (C := RX6) (T := TX6) (N := 28) hx hb hts hinW tyX6 tyX6_ok nmX6 hown hK hP hD hS 0 rfl rfl 0 (by decide) (hts _ tw_376) (fun _ h9 => h9) rfl (by decide +kernel) rfl rfl (Nat.le_of_ble_eq_true rfl) dX6_result_2 (fun H locs hP hD hS => ?_)
  have hP : va_P D vwCl (bM k om (nI 0) tq to wc wl wb wk kk kf ku ec ew ea ed et ex cc ca cl ch uc ut ub ul uw tt ac as) H := hP
  have hD : va_D A (bM k om (nI 0) tq to wc wl wb wk kk kf ku ec ew ea ed et ex cc ca cl ch uc ut ub ul uw tt ac as) := hD
  refine lv_aload_n hx hb dX6_result_5 rfl (lv_at hl 0 rfl) ?_
  refine lv_iload_n hx hb dX6_result_6 rfl (lv_at hl 1 rfl) ?_
  refine xx_calli ([]) [0, 1, 2, 3, 4, 5, 6, 7, 8, 9, 10, 11, 12, 13, 14, 15, 16, 17, 18, 19] [] (va_runV (As := [.int x]) (rest := []) ⟨hx, hb, hml, hown, hts⟩ (c_M_isW l D k om (nI 0) tq to wc wl wb wk kk kf ku ec ew ea ed et ex cc ca cl ch uc ut ub ul uw tt ac as x (by omega) H.size) (cwV 1 hts (xx_gV tw_472 tw_474 ts_4 tw_8 tw_475) rfl rfl rfl (by decide +kernel) ⟨Nat.le_of_ble_eq_true rfl, Nat.le_of_ble_eq_true rfl⟩) (xx_preV hK hN hP hD [0, 1, 2, 3, 4, 5, 6, 7, 8, 9, 10, 11, 12, 13, 14, 15, 16, 17, 18, 19] (by decide) rfl 6 0 rfl rfl) rfl rfl hl.1 rfl (lv_room (Nat.le_of_ble_eq_true rfl)) dX6_result_7 ⟨Nat.le_of_ble_eq_true rfl, Nat.le_of_ble_eq_true rfl⟩) hP hD hS hA rfl rfl (by decide) (by decide) (fun r7 u7 H locs hw7 hP hD hS => ?_)
  rcases hw7 with ⟨rfl, j7, hj7, hx7⟩ | ⟨rfl, hq7⟩
  · subst hx7
    have hP : va_P D vwCl (bM k om (nI 0) tq to wc wl wb wk kk kf ku ec ew ea ed et ex cc ca cl ch uc ut ub ul uw tt ac as) H := hP
    have hD : va_D A (bM k om (nI 0) tq to wc wl wb wk kk kf ku ec ew ea ed et ex cc ca cl ch uc ut ub ul uw tt ac as) := hD
    refine lv_if_eq (tgt := 29) hx hb dX6_result_10 (by decide) (fun c => absurd c (by decide)) (fun _ => ?_)
    refine lv_aload_n hx hb dX6_result_13 rfl (lv_at hl 0 rfl) ?_
    refine va_get (D := D) (ci := 6) (v := .ref (om 2)) (C := RX6) (T := TX6) (N := 28) hx hb hts hinW hown hK hP 0 rfl rfl 5 (by decide) (hts _ tw_381) (fun _ h9 => h9) rfl dX6_result_14 ?_
    refine lv_iload_n hx hb dX6_result_17 rfl (lv_at hl 1 rfl) ?_
    refine xx_zald hx hb hK hP 2 1 rfl rfl (show j7 < 12 by omega) (by decide) dX6_result_18 ?_
    refine lv_if_ne (tgt := 29) hx hb dX6_result_19 (by decide) (fun c19 => ?_) (fun c19 => ?_)
    · have c19 : wb j7 = true := bI_ne c19
      refine lv_iconst (v := (-1)) hx hb dX6_result_29 (by decide) ?_
      refine xx_iret ((ec, ew, ea, ed, et), (cc, ca, cl, ch)) hx hb hr hlocks hS hK hP hD dX6_result_30 ?_
      first | exact Or.inl ⟨rfl, Or.inl (xx_none hq7), rfl⟩ | exact Or.inl ⟨rfl, Or.inl (xx_one (P := fun j => wb j = false) (by omega) hj7 (fun h => xx_tf c19 h)), rfl⟩ | exact Or.inl ⟨rfl, Or.inr (xx_lnle c26), rfl⟩
    · have c19 : wb j7 = false := bI_eq c19
      refine lv_lload hx hb dX6_result_22 (lv_at hl 6 rfl) ?_
      refine lv_lconst (v := 0) hx hb dX6_result_24 (by decide) ?_
      refine W.lcmp hx hb dX6_result_25 ?_
      refine lv_if_ge (tgt := 31) hx hb dX6_result_26 (by decide) (fun c26 => ?_) (fun c26 => ?_)
      · have c26 : 0 ≤ t := (lg_cmp_ge t 0).mp c26
        refine lv_aload_n hx hb dX6_result_31 rfl (lv_at hl 0 rfl) ?_
        refine lv_iload_n hx hb dX6_result_32 rfl (lv_at hl 1 rfl) ?_
        refine lv_lload_n hx hb dX6_result_33 rfl (lv_at hl 2 rfl) ?_
        refine lv_lload hx hb dX6_result_34 (lv_at hl 3 rfl) ?_
        refine lv_lload hx hb dX6_result_36 (lv_at hl 4 rfl) ?_
        refine lv_lload_n hx hb dX6_result_38 rfl (lv_at hl 2 rfl) ?_
        refine lv_lload hx hb dX6_result_39 (lv_at hl 3 rfl) ?_
        refine xx_calll (bM k om (nI 0) tq to wc wl wb wk kk kf ku ec ew ea ed et ex cc ca cl ch uc ut ub ul uw tt ac as) [] [0, 1, 2, 3, 4, 5, 6, 7, 8, 9, 10, 11, 12, 13, 14, 15, 16, 17, 18, 19] (va_runS (As := [.long un, .long a, .long d]) (rest := [.long d, .long a, .int (nI j7), .ref (om 0)]) ⟨hx, hb, hml, hown, hts⟩ (c_M_sumOf l D k un a d H.size) (va_cwS 3 hts (xx_gS tw_480 tw_481 tw_8 tw_482) rfl rfl rfl (by decide +kernel) ⟨Nat.le_of_ble_eq_true rfl, Nat.le_of_ble_eq_true rfl⟩) (xx_preS hK hN hP hD [] (by decide) rfl) rfl rfl hl.1 rfl (lv_room (Nat.le_of_ble_eq_true rfl)) dX6_result_41 ⟨Nat.le_of_ble_eq_true rfl, Nat.le_of_ble_eq_true rfl⟩) hP hD hS hA rfl rfl (by decide) (by decide) (fun r41 u41 H locs hw41 hP hD hS => ?_)
        obtain rfl := hw41
        have hP : va_P D vwCl (bM k om (nI 0) tq to wc wl wb wk kk kf ku ec ew ea ed et ex cc ca cl ch uc ut ub ul uw tt ac as) H := hP
        have hD : va_D A (bM k om (nI 0) tq to wc wl wb wk kk kf ku ec ew ea ed et ex cc ca cl ch uc ut ub ul uw tt ac as) := hD
        refine lv_lload hx hb dX6_result_44 (lv_at hl 5 rfl) ?_
        refine lv_lxor hx hb dX6_result_46 ?_
        refine lv_lload hx hb dX6_result_47 (lv_at hl 6 rfl) ?_
        refine xx_calli ([]) [0, 1, 2, 3, 4, 5, 6, 7, 8, 9, 10, 11, 12, 13, 14, 15, 16, 17, 18, 19] [] (va_runV (As := [.int (nI j7), .long a, .long d, .long ((xs_sum un a d) ^^^ xr), .long t]) (rest := []) ⟨hx, hb, hml, hown, hts⟩ (c_M_fits l D k om (nI 0) tq to wc wl wb wk kk kf ku ec ew ea ed et ex cc ca cl ch uc ut ub ul uw tt ac as j7 a d ((xs_sum un a d) ^^^ xr) t hwc hj7 hwk H.size) (cwV 5 hts (xx_gV tw_492 tw_494 ts_5 tw_8 tw_495) rfl rfl rfl (by decide +kernel) ⟨Nat.le_of_ble_eq_true rfl, Nat.le_of_ble_eq_true rfl⟩) (xx_preV hK hN hP hD [0, 1, 2, 3, 4, 5, 6, 7, 8, 9, 10, 11, 12, 13, 14, 15, 16, 17, 18, 19] (by decide) rfl 6 0 rfl rfl) rfl rfl hl.1 rfl (lv_room (Nat.le_of_ble_eq_true rfl)) dX6_result_49 ⟨Nat.le_of_ble_eq_true rfl, Nat.le_of_ble_eq_true rfl⟩) hP hD hS hA rfl rfl (by decide) (by decide) (fun r49 u49 H locs hw49 hP hD hS => ?_)
        rcases hw49 with ⟨rfl, hq49⟩ | ⟨rfl, hq49⟩
        · have hP : va_P D vwCl (bM k om (nI 0) tq to wc wl wb wk kk kf ku ec ew ea ed et ex cc ca cl ch uc ut ub ul uw tt ac as) H := hP
          have hD : va_D A (bM k om (nI 0) tq to wc wl wb wk kk kf ku ec ew ea ed et ex cc ca cl ch uc ut ub ul uw tt ac as) := hD
          refine lv_if_ne (tgt := 58) hx hb dX6_result_52 (by decide) (fun _ => ?_) (fun c => absurd c (by decide))
          refine lv_aload_n hx hb dX6_result_58 rfl (lv_at hl 0 rfl) ?_
          refine lv_iload_n hx hb dX6_result_59 rfl (lv_at hl 1 rfl) ?_
          refine lv_lload_n hx hb dX6_result_60 rfl (lv_at hl 2 rfl) ?_
          refine lv_lload hx hb dX6_result_61 (lv_at hl 3 rfl) ?_
          refine xx_calli ([]) [0, 1, 2, 3, 4, 5, 6, 7, 8, 9, 10, 11, 12, 13, 14, 15, 16, 17, 18, 19] [] (va_runV (As := [.int (nI j7), .long a, .long d]) (rest := []) ⟨hx, hb, hml, hown, hts⟩ (c_M_there l D k om (nI 0) tq to wc wl wb wk kk kf ku ec ew ea ed et ex cc ca cl ch uc ut ub ul uw tt ac as j7 a d hec hew (by omega) H.size) (cwV 3 hts (xx_gV tw_496 tw_498 ts_6 tw_8 tw_499) rfl rfl rfl (by decide +kernel) ⟨Nat.le_of_ble_eq_true rfl, Nat.le_of_ble_eq_true rfl⟩) (xx_preV hK hN hP hD [0, 1, 2, 3, 4, 5, 6, 7, 8, 9, 10, 11, 12, 13, 14, 15, 16, 17, 18, 19] (by decide) rfl 6 0 rfl rfl) rfl rfl hl.1 rfl (lv_room (Nat.le_of_ble_eq_true rfl)) dX6_result_63 ⟨Nat.le_of_ble_eq_true rfl, Nat.le_of_ble_eq_true rfl⟩) hP hD hS hA rfl rfl (by decide) (by decide) (fun r63 u63 H locs hw63 hP hD hS => ?_)
          rcases hw63 with ⟨rfl, hq63⟩ | ⟨rfl, hq63⟩
          · have hP : va_P D vwCl (bM k om (nI 0) tq to wc wl wb wk kk kf ku ec ew ea ed et ex cc ca cl ch uc ut ub ul uw tt ac as) H := hP
            have hD : va_D A (bM k om (nI 0) tq to wc wl wb wk kk kf ku ec ew ea ed et ex cc ca cl ch uc ut ub ul uw tt ac as) := hD
            refine lv_if_eq (tgt := 72) hx hb dX6_result_66 (by decide) (fun c => absurd c (by decide)) (fun _ => ?_)
            refine lv_bipush (v := (-3)) hx hb dX6_result_69 (by decide) ?_
            refine xx_iret ((ec, ew, ea, ed, et), (cc, ca, cl, ch)) hx hb hr hlocks hS hK hP hD dX6_result_71 ?_
            exact Or.inr ⟨j7, ⟨hj7, rfl, c19, xx_lnlt c26⟩, Or.inr (Or.inl ⟨rfl, hq49, hq63, rfl⟩)⟩
          · have hP : va_P D vwCl (bM k om (nI 0) tq to wc wl wb wk kk kf ku ec ew ea ed et ex cc ca cl ch uc ut ub ul uw tt ac as) H := hP
            have hD : va_D A (bM k om (nI 0) tq to wc wl wb wk kk kf ku ec ew ea ed et ex cc ca cl ch uc ut ub ul uw tt ac as) := hD
            refine lv_if_eq (tgt := 72) hx hb dX6_result_66 (by decide) (fun _ => ?_) (fun c => absurd c (by decide))
            refine lv_aload_n hx hb dX6_result_72 rfl (lv_at hl 0 rfl) ?_
            refine va_get (D := D) (ci := 6) (v := .int (nI ec)) (C := RX6) (T := TX6) (N := 28) hx hb hts hinW hown hK hP 0 rfl rfl 10 (by decide) (hts _ tw_386) (fun _ h9 => h9) rfl dX6_result_73 ?_
            refine lv_bipush (v := (nI 100)) hx hb dX6_result_76 (by decide) ?_
            refine lv_icmp_ne (tgt := 84) hx hb dX6_result_78 (by decide) (fun c78 => ?_) (fun c78 => ?_)
            · have c78 : ¬ ec = 100 := fun h => c78 ((nI_eq (by omega) (by omega)).mpr h)
              refine lv_aload_n hx hb dX6_result_84 rfl (lv_at hl 0 rfl) ?_
              refine va_get (D := D) (ci := 6) (v := .int (nI ec)) (C := RX6) (T := TX6) (N := 28) hx hb hts hinW hown hK hP 0 rfl rfl 10 (by decide) (hts _ tw_386) (fun _ h9 => h9) rfl dX6_result_85 ?_
              refine lv_istore (lv' := [(12, .int (nI ec)), (0, .ref (om 0)), (1, .int (nI j7)), (2, .long a), (4, .long d), (6, .long un), (8, .long xr), (10, .long t)]) hx hb dX6_result_88 hl (by decide) rfl (fun ls hl => ?_)
              refine lv_aload_n hx hb dX6_result_90 rfl (lv_at hl 1 rfl) ?_
              refine va_get (D := D) (ci := 6) (v := .ref (om 7)) (C := RX6) (T := TX6) (N := 28) hx hb hts hinW hown hK hP 0 rfl rfl 11 (by decide) (hts _ tw_387) (fun _ h9 => h9) rfl dX6_result_91 ?_
              refine lv_iload hx hb dX6_result_94 (lv_at hl 0 rfl) ?_
              refine lv_iload_n hx hb dX6_result_96 rfl (lv_at hl 2 rfl) ?_
              refine xx_iast (g := (fun z9 => nI ((xu_N ew ec j7) z9))) hx hb hK hP hD hS 7 0 rfl rfl (show ec < 100 by omega) (by decide) (xx_updN ew ec j7) dX6_result_97 (fun H locs hP hD hS => ?_)
              have hP : va_P D vwCl (bM k om (nI 0) tq to wc wl wb wk kk kf ku ec (xu_N ew ec j7) ea ed et ex cc ca cl ch uc ut ub ul uw tt ac as) H := hP
              have hD : va_D A (bM k om (nI 0) tq to wc wl wb wk kk kf ku ec (xu_N ew ec j7) ea ed et ex cc ca cl ch uc ut ub ul uw tt ac as) := hD
              refine lv_aload_n hx hb dX6_result_98 rfl (lv_at hl 1 rfl) ?_
              refine va_get (D := D) (ci := 6) (v := .ref (om 8)) (C := RX6) (T := TX6) (N := 28) hx hb hts hinW hown hK hP 0 rfl rfl 12 (by decide) (hts _ tw_388) (fun _ h9 => h9) rfl dX6_result_99 ?_
              refine lv_iload hx hb dX6_result_102 (lv_at hl 0 rfl) ?_
              refine lv_lload_n hx hb dX6_result_104 rfl (lv_at hl 3 rfl) ?_
              refine xx_last (g := (vp_updL ea ec a)) hx hb hK hP hD hS 8 2 rfl rfl (show ec < 100 by omega) (by decide) rfl dX6_result_105 (fun H locs hP hD hS => ?_)
              have hP : va_P D vwCl (bM k om (nI 0) tq to wc wl wb wk kk kf ku ec (xu_N ew ec j7) (vp_updL ea ec a) ed et ex cc ca cl ch uc ut ub ul uw tt ac as) H := hP
              have hD : va_D A (bM k om (nI 0) tq to wc wl wb wk kk kf ku ec (xu_N ew ec j7) (vp_updL ea ec a) ed et ex cc ca cl ch uc ut ub ul uw tt ac as) := hD
              refine lv_aload_n hx hb dX6_result_106 rfl (lv_at hl 1 rfl) ?_
              refine va_get (D := D) (ci := 6) (v := .ref (om 9)) (C := RX6) (T := TX6) (N := 28) hx hb hts hinW hown hK hP 0 rfl rfl 13 (by decide) (hts _ tw_389) (fun _ h9 => h9) rfl dX6_result_107 ?_
              refine lv_iload hx hb dX6_result_110 (lv_at hl 0 rfl) ?_
              refine lv_lload hx hb dX6_result_112 (lv_at hl 4 rfl) ?_
              refine xx_last (g := (vp_updL ed ec d)) hx hb hK hP hD hS 9 2 rfl rfl (show ec < 100 by omega) (by decide) rfl dX6_result_114 (fun H locs hP hD hS => ?_)
              have hP : va_P D vwCl (bM k om (nI 0) tq to wc wl wb wk kk kf ku ec (xu_N ew ec j7) (vp_updL ea ec a) (vp_updL ed ec d) et ex cc ca cl ch uc ut ub ul uw tt ac as) H := hP
              have hD : va_D A (bM k om (nI 0) tq to wc wl wb wk kk kf ku ec (xu_N ew ec j7) (vp_updL ea ec a) (vp_updL ed ec d) et ex cc ca cl ch uc ut ub ul uw tt ac as) := hD
              refine lv_aload_n hx hb dX6_result_115 rfl (lv_at hl 1 rfl) ?_
              refine va_get (D := D) (ci := 6) (v := .ref (om 10)) (C := RX6) (T := TX6) (N := 28) hx hb hts hinW hown hK hP 0 rfl rfl 14 (by decide) (hts _ tw_390) (fun _ h9 => h9) rfl dX6_result_116 ?_
              refine lv_iload hx hb dX6_result_119 (lv_at hl 0 rfl) ?_
              refine lv_lload hx hb dX6_result_121 (lv_at hl 7 rfl) ?_
              refine xx_last (g := (vp_updL et ec t)) hx hb hK hP hD hS 10 2 rfl rfl (show ec < 100 by omega) (by decide) rfl dX6_result_123 (fun H locs hP hD hS => ?_)
              have hP : va_P D vwCl (bM k om (nI 0) tq to wc wl wb wk kk kf ku ec (xu_N ew ec j7) (vp_updL ea ec a) (vp_updL ed ec d) (vp_updL et ec t) ex cc ca cl ch uc ut ub ul uw tt ac as) H := hP
              have hD : va_D A (bM k om (nI 0) tq to wc wl wb wk kk kf ku ec (xu_N ew ec j7) (vp_updL ea ec a) (vp_updL ed ec d) (vp_updL et ec t) ex cc ca cl ch uc ut ub ul uw tt ac as) := hD
              refine lv_aload_n hx hb dX6_result_124 rfl (lv_at hl 1 rfl) ?_
              refine lv_dup hx hb dX6_result_125 rfl ?_
              refine va_get (D := D) (ci := 6) (v := .int (nI ec)) (C := RX6) (T := TX6) (N := 28) hx hb hts hinW hown hK hP 0 rfl rfl 10 (by decide) (hts _ tw_386) (fun _ h9 => h9) rfl dX6_result_126 ?_
              refine lv_iconst (v := (nI 1)) hx hb dX6_result_129 (by decide) ?_
              refine lv_iadd hx hb dX6_result_130 ?_
              refine xx_topi (nI_add ec 1) ?_
              refine va_put (D := D) (ci := 6) (v := .int (nI (ec + 1))) (ty := .int) (C := RX6) (T := TX6) (N := 28) hx hb hts hinW tyX6 tyX6_ok nmX6 hown hK hP hD hS 0 rfl rfl 10 (by decide) (hts _ tw_386) (fun _ h9 => h9) rfl (by decide +kernel) rfl rfl (Nat.le_of_ble_eq_true rfl) dX6_result_131 (fun H locs hP hD hS => ?_)
              have hP : va_P D vwCl (bM k om (nI 0) tq to wc wl wb wk kk kf ku (ec + 1) (xu_N ew ec j7) (vp_updL ea ec a) (vp_updL ed ec d) (vp_updL et ec t) ex cc ca cl ch uc ut ub ul uw tt ac as) H := hP
              have hD : va_D A (bM k om (nI 0) tq to wc wl wb wk kk kf ku (ec + 1) (xu_N ew ec j7) (vp_updL ea ec a) (vp_updL ed ec d) (vp_updL et ec t) ex cc ca cl ch uc ut ub ul uw tt ac as) := hD
              refine lv_aload_n hx hb dX6_result_134 rfl (lv_at hl 1 rfl) ?_
              refine lv_iload hx hb dX6_result_135 (lv_at hl 0 rfl) ?_
              refine xx_calli ([]) [0, 1, 2, 3, 4, 5, 6, 7, 8, 9, 10, 11, 12, 13, 14, 15, 16, 17, 18, 19] [] (va_runV (As := [.int (nI ec)]) (rest := []) ⟨hx, hb, hml, hown, hts⟩ (c_M_against l D k om (nI 0) tq to wc wl wb wk kk kf ku (ec + 1) (xu_N ew ec j7) (vp_updL ea ec a) (vp_updL ed ec d) (vp_updL et ec t) ex cc ca cl ch uc ut ub ul uw tt ac as ec (by omega) (xx_upd12 hew (by omega)) (by omega) H.size) (cwV 1 hts (xx_gV tw_500 tw_502 ts_7 tw_8 tw_503) rfl rfl rfl (by decide +kernel) ⟨Nat.le_of_ble_eq_true rfl, Nat.le_of_ble_eq_true rfl⟩) (xx_preV hK hN hP hD [0, 1, 2, 3, 4, 5, 6, 7, 8, 9, 10, 11, 12, 13, 14, 15, 16, 17, 18, 19] (by decide) rfl 6 0 rfl rfl) rfl rfl hl.1 rfl (lv_room (Nat.le_of_ble_eq_true rfl)) dX6_result_137 ⟨Nat.le_of_ble_eq_true rfl, Nat.le_of_ble_eq_true rfl⟩) hP hD hS hA rfl rfl (by decide) (by decide) (fun r137 u137 H locs hw137 hP hD hS => ?_)
              have hP : va_P D vwCl (bM k om (nI 0) tq to wc wl wb wk kk kf ku (ec + 1) (xu_N ew ec j7) (vp_updL ea ec a) (vp_updL ed ec d) (vp_updL et ec t) ex cc ca cl ch uc ut ub ul uw tt ac as) H := hP
              have hD : va_D A (bM k om (nI 0) tq to wc wl wb wk kk kf ku (ec + 1) (xu_N ew ec j7) (vp_updL ea ec a) (vp_updL ed ec d) (vp_updL et ec t) ex cc ca cl ch uc ut ub ul uw tt ac as) := hD
              refine lv_istore (lv' := [(13, .int r137), (12, .int (nI ec)), (0, .ref (om 0)), (1, .int (nI j7)), (2, .long a), (4, .long d), (6, .long un), (8, .long xr), (10, .long t)]) hx hb dX6_result_140 hl (by decide) rfl (fun ls hl => ?_)
              refine lv_iload hx hb dX6_result_142 (lv_at hl 0 rfl) ?_
              refine lv_iconst (v := (-1)) hx hb dX6_result_144 (by decide) ?_
              refine lv_icmp_eq (tgt := 198) hx hb dX6_result_145 (by decide) (fun c145 => ?_) (fun c145 => ?_)
              · refine lv_iload hx hb dX6_result_198 (lv_at hl 1 rfl) ?_
                refine xx_iret ((ec + 1, (xu_N ew ec j7), (vp_updL ea ec a), (vp_updL ed ec d), (vp_updL et ec t)), (cc, ca, cl, ch)) hx hb hr hlocks hS hK hP hD dX6_result_200 ?_
                first | exact Or.inr ⟨j7, ⟨hj7, rfl, c19, xx_lnlt c26⟩, Or.inr (Or.inr (Or.inr ⟨rfl, hq49, hq63, (by omega), rfl, r137, hw137, Or.inr ⟨fun h => h.1 c145, rfl⟩⟩))⟩ | exact Or.inr ⟨j7, ⟨hj7, rfl, c19, xx_lnlt c26⟩, Or.inr (Or.inr (Or.inr ⟨rfl, hq49, hq63, (by omega), rfl, r137, hw137, Or.inr ⟨fun h => h.2 hq150, rfl⟩⟩))⟩ | exact Or.inr ⟨j7, ⟨hj7, rfl, c19, xx_lnlt c26⟩, Or.inr (Or.inr (Or.inr ⟨rfl, hq49, hq63, (by omega), rfl, r137, hw137, Or.inl ⟨⟨c145, hq150⟩, rfl⟩⟩))⟩
              · refine lv_aload_n hx hb dX6_result_148 rfl (lv_at hl 2 rfl) ?_
                refine lv_lload_n hx hb dX6_result_149 rfl (lv_at hl 4 rfl) ?_
                refine xx_calli ([]) [0, 1, 2, 3, 4, 5, 6, 7, 8, 9, 10, 11, 12, 13, 14, 15, 16, 17, 18, 19] [] (va_runV (As := [.long a]) (rest := []) ⟨hx, hb, hml, hown, hts⟩ (c_M_isCl l D k om (nI 0) tq to wc wl wb wk kk kf ku (ec + 1) (xu_N ew ec j7) (vp_updL ea ec a) (vp_updL ed ec d) (vp_updL et ec t) ex cc ca cl ch uc ut ub ul uw tt ac as a (by omega) H.size) (cwV 1 hts (xx_gV tw_504 tw_506 ts_8 tw_8 tw_507) rfl rfl rfl (by decide +kernel) ⟨Nat.le_of_ble_eq_true rfl, Nat.le_of_ble_eq_true rfl⟩) (xx_preV hK hN hP hD [0, 1, 2, 3, 4, 5, 6, 7, 8, 9, 10, 11, 12, 13, 14, 15, 16, 17, 18, 19] (by decide) rfl 6 0 rfl rfl) rfl rfl hl.1 rfl (lv_room (Nat.le_of_ble_eq_true rfl)) dX6_result_150 ⟨Nat.le_of_ble_eq_true rfl, Nat.le_of_ble_eq_true rfl⟩) hP hD hS hA rfl rfl (by decide) (by decide) (fun r150 u150 H locs hw150 hP hD hS => ?_)
                rcases hw150 with ⟨rfl, hq150⟩ | ⟨rfl, hq150⟩
                · have hP : va_P D vwCl (bM k om (nI 0) tq to wc wl wb wk kk kf ku (ec + 1) (xu_N ew ec j7) (vp_updL ea ec a) (vp_updL ed ec d) (vp_updL et ec t) ex cc ca cl ch uc ut ub ul uw tt ac as) H := hP
                  have hD : va_D A (bM k om (nI 0) tq to wc wl wb wk kk kf ku (ec + 1) (xu_N ew ec j7) (vp_updL ea ec a) (vp_updL ed ec d) (vp_updL et ec t) ex cc ca cl ch uc ut ub ul uw tt ac as) := hD
                  refine lv_if_ne (tgt := 198) hx hb dX6_result_153 (by decide) (fun _ => ?_) (fun c => absurd c (by decide))
                  refine lv_iload hx hb dX6_result_198 (lv_at hl 1 rfl) ?_
                  refine xx_iret ((ec + 1, (xu_N ew ec j7), (vp_updL ea ec a), (vp_updL ed ec d), (vp_updL et ec t)), (cc, ca, cl, ch)) hx hb hr hlocks hS hK hP hD dX6_result_200 ?_
                  first | exact Or.inr ⟨j7, ⟨hj7, rfl, c19, xx_lnlt c26⟩, Or.inr (Or.inr (Or.inr ⟨rfl, hq49, hq63, (by omega), rfl, r137, hw137, Or.inr ⟨fun h => h.1 c145, rfl⟩⟩))⟩ | exact Or.inr ⟨j7, ⟨hj7, rfl, c19, xx_lnlt c26⟩, Or.inr (Or.inr (Or.inr ⟨rfl, hq49, hq63, (by omega), rfl, r137, hw137, Or.inr ⟨fun h => h.2 hq150, rfl⟩⟩))⟩ | exact Or.inr ⟨j7, ⟨hj7, rfl, c19, xx_lnlt c26⟩, Or.inr (Or.inr (Or.inr ⟨rfl, hq49, hq63, (by omega), rfl, r137, hw137, Or.inl ⟨⟨c145, hq150⟩, rfl⟩⟩))⟩
                · have hP : va_P D vwCl (bM k om (nI 0) tq to wc wl wb wk kk kf ku (ec + 1) (xu_N ew ec j7) (vp_updL ea ec a) (vp_updL ed ec d) (vp_updL et ec t) ex cc ca cl ch uc ut ub ul uw tt ac as) H := hP
                  have hD : va_D A (bM k om (nI 0) tq to wc wl wb wk kk kf ku (ec + 1) (xu_N ew ec j7) (vp_updL ea ec a) (vp_updL ed ec d) (vp_updL et ec t) ex cc ca cl ch uc ut ub ul uw tt ac as) := hD
                  refine lv_if_ne (tgt := 198) hx hb dX6_result_153 (by decide) (fun c => absurd c (by decide)) (fun _ => ?_)
                  refine lv_aload_n hx hb dX6_result_156 rfl (lv_at hl 2 rfl) ?_
                  refine va_get (D := D) (ci := 6) (v := .ref (om 12)) (C := RX6) (T := TX6) (N := 28) hx hb hts hinW hown hK hP 0 rfl rfl 17 (by decide) (hts _ tw_393) (fun _ h9 => h9) rfl dX6_result_157 ?_
                  refine lv_aload_n hx hb dX6_result_160 rfl (lv_at hl 2 rfl) ?_
                  refine va_get (D := D) (ci := 6) (v := .int (nI cc)) (C := RX6) (T := TX6) (N := 28) hx hb hts hinW hown hK hP 0 rfl rfl 16 (by decide) (hts _ tw_392) (fun _ h9 => h9) rfl dX6_result_161 ?_
                  refine lv_lload_n hx hb dX6_result_164 rfl (lv_at hl 4 rfl) ?_
                  refine xx_last (g := (vp_updL ca cc a)) hx hb hK hP hD hS 12 2 rfl rfl (show cc < 100 by omega) (by decide) rfl dX6_result_165 (fun H locs hP hD hS => ?_)
                  have hP : va_P D vwCl (bM k om (nI 0) tq to wc wl wb wk kk kf ku (ec + 1) (xu_N ew ec j7) (vp_updL ea ec a) (vp_updL ed ec d) (vp_updL et ec t) ex cc (vp_updL ca cc a) cl ch uc ut ub ul uw tt ac as) H := hP
                  have hD : va_D A (bM k om (nI 0) tq to wc wl wb wk kk kf ku (ec + 1) (xu_N ew ec j7) (vp_updL ea ec a) (vp_updL ed ec d) (vp_updL et ec t) ex cc (vp_updL ca cc a) cl ch uc ut ub ul uw tt ac as) := hD
                  refine lv_aload_n hx hb dX6_result_166 rfl (lv_at hl 2 rfl) ?_
                  refine va_get (D := D) (ci := 6) (v := .ref (om 13)) (C := RX6) (T := TX6) (N := 28) hx hb hts hinW hown hK hP 0 rfl rfl 18 (by decide) (hts _ tw_394) (fun _ h9 => h9) rfl dX6_result_167 ?_
                  refine lv_aload_n hx hb dX6_result_170 rfl (lv_at hl 2 rfl) ?_
                  refine va_get (D := D) (ci := 6) (v := .int (nI cc)) (C := RX6) (T := TX6) (N := 28) hx hb hts hinW hown hK hP 0 rfl rfl 16 (by decide) (hts _ tw_392) (fun _ h9 => h9) rfl dX6_result_171 ?_
                  refine lv_iload hx hb dX6_result_174 (lv_at hl 0 rfl) ?_
                  refine xx_iast (g := (upd cl cc r137)) hx hb hK hP hD hS 13 0 rfl rfl (show cc < 100 by omega) (by decide) rfl dX6_result_176 (fun H locs hP hD hS => ?_)
                  have hP : va_P D vwCl (bM k om (nI 0) tq to wc wl wb wk kk kf ku (ec + 1) (xu_N ew ec j7) (vp_updL ea ec a) (vp_updL ed ec d) (vp_updL et ec t) ex cc (vp_updL ca cc a) (upd cl cc r137) ch uc ut ub ul uw tt ac as) H := hP
                  have hD : va_D A (bM k om (nI 0) tq to wc wl wb wk kk kf ku (ec + 1) (xu_N ew ec j7) (vp_updL ea ec a) (vp_updL ed ec d) (vp_updL et ec t) ex cc (vp_updL ca cc a) (upd cl cc r137) ch uc ut ub ul uw tt ac as) := hD
                  refine lv_aload_n hx hb dX6_result_177 rfl (lv_at hl 2 rfl) ?_
                  refine va_get (D := D) (ci := 6) (v := .ref (om 14)) (C := RX6) (T := TX6) (N := 28) hx hb hts hinW hown hK hP 0 rfl rfl 19 (by decide) (hts _ tw_395) (fun _ h9 => h9) rfl dX6_result_178 ?_
                  refine lv_aload_n hx hb dX6_result_181 rfl (lv_at hl 2 rfl) ?_
                  refine va_get (D := D) (ci := 6) (v := .int (nI cc)) (C := RX6) (T := TX6) (N := 28) hx hb hts hinW hown hK hP 0 rfl rfl 16 (by decide) (hts _ tw_392) (fun _ h9 => h9) rfl dX6_result_182 ?_
                  refine lv_iload hx hb dX6_result_185 (lv_at hl 1 rfl) ?_
                  refine xx_iast (g := (upd ch cc (nI ec))) hx hb hK hP hD hS 14 0 rfl rfl (show cc < 100 by omega) (by decide) rfl dX6_result_187 (fun H locs hP hD hS => ?_)
                  have hP : va_P D vwCl (bM k om (nI 0) tq to wc wl wb wk kk kf ku (ec + 1) (xu_N ew ec j7) (vp_updL ea ec a) (vp_updL ed ec d) (vp_updL et ec t) ex cc (vp_updL ca cc a) (upd cl cc r137) (upd ch cc (nI ec)) uc ut ub ul uw tt ac as) H := hP
                  have hD : va_D A (bM k om (nI 0) tq to wc wl wb wk kk kf ku (ec + 1) (xu_N ew ec j7) (vp_updL ea ec a) (vp_updL ed ec d) (vp_updL et ec t) ex cc (vp_updL ca cc a) (upd cl cc r137) (upd ch cc (nI ec)) uc ut ub ul uw tt ac as) := hD
                  refine lv_aload_n hx hb dX6_result_188 rfl (lv_at hl 2 rfl) ?_
                  refine lv_dup hx hb dX6_result_189 rfl ?_
                  refine va_get (D := D) (ci := 6) (v := .int (nI cc)) (C := RX6) (T := TX6) (N := 28) hx hb hts hinW hown hK hP 0 rfl rfl 16 (by decide) (hts _ tw_392) (fun _ h9 => h9) rfl dX6_result_190 ?_
                  refine lv_iconst (v := (nI 1)) hx hb dX6_result_193 (by decide) ?_
                  refine lv_iadd hx hb dX6_result_194 ?_
                  refine xx_topi (nI_add cc 1) ?_
                  refine va_put (D := D) (ci := 6) (v := .int (nI (cc + 1))) (ty := .int) (C := RX6) (T := TX6) (N := 28) hx hb hts hinW tyX6 tyX6_ok nmX6 hown hK hP hD hS 0 rfl rfl 16 (by decide) (hts _ tw_392) (fun _ h9 => h9) rfl (by decide +kernel) rfl rfl (Nat.le_of_ble_eq_true rfl) dX6_result_195 (fun H locs hP hD hS => ?_)
                  have hP : va_P D vwCl (bM k om (nI 0) tq to wc wl wb wk kk kf ku (ec + 1) (xu_N ew ec j7) (vp_updL ea ec a) (vp_updL ed ec d) (vp_updL et ec t) ex (cc + 1) (vp_updL ca cc a) (upd cl cc r137) (upd ch cc (nI ec)) uc ut ub ul uw tt ac as) H := hP
                  have hD : va_D A (bM k om (nI 0) tq to wc wl wb wk kk kf ku (ec + 1) (xu_N ew ec j7) (vp_updL ea ec a) (vp_updL ed ec d) (vp_updL et ec t) ex (cc + 1) (vp_updL ca cc a) (upd cl cc r137) (upd ch cc (nI ec)) uc ut ub ul uw tt ac as) := hD
                  refine lv_iload hx hb dX6_result_198 (lv_at hl 1 rfl) ?_
                  refine xx_iret ((ec + 1, (xu_N ew ec j7), (vp_updL ea ec a), (vp_updL ed ec d), (vp_updL et ec t)), (cc + 1, (vp_updL ca cc a), (upd cl cc r137), (upd ch cc (nI ec)))) hx hb hr hlocks hS hK hP hD dX6_result_200 ?_
                  first | exact Or.inr ⟨j7, ⟨hj7, rfl, c19, xx_lnlt c26⟩, Or.inr (Or.inr (Or.inr ⟨rfl, hq49, hq63, (by omega), rfl, r137, hw137, Or.inr ⟨fun h => h.1 c145, rfl⟩⟩))⟩ | exact Or.inr ⟨j7, ⟨hj7, rfl, c19, xx_lnlt c26⟩, Or.inr (Or.inr (Or.inr ⟨rfl, hq49, hq63, (by omega), rfl, r137, hw137, Or.inr ⟨fun h => h.2 hq150, rfl⟩⟩))⟩ | exact Or.inr ⟨j7, ⟨hj7, rfl, c19, xx_lnlt c26⟩, Or.inr (Or.inr (Or.inr ⟨rfl, hq49, hq63, (by omega), rfl, r137, hw137, Or.inl ⟨⟨c145, hq150⟩, rfl⟩⟩))⟩
            · have c78 : ec = 100 := (nI_eq (by omega) (by omega)).mp c78
              refine lv_bipush (v := (-4)) hx hb dX6_result_81 (by decide) ?_
              refine xx_iret ((ec, ew, ea, ed, et), (cc, ca, cl, ch)) hx hb hr hlocks hS hK hP hD dX6_result_83 ?_
              exact Or.inr ⟨j7, ⟨hj7, rfl, c19, xx_lnlt c26⟩, Or.inr (Or.inr (Or.inl ⟨rfl, hq49, hq63, (by omega), rfl⟩))⟩
        · have hP : va_P D vwCl (bM k om (nI 0) tq to wc wl wb wk kk kf ku ec ew ea ed et ex cc ca cl ch uc ut ub ul uw tt ac as) H := hP
          have hD : va_D A (bM k om (nI 0) tq to wc wl wb wk kk kf ku ec ew ea ed et ex cc ca cl ch uc ut ub ul uw tt ac as) := hD
          refine lv_if_ne (tgt := 58) hx hb dX6_result_52 (by decide) (fun c => absurd c (by decide)) (fun _ => ?_)
          refine lv_bipush (v := (-2)) hx hb dX6_result_55 (by decide) ?_
          refine xx_iret ((ec, ew, ea, ed, et), (cc, ca, cl, ch)) hx hb hr hlocks hS hK hP hD dX6_result_57 ?_
          exact Or.inr ⟨j7, ⟨hj7, rfl, c19, xx_lnlt c26⟩, Or.inl ⟨rfl, hq49, rfl⟩⟩
      · have c26 : ¬ (0 ≤ t) := fun h => c26 ((lg_cmp_ge t 0).mpr h)
        refine lv_iconst (v := (-1)) hx hb dX6_result_29 (by decide) ?_
        refine xx_iret ((ec, ew, ea, ed, et), (cc, ca, cl, ch)) hx hb hr hlocks hS hK hP hD dX6_result_30 ?_
        first | exact Or.inl ⟨rfl, Or.inl (xx_none hq7), rfl⟩ | exact Or.inl ⟨rfl, Or.inl (xx_one (P := fun j => wb j = false) (by omega) hj7 (fun h => xx_tf c19 h)), rfl⟩ | exact Or.inl ⟨rfl, Or.inr (xx_lnle c26), rfl⟩
  · have hP : va_P D vwCl (bM k om (nI 0) tq to wc wl wb wk kk kf ku ec ew ea ed et ex cc ca cl ch uc ut ub ul uw tt ac as) H := hP
    have hD : va_D A (bM k om (nI 0) tq to wc wl wb wk kk kf ku ec ew ea ed et ex cc ca cl ch uc ut ub ul uw tt ac as) := hD
    refine lv_if_eq (tgt := 29) hx hb dX6_result_10 (by decide) (fun _ => ?_) (fun c => absurd c (by decide))
    refine lv_iconst (v := (-1)) hx hb dX6_result_29 (by decide) ?_
    refine xx_iret ((ec, ew, ea, ed, et), (cc, ca, cl, ch)) hx hb hr hlocks hS hK hP hD dX6_result_30 ?_
    first | exact Or.inl ⟨rfl, Or.inl (xx_none hq7), rfl⟩ | exact Or.inl ⟨rfl, Or.inl (xx_one (P := fun j => wb j = false) (by omega) hj7 (fun h => xx_tf c19 h)), rfl⟩ | exact Or.inl ⟨rfl, Or.inr (xx_lnle c26), rfl⟩
