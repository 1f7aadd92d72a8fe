theorem dX5_counted_0 : decode cX5_counted 0 = .ok (.iload_n 3, 1) := by decide +kernel
theorem dX5_counted_1 : decode cX5_counted 1 = .ok (.invokestatic 112, 3) := by decide +kernel
theorem dX5_counted_4 : decode cX5_counted 4 = .ok (.ifCond .eq 11, 3) := by decide +kernel
theorem dX5_counted_7 : decode cX5_counted 7 = .ok (.iload 4, 2) := by decide +kernel
theorem dX5_counted_9 : decode cX5_counted 9 = .ok (.invokestatic 112, 3) := by decide +kernel
theorem dX5_counted_12 : decode cX5_counted 12 = .ok (.ifCond .ne 5, 3) := by decide +kernel
theorem dX5_counted_15 : decode cX5_counted 15 = .ok (.iconst (-1), 1) := by decide +kernel
theorem dX5_counted_16 : decode cX5_counted 16 = .ok (.ireturn, 1) := by decide +kernel
theorem dX5_counted_17 : decode cX5_counted 17 = .ok (.aload_n 0, 1) := by decide +kernel
theorem dX5_counted_18 : decode cX5_counted 18 = .ok (.getfield 46, 3) := by decide +kernel
theorem dX5_counted_21 : decode cX5_counted 21 = .ok (.aload_n 0, 1) := by decide +kernel
theorem dX5_counted_22 : decode cX5_counted 22 = .ok (.getfield 46, 3) := by decide +kernel
theorem dX5_counted_25 : decode cX5_counted 25 = .ok (.iload_n 3, 1) := by decide +kernel
theorem dX5_counted_26 : decode cX5_counted 26 = .ok (.iload 4, 2) := by decide +kernel
theorem dX5_counted_28 : decode cX5_counted 28 = .ok (.invokevirtual 115, 3) := by decide +kernel
theorem dX5_counted_31 : decode cX5_counted 31 = .ok (.invokevirtual 133, 3) := by decide +kernel
theorem dX5_counted_34 : decode cX5_counted 34 = .ok (.istore 7, 2) := by decide +kernel
theorem dX5_counted_36 : decode cX5_counted 36 = .ok (.aload_n 0, 1) := by decide +kernel
theorem dX5_counted_37 : decode cX5_counted 37 = .ok (.getfield 32, 3) := by decide +kernel
theorem dX5_counted_40 : decode cX5_counted 40 = .ok (.lload_n 1, 1) := by decide +kernel
theorem dX5_counted_41 : decode cX5_counted 41 = .ok (.iload 7, 2) := by decide +kernel
theorem dX5_counted_43 : decode cX5_counted 43 = .ok (.lload 5, 2) := by decide +kernel
theorem dX5_counted_45 : decode cX5_counted 45 = .ok (.invokevirtual 134, 3) := by decide +kernel
theorem dX5_counted_48 : decode cX5_counted 48 = .ok (.ireturn, 1) := by decide +kernel
theorem dX5_take_0 : decode cX5_take 0 = .ok (.iload_n 3, 1) := by decide +kernel
theorem dX5_take_1 : decode cX5_take 1 = .ok (.invokestatic 112, 3) := by decide +kernel
theorem dX5_take_4 : decode cX5_take 4 = .ok (.ifCond .eq 18, 3) := by decide +kernel
theorem dX5_take_7 : decode cX5_take 7 = .ok (.iload 4, 2) := by decide +kernel
theorem dX5_take_9 : decode cX5_take 9 = .ok (.invokestatic 112, 3) := by decide +kernel
theorem dX5_take_12 : decode cX5_take 12 = .ok (.ifCond .eq 10, 3) := by decide +kernel
theorem dX5_take_15 : decode cX5_take 15 = .ok (.lload 5, 2) := by decide +kernel
theorem dX5_take_17 : decode cX5_take 17 = .ok (.lconst 0, 1) := by decide +kernel
theorem dX5_take_18 : decode cX5_take 18 = .ok (.lcmp, 1) := by decide +kernel
theorem dX5_take_19 : decode cX5_take 19 = .ok (.ifCond .ge 6, 3) := by decide +kernel
theorem dX5_take_22 : decode cX5_take 22 = .ok (.bipush (-2), 2) := by decide +kernel
theorem dX5_take_24 : decode cX5_take 24 = .ok (.ireturn, 1) := by decide +kernel
theorem dX5_take_25 : decode cX5_take 25 = .ok (.aload_n 0, 1) := by decide +kernel
theorem dX5_take_26 : decode cX5_take 26 = .ok (.getfield 46, 3) := by decide +kernel
theorem dX5_take_29 : decode cX5_take 29 = .ok (.iload_n 3, 1) := by decide +kernel
theorem dX5_take_30 : decode cX5_take 30 = .ok (.iload 4, 2) := by decide +kernel
theorem dX5_take_32 : decode cX5_take 32 = .ok (.invokevirtual 115, 3) := by decide +kernel
theorem dX5_take_35 : decode cX5_take 35 = .ok (.istore 7, 2) := by decide +kernel
theorem dX5_take_37 : decode cX5_take 37 = .ok (.aload_n 0, 1) := by decide +kernel
theorem dX5_take_38 : decode cX5_take 38 = .ok (.getfield 57, 3) := by decide +kernel
theorem dX5_take_41 : decode cX5_take 41 = .ok (.ifCond .eq 16, 3) := by decide +kernel
theorem dX5_take_44 : decode cX5_take 44 = .ok (.aload_n 0, 1) := by decide +kernel
theorem dX5_take_45 : decode cX5_take 45 = .ok (.getfield 32, 3) := by decide +kernel
theorem dX5_take_48 : decode cX5_take 48 = .ok (.lload_n 1, 1) := by decide +kernel
theorem dX5_take_49 : decode cX5_take 49 = .ok (.lload 5, 2) := by decide +kernel
theorem dX5_take_51 : decode cX5_take 51 = .ok (.invokevirtual 118, 3) := by decide +kernel
theorem dX5_take_54 : decode cX5_take 54 = .ok (.goto 4, 3) := by decide +kernel
theorem dX5_take_57 : decode cX5_take 57 = .ok (.iconst (-1), 1) := by decide +kernel
theorem dX5_take_58 : decode cX5_take 58 = .ok (.istore 8, 2) := by decide +kernel
theorem dX5_take_60 : decode cX5_take 60 = .ok (.iload 8, 2) := by decide +kernel
theorem dX5_take_62 : decode cX5_take 62 = .ok (.iconst (-1), 1) := by decide +kernel
theorem dX5_take_63 : decode cX5_take 63 = .ok (.if_icmp .eq 33, 3) := by decide +kernel
theorem dX5_take_66 : decode cX5_take 66 = .ok (.aload_n 0, 1) := by decide +kernel
theorem dX5_take_67 : decode cX5_take 67 = .ok (.getfield 53, 3) := by decide +kernel
theorem dX5_take_70 : decode cX5_take 70 = .ok (.iload_n 3, 1) := by decide +kernel
theorem dX5_take_71 : decode cX5_take 71 = .ok (.iload 4, 2) := by decide +kernel
theorem dX5_take_73 : decode cX5_take 73 = .ok (.iload 7, 2) := by decide +kernel
theorem dX5_take_75 : decode cX5_take 75 = .ok (.iconst 0, 1) := by decide +kernel
theorem dX5_take_76 : decode cX5_take 76 = .ok (.iload 8, 2) := by decide +kernel
theorem dX5_take_78 : decode cX5_take 78 = .ok (.invokevirtual 122, 3) := by decide +kernel
theorem dX5_take_81 : decode cX5_take 81 = .ok (.aload_n 0, 1) := by decide +kernel
theorem dX5_take_82 : decode cX5_take 82 = .ok (.aload_n 0, 1) := by decide +kernel
theorem dX5_take_83 : decode cX5_take 83 = .ok (.getfield 32, 3) := by decide +kernel
theorem dX5_take_86 : decode cX5_take 86 = .ok (.iload 8, 2) := by decide +kernel
theorem dX5_take_88 : decode cX5_take 88 = .ok (.invokevirtual 125, 3) := by decide +kernel
theorem dX5_take_91 : decode cX5_take 91 = .ok (.putfield 61, 3) := by decide +kernel
theorem dX5_take_94 : decode cX5_take 94 = .ok (.iconst 2, 1) := by decide +kernel
theorem dX5_take_95 : decode cX5_take 95 = .ok (.ireturn, 1) := by decide +kernel
theorem dX5_take_96 : decode cX5_take 96 = .ok (.aload_n 0, 1) := by decide +kernel
theorem dX5_take_97 : decode cX5_take 97 = .ok (.getfield 39, 3) := by decide +kernel
theorem dX5_take_100 : decode cX5_take 100 = .ok (.lload_n 1, 1) := by decide +kernel
theorem dX5_take_101 : decode cX5_take 101 = .ok (.invokevirtual 129, 3) := by decide +kernel
theorem dX5_take_104 : decode cX5_take 104 = .ok (.ifCond .eq 5, 3) := by decide +kernel
theorem dX5_take_107 : decode cX5_take 107 = .ok (.iconst 0, 1) := by decide +kernel
theorem dX5_take_108 : decode cX5_take 108 = .ok (.ireturn, 1) := by decide +kernel
theorem dX5_take_109 : decode cX5_take 109 = .ok (.aload_n 0, 1) := by decide +kernel
theorem dX5_take_110 : decode cX5_take 110 = .ok (.getfield 46, 3) := by decide +kernel
theorem dX5_take_113 : decode cX5_take 113 = .ok (.iload 7, 2) := by decide +kernel
theorem dX5_take_115 : decode cX5_take 115 = .ok (.invokevirtual 133, 3) := by decide +kernel
theorem dX5_take_118 : decode cX5_take 118 = .ok (.istore 9, 2) := by decide +kernel
theorem dX5_take_120 : decode cX5_take 120 = .ok (.aload_n 0, 1) := by decide +kernel
theorem dX5_take_121 : decode cX5_take 121 = .ok (.getfield 32, 3) := by decide +kernel
theorem dX5_take_124 : decode cX5_take 124 = .ok (.lload_n 1, 1) := by decide +kernel
theorem dX5_take_125 : decode cX5_take 125 = .ok (.iload 9, 2) := by decide +kernel
theorem dX5_take_127 : decode cX5_take 127 = .ok (.lload 5, 2) := by decide +kernel
theorem dX5_take_129 : decode cX5_take 129 = .ok (.invokevirtual 134, 3) := by decide +kernel
theorem dX5_take_132 : decode cX5_take 132 = .ok (.istore 10, 2) := by decide +kernel
theorem dX5_take_134 : decode cX5_take 134 = .ok (.iload 10, 2) := by decide +kernel
theorem dX5_take_136 : decode cX5_take 136 = .ok (.aload_n 0, 1) := by decide +kernel
theorem dX5_take_137 : decode cX5_take 137 = .ok (.getfield 46, 3) := by decide +kernel
theorem dX5_take_140 : decode cX5_take 140 = .ok (.iload 7, 2) := by decide +kernel
theorem dX5_take_142 : decode cX5_take 142 = .ok (.aload_n 0, 1) := by decide +kernel
theorem dX5_take_143 : decode cX5_take 143 = .ok (.getfield 18, 3) := by decide +kernel
theorem dX5_take_146 : decode cX5_take 146 = .ok (.invokevirtual 138, 3) := by decide +kernel
theorem dX5_take_149 : decode cX5_take 149 = .ok (.if_icmp .lt 18, 3) := by decide +kernel
theorem dX5_take_152 : decode cX5_take 152 = .ok (.aload_n 0, 1) := by decide +kernel
theorem dX5_take_153 : decode cX5_take 153 = .ok (.getfield 32, 3) := by decide +kernel
theorem dX5_take_156 : decode cX5_take 156 = .ok (.lload_n 1, 1) := by decide +kernel
theorem dX5_take_157 : decode cX5_take 157 = .ok (.iload 9, 2) := by decide +kernel
theorem dX5_take_159 : decode cX5_take 159 = .ok (.lload 5, 2) := by decide +kernel
theorem dX5_take_161 : decode cX5_take 161 = .ok (.invokevirtual 141, 3) := by decide +kernel
theorem dX5_take_164 : decode cX5_take 164 = .ok (.ifCond .ne 5, 3) := by decide +kernel
theorem dX5_take_167 : decode cX5_take 167 = .ok (.iconst (-1), 1) := by decide +kernel
theorem dX5_take_168 : decode cX5_take 168 = .ok (.ireturn, 1) := by decide +kernel
theorem dX5_take_169 : decode cX5_take 169 = .ok (.aload_n 0, 1) := by decide +kernel
theorem dX5_take_170 : decode cX5_take 170 = .ok (.getfield 32, 3) := by decide +kernel
theorem dX5_take_173 : decode cX5_take 173 = .ok (.lload_n 1, 1) := by decide +kernel
theorem dX5_take_174 : decode cX5_take 174 = .ok (.iload 9, 2) := by decide +kernel
theorem dX5_take_176 : decode cX5_take 176 = .ok (.lload 5, 2) := by decide +kernel
theorem dX5_take_178 : decode cX5_take 178 = .ok (.invokevirtual 145, 3) := by decide +kernel
theorem dX5_take_181 : decode cX5_take 181 = .ok (.istore 11, 2) := by decide +kernel
theorem dX5_take_183 : decode cX5_take 183 = .ok (.aload_n 0, 1) := by decide +kernel
theorem dX5_take_184 : decode cX5_take 184 = .ok (.getfield 53, 3) := by decide +kernel
theorem dX5_take_187 : decode cX5_take 187 = .ok (.iload_n 3, 1) := by decide +kernel
theorem dX5_take_188 : decode cX5_take 188 = .ok (.iload 4, 2) := by decide +kernel
theorem dX5_take_190 : decode cX5_take 190 = .ok (.iload 7, 2) := by decide +kernel
theorem dX5_take_192 : decode cX5_take 192 = .ok (.iload 10, 2) := by decide +kernel
theorem dX5_take_194 : decode cX5_take 194 = .ok (.iload 11, 2) := by decide +kernel
theorem dX5_take_196 : decode cX5_take 196 = .ok (.invokevirtual 122, 3) := by decide +kernel
theorem dX5_take_199 : decode cX5_take 199 = .ok (.aload_n 0, 1) := by decide +kernel
theorem dX5_take_200 : decode cX5_take 200 = .ok (.aload_n 0, 1) := by decide +kernel
theorem dX5_take_201 : decode cX5_take 201 = .ok (.getfield 32, 3) := by decide +kernel
theorem dX5_take_204 : decode cX5_take 204 = .ok (.iload 11, 2) := by decide +kernel
theorem dX5_take_206 : decode cX5_take 206 = .ok (.invokevirtual 125, 3) := by decide +kernel
theorem dX5_take_209 : decode cX5_take 209 = .ok (.putfield 61, 3) := by decide +kernel
theorem dX5_take_212 : decode cX5_take 212 = .ok (.iconst 1, 1) := by decide +kernel
theorem dX5_take_213 : decode cX5_take 213 = .ok (.ireturn, 1) := by decide +kernel
def p_T_counted (ot : Nat) (tq : Int32) (ow : Nat → Nat) (oe : Nat → Nat) (oc : Nat → Nat) (ou : Nat → Nat) (oa : Nat → Nat) (to : Bool) (tt : Int64) (ec : Nat) (ew : Nat → Nat) (el : Nat → Int32) (ea : Nat → Int64) (ed : Nat → Int64) (et : Nat → Int64) (ex : Nat → Bool) (uc : Nat) (ut : Nat → Int32) (ub : Nat → Int32) (ul : Nat → Int32) (uw : Nat → Int32) (a : Int64) (t : Int32) (b : Int32) (tm : Int64) : Int32 → Unit → Prop := fun r u => (r = (-1) ∧ ¬ (ixN 8 t ∧ ixN 8 b)) ∨ ((ixN 8 t ∧ ixN 8 b) ∧ ∃ q lv, p_U_best ou uc ut ub ul uw t b q () ∧ p_U_level ou uc ut ub ul uw q lv () ∧ r = xs_pop (xs_seen (fun j => decide (ex j = false ∧ ea j = a ∧ ¬ (el j < lv) ∧ ¬ (tm < et j))) ew ec))
set_option maxHeartbeats 4000000 in
set_option maxRecDepth 100000 in
theorem c_T_counted (l : Launch) (D : va_G) (k : Nat → ClassId) (ot : Nat) (tq : Int32) (ow : Nat → Nat) (oe : Nat → Nat) (oc : Nat → Nat) (ou : Nat → Nat) (oa : Nat → Nat) (to : Bool) (tt : Int64) (ec : Nat) (ew : Nat → Nat) (el : Nat → Int32) (ea : Nat → Int64) (ed : Nat → Int64) (et : Nat → Int64) (ex : Nat → Bool) (uc : Nat) (ut : Nat → Int32) (ub : Nat → Int32) (ul : Nat → Int32) (uw : Nat → Int32) (a : Int64) (t : Int32) (b : Int32) (tm : Int64) (hec : ec ≤ 100) (hew : ∀ i, ew i < 12) (huc : uc ≤ 20) : xx_Ci l yX5_counted (.code yX5_counted cX5_counted 8 (some .int) :: xall) ({ frames := 3, cells := 0, slots := 0, locals := 74 } : Room) D vwCl (xT k) [.ref ot, .long a, .int t, .int b, .long tm] ((bT k ot tq ow oe oc ou oa to tt) ++ (bE k oe ec ew el ea ed et ex) ++ (bU k ou uc ut ub ul uw)) (p_T_counted ot tq ow oe oc ou oa to tt ec ew el ea ed et ex uc ut ub ul uw a t b tm) (fun (u : Unit) => (bT k ot tq ow oe oc ou oa to tt) ++ (bE k oe ec ew el ea ed et ex) ++ (bU k ou uc ut ub ul uw)) 0 0 := by
  intro sz
  refine xx_met (Qf := fun A => va_Qi (p_T_counted ot tq ow oe oc ou oa to tt ec ew el ea ed et ex uc ut ub ul uw a t b tm) (xx_B D vwCl (xT k) A (fun (u : Unit) => (bT k ot tq ow oe oc ou oa to tt) ++ (bE k oe ec ew el ea ed et ex) ++ (bU k ou uc ut ub ul uw))) A) (cc := cX5_counted) (maxL := 8) (ret := (some .int)) (by decide) rfl (Nat.le_of_ble_eq_true rfl) ?_
  intro p e s m below meth c A ls hx hb hr hts hown hlocks hin hml hA hS hP hD hK hN hl
  have hl : lv_has ls 8 [(0, .ref ot), (1, .long a), (3, .int t), (4, .int b), (5, .long tm)] := hl
  have hown : s.vm.findClass RX5 = some m.cls := hown
  have hinW := inX5
  refine lv_iload_n hx hb dX5_counted_0 rfl (lv_at hl 2 rfl) ?_
  refine xx_calli ((bT k ot tq ow oe oc ou oa to tt) ++ (bE k oe ec ew el ea ed et ex) ++ (bU k ou uc ut ub ul uw)) [] [0, 1, 2, 3, 4, 5, 6, 7, 8, 9, 10, 11, 12] (va_runS (As := [.int t]) (rest := []) ⟨hx, hb, hml, hown, hts⟩ (c_isPlace l D k t s.heap.size) (va_cwS 1 hts (xx_gS tw_271 tw_272 tw_1 tw_273) rfl rfl rfl (by decide +kernel) ⟨Nat.le_of_ble_eq_true rfl, Nat.le_of_ble_eq_true rfl⟩) (xx_preS hK hN hP hD [] (by decide) rfl) rfl rfl hl.1 rfl (lv_room (Nat.le_of_ble_eq_true rfl)) dX5_counted_1 ⟨Nat.le_of_ble_eq_true rfl, Nat.le_of_ble_eq_true rfl⟩) hP hD hS hA rfl rfl (by decide) (by decide) (fun r1 u1 H locs hw1 hP hD hS => ?_)
  rcases hw1 with ⟨rfl, hq1⟩ | ⟨rfl, hq1⟩
  · have hP : va_P D vwCl ((bT k ot tq ow oe oc ou oa to tt) ++ (bE k oe ec ew el ea ed et ex) ++ (bU k ou uc ut ub ul uw)) H := hP
    have hD : va_D A ((bT k ot tq ow oe oc ou oa to tt) ++ (bE k oe ec ew el ea ed et ex) ++ (bU k ou uc ut ub ul uw)) := hD
    refine lv_if_eq (tgt := 15) hx hb dX5_counted_4 (by decide) (fun c => absurd c (by decide)) (fun _ => ?_)
    refine lv_iload hx hb dX5_counted_7 (lv_at hl 3 rfl) ?_
    refine xx_calli ((bT k ot tq ow oe oc ou oa to tt) ++ (bE k oe ec ew el ea ed et ex) ++ (bU k ou uc ut ub ul uw)) [] [0, 1, 2, 3, 4, 5, 6, 7, 8, 9, 10, 11, 12] (va_runS (As := [.int b]) (rest := []) ⟨hx, hb, hml, hown, hts⟩ (c_isPlace l D k b H.size) (va_cwS 1 hts (xx_gS tw_271 tw_272 tw_1 tw_273) rfl rfl rfl (by decide +kernel) ⟨Nat.le_of_ble_eq_true rfl, Nat.le_of_ble_eq_true rfl⟩) (xx_preS hK hN hP hD [] (by decide) rfl) rfl rfl hl.1 rfl (lv_room (Nat.le_of_ble_eq_true rfl)) dX5_counted_9 ⟨Nat.le_of_ble_eq_true rfl, Nat.le_of_ble_eq_true rfl⟩) hP hD hS hA rfl rfl (by decide) (by decide) (fun r9 u9 H locs hw9 hP hD hS => ?_)
    rcases hw9 with ⟨rfl, hq9⟩ | ⟨rfl, hq9⟩
    · have hP : va_P D vwCl ((bT k ot tq ow oe oc ou oa to tt) ++ (bE k oe ec ew el ea ed et ex) ++ (bU k ou uc ut ub ul uw)) H := hP
      have hD : va_D A ((bT k ot tq ow oe oc ou oa to tt) ++ (bE k oe ec ew el ea ed et ex) ++ (bU k ou uc ut ub ul uw)) := hD
      refine lv_if_ne (tgt := 17) hx hb dX5_counted_12 (by decide) (fun _ => ?_) (fun c => absurd c (by decide))
      refine lv_aload_n hx hb dX5_counted_17 rfl (lv_at hl 0 rfl) ?_
      refine va_get (D := D) (ci := 5) (v := .ref (ou 0)) (C := RX5) (T := TX5) (N := 8) hx hb hts hinW hown hK hP 0 rfl rfl 4 (by decide) (hts _ tw_141) (fun _ h9 => h9) rfl dX5_counted_18 ?_
      refine lv_aload_n hx hb dX5_counted_21 rfl (lv_at hl 0 rfl) ?_
      refine va_get (D := D) (ci := 5) (v := .ref (ou 0)) (C := RX5) (T := TX5) (N := 8) hx hb hts hinW hown hK hP 0 rfl rfl 4 (by decide) (hts _ tw_141) (fun _ h9 => h9) rfl dX5_counted_22 ?_
      refine lv_iload_n hx hb dX5_counted_25 rfl (lv_at hl 2 rfl) ?_
      refine lv_iload hx hb dX5_counted_26 (lv_at hl 3 rfl) ?_
      refine xx_calli ((bT k ot tq ow oe oc ou oa to tt) ++ (bE k oe ec ew el ea ed et ex)) [8, 9, 10, 11, 12] [0, 1, 2, 3, 4, 5, 6, 7] (va_runV (As := [.int t, .int b]) (rest := [.ref (ou 0)]) ⟨hx, hb, hml, hown, hts⟩ (c_U_best l D k ou uc ut ub ul uw t b (by omega) H.size) (cwV 2 hts (xx_gV tw_279 tw_280 tw_281 tw_6 tw_282) rfl rfl rfl (by decide +kernel) ⟨Nat.le_of_ble_eq_true rfl, Nat.le_of_ble_eq_true rfl⟩) (xx_preV hK hN hP hD [8, 9, 10, 11, 12] (by decide) rfl 3 8 rfl rfl) rfl rfl hl.1 rfl (lv_room (Nat.le_of_ble_eq_true rfl)) dX5_counted_28 ⟨Nat.le_of_ble_eq_true rfl, Nat.le_of_ble_eq_true rfl⟩) hP hD hS hA rfl rfl (by decide) (by decide) (fun r28 u28 H locs hw28 hP hD hS => ?_)
      have hP : va_P D vwCl ((bT k ot tq ow oe oc ou oa to tt) ++ (bE k oe ec ew el ea ed et ex) ++ (bU k ou uc ut ub ul uw)) H := hP
      have hD : va_D A ((bT k ot tq ow oe oc ou oa to tt) ++ (bE k oe ec ew el ea ed et ex) ++ (bU k ou uc ut ub ul uw)) := hD
      refine xx_calli ((bT k ot tq ow oe oc ou oa to tt) ++ (bE k oe ec ew el ea ed et ex)) [8, 9, 10, 11, 12] [0, 1, 2, 3, 4, 5, 6, 7] (va_runV (As := [.int r28]) (rest := []) ⟨hx, hb, hml, hown, hts⟩ (c_U_level l D k ou uc ut ub ul uw r28 (by omega) H.size) (cwV 1 hts (xx_gV tw_315 tw_316 tw_317 tw_6 tw_318) rfl rfl rfl (by decide +kernel) ⟨Nat.le_of_ble_eq_true rfl, Nat.le_of_ble_eq_true rfl⟩) (xx_preV hK hN hP hD [8, 9, 10, 11, 12] (by decide) rfl 3 8 rfl rfl) rfl rfl hl.1 rfl (lv_room (Nat.le_of_ble_eq_true rfl)) dX5_counted_31 ⟨Nat.le_of_ble_eq_true rfl, Nat.le_of_ble_eq_true rfl⟩) hP hD hS hA rfl rfl (by decide) (by decide) (fun r31 u31 H locs hw31 hP hD hS => ?_)
      have hP : va_P D vwCl ((bT k ot tq ow oe oc ou oa to tt) ++ (bE k oe ec ew el ea ed et ex) ++ (bU k ou uc ut ub ul uw)) H := hP
      have hD : va_D A ((bT k ot tq ow oe oc ou oa to tt) ++ (bE k oe ec ew el ea ed et ex) ++ (bU k ou uc ut ub ul uw)) := hD
      refine lv_istore (lv' := [(7, .int r31), (0, .ref ot), (1, .long a), (3, .int t), (4, .int b), (5, .long tm)]) hx hb dX5_counted_34 hl (by decide) rfl (fun ls hl => ?_)
      refine lv_aload_n hx hb dX5_counted_36 rfl (lv_at hl 1 rfl) ?_
      refine va_get (D := D) (ci := 5) (v := .ref (oe 0)) (C := RX5) (T := TX5) (N := 8) hx hb hts hinW hown hK hP 0 rfl rfl 2 (by decide) (hts _ tw_139) (fun _ h9 => h9) rfl dX5_counted_37 ?_
      refine lv_lload_n hx hb dX5_counted_40 rfl (lv_at hl 2 rfl) ?_
      refine lv_iload hx hb dX5_counted_41 (lv_at hl 0 rfl) ?_
      refine lv_lload hx hb dX5_counted_43 (lv_at hl 5 rfl) ?_
      refine xx_calli ((bT k ot tq ow oe oc ou oa to tt) ++ (bU k ou uc ut ub ul uw)) [1, 2, 3, 4, 5, 6, 7] [0, 8, 9, 10, 11, 12] (va_runV (As := [.long a, .int r31, .long tm]) (rest := []) ⟨hx, hb, hml, hown, hts⟩ (c_E_count l D k oe ec ew el ea ed et ex a r31 tm hec hew H.size) (cwV 3 hts (xx_gV tw_319 tw_320 tw_321 tw_4 tw_322) rfl rfl rfl (by decide +kernel) ⟨Nat.le_of_ble_eq_true rfl, Nat.le_of_ble_eq_true rfl⟩) (xx_preV hK hN hP hD [1, 2, 3, 4, 5, 6, 7] (by decide) rfl 2 1 rfl rfl) rfl rfl hl.1 rfl (lv_room (Nat.le_of_ble_eq_true rfl)) dX5_counted_45 ⟨Nat.le_of_ble_eq_true rfl, Nat.le_of_ble_eq_true rfl⟩) hP hD hS hA rfl rfl (by decide) (by decide) (fun r45 u45 H locs hw45 hP hD hS => ?_)
      obtain rfl := hw45
      have hP : va_P D vwCl ((bT k ot tq ow oe oc ou oa to tt) ++ (bU k ou uc ut ub ul uw) ++ (bE k oe ec ew el ea ed et ex)) H := hP
      have hD : va_D A ((bT k ot tq ow oe oc ou oa to tt) ++ (bU k ou uc ut ub ul uw) ++ (bE k oe ec ew el ea ed et ex)) := hD
      refine xx_iret () hx hb hr hlocks hS hK (xx_subP hP [0, 6, 7, 8, 9, 10, 11, 12, 1, 2, 3, 4, 5] rfl) (hD.sub [0, 6, 7, 8, 9, 10, 11, 12, 1, 2, 3, 4, 5] (by decide) rfl) dX5_counted_48 ?_
      exact Or.inr ⟨⟨hq1, hq9⟩, r28, r31, hw28, hw31, rfl⟩
    · have hP : va_P D vwCl ((bT k ot tq ow oe oc ou oa to tt) ++ (bE k oe ec ew el ea ed et ex) ++ (bU k ou uc ut ub ul uw)) H := hP
      have hD : va_D A ((bT k ot tq ow oe oc ou oa to tt) ++ (bE k oe ec ew el ea ed et ex) ++ (bU k ou uc ut ub ul uw)) := hD
      refine lv_if_ne (tgt := 17) hx hb dX5_counted_12 (by decide) (fun c => absurd c (by decide)) (fun _ => ?_)
      refine lv_iconst (v := (-1)) hx hb dX5_counted_15 (by decide) ?_
      refine xx_iret () hx hb hr hlocks hS hK hP hD dX5_counted_16 ?_
      first | exact Or.inl ⟨rfl, fun h => hq1 h.1⟩ | exact Or.inl ⟨rfl, fun h => hq9 h.2⟩
  · have hP : va_P D vwCl ((bT k ot tq ow oe oc ou oa to tt) ++ (bE k oe ec ew el ea ed et ex) ++ (bU k ou uc ut ub ul uw)) H := hP
    have hD : va_D A ((bT k ot tq ow oe oc ou oa to tt) ++ (bE k oe ec ew el ea ed et ex) ++ (bU k ou uc ut ub ul uw)) := hD
    refine lv_if_eq (tgt := 15) hx hb dX5_counted_4 (by decide) (fun _ => ?_) (fun c => absurd c (by decide))
    refine lv_iconst (v := (-1)) hx hb dX5_counted_15 (by decide) ?_
    refine xx_iret () hx hb hr hlocks hS hK hP hD dX5_counted_16 ?_
    first | exact Or.inl ⟨rfl, fun h => hq1 h.1⟩ | exact Or.inl ⟨rfl, fun h => hq9 h.2⟩
def p_T_take (ot : Nat) (tq : Int32) (ow : Nat → Nat) (oe : Nat → Nat) (oc : Nat → Nat) (ou : Nat → Nat) (oa : Nat → Nat) (to : Bool) (tt : Int64) (ec : Nat) (ew : Nat → Nat) (el : Nat → Int32) (ea : Nat → Int64) (ed : Nat → Int64) (et : Nat → Int64) (ex : Nat → Bool) (cc : Nat) (ca : Nat → Int64) (cl : Nat → Int32) (ch : Nat → Int32) (uc : Nat) (ut : Nat → Int32) (ub : Nat → Int32) (ul : Nat → Int32) (uw : Nat → Int32) (ac : Nat) (as : Nat → Int32) (a : Int64) (t : Int32) (b : Int32) (tm : Int64) : Int32 → (Int64 × Nat × (Nat → Int32)) → Prop := fun r u => (r = (-2) ∧ ¬ ((ixN 8 t ∧ ixN 8 b) ∧ ¬ tm < 0) ∧ u = (tt, ac, as)) ∨ (((ixN 8 t ∧ ixN 8 b) ∧ ¬ tm < 0) ∧ ∃ q, p_U_best ou uc ut ub ul uw t b q () ∧ ((to = true ∧ ∃ o, (o < ec ∧ (el o = 0 ∧ (ex o = false ∧ ea o = a ∧ ¬ (el o < nI 0) ∧ ¬ (tm < et o))) ∧ ∀ j, j < ec → (el j = 0 ∧ (ex j = false ∧ ea j = a ∧ ¬ (el j < nI 0) ∧ ¬ (tm < et j))) → ¬ (et o < et j) ∧ (o < j → et j < et o)) ∧ r = nI 2 ∧ u.1 = ed o ∧ p_A_add oa ac as t b q (nI 0) (nI o) u.2) ∨ (¬ (to = true ∧ ∃ j, j < ec ∧ (el j = 0 ∧ (ex j = false ∧ ea j = a ∧ ¬ (el j < nI 0) ∧ ¬ (tm < et j)))) ∧ (((∃ i, i < cc ∧ ca i = a) ∧ r = nI 0 ∧ u = (tt, ac, as)) ∨ ((¬ ∃ i, i < cc ∧ ca i = a) ∧ ∃ lv wt, p_U_level ou uc ut ub ul uw q lv () ∧ p_U_wanted ou uc ut ub ul uw q tq wt () ∧ ((r = (-1) ∧ ¬ (¬ xs_pop (xs_seen (fun j => decide (ex j = false ∧ ea j = a ∧ ¬ (el j < lv) ∧ ¬ (tm < et j))) ew ec) < wt ∧ (∀ i, i < ec → (ex i = false ∧ ea i = a ∧ ¬ (el i < lv) ∧ ¬ (tm < et i)) → ∀ j, j < ec → (ex j = false ∧ ea j = a ∧ ¬ (el j < lv) ∧ ¬ (tm < et j)) → ed i = ed j)) ∧ u = (tt, ac, as)) ∨ (r = nI 1 ∧ (¬ xs_pop (xs_seen (fun j => decide (ex j = false ∧ ea j = a ∧ ¬ (el j < lv) ∧ ¬ (tm < et j))) ew ec) < wt ∧ (∀ i, i < ec → (ex i = false ∧ ea i = a ∧ ¬ (el i < lv) ∧ ¬ (tm < et i)) → ∀ j, j < ec → (ex j = false ∧ ea j = a ∧ ¬ (el j < lv) ∧ ¬ (tm < et j)) → ed i = ed j)) ∧ ∃ f, p_E_first oe ec ew el ea ed et ex a lv tm f () ∧ p_E_digest oe ec ew el ea ed et ex f u.1 () ∧ p_A_add oa ac as t b q (xs_pop (xs_seen (fun j => decide (ex j = false ∧ ea j = a ∧ ¬ (el j < lv) ∧ ¬ (tm < et j))) ew ec)) f u.2)))))))
set_option maxHeartbeats 4000000 in
set_option maxRecDepth 100000 in
theorem c_T_take (l : Launch) (D : va_G) (k : Nat → ClassId) (ot : Nat) (tq : Int32) (ow : Nat → Nat) (oe : Nat → Nat) (oc : Nat → Nat) (ou : Nat → Nat) (oa : Nat → Nat) (to : Bool) (tt : Int64) (ec : Nat) (ew : Nat → Nat) (el : Nat → Int32) (ea : Nat → Int64) (ed : Nat → Int64) (et : Nat → Int64) (ex : Nat → Bool) (cc : Nat) (ca : Nat → Int64) (cl : Nat → Int32) (ch : Nat → Int32) (uc : Nat) (ut : Nat → Int32) (ub : Nat → Int32) (ul : Nat → Int32) (uw : Nat → Int32) (ac : Nat) (as : Nat → Int32) (a : Int64) (t : Int32) (b : Int32) (tm : Int64) (hec : ec ≤ 100) (hew : ∀ i, ew i < 12) (hcc : cc ≤ 50) (huc : uc ≤ 20) (hac : ac ≤ 200) : xx_Ci l yX5_take (.code yX5_take cX5_take 12 (some .int) :: xall) ({ frames := 4, cells := 0, slots := 0, locals := 101 } : Room) D vwCl (xT k) [.ref ot, .long a, .int t, .int b, .long tm] ((bT k ot tq ow oe oc ou oa to tt) ++ (bE k oe ec ew el ea ed et ex) ++ (bC k oc cc ca cl ch) ++ (bU k ou uc ut ub ul uw) ++ (bA k oa ac as)) (p_T_take ot tq ow oe oc ou oa to tt ec ew el ea ed et ex cc ca cl ch uc ut ub ul uw ac as a t b tm) (fun (u : Int64 × Nat × (Nat → Int32)) => (bT k ot tq ow oe oc ou oa to u.1) ++ (bE k oe ec ew el ea ed et ex) ++ (bC k oc cc ca cl ch) ++ (bU k ou uc ut ub ul uw) ++ (bA k oa u.2.1 u.2.2)) 0 0 := by
  intro sz
  refine xx_met (Qf := fun A => va_Qi (p_T_take ot tq ow oe oc ou oa to tt ec ew el ea ed et ex cc ca cl ch uc ut ub ul uw ac as a t b tm) (xx_B D vwCl (xT k) A (fun (u : Int64 × Nat × (Nat → Int32)) => (bT k ot tq ow oe oc ou oa to u.1) ++ (bE k oe ec ew el ea ed et ex) ++ (bC k oc cc ca cl ch) ++ (bU k ou uc ut ub ul uw) ++ (bA k oa u.2.1 u.2.2))) A) (cc := cX5_take) (maxL := 12) (ret := (some .int)) (by decide) rfl (Nat.le_of_ble_eq_true rfl) ?_
  intro p e s m below meth c A ls hx hb hr hts hown hlocks hin hml hA hS hP hD hK hN hl
  have hl : lv_has ls 12 [(0, .ref ot), (1, .long a), (3, .int t), (4, .int b), (5, .long tm)] := hl
  have hown : s.vm.findClass RX5 = some m.cls := hown
  have hinW := inX5
  refine lv_iload_n hx hb dX5_take_0 rfl (lv_at hl 2 rfl) ?_
  refine xx_calli ((bT k ot tq ow oe oc ou oa to tt) ++ (bE k oe ec ew el ea ed et ex) ++ (bC k oc cc ca cl ch) ++ (bU k ou uc ut ub ul uw) ++ (bA k oa ac as)) [] [0, 1, 2, 3, 4, 5, 6, 7, 8, 9, 10, 11, 12, 13, 14, 15, 16, 17, 18] (va_runS (As := [.int t]) (rest := []) ⟨hx, hb, hml, hown, hts⟩ (c_isPlace l D k t s.heap.size) (va_cwS 1 hts (xx_gS tw_271 tw_272 tw_1 tw_273) rfl rfl rfl (by decide +kernel) ⟨Nat.le_of_ble_eq_true rfl, Nat.le_of_ble_eq_true rfl⟩) (xx_preS hK hN hP hD [] (by decide) rfl) rfl rfl hl.1 rfl (lv_room (Nat.le_of_ble_eq_true rfl)) dX5_take_1 ⟨Nat.le_of_ble_eq_true rfl, Nat.le_of_ble_eq_true rfl⟩) hP hD hS hA rfl rfl (by decide) (by decide) (fun r1 u1 H locs hw1 hP hD hS => ?_)
  rcases hw1 with ⟨rfl, hq1⟩ | ⟨rfl, hq1⟩
  · have hP : va_P D vwCl ((bT k ot tq ow oe oc ou oa to tt) ++ (bE k oe ec ew el ea ed et ex) ++ (bC k oc cc ca cl ch) ++ (bU k ou uc ut ub ul uw) ++ (bA k oa ac as)) H := hP
    have hD : va_D A ((bT k ot tq ow oe oc ou oa to tt) ++ (bE k oe ec ew el ea ed et ex) ++ (bC k oc cc ca cl ch) ++ (bU k ou uc ut ub ul uw) ++ (bA k oa ac as)) := hD
    refine lv_if_eq (tgt := 22) hx hb dX5_take_4 (by decide) (fun c => absurd c (by decide)) (fun _ => ?_)
    refine lv_iload hx hb dX5_take_7 (lv_at hl 3 rfl) ?_
    refine xx_calli ((bT k ot tq ow oe oc ou oa to tt) ++ (bE k oe ec ew el ea ed et ex) ++ (bC k oc cc ca cl ch) ++ (bU k ou uc ut ub ul uw) ++ (bA k oa ac as)) [] [0, 1, 2, 3, 4, 5, 6, 7, 8, 9, 10, 11, 12, 13, 14, 15, 16, 17, 18] (va_runS (As := [.int b]) (rest := []) ⟨hx, hb, hml, hown, hts⟩ (c_isPlace l D k b H.size) (va_cwS 1 hts (xx_gS tw_271 tw_272 tw_1 tw_273) rfl rfl rfl (by decide +kernel) ⟨Nat.le_of_ble_eq_true rfl, Nat.le_of_ble_eq_true rfl⟩) (xx_preS hK hN hP hD [] (by decide) rfl) rfl rfl hl.1 rfl (lv_room (Nat.le_of_ble_eq_true rfl)) dX5_take_9 ⟨Nat.le_of_ble_eq_true rfl, Nat.le_of_ble_eq_true rfl⟩) hP hD hS hA rfl rfl (by decide) (by decide) (fun r9 u9 H locs hw9 hP hD hS => ?_)
    rcases hw9 with ⟨rfl, hq9⟩ | ⟨rfl, hq9⟩
    · have hP : va_P D vwCl ((bT k ot tq ow oe oc ou oa to tt) ++ (bE k oe ec ew el ea ed et ex) ++ (bC k oc cc ca cl ch) ++ (bU k ou uc ut ub ul uw) ++ (bA k oa ac as)) H := hP
      have hD : va_D A ((bT k ot tq ow oe oc ou oa to tt) ++ (bE k oe ec ew el ea ed et ex) ++ (bC k oc cc ca cl ch) ++ (bU k ou uc ut ub ul uw) ++ (bA k oa ac as)) := hD
      refine lv_if_eq (tgt := 22) hx hb dX5_take_12 (by decide) (fun c => absurd c (by decide)) (fun _ => ?_)
      refine lv_lload hx hb dX5_take_15 (lv_at hl 4 rfl) ?_
      refine lv_lconst (v := 0) hx hb dX5_take_17 (by decide) ?_
      refine W.lcmp hx hb dX5_take_18 ?_
      refine lv_if_ge (tgt := 25) hx hb dX5_take_19 (by decide) (fun c19 => ?_) (fun c19 => ?_)
      · have c19 : 0 ≤ tm := (lg_cmp_ge tm 0).mp c19
        refine lv_aload_n hx hb dX5_take_25 rfl (lv_at hl 0 rfl) ?_
        refine va_get (D := D) (ci := 5) (v := .ref (ou 0)) (C := RX5) (T := TX5) (N := 8) hx hb hts hinW hown hK hP 0 rfl rfl 4 (by decide) (hts _ tw_141) (fun _ h9 => h9) rfl dX5_take_26 ?_
        refine lv_iload_n hx hb dX5_take_29 rfl (lv_at hl 2 rfl) ?_
        refine lv_iload hx hb dX5_take_30 (lv_at hl 3 rfl) ?_
        refine xx_calli ((bT k ot tq ow oe oc ou oa to tt) ++ (bE k oe ec ew el ea ed et ex) ++ (bC k oc cc ca cl ch) ++ (bA k oa ac as)) [12, 13, 14, 15, 16] [0, 1, 2, 3, 4, 5, 6, 7, 8, 9, 10, 11, 17, 18] (va_runV (As := [.int t, .int b]) (rest := []) ⟨hx, hb, hml, hown, hts⟩ (c_U_best l D k ou uc ut ub ul uw t b (by omega) H.size) (cwV 2 hts (xx_gV tw_279 tw_280 tw_281 tw_6 tw_282) rfl rfl rfl (by decide +kernel) ⟨Nat.le_of_ble_eq_true rfl, Nat.le_of_ble_eq_true rfl⟩) (xx_preV hK hN hP hD [12, 13, 14, 15, 16] (by decide) rfl 3 12 rfl rfl) rfl rfl hl.1 rfl (lv_room (Nat.le_of_ble_eq_true rfl)) dX5_take_32 ⟨Nat.le_of_ble_eq_true rfl, Nat.le_of_ble_eq_true rfl⟩) hP hD hS hA rfl rfl (by decide) (by decide) (fun r32 u32 H locs hw32 hP hD hS => ?_)
        have hP : va_P D vwCl ((bT k ot tq ow oe oc ou oa to tt) ++ (bE k oe ec ew el ea ed et ex) ++ (bC k oc cc ca cl ch) ++ (bA k oa ac as) ++ (bU k ou uc ut ub ul uw)) H := hP
        have hD : va_D A ((bT k ot tq ow oe oc ou oa to tt) ++ (bE k oe ec ew el ea ed et ex) ++ (bC k oc cc ca cl ch) ++ (bA k oa ac as) ++ (bU k ou uc ut ub ul uw)) := hD
        refine lv_istore (lv' := [(7, .int r32), (0, .ref ot), (1, .long a), (3, .int t), (4, .int b), (5, .long tm)]) hx hb dX5_take_35 hl (by decide) rfl (fun ls hl => ?_)
        refine lv_aload_n hx hb dX5_take_37 rfl (lv_at hl 1 rfl) ?_
        refine va_get (D := D) (ci := 5) (v := .int (bI to)) (C := RX5) (T := TX5) (N := 8) hx hb hts hinW hown hK hP 0 rfl rfl 6 (by decide) (hts _ tw_143) (fun _ h9 => h9) rfl dX5_take_38 ?_
        refine lv_if_eq (tgt := 57) hx hb dX5_take_41 (by decide) (fun c41 => ?_) (fun c41 => ?_)
        · have c41 : to = false := bI_eq c41
          refine lv_iconst (v := (-1)) hx hb dX5_take_57 (by decide) ?_
          refine lv_istore (lv' := [(8, .int (-1)), (7, .int r32), (0, .ref ot), (1, .long a), (3, .int t), (4, .int b), (5, .long tm)]) hx hb dX5_take_58 hl (by decide) rfl (fun ls hl => ?_)
          refine lv_iload hx hb dX5_take_60 (lv_at hl 0 rfl) ?_
          refine lv_iconst (v := (-1)) hx hb dX5_take_62 (by decide) ?_
          refine lv_icmp_eq (tgt := 96) hx hb dX5_take_63 (by decide) (fun _ => ?_) (fun c => absurd c (by decide))
          refine lv_aload_n hx hb dX5_take_96 rfl (lv_at hl 2 rfl) ?_
          refine va_get (D := D) (ci := 5) (v := .ref (oc 0)) (C := RX5) (T := TX5) (N := 8) hx hb hts hinW hown hK hP 0 rfl rfl 3 (by decide) (hts _ tw_140) (fun _ h9 => h9) rfl dX5_take_97 ?_
          refine lv_lload_n hx hb dX5_take_100 rfl (lv_at hl 3 rfl) ?_
          refine xx_calli ((bT k ot tq ow oe oc ou oa to tt) ++ (bE k oe ec ew el ea ed et ex) ++ (bA k oa ac as) ++ (bU k ou uc ut ub ul uw)) [8, 9, 10, 11] [0, 1, 2, 3, 4, 5, 6, 7, 12, 13, 14, 15, 16, 17, 18] (va_runV (As := [.long a]) (rest := []) ⟨hx, hb, hml, hown, hts⟩ (c_C_has l D k oc cc ca cl ch a (by omega) H.size) (cwV 1 hts (xx_gV tw_227 tw_228 tw_229 tw_5 tw_230) rfl rfl rfl (by decide +kernel) ⟨Nat.le_of_ble_eq_true rfl, Nat.le_of_ble_eq_true rfl⟩) (xx_preV hK hN hP hD [8, 9, 10, 11] (by decide) rfl 1 8 rfl rfl) rfl rfl hl.1 rfl (lv_room (Nat.le_of_ble_eq_true rfl)) dX5_take_101 ⟨Nat.le_of_ble_eq_true rfl, Nat.le_of_ble_eq_true rfl⟩) hP hD hS hA rfl rfl (by decide) (by decide) (fun r101 u101 H locs hw101 hP hD hS => ?_)
          rcases hw101 with ⟨rfl, hq101⟩ | ⟨rfl, hq101⟩
          · have hP : va_P D vwCl ((bT k ot tq ow oe oc ou oa to tt) ++ (bE k oe ec ew el ea ed et ex) ++ (bA k oa ac as) ++ (bU k ou uc ut ub ul uw) ++ (bC k oc cc ca cl ch)) H := hP
            have hD : va_D A ((bT k ot tq ow oe oc ou oa to tt) ++ (bE k oe ec ew el ea ed et ex) ++ (bA k oa ac as) ++ (bU k ou uc ut ub ul uw) ++ (bC k oc cc ca cl ch)) := hD
            refine lv_if_eq (tgt := 109) hx hb dX5_take_104 (by decide) (fun c => absurd c (by decide)) (fun _ => ?_)
            refine lv_iconst (v := (nI 0)) hx hb dX5_take_107 (by decide) ?_
            refine xx_iret (tt, ac, as) hx hb hr hlocks hS hK (xx_subP hP [0, 1, 2, 3, 4, 5, 6, 7, 15, 16, 17, 18, 10, 11, 12, 13, 14, 8, 9] rfl) (hD.sub [0, 1, 2, 3, 4, 5, 6, 7, 15, 16, 17, 18, 10, 11, 12, 13, 14, 8, 9] (by decide) rfl) dX5_take_108 ?_
            first | exact Or.inr ⟨⟨⟨hq1, hq9⟩, xx_lnlt c19⟩, r32, hw32, Or.inr ⟨fun h => xx_tf h.1 c41, Or.inl ⟨hq101, rfl, rfl⟩⟩⟩ | exact Or.inr ⟨⟨⟨hq1, hq9⟩, xx_lnlt c19⟩, r32, hw32, Or.inr ⟨fun ⟨_, j, z1, z2⟩ => hq51 j z1 z2, Or.inl ⟨hq101, rfl, rfl⟩⟩⟩
          · have hP : va_P D vwCl ((bT k ot tq ow oe oc ou oa to tt) ++ (bE k oe ec ew el ea ed et ex) ++ (bA k oa ac as) ++ (bU k ou uc ut ub ul uw) ++ (bC k oc cc ca cl ch)) H := hP
            have hD : va_D A ((bT k ot tq ow oe oc ou oa to tt) ++ (bE k oe ec ew el ea ed et ex) ++ (bA k oa ac as) ++ (bU k ou uc ut ub ul uw) ++ (bC k oc cc ca cl ch)) := hD
            refine lv_if_eq (tgt := 109) hx hb dX5_take_104 (by decide) (fun _ => ?_) (fun c => absurd c (by decide))
            refine lv_aload_n hx hb dX5_take_109 rfl (lv_at hl 2 rfl) ?_
            refine va_get (D := D) (ci := 5) (v := .ref (ou 0)) (C := RX5) (T := TX5) (N := 8) hx hb hts hinW hown hK hP 0 rfl rfl 4 (by decide) (hts _ tw_141) (fun _ h9 => h9) rfl dX5_take_110 ?_
            refine lv_iload hx hb dX5_take_113 (lv_at hl 1 rfl) ?_
            refine xx_calli ((bT k ot tq ow oe oc ou oa to tt) ++ (bE k oe ec ew el ea ed et ex) ++ (bA k oa ac as) ++ (bC k oc cc ca cl ch)) [10, 11, 12, 13, 14] [0, 1, 2, 3, 4, 5, 6, 7, 8, 9, 15, 16, 17, 18] (va_runV (As := [.int r32]) (rest := []) ⟨hx, hb, hml, hown, hts⟩ (c_U_level l D k ou uc ut ub ul uw r32 (by omega) H.size) (cwV 1 hts (xx_gV tw_315 tw_316 tw_317 tw_6 tw_318) rfl rfl rfl (by decide +kernel) ⟨Nat.le_of_ble_eq_true rfl, Nat.le_of_ble_eq_true rfl⟩) (xx_preV hK hN hP hD [10, 11, 12, 13, 14] (by decide) rfl 3 10 rfl rfl) rfl rfl hl.1 rfl (lv_room (Nat.le_of_ble_eq_true rfl)) dX5_take_115 ⟨Nat.le_of_ble_eq_true rfl, Nat.le_of_ble_eq_true rfl⟩) hP hD hS hA rfl rfl (by decide) (by decide) (fun r115 u115 H locs hw115 hP hD hS => ?_)
            have hP : va_P D vwCl ((bT k ot tq ow oe oc ou oa to tt) ++ (bE k oe ec ew el ea ed et ex) ++ (bA k oa ac as) ++ (bC k oc cc ca cl ch) ++ (bU k ou uc ut ub ul uw)) H := hP
            have hD : va_D A ((bT k ot tq ow oe oc ou oa to tt) ++ (bE k oe ec ew el ea ed et ex) ++ (bA k oa ac as) ++ (bC k oc cc ca cl ch) ++ (bU k ou uc ut ub ul uw)) := hD
            refine lv_istore (lv' := [(9, .int r115), (8, .int (-1)), (7, .int r32), (0, .ref ot), (1, .long a), (3, .int t), (4, .int b), (5, .long tm)]) hx hb dX5_take_118 hl (by decide) rfl (fun ls hl => ?_)
            refine lv_aload_n hx hb dX5_take_120 rfl (lv_at hl 3 rfl) ?_
            refine va_get (D := D) (ci := 5) (v := .ref (oe 0)) (C := RX5) (T := TX5) (N := 8) hx hb hts hinW hown hK hP 0 rfl rfl 2 (by decide) (hts _ tw_139) (fun _ h9 => h9) rfl dX5_take_121 ?_
            refine lv_lload_n hx hb dX5_take_124 rfl (lv_at hl 4 rfl) ?_
            refine lv_iload hx hb dX5_take_125 (lv_at hl 0 rfl) ?_
            refine lv_lload hx hb dX5_take_127 (lv_at hl 7 rfl) ?_
            refine xx_calli ((bT k ot tq ow oe oc ou oa to tt) ++ (bA k oa ac as) ++ (bC k oc cc ca cl ch) ++ (bU k ou uc ut ub ul uw)) [1, 2, 3, 4, 5, 6, 7] [0, 8, 9, 10, 11, 12, 13, 14, 15, 16, 17, 18] (va_runV (As := [.long a, .int r115, .long tm]) (rest := []) ⟨hx, hb, hml, hown, hts⟩ (c_E_count l D k oe ec ew el ea ed et ex a r115 tm hec hew H.size) (cwV 3 hts (xx_gV tw_319 tw_320 tw_321 tw_4 tw_322) rfl rfl rfl (by decide +kernel) ⟨Nat.le_of_ble_eq_true rfl, Nat.le_of_ble_eq_true rfl⟩) (xx_preV hK hN hP hD [1, 2, 3, 4, 5, 6, 7] (by decide) rfl 2 1 rfl rfl) rfl rfl hl.1 rfl (lv_room (Nat.le_of_ble_eq_true rfl)) dX5_take_129 ⟨Nat.le_of_ble_eq_true rfl, Nat.le_of_ble_eq_true rfl⟩) hP hD hS hA rfl rfl (by decide) (by decide) (fun r129 u129 H locs hw129 hP hD hS => ?_)
            obtain rfl := hw129
            have hP : va_P D vwCl ((bT k ot tq ow oe oc ou oa to tt) ++ (bA k oa ac as) ++ (bC k oc cc ca cl ch) ++ (bU k ou uc ut ub ul uw) ++ (bE k oe ec ew el ea ed et ex)) H := hP
            have hD : va_D A ((bT k ot tq ow oe oc ou oa to tt) ++ (bA k oa ac as) ++ (bC k oc cc ca cl ch) ++ (bU k ou uc ut ub ul uw) ++ (bE k oe ec ew el ea ed et ex)) := hD
            refine lv_istore (lv' := [(10, .int (xs_pop (xs_seen (fun z9 => decide (ex z9 = false ∧ ea z9 = a ∧ ¬ (el z9 < r115) ∧ ¬ (tm < et z9))) ew ec))), (9, .int r115), (8, .int (-1)), (7, .int r32), (0, .ref ot), (1, .long a), (3, .int t), (4, .int b), (5, .long tm)]) hx hb dX5_take_132 hl (by decide) rfl (fun ls hl => ?_)
            refine lv_iload hx hb dX5_take_134 (lv_at hl 0 rfl) ?_
            refine lv_aload_n hx hb dX5_take_136 rfl (lv_at hl 4 rfl) ?_
            refine va_get (D := D) (ci := 5) (v := .ref (ou 0)) (C := RX5) (T := TX5) (N := 8) hx hb hts hinW hown hK hP 0 rfl rfl 4 (by decide) (hts _ tw_141) (fun _ h9 => h9) rfl dX5_take_137 ?_
            refine lv_iload hx hb dX5_take_140 (lv_at hl 3 rfl) ?_
            refine lv_aload_n hx hb dX5_take_142 rfl (lv_at hl 4 rfl) ?_
            refine va_get (D := D) (ci := 5) (v := .int tq) (C := RX5) (T := TX5) (N := 8) hx hb hts hinW hown hK hP 0 rfl rfl 0 (by decide) (hts _ tw_137) (fun _ h9 => h9) rfl dX5_take_143 ?_
            refine xx_calli ((bT k ot tq ow oe oc ou oa to tt) ++ (bA k oa ac as) ++ (bC k oc cc ca cl ch) ++ (bE k oe ec ew el ea ed et ex)) [7, 8, 9, 10, 11] [0, 1, 2, 3, 4, 5, 6, 12, 13, 14, 15, 16, 17, 18] (va_runV (As := [.int r32, .int tq]) (rest := [.int (xs_pop (xs_seen (fun z9 => decide (ex z9 = false ∧ ea z9 = a ∧ ¬ (el z9 < r115) ∧ ¬ (tm < et z9))) ew ec))]) ⟨hx, hb, hml, hown, hts⟩ (c_U_wanted l D k ou uc ut ub ul uw r32 tq (by omega) H.size) (cwV 2 hts (xx_gV tw_329 tw_330 tw_331 tw_6 tw_332) rfl rfl rfl (by decide +kernel) ⟨Nat.le_of_ble_eq_true rfl, Nat.le_of_ble_eq_true rfl⟩) (xx_preV hK hN hP hD [7, 8, 9, 10, 11] (by decide) rfl 3 7 rfl rfl) rfl rfl hl.1 rfl (lv_room (Nat.le_of_ble_eq_true rfl)) dX5_take_146 ⟨Nat.le_of_ble_eq_true rfl, Nat.le_of_ble_eq_true rfl⟩) hP hD hS hA rfl rfl (by decide) (by decide) (fun r146 u146 H locs hw146 hP hD hS => ?_)
            have hP : va_P D vwCl ((bT k ot tq ow oe oc ou oa to tt) ++ (bA k oa ac as) ++ (bC k oc cc ca cl ch) ++ (bE k oe ec ew el ea ed et ex) ++ (bU k ou uc ut ub ul uw)) H := hP
            have hD : va_D A ((bT k ot tq ow oe oc ou oa to tt) ++ (bA k oa ac as) ++ (bC k oc cc ca cl ch) ++ (bE k oe ec ew el ea ed et ex) ++ (bU k ou uc ut ub ul uw)) := hD
            refine lv_icmp_lt (tgt := 167) hx hb dX5_take_149 (by decide) (fun c149 => ?_) (fun c149 => ?_)
            · refine lv_iconst (v := (-1)) hx hb dX5_take_167 (by decide) ?_
              refine xx_iret (tt, ac, as) hx hb hr hlocks hS hK (xx_subP hP [0, 7, 8, 9, 10, 11, 12, 13, 3, 4, 5, 6, 14, 15, 16, 17, 18, 1, 2] rfl) (hD.sub [0, 7, 8, 9, 10, 11, 12, 13, 3, 4, 5, 6, 14, 15, 16, 17, 18, 1, 2] (by decide) rfl) dX5_take_168 ?_
              first | exact Or.inr ⟨⟨⟨hq1, hq9⟩, xx_lnlt c19⟩, r32, hw32, Or.inr ⟨fun h => xx_tf h.1 c41, Or.inr ⟨hq101, r115, r146, hw115, hw146, Or.inl ⟨rfl, fun h => h.1 c149, rfl⟩⟩⟩⟩ | exact Or.inr ⟨⟨⟨hq1, hq9⟩, xx_lnlt c19⟩, r32, hw32, Or.inr ⟨fun h => xx_tf h.1 c41, Or.inr ⟨hq101, r115, r146, hw115, hw146, Or.inl ⟨rfl, fun h => hq161 h.2, rfl⟩⟩⟩⟩ | exact Or.inr ⟨⟨⟨hq1, hq9⟩, xx_lnlt c19⟩, r32, hw32, Or.inr ⟨fun ⟨_, j, z1, z2⟩ => hq51 j z1 z2, Or.inr ⟨hq101, r115, r146, hw115, hw146, Or.inl ⟨rfl, fun h => h.1 c149, rfl⟩⟩⟩⟩ | exact Or.inr ⟨⟨⟨hq1, hq9⟩, xx_lnlt c19⟩, r32, hw32, Or.inr ⟨fun ⟨_, j, z1, z2⟩ => hq51 j z1 z2, Or.inr ⟨hq101, r115, r146, hw115, hw146, Or.inl ⟨rfl, fun h => hq161 h.2, rfl⟩⟩⟩⟩
            · refine lv_aload_n hx hb dX5_take_152 rfl (lv_at hl 4 rfl) ?_
              refine va_get (D := D) (ci := 5) (v := .ref (oe 0)) (C := RX5) (T := TX5) (N := 8) hx hb hts hinW hown hK hP 0 rfl rfl 2 (by decide) (hts _ tw_139) (fun _ h9 => h9) rfl dX5_take_153 ?_
              refine lv_lload_n hx hb dX5_take_156 rfl (lv_at hl 5 rfl) ?_
              refine lv_iload hx hb dX5_take_157 (lv_at hl 1 rfl) ?_
              refine lv_lload hx hb dX5_take_159 (lv_at hl 8 rfl) ?_
              refine xx_calli ((bT k ot tq ow oe oc ou oa to tt) ++ (bA k oa ac as) ++ (bC k oc cc ca cl ch) ++ (bU k ou uc ut ub ul uw)) [7, 8, 9, 10, 11, 12, 13] [0, 1, 2, 3, 4, 5, 6, 14, 15, 16, 17, 18] (va_runV (As := [.long a, .int r115, .long tm]) (rest := []) ⟨hx, hb, hml, hown, hts⟩ (c_E_one l D k oe ec ew el ea ed et ex a r115 tm (by omega) H.size) (cwV 3 hts (xx_gV tw_333 tw_334 tw_335 tw_4 tw_336) rfl rfl rfl (by decide +kernel) ⟨Nat.le_of_ble_eq_true rfl, Nat.le_of_ble_eq_true rfl⟩) (xx_preV hK hN hP hD [7, 8, 9, 10, 11, 12, 13] (by decide) rfl 2 7 rfl rfl) rfl rfl hl.1 rfl (lv_room (Nat.le_of_ble_eq_true rfl)) dX5_take_161 ⟨Nat.le_of_ble_eq_true rfl, Nat.le_of_ble_eq_true rfl⟩) hP hD hS hA rfl rfl (by decide) (by decide) (fun r161 u161 H locs hw161 hP hD hS => ?_)
              rcases hw161 with ⟨rfl, hq161⟩ | ⟨rfl, hq161⟩
              · have hP : va_P D vwCl ((bT k ot tq ow oe oc ou oa to tt) ++ (bA k oa ac as) ++ (bC k oc cc ca cl ch) ++ (bU k ou uc ut ub ul uw) ++ (bE k oe ec ew el ea ed et ex)) H := hP
                have hD : va_D A ((bT k ot tq ow oe oc ou oa to tt) ++ (bA k oa ac as) ++ (bC k oc cc ca cl ch) ++ (bU k ou uc ut ub ul uw) ++ (bE k oe ec ew el ea ed et ex)) := hD
                refine lv_if_ne (tgt := 169) hx hb dX5_take_164 (by decide) (fun _ => ?_) (fun c => absurd c (by decide))
                refine lv_aload_n hx hb dX5_take_169 rfl (lv_at hl 4 rfl) ?_
                refine va_get (D := D) (ci := 5) (v := .ref (oe 0)) (C := RX5) (T := TX5) (N := 8) hx hb hts hinW hown hK hP 0 rfl rfl 2 (by decide) (hts _ tw_139) (fun _ h9 => h9) rfl dX5_take_170 ?_
                refine lv_lload_n hx hb dX5_take_173 rfl (lv_at hl 5 rfl) ?_
                refine lv_iload hx hb dX5_take_174 (lv_at hl 1 rfl) ?_
                refine lv_lload hx hb dX5_take_176 (lv_at hl 8 rfl) ?_
                refine xx_calli ((bT k ot tq ow oe oc ou oa to tt) ++ (bA k oa ac as) ++ (bC k oc cc ca cl ch) ++ (bU k ou uc ut ub ul uw)) [12, 13, 14, 15, 16, 17, 18] [0, 1, 2, 3, 4, 5, 6, 7, 8, 9, 10, 11] (va_runV (As := [.long a, .int r115, .long tm]) (rest := []) ⟨hx, hb, hml, hown, hts⟩ (c_E_first l D k oe ec ew el ea ed et ex a r115 tm (by omega) H.size) (cwV 3 hts (xx_gV tw_342 tw_338 tw_339 tw_4 tw_340) rfl rfl rfl (by decide +kernel) ⟨Nat.le_of_ble_eq_true rfl, Nat.le_of_ble_eq_true rfl⟩) (xx_preV hK hN hP hD [12, 13, 14, 15, 16, 17, 18] (by decide) rfl 2 12 rfl rfl) rfl rfl hl.1 rfl (lv_room (Nat.le_of_ble_eq_true rfl)) dX5_take_178 ⟨Nat.le_of_ble_eq_true rfl, Nat.le_of_ble_eq_true rfl⟩) hP hD hS hA rfl rfl (by decide) (by decide) (fun r178 u178 H locs hw178 hP hD hS => ?_)
                have hP : va_P D vwCl ((bT k ot tq ow oe oc ou oa to tt) ++ (bA k oa ac as) ++ (bC k oc cc ca cl ch) ++ (bU k ou uc ut ub ul uw) ++ (bE k oe ec ew el ea ed et ex)) H := hP
                have hD : va_D A ((bT k ot tq ow oe oc ou oa to tt) ++ (bA k oa ac as) ++ (bC k oc cc ca cl ch) ++ (bU k ou uc ut ub ul uw) ++ (bE k oe ec ew el ea ed et ex)) := hD
                refine lv_istore (lv' := [(11, .int r178), (10, .int (xs_pop (xs_seen (fun z9 => decide (ex z9 = false ∧ ea z9 = a ∧ ¬ (el z9 < r115) ∧ ¬ (tm < et z9))) ew ec))), (9, .int r115), (8, .int (-1)), (7, .int r32), (0, .ref ot), (1, .long a), (3, .int t), (4, .int b), (5, .long tm)]) hx hb dX5_take_181 hl (by decide) rfl (fun ls hl => ?_)
                refine lv_aload_n hx hb dX5_take_183 rfl (lv_at hl 5 rfl) ?_
                refine va_get (D := D) (ci := 5) (v := .ref (oa 0)) (C := RX5) (T := TX5) (N := 8) hx hb hts hinW hown hK hP 0 rfl rfl 5 (by decide) (hts _ tw_142) (fun _ h9 => h9) rfl dX5_take_184 ?_
                refine lv_iload_n hx hb dX5_take_187 rfl (lv_at hl 7 rfl) ?_
                refine lv_iload hx hb dX5_take_188 (lv_at hl 8 rfl) ?_
                refine lv_iload hx hb dX5_take_190 (lv_at hl 4 rfl) ?_
                refine lv_iload hx hb dX5_take_192 (lv_at hl 1 rfl) ?_
                refine lv_iload hx hb dX5_take_194 (lv_at hl 0 rfl) ?_
                refine xx_callv ((bT k ot tq ow oe oc ou oa to tt) ++ (bC k oc cc ca cl ch) ++ (bU k ou uc ut ub ul uw) ++ (bE k oe ec ew el ea ed et ex)) [1, 2] [0, 3, 4, 5, 6, 7, 8, 9, 10, 11, 12, 13, 14, 15, 16, 17, 18] (va_runV (As := [.int t, .int b, .int r32, .int (xs_pop (xs_seen (fun z9 => decide (ex z9 = false ∧ ea z9 = a ∧ ¬ (el z9 < r115) ∧ ¬ (tm < et z9))) ew ec)), .int r178]) (rest := []) ⟨hx, hb, hml, hown, hts⟩ (c_A_add l D k oa ac as t b r32 (xs_pop (xs_seen (fun z9 => decide (ex z9 = false ∧ ea z9 = a ∧ ¬ (el z9 < r115) ∧ ¬ (tm < et z9))) ew ec)) r178 (by omega) H.size) (cwV 5 hts (xx_gV tw_307 tw_308 tw_309 tw_7 tw_310) rfl rfl rfl (by decide +kernel) ⟨Nat.le_of_ble_eq_true rfl, Nat.le_of_ble_eq_true rfl⟩) (xx_preV hK hN hP hD [1, 2] (by decide) rfl 0 1 rfl rfl) rfl rfl hl.1 rfl (lv_room (Nat.le_of_ble_eq_true rfl)) dX5_take_196 ⟨Nat.le_of_ble_eq_true rfl, Nat.le_of_ble_eq_true rfl⟩) hP hD hS hA rfl rfl (by decide) (by decide) (fun u196 H locs hw196 hP hD hS => ?_)
                have hP : va_P D vwCl ((bT k ot tq ow oe oc ou oa to tt) ++ (bC k oc cc ca cl ch) ++ (bU k ou uc ut ub ul uw) ++ (bE k oe ec ew el ea ed et ex) ++ (bA k oa u196.1 u196.2)) H := hP
                have hD : va_D A ((bT k ot tq ow oe oc ou oa to tt) ++ (bC k oc cc ca cl ch) ++ (bU k ou uc ut ub ul uw) ++ (bE k oe ec ew el ea ed et ex) ++ (bA k oa u196.1 u196.2)) := hD
                refine lv_aload_n hx hb dX5_take_199 rfl (lv_at hl 5 rfl) ?_
                refine lv_aload_n hx hb dX5_take_200 rfl (lv_at hl 5 rfl) ?_
                refine va_get (D := D) (ci := 5) (v := .ref (oe 0)) (C := RX5) (T := TX5) (N := 8) hx hb hts hinW hown hK hP 0 rfl rfl 2 (by decide) (hts _ tw_139) (fun _ h9 => h9) rfl dX5_take_201 ?_
                refine lv_iload hx hb dX5_take_204 (lv_at hl 0 rfl) ?_
                refine xx_calll ((bT k ot tq ow oe oc ou oa to tt) ++ (bC k oc cc ca cl ch) ++ (bU k ou uc ut ub ul uw) ++ (bA k oa u196.1 u196.2)) [10, 11, 12, 13, 14, 15, 16] [0, 1, 2, 3, 4, 5, 6, 7, 8, 9, 17, 18] (va_runV (As := [.int r178]) (rest := [.ref ot]) ⟨hx, hb, hml, hown, hts⟩ (c_E_digest l D k oe ec ew el ea ed et ex r178 (by omega) H.size) (cwV 1 hts (xx_gV tw_311 tw_312 tw_313 tw_4 tw_314) rfl rfl rfl (by decide +kernel) ⟨Nat.le_of_ble_eq_true rfl, Nat.le_of_ble_eq_true rfl⟩) (xx_preV hK hN hP hD [10, 11, 12, 13, 14, 15, 16] (by decide) rfl 2 10 rfl rfl) rfl rfl hl.1 rfl (lv_room (Nat.le_of_ble_eq_true rfl)) dX5_take_206 ⟨Nat.le_of_ble_eq_true rfl, Nat.le_of_ble_eq_true rfl⟩) hP hD hS hA rfl rfl (by decide) (by decide) (fun r206 u206 H locs hw206 hP hD hS => ?_)
                have hP : va_P D vwCl ((bT k ot tq ow oe oc ou oa to tt) ++ (bC k oc cc ca cl ch) ++ (bU k ou uc ut ub ul uw) ++ (bA k oa u196.1 u196.2) ++ (bE k oe ec ew el ea ed et ex)) H := hP
                have hD : va_D A ((bT k ot tq ow oe oc ou oa to tt) ++ (bC k oc cc ca cl ch) ++ (bU k ou uc ut ub ul uw) ++ (bA k oa u196.1 u196.2) ++ (bE k oe ec ew el ea ed et ex)) := hD
                refine va_put (D := D) (ci := 5) (v := .long r206) (ty := .long) (C := RX5) (T := TX5) (N := 8) hx hb hts hinW tyX5 tyX5_ok nmX5 hown hK hP hD hS 0 rfl rfl 7 (by decide) (hts _ tw_144) (fun _ h9 => h9) rfl (by decide +kernel) rfl rfl (Nat.le_of_ble_eq_true rfl) dX5_take_209 (fun H locs hP hD hS => ?_)
                have hP : va_P D vwCl ((bT k ot tq ow oe oc ou oa to r206) ++ (bC k oc cc ca cl ch) ++ (bU k ou uc ut ub ul uw) ++ (bA k oa u196.1 u196.2) ++ (bE k oe ec ew el ea ed et ex)) H := hP
                have hD : va_D A ((bT k ot tq ow oe oc ou oa to r206) ++ (bC k oc cc ca cl ch) ++ (bU k ou uc ut ub ul uw) ++ (bA k oa u196.1 u196.2) ++ (bE k oe ec ew el ea ed et ex)) := hD
                refine lv_iconst (v := (nI 1)) hx hb dX5_take_212 (by decide) ?_
                refine xx_iret (r206, u196.1, u196.2) hx hb hr hlocks hS hK (xx_subP hP [0, 12, 13, 14, 15, 16, 17, 18, 1, 2, 3, 4, 5, 6, 7, 8, 9, 10, 11] rfl) (hD.sub [0, 12, 13, 14, 15, 16, 17, 18, 1, 2, 3, 4, 5, 6, 7, 8, 9, 10, 11] (by decide) rfl) dX5_take_213 ?_
                first | exact Or.inr ⟨⟨⟨hq1, hq9⟩, xx_lnlt c19⟩, r32, hw32, Or.inr ⟨fun h => xx_tf h.1 c41, Or.inr ⟨hq101, r115, r146, hw115, hw146, Or.inr ⟨rfl, ⟨c149, hq161⟩, r178, hw178, hw206, hw196⟩⟩⟩⟩ | exact Or.inr ⟨⟨⟨hq1, hq9⟩, xx_lnlt c19⟩, r32, hw32, Or.inr ⟨fun ⟨_, j, z1, z2⟩ => hq51 j z1 z2, Or.inr ⟨hq101, r115, r146, hw115, hw146, Or.inr ⟨rfl, ⟨c149, hq161⟩, r178, hw178, hw206, hw196⟩⟩⟩⟩
              · have hP : va_P D vwCl ((bT k ot tq ow oe oc ou oa to tt) ++ (bA k oa ac as) ++ (bC k oc cc ca cl ch) ++ (bU k ou uc ut ub ul uw) ++ (bE k oe ec ew el ea ed et ex)) H := hP
                have hD : va_D A ((bT k ot tq ow oe oc ou oa to tt) ++ (bA k oa ac as) ++ (bC k oc cc ca cl ch) ++ (bU k ou uc ut ub ul uw) ++ (bE k oe ec ew el ea ed et ex)) := hD
                refine lv_if_ne (tgt := 169) hx hb dX5_take_164 (by decide) (fun c => absurd c (by decide)) (fun _ => ?_)
                refine lv_iconst (v := (-1)) hx hb dX5_take_167 (by decide) ?_
                refine xx_iret (tt, ac, as) hx hb hr hlocks hS hK (xx_subP hP [0, 12, 13, 14, 15, 16, 17, 18, 3, 4, 5, 6, 7, 8, 9, 10, 11, 1, 2] rfl) (hD.sub [0, 12, 13, 14, 15, 16, 17, 18, 3, 4, 5, 6, 7, 8, 9, 10, 11, 1, 2] (by decide) rfl) dX5_take_168 ?_
                first | exact Or.inr ⟨⟨⟨hq1, hq9⟩, xx_lnlt c19⟩, r32, hw32, Or.inr ⟨fun h => xx_tf h.1 c41, Or.inr ⟨hq101, r115, r146, hw115, hw146, Or.inl ⟨rfl, fun h => h.1 c149, rfl⟩⟩⟩⟩ | exact Or.inr ⟨⟨⟨hq1, hq9⟩, xx_lnlt c19⟩, r32, hw32, Or.inr ⟨fun h => xx_tf h.1 c41, Or.inr ⟨hq101, r115, r146, hw115, hw146, Or.inl ⟨rfl, fun h => hq161 h.2, rfl⟩⟩⟩⟩ | exact Or.inr ⟨⟨⟨hq1, hq9⟩, xx_lnlt c19⟩, r32, hw32, Or.inr ⟨fun ⟨_, j, z1, z2⟩ => hq51 j z1 z2, Or.inr ⟨hq101, r115, r146, hw115, hw146, Or.inl ⟨rfl, fun h => h.1 c149, rfl⟩⟩⟩⟩ | exact Or.inr ⟨⟨⟨hq1, hq9⟩, xx_lnlt c19⟩, r32, hw32, Or.inr ⟨fun ⟨_, j, z1, z2⟩ => hq51 j z1 z2, Or.inr ⟨hq101, r115, r146, hw115, hw146, Or.inl ⟨rfl, fun h => hq161 h.2, rfl⟩⟩⟩⟩
        · have c41 : to = true := bI_ne c41
          refine lv_aload_n hx hb dX5_take_44 rfl (lv_at hl 1 rfl) ?_
          refine va_get (D := D) (ci := 5) (v := .ref (oe 0)) (C := RX5) (T := TX5) (N := 8) hx hb hts hinW hown hK hP 0 rfl rfl 2 (by decide) (hts _ tw_139) (fun _ h9 => h9) rfl dX5_take_45 ?_
          refine lv_lload_n hx hb dX5_take_48 rfl (lv_at hl 2 rfl) ?_
          refine lv_lload hx hb dX5_take_49 (lv_at hl 5 rfl) ?_
          refine xx_calli ((bT k ot tq ow oe oc ou oa to tt) ++ (bC k oc cc ca cl ch) ++ (bA k oa ac as) ++ (bU k ou uc ut ub ul uw)) [1, 2, 3, 4, 5, 6, 7] [0, 8, 9, 10, 11, 12, 13, 14, 15, 16, 17, 18] (va_runV (As := [.long a, .long tm]) (rest := []) ⟨hx, hb, hml, hown, hts⟩ (c_E_own l D k oe ec ew el ea ed et ex a tm (by omega) H.size) (cwV 2 hts (xx_gV tw_299 tw_300 tw_301 tw_4 tw_302) rfl rfl rfl (by decide +kernel) ⟨Nat.le_of_ble_eq_true rfl, Nat.le_of_ble_eq_true rfl⟩) (xx_preV hK hN hP hD [1, 2, 3, 4, 5, 6, 7] (by decide) rfl 2 1 rfl rfl) rfl rfl hl.1 rfl (lv_room (Nat.le_of_ble_eq_true rfl)) dX5_take_51 ⟨Nat.le_of_ble_eq_true rfl, Nat.le_of_ble_eq_true rfl⟩) hP hD hS hA rfl rfl (by decide) (by decide) (fun r51 u51 H locs hw51 hP hD hS => ?_)
          rcases hw51 with ⟨rfl, hq51⟩ | ⟨b51, rfl, hb51, ho51, hl51⟩
          · have hP : va_P D vwCl ((bT k ot tq ow oe oc ou oa to tt) ++ (bC k oc cc ca cl ch) ++ (bA k oa ac as) ++ (bU k ou uc ut ub ul uw) ++ (bE k oe ec ew el ea ed et ex)) H := hP
            have hD : va_D A ((bT k ot tq ow oe oc ou oa to tt) ++ (bC k oc cc ca cl ch) ++ (bA k oa ac as) ++ (bU k ou uc ut ub ul uw) ++ (bE k oe ec ew el ea ed et ex)) := hD
            refine lv_goto (tgt := 58) hx hb dX5_take_54 (by decide) ?_
            refine lv_istore (lv' := [(8, .int (-1)), (7, .int r32), (0, .ref ot), (1, .long a), (3, .int t), (4, .int b), (5, .long tm)]) hx hb dX5_take_58 hl (by decide) rfl (fun ls hl => ?_)
            refine lv_iload hx hb dX5_take_60 (lv_at hl 0 rfl) ?_
            refine lv_iconst (v := (-1)) hx hb dX5_take_62 (by decide) ?_
            refine lv_icmp_eq (tgt := 96) hx hb dX5_take_63 (by decide) (fun _ => ?_) (fun c => absurd c (by decide))
            refine lv_aload_n hx hb dX5_take_96 rfl (lv_at hl 2 rfl) ?_
            refine va_get (D := D) (ci := 5) (v := .ref (oc 0)) (C := RX5) (T := TX5) (N := 8) hx hb hts hinW hown hK hP 0 rfl rfl 3 (by decide) (hts _ tw_140) (fun _ h9 => h9) rfl dX5_take_97 ?_
            refine lv_lload_n hx hb dX5_take_100 rfl (lv_at hl 3 rfl) ?_
            refine xx_calli ((bT k ot tq ow oe oc ou oa to tt) ++ (bA k oa ac as) ++ (bU k ou uc ut ub ul uw) ++ (bE k oe ec ew el ea ed et ex)) [1, 2, 3, 4] [0, 5, 6, 7, 8, 9, 10, 11, 12, 13, 14, 15, 16, 17, 18] (va_runV (As := [.long a]) (rest := []) ⟨hx, hb, hml, hown, hts⟩ (c_C_has l D k oc cc ca cl ch a (by omega) H.size) (cwV 1 hts (xx_gV tw_227 tw_228 tw_229 tw_5 tw_230) rfl rfl rfl (by decide +kernel) ⟨Nat.le_of_ble_eq_true rfl, Nat.le_of_ble_eq_true rfl⟩) (xx_preV hK hN hP hD [1, 2, 3, 4] (by decide) rfl 1 1 rfl rfl) rfl rfl hl.1 rfl (lv_room (Nat.le_of_ble_eq_true rfl)) dX5_take_101 ⟨Nat.le_of_ble_eq_true rfl, Nat.le_of_ble_eq_true rfl⟩) hP hD hS hA rfl rfl (by decide) (by decide) (fun r101 u101 H locs hw101 hP hD hS => ?_)
            rcases hw101 with ⟨rfl, hq101⟩ | ⟨rfl, hq101⟩
            · have hP : va_P D vwCl ((bT k ot tq ow oe oc ou oa to tt) ++ (bA k oa ac as) ++ (bU k ou uc ut ub ul uw) ++ (bE k oe ec ew el ea ed et ex) ++ (bC k oc cc ca cl ch)) H := hP
              have hD : va_D A ((bT k ot tq ow oe oc ou oa to tt) ++ (bA k oa ac as) ++ (bU k ou uc ut ub ul uw) ++ (bE k oe ec ew el ea ed et ex) ++ (bC k oc cc ca cl ch)) := hD
              refine lv_if_eq (tgt := 109) hx hb dX5_take_104 (by decide) (fun c => absurd c (by decide)) (fun _ => ?_)
              refine lv_iconst (v := (nI 0)) hx hb dX5_take_107 (by decide) ?_
              refine xx_iret (tt, ac, as) hx hb hr hlocks hS hK (xx_subP hP [0, 8, 9, 10, 11, 12, 13, 14, 15, 16, 17, 18, 3, 4, 5, 6, 7, 1, 2] rfl) (hD.sub [0, 8, 9, 10, 11, 12, 13, 14, 15, 16, 17, 18, 3, 4, 5, 6, 7, 1, 2] (by decide) rfl) dX5_take_108 ?_
              first | exact Or.inr ⟨⟨⟨hq1, hq9⟩, xx_lnlt c19⟩, r32, hw32, Or.inr ⟨fun h => xx_tf h.1 c41, Or.inl ⟨hq101, rfl, rfl⟩⟩⟩ | exact Or.inr ⟨⟨⟨hq1, hq9⟩, xx_lnlt c19⟩, r32, hw32, Or.inr ⟨fun ⟨_, j, z1, z2⟩ => hq51 j z1 z2, Or.inl ⟨hq101, rfl, rfl⟩⟩⟩
            · have hP : va_P D vwCl ((bT k ot tq ow oe oc ou oa to tt) ++ (bA k oa ac as) ++ (bU k ou uc ut ub ul uw) ++ (bE k oe ec ew el ea ed et ex) ++ (bC k oc cc ca cl ch)) H := hP
              have hD : va_D A ((bT k ot tq ow oe oc ou oa to tt) ++ (bA k oa ac as) ++ (bU k ou uc ut ub ul uw) ++ (bE k oe ec ew el ea ed et ex) ++ (bC k oc cc ca cl ch)) := hD
              refine lv_if_eq (tgt := 109) hx hb dX5_take_104 (by decide) (fun _ => ?_) (fun c => absurd c (by decide))
              refine lv_aload_n hx hb dX5_take_109 rfl (lv_at hl 2 rfl) ?_
              refine va_get (D := D) (ci := 5) (v := .ref (ou 0)) (C := RX5) (T := TX5) (N := 8) hx hb hts hinW hown hK hP 0 rfl rfl 4 (by decide) (hts _ tw_141) (fun _ h9 => h9) rfl dX5_take_110 ?_
              refine lv_iload hx hb dX5_take_113 (lv_at hl 1 rfl) ?_
              refine xx_calli ((bT k ot tq ow oe oc ou oa to tt) ++ (bA k oa ac as) ++ (bE k oe ec ew el ea ed et ex) ++ (bC k oc cc ca cl ch)) [3, 4, 5, 6, 7] [0, 1, 2, 8, 9, 10, 11, 12, 13, 14, 15, 16, 17, 18] (va_runV (As := [.int r32]) (rest := []) ⟨hx, hb, hml, hown, hts⟩ (c_U_level l D k ou uc ut ub ul uw r32 (by omega) H.size) (cwV 1 hts (xx_gV tw_315 tw_316 tw_317 tw_6 tw_318) rfl rfl rfl (by decide +kernel) ⟨Nat.le_of_ble_eq_true rfl, Nat.le_of_ble_eq_true rfl⟩) (xx_preV hK hN hP hD [3, 4, 5, 6, 7] (by decide) rfl 3 3 rfl rfl) rfl rfl hl.1 rfl (lv_room (Nat.le_of_ble_eq_true rfl)) dX5_take_115 ⟨Nat.le_of_ble_eq_true rfl, Nat.le_of_ble_eq_true rfl⟩) hP hD hS hA rfl rfl (by decide) (by decide) (fun r115 u115 H locs hw115 hP hD hS => ?_)
              have hP : va_P D vwCl ((bT k ot tq ow oe oc ou oa to tt) ++ (bA k oa ac as) ++ (bE k oe ec ew el ea ed et ex) ++ (bC k oc cc ca cl ch) ++ (bU k ou uc ut ub ul uw)) H := hP
              have hD : va_D A ((bT k ot tq ow oe oc ou oa to tt) ++ (bA k oa ac as) ++ (bE k oe ec ew el ea ed et ex) ++ (bC k oc cc ca cl ch) ++ (bU k ou uc ut ub ul uw)) := hD
              refine lv_istore (lv' := [(9, .int r115), (8, .int (-1)), (7, .int r32), (0, .ref ot), (1, .long a), (3, .int t), (4, .int b), (5, .long tm)]) hx hb dX5_take_118 hl (by decide) rfl (fun ls hl => ?_)
              refine lv_aload_n hx hb dX5_take_120 rfl (lv_at hl 3 rfl) ?_
              refine va_get (D := D) (ci := 5) (v := .ref (oe 0)) (C := RX5) (T := TX5) (N := 8) hx hb hts hinW hown hK hP 0 rfl rfl 2 (by decide) (hts _ tw_139) (fun _ h9 => h9) rfl dX5_take_121 ?_
              refine lv_lload_n hx hb dX5_take_124 rfl (lv_at hl 4 rfl) ?_
              refine lv_iload hx hb dX5_take_125 (lv_at hl 0 rfl) ?_
              refine lv_lload hx hb dX5_take_127 (lv_at hl 7 rfl) ?_
              refine xx_calli ((bT k ot tq ow oe oc ou oa to tt) ++ (bA k oa ac as) ++ (bC k oc cc ca cl ch) ++ (bU k ou uc ut ub ul uw)) [3, 4, 5, 6, 7, 8, 9] [0, 1, 2, 10, 11, 12, 13, 14, 15, 16, 17, 18] (va_runV (As := [.long a, .int r115, .long tm]) (rest := []) ⟨hx, hb, hml, hown, hts⟩ (c_E_count l D k oe ec ew el ea ed et ex a r115 tm hec hew H.size) (cwV 3 hts (xx_gV tw_319 tw_320 tw_321 tw_4 tw_322) rfl rfl rfl (by decide +kernel) ⟨Nat.le_of_ble_eq_true rfl, Nat.le_of_ble_eq_true rfl⟩) (xx_preV hK hN hP hD [3, 4, 5, 6, 7, 8, 9] (by decide) rfl 2 3 rfl rfl) rfl rfl hl.1 rfl (lv_room (Nat.le_of_ble_eq_true rfl)) dX5_take_129 ⟨Nat.le_of_ble_eq_true rfl, Nat.le_of_ble_eq_true rfl⟩) hP hD hS hA rfl rfl (by decide) (by decide) (fun r129 u129 H locs hw129 hP hD hS => ?_)
              obtain rfl := hw129
              have hP : va_P D vwCl ((bT k ot tq ow oe oc ou oa to tt) ++ (bA k oa ac as) ++ (bC k oc cc ca cl ch) ++ (bU k ou uc ut ub ul uw) ++ (bE k oe ec ew el ea ed et ex)) H := hP
              have hD : va_D A ((bT k ot tq ow oe oc ou oa to tt) ++ (bA k oa ac as) ++ (bC k oc cc ca cl ch) ++ (bU k ou uc ut ub ul uw) ++ (bE k oe ec ew el ea ed et ex)) := hD
              refine lv_istore (lv' := [(10, .int (xs_pop (xs_seen (fun z9 => decide (ex z9 = false ∧ ea z9 = a ∧ ¬ (el z9 < r115) ∧ ¬ (tm < et z9))) ew ec))), (9, .int r115), (8, .int (-1)), (7, .int r32), (0, .ref ot), (1, .long a), (3, .int t), (4, .int b), (5, .long tm)]) hx hb dX5_take_132 hl (by decide) rfl (fun ls hl => ?_)
              refine lv_iload hx hb dX5_take_134 (lv_at hl 0 rfl) ?_
              refine lv_aload_n hx hb dX5_take_136 rfl (lv_at hl 4 rfl) ?_
              refine va_get (D := D) (ci := 5) (v := .ref (ou 0)) (C := RX5) (T := TX5) (N := 8) hx hb hts hinW hown hK hP 0 rfl rfl 4 (by decide) (hts _ tw_141) (fun _ h9 => h9) rfl dX5_take_137 ?_
              refine lv_iload hx hb dX5_take_140 (lv_at hl 3 rfl) ?_
              refine lv_aload_n hx hb dX5_take_142 rfl (lv_at hl 4 rfl) ?_
              refine va_get (D := D) (ci := 5) (v := .int tq) (C := RX5) (T := TX5) (N := 8) hx hb hts hinW hown hK hP 0 rfl rfl 0 (by decide) (hts _ tw_137) (fun _ h9 => h9) rfl dX5_take_143 ?_
              refine xx_calli ((bT k ot tq ow oe oc ou oa to tt) ++ (bA k oa ac as) ++ (bC k oc cc ca cl ch) ++ (bE k oe ec ew el ea ed et ex)) [7, 8, 9, 10, 11] [0, 1, 2, 3, 4, 5, 6, 12, 13, 14, 15, 16, 17, 18] (va_runV (As := [.int r32, .int tq]) (rest := [.int (xs_pop (xs_seen (fun z9 => decide (ex z9 = false ∧ ea z9 = a ∧ ¬ (el z9 < r115) ∧ ¬ (tm < et z9))) ew ec))]) ⟨hx, hb, hml, hown, hts⟩ (c_U_wanted l D k ou uc ut ub ul uw r32 tq (by omega) H.size) (cwV 2 hts (xx_gV tw_329 tw_330 tw_331 tw_6 tw_332) rfl rfl rfl (by decide +kernel) ⟨Nat.le_of_ble_eq_true rfl, Nat.le_of_ble_eq_true rfl⟩) (xx_preV hK hN hP hD [7, 8, 9, 10, 11] (by decide) rfl 3 7 rfl rfl) rfl rfl hl.1 rfl (lv_room (Nat.le_of_ble_eq_true rfl)) dX5_take_146 ⟨Nat.le_of_ble_eq_true rfl, Nat.le_of_ble_eq_true rfl⟩) hP hD hS hA rfl rfl (by decide) (by decide) (fun r146 u146 H locs hw146 hP hD hS => ?_)
              have hP : va_P D vwCl ((bT k ot tq ow oe oc ou oa to tt) ++ (bA k oa ac as) ++ (bC k oc cc ca cl ch) ++ (bE k oe ec ew el ea ed et ex) ++ (bU k ou uc ut ub ul uw)) H := hP
              have hD : va_D A ((bT k ot tq ow oe oc ou oa to tt) ++ (bA k oa ac as) ++ (bC k oc cc ca cl ch) ++ (bE k oe ec ew el ea ed et ex) ++ (bU k ou uc ut ub ul uw)) := hD
              refine lv_icmp_lt (tgt := 167) hx hb dX5_take_149 (by decide) (fun c149 => ?_) (fun c149 => ?_)
              · refine lv_iconst (v := (-1)) hx hb dX5_take_167 (by decide) ?_
                refine xx_iret (tt, ac, as) hx hb hr hlocks hS hK (xx_subP hP [0, 7, 8, 9, 10, 11, 12, 13, 3, 4, 5, 6, 14, 15, 16, 17, 18, 1, 2] rfl) (hD.sub [0, 7, 8, 9, 10, 11, 12, 13, 3, 4, 5, 6, 14, 15, 16, 17, 18, 1, 2] (by decide) rfl) dX5_take_168 ?_
                first | exact Or.inr ⟨⟨⟨hq1, hq9⟩, xx_lnlt c19⟩, r32, hw32, Or.inr ⟨fun h => xx_tf h.1 c41, Or.inr ⟨hq101, r115, r146, hw115, hw146, Or.inl ⟨rfl, fun h => h.1 c149, rfl⟩⟩⟩⟩ | exact Or.inr ⟨⟨⟨hq1, hq9⟩, xx_lnlt c19⟩, r32, hw32, Or.inr ⟨fun h => xx_tf h.1 c41, Or.inr ⟨hq101, r115, r146, hw115, hw146, Or.inl ⟨rfl, fun h => hq161 h.2, rfl⟩⟩⟩⟩ | exact Or.inr ⟨⟨⟨hq1, hq9⟩, xx_lnlt c19⟩, r32, hw32, Or.inr ⟨fun ⟨_, j, z1, z2⟩ => hq51 j z1 z2, Or.inr ⟨hq101, r115, r146, hw115, hw146, Or.inl ⟨rfl, fun h => h.1 c149, rfl⟩⟩⟩⟩ | exact Or.inr ⟨⟨⟨hq1, hq9⟩, xx_lnlt c19⟩, r32, hw32, Or.inr ⟨fun ⟨_, j, z1, z2⟩ => hq51 j z1 z2, Or.inr ⟨hq101, r115, r146, hw115, hw146, Or.inl ⟨rfl, fun h => hq161 h.2, rfl⟩⟩⟩⟩
              · refine lv_aload_n hx hb dX5_take_152 rfl (lv_at hl 4 rfl) ?_
                refine va_get (D := D) (ci := 5) (v := .ref (oe 0)) (C := RX5) (T := TX5) (N := 8) hx hb hts hinW hown hK hP 0 rfl rfl 2 (by decide) (hts _ tw_139) (fun _ h9 => h9) rfl dX5_take_153 ?_
                refine lv_lload_n hx hb dX5_take_156 rfl (lv_at hl 5 rfl) ?_
                refine lv_iload hx hb dX5_take_157 (lv_at hl 1 rfl) ?_
                refine lv_lload hx hb dX5_take_159 (lv_at hl 8 rfl) ?_
                refine xx_calli ((bT k ot tq ow oe oc ou oa to tt) ++ (bA k oa ac as) ++ (bC k oc cc ca cl ch) ++ (bU k ou uc ut ub ul uw)) [7, 8, 9, 10, 11, 12, 13] [0, 1, 2, 3, 4, 5, 6, 14, 15, 16, 17, 18] (va_runV (As := [.long a, .int r115, .long tm]) (rest := []) ⟨hx, hb, hml, hown, hts⟩ (c_E_one l D k oe ec ew el ea ed et ex a r115 tm (by omega) H.size) (cwV 3 hts (xx_gV tw_333 tw_334 tw_335 tw_4 tw_336) rfl rfl rfl (by decide +kernel) ⟨Nat.le_of_ble_eq_true rfl, Nat.le_of_ble_eq_true rfl⟩) (xx_preV hK hN hP hD [7, 8, 9, 10, 11, 12, 13] (by decide) rfl 2 7 rfl rfl) rfl rfl hl.1 rfl (lv_room (Nat.le_of_ble_eq_true rfl)) dX5_take_161 ⟨Nat.le_of_ble_eq_true rfl, Nat.le_of_ble_eq_true rfl⟩) hP hD hS hA rfl rfl (by decide) (by decide) (fun r161 u161 H locs hw161 hP hD hS => ?_)
                rcases hw161 with ⟨rfl, hq161⟩ | ⟨rfl, hq161⟩
                · have hP : va_P D vwCl ((bT k ot tq ow oe oc ou oa to tt) ++ (bA k oa ac as) ++ (bC k oc cc ca cl ch) ++ (bU k ou uc ut ub ul uw) ++ (bE k oe ec ew el ea ed et ex)) H := hP
                  have hD : va_D A ((bT k ot tq ow oe oc ou oa to tt) ++ (bA k oa ac as) ++ (bC k oc cc ca cl ch) ++ (bU k ou uc ut ub ul uw) ++ (bE k oe ec ew el ea ed et ex)) := hD
                  refine lv_if_ne (tgt := 169) hx hb dX5_take_164 (by decide) (fun _ => ?_) (fun c => absurd c (by decide))
                  refine lv_aload_n hx hb dX5_take_169 rfl (lv_at hl 4 rfl) ?_
                  refine va_get (D := D) (ci := 5) (v := .ref (oe 0)) (C := RX5) (T := TX5) (N := 8) hx hb hts hinW hown hK hP 0 rfl rfl 2 (by decide) (hts _ tw_139) (fun _ h9 => h9) rfl dX5_take_170 ?_
                  refine lv_lload_n hx hb dX5_take_173 rfl (lv_at hl 5 rfl) ?_
                  refine lv_iload hx hb dX5_take_174 (lv_at hl 1 rfl) ?_
                  refine lv_lload hx hb dX5_take_176 (lv_at hl 8 rfl) ?_
                  refine xx_calli ((bT k ot tq ow oe oc ou oa to tt) ++ (bA k oa ac as) ++ (bC k oc cc ca cl ch) ++ (bU k ou uc ut ub ul uw)) [12, 13, 14, 15, 16, 17, 18] [0, 1, 2, 3, 4, 5, 6, 7, 8, 9, 10, 11] (va_runV (As := [.long a, .int r115, .long tm]) (rest := []) ⟨hx, hb, hml, hown, hts⟩ (c_E_first l D k oe ec ew el ea ed et ex a r115 tm (by omega) H.size) (cwV 3 hts (xx_gV tw_342 tw_338 tw_339 tw_4 tw_340) rfl rfl rfl (by decide +kernel) ⟨Nat.le_of_ble_eq_true rfl, Nat.le_of_ble_eq_true rfl⟩) (xx_preV hK hN hP hD [12, 13, 14, 15, 16, 17, 18] (by decide) rfl 2 12 rfl rfl) rfl rfl hl.1 rfl (lv_room (Nat.le_of_ble_eq_true rfl)) dX5_take_178 ⟨Nat.le_of_ble_eq_true rfl, Nat.le_of_ble_eq_true rfl⟩) hP hD hS hA rfl rfl (by decide) (by decide) (fun r178 u178 H locs hw178 hP hD hS => ?_)
                  have hP : va_P D vwCl ((bT k ot tq ow oe oc ou oa to tt) ++ (bA k oa ac as) ++ (bC k oc cc ca cl ch) ++ (bU k ou uc ut ub ul uw) ++ (bE k oe ec ew el ea ed et ex)) H := hP
                  have hD : va_D A ((bT k ot tq ow oe oc ou oa to tt) ++ (bA k oa ac as) ++ (bC k oc cc ca cl ch) ++ (bU k ou uc ut ub ul uw) ++ (bE k oe ec ew el ea ed et ex)) := hD
                  refine lv_istore (lv' := [(11, .int r178), (10, .int (xs_pop (xs_seen (fun z9 => decide (ex z9 = false ∧ ea z9 = a ∧ ¬ (el z9 < r115) ∧ ¬ (tm < et z9))) ew ec))), (9, .int r115), (8, .int (-1)), (7, .int r32), (0, .ref ot), (1, .long a), (3, .int t), (4, .int b), (5, .long tm)]) hx hb dX5_take_181 hl (by decide) rfl (fun ls hl => ?_)
                  refine lv_aload_n hx hb dX5_take_183 rfl (lv_at hl 5 rfl) ?_
                  refine va_get (D := D) (ci := 5) (v := .ref (oa 0)) (C := RX5) (T := TX5) (N := 8) hx hb hts hinW hown hK hP 0 rfl rfl 5 (by decide) (hts _ tw_142) (fun _ h9 => h9) rfl dX5_take_184 ?_
                  refine lv_iload_n hx hb dX5_take_187 rfl (lv_at hl 7 rfl) ?_
                  refine lv_iload hx hb dX5_take_188 (lv_at hl 8 rfl) ?_
                  refine lv_iload hx hb dX5_take_190 (lv_at hl 4 rfl) ?_
                  refine lv_iload hx hb dX5_take_192 (lv_at hl 1 rfl) ?_
                  refine lv_iload hx hb dX5_take_194 (lv_at hl 0 rfl) ?_
                  refine xx_callv ((bT k ot tq ow oe oc ou oa to tt) ++ (bC k oc cc ca cl ch) ++ (bU k ou uc ut ub ul uw) ++ (bE k oe ec ew el ea ed et ex)) [1, 2] [0, 3, 4, 5, 6, 7, 8, 9, 10, 11, 12, 13, 14, 15, 16, 17, 18] (va_runV (As := [.int t, .int b, .int r32, .int (xs_pop (xs_seen (fun z9 => decide (ex z9 = false ∧ ea z9 = a ∧ ¬ (el z9 < r115) ∧ ¬ (tm < et z9))) ew ec)), .int r178]) (rest := []) ⟨hx, hb, hml, hown, hts⟩ (c_A_add l D k oa ac as t b r32 (xs_pop (xs_seen (fun z9 => decide (ex z9 = false ∧ ea z9 = a ∧ ¬ (el z9 < r115) ∧ ¬ (tm < et z9))) ew ec)) r178 (by omega) H.size) (cwV 5 hts (xx_gV tw_307 tw_308 tw_309 tw_7 tw_310) rfl rfl rfl (by decide +kernel) ⟨Nat.le_of_ble_eq_true rfl, Nat.le_of_ble_eq_true rfl⟩) (xx_preV hK hN hP hD [1, 2] (by decide) rfl 0 1 rfl rfl) rfl rfl hl.1 rfl (lv_room (Nat.le_of_ble_eq_true rfl)) dX5_take_196 ⟨Nat.le_of_ble_eq_true rfl, Nat.le_of_ble_eq_true rfl⟩) hP hD hS hA rfl rfl (by decide) (by decide) (fun u196 H locs hw196 hP hD hS => ?_)
                  have hP : va_P D vwCl ((bT k ot tq ow oe oc ou oa to tt) ++ (bC k oc cc ca cl ch) ++ (bU k ou uc ut ub ul uw) ++ (bE k oe ec ew el ea ed et ex) ++ (bA k oa u196.1 u196.2)) H := hP
                  have hD : va_D A ((bT k ot tq ow oe oc ou oa to tt) ++ (bC k oc cc ca cl ch) ++ (bU k ou uc ut ub ul uw) ++ (bE k oe ec ew el ea ed et ex) ++ (bA k oa u196.1 u196.2)) := hD
                  refine lv_aload_n hx hb dX5_take_199 rfl (lv_at hl 5 rfl) ?_
                  refine lv_aload_n hx hb dX5_take_200 rfl (lv_at hl 5 rfl) ?_
                  refine va_get (D := D) (ci := 5) (v := .ref (oe 0)) (C := RX5) (T := TX5) (N := 8) hx hb hts hinW hown hK hP 0 rfl rfl 2 (by decide) (hts _ tw_139) (fun _ h9 => h9) rfl dX5_take_201 ?_
                  refine lv_iload hx hb dX5_take_204 (lv_at hl 0 rfl) ?_
                  refine xx_calll ((bT k ot tq ow oe oc ou oa to tt) ++ (bC k oc cc ca cl ch) ++ (bU k ou uc ut ub ul uw) ++ (bA k oa u196.1 u196.2)) [10, 11, 12, 13, 14, 15, 16] [0, 1, 2, 3, 4, 5, 6, 7, 8, 9, 17, 18] (va_runV (As := [.int r178]) (rest := [.ref ot]) ⟨hx, hb, hml, hown, hts⟩ (c_E_digest l D k oe ec ew el ea ed et ex r178 (by omega) H.size) (cwV 1 hts (xx_gV tw_311 tw_312 tw_313 tw_4 tw_314) rfl rfl rfl (by decide +kernel) ⟨Nat.le_of_ble_eq_true rfl, Nat.le_of_ble_eq_true rfl⟩) (xx_preV hK hN hP hD [10, 11, 12, 13, 14, 15, 16] (by decide) rfl 2 10 rfl rfl) rfl rfl hl.1 rfl (lv_room (Nat.le_of_ble_eq_true rfl)) dX5_take_206 ⟨Nat.le_of_ble_eq_true rfl, Nat.le_of_ble_eq_true rfl⟩) hP hD hS hA rfl rfl (by decide) (by decide) (fun r206 u206 H locs hw206 hP hD hS => ?_)
                  have hP : va_P D vwCl ((bT k ot tq ow oe oc ou oa to tt) ++ (bC k oc cc ca cl ch) ++ (bU k ou uc ut ub ul uw) ++ (bA k oa u196.1 u196.2) ++ (bE k oe ec ew el ea ed et ex)) H := hP
                  have hD : va_D A ((bT k ot tq ow oe oc ou oa to tt) ++ (bC k oc cc ca cl ch) ++ (bU k ou uc ut ub ul uw) ++ (bA k oa u196.1 u196.2) ++ (bE k oe ec ew el ea ed et ex)) := hD
                  refine va_put (D := D) (ci := 5) (v := .long r206) (ty := .long) (C := RX5) (T := TX5) (N := 8) hx hb hts hinW tyX5 tyX5_ok nmX5 hown hK hP hD hS 0 rfl rfl 7 (by decide) (hts _ tw_144) (fun _ h9 => h9) rfl (by decide +kernel) rfl rfl (Nat.le_of_ble_eq_true rfl) dX5_take_209 (fun H locs hP hD hS => ?_)
                  have hP : va_P D vwCl ((bT k ot tq ow oe oc ou oa to r206) ++ (bC k oc cc ca cl ch) ++ (bU k ou uc ut ub ul uw) ++ (bA k oa u196.1 u196.2) ++ (bE k oe ec ew el ea ed et ex)) H := hP
                  have hD : va_D A ((bT k ot tq ow oe oc ou oa to r206) ++ (bC k oc cc ca cl ch) ++ (bU k ou uc ut ub ul uw) ++ (bA k oa u196.1 u196.2) ++ (bE k oe ec ew el ea ed et ex)) := hD
                  refine lv_iconst (v := (nI 1)) hx hb dX5_take_212 (by decide) ?_
                  refine xx_iret (r206, u196.1, u196.2) hx hb hr hlocks hS hK (xx_subP hP [0, 12, 13, 14, 15, 16, 17, 18, 1, 2, 3, 4, 5, 6, 7, 8, 9, 10, 11] rfl) (hD.sub [0, 12, 13, 14, 15, 16, 17, 18, 1, 2, 3, 4, 5, 6, 7, 8, 9, 10, 11] (by decide) rfl) dX5_take_213 ?_
                  first | exact Or.inr ⟨⟨⟨hq1, hq9⟩, xx_lnlt c19⟩, r32, hw32, Or.inr ⟨fun h => xx_tf h.1 c41, Or.inr ⟨hq101, r115, r146, hw115, hw146, Or.inr ⟨rfl, ⟨c149, hq161⟩, r178, hw178, hw206, hw196⟩⟩⟩⟩ | exact Or.inr ⟨⟨⟨hq1, hq9⟩, xx_lnlt c19⟩, r32, hw32, Or.inr ⟨fun ⟨_, j, z1, z2⟩ => hq51 j z1 z2, Or.inr ⟨hq101, r115, r146, hw115, hw146, Or.inr ⟨rfl, ⟨c149, hq161⟩, r178, hw178, hw206, hw196⟩⟩⟩⟩
                · have hP : va_P D vwCl ((bT k ot tq ow oe oc ou oa to tt) ++ (bA k oa ac as) ++ (bC k oc cc ca cl ch) ++ (bU k ou uc ut ub ul uw) ++ (bE k oe ec ew el ea ed et ex)) H := hP
                  have hD : va_D A ((bT k ot tq ow oe oc ou oa to tt) ++ (bA k oa ac as) ++ (bC k oc cc ca cl ch) ++ (bU k ou uc ut ub ul uw) ++ (bE k oe ec ew el ea ed et ex)) := hD
                  refine lv_if_ne (tgt := 169) hx hb dX5_take_164 (by decide) (fun c => absurd c (by decide)) (fun _ => ?_)
                  refine lv_iconst (v := (-1)) hx hb dX5_take_167 (by decide) ?_
                  refine xx_iret (tt, ac, as) hx hb hr hlocks hS hK (xx_subP hP [0, 12, 13, 14, 15, 16, 17, 18, 3, 4, 5, 6, 7, 8, 9, 10, 11, 1, 2] rfl) (hD.sub [0, 12, 13, 14, 15, 16, 17, 18, 3, 4, 5, 6, 7, 8, 9, 10, 11, 1, 2] (by decide) rfl) dX5_take_168 ?_
                  first | exact Or.inr ⟨⟨⟨hq1, hq9⟩, xx_lnlt c19⟩, r32, hw32, Or.inr ⟨fun h => xx_tf h.1 c41, Or.inr ⟨hq101, r115, r146, hw115, hw146, Or.inl ⟨rfl, fun h => h.1 c149, rfl⟩⟩⟩⟩ | exact Or.inr ⟨⟨⟨hq1, hq9⟩, xx_lnlt c19⟩, r32, hw32, Or.inr ⟨fun h => xx_tf h.1 c41, Or.inr ⟨hq101, r115, r146, hw115, hw146, Or.inl ⟨rfl, fun h => hq161 h.2, rfl⟩⟩⟩⟩ | exact Or.inr ⟨⟨⟨hq1, hq9⟩, xx_lnlt c19⟩, r32, hw32, Or.inr ⟨fun ⟨_, j, z1, z2⟩ => hq51 j z1 z2, Or.inr ⟨hq101, r115, r146, hw115, hw146, Or.inl ⟨rfl, fun h => h.1 c149, rfl⟩⟩⟩⟩ | exact Or.inr ⟨⟨⟨hq1, hq9⟩, xx_lnlt c19⟩, r32, hw32, Or.inr ⟨fun ⟨_, j, z1, z2⟩ => hq51 j z1 z2, Or.inr ⟨hq101, r115, r146, hw115, hw146, Or.inl ⟨rfl, fun h => hq161 h.2, rfl⟩⟩⟩⟩
          · have hP : va_P D vwCl ((bT k ot tq ow oe oc ou oa to tt) ++ (bC k oc cc ca cl ch) ++ (bA k oa ac as) ++ (bU k ou uc ut ub ul uw) ++ (bE k oe ec ew el ea ed et ex)) H := hP
            have hD : va_D A ((bT k ot tq ow oe oc ou oa to tt) ++ (bC k oc cc ca cl ch) ++ (bA k oa ac as) ++ (bU k ou uc ut ub ul uw) ++ (bE k oe ec ew el ea ed et ex)) := hD
            refine lv_goto (tgt := 58) hx hb dX5_take_54 (by decide) ?_
            refine lv_istore (lv' := [(8, .int (nI b51)), (7, .int r32), (0, .ref ot), (1, .long a), (3, .int t), (4, .int b), (5, .long tm)]) hx hb dX5_take_58 hl (by decide) rfl (fun ls hl => ?_)
            refine lv_iload hx hb dX5_take_60 (lv_at hl 0 rfl) ?_
            refine lv_iconst (v := (-1)) hx hb dX5_take_62 (by decide) ?_
            refine lv_icmp_eq (tgt := 96) hx hb dX5_take_63 (by decide) (fun c => absurd c (xx_nm1 (by omega))) (fun _ => ?_)
            refine lv_aload_n hx hb dX5_take_66 rfl (lv_at hl 2 rfl) ?_
            refine va_get (D := D) (ci := 5) (v := .ref (oa 0)) (C := RX5) (T := TX5) (N := 8) hx hb hts hinW hown hK hP 0 rfl rfl 5 (by decide) (hts _ tw_142) (fun _ h9 => h9) rfl dX5_take_67 ?_
            refine lv_iload_n hx hb dX5_take_70 rfl (lv_at hl 4 rfl) ?_
            refine lv_iload hx hb dX5_take_71 (lv_at hl 5 rfl) ?_
            refine lv_iload hx hb dX5_take_73 (lv_at hl 1 rfl) ?_
            refine lv_iconst (v := (nI 0)) hx hb dX5_take_75 (by decide) ?_
            refine lv_iload hx hb dX5_take_76 (lv_at hl 0 rfl) ?_
            refine xx_callv ((bT k ot tq ow oe oc ou oa to tt) ++ (bC k oc cc ca cl ch) ++ (bU k ou uc ut ub ul uw) ++ (bE k oe ec ew el ea ed et ex)) [5, 6] [0, 1, 2, 3, 4, 7, 8, 9, 10, 11, 12, 13, 14, 15, 16, 17, 18] (va_runV (As := [.int t, .int b, .int r32, .int (nI 0), .int (nI b51)]) (rest := []) ⟨hx, hb, hml, hown, hts⟩ (c_A_add l D k oa ac as t b r32 (nI 0) (nI b51) (by omega) H.size) (cwV 5 hts (xx_gV tw_307 tw_308 tw_309 tw_7 tw_310) rfl rfl rfl (by decide +kernel) ⟨Nat.le_of_ble_eq_true rfl, Nat.le_of_ble_eq_true rfl⟩) (xx_preV hK hN hP hD [5, 6] (by decide) rfl 0 5 rfl rfl) rfl rfl hl.1 rfl (lv_room (Nat.le_of_ble_eq_true rfl)) dX5_take_78 ⟨Nat.le_of_ble_eq_true rfl, Nat.le_of_ble_eq_true rfl⟩) hP hD hS hA rfl rfl (by decide) (by decide) (fun u78 H locs hw78 hP hD hS => ?_)
            have hP : va_P D vwCl ((bT k ot tq ow oe oc ou oa to tt) ++ (bC k oc cc ca cl ch) ++ (bU k ou uc ut ub ul uw) ++ (bE k oe ec ew el ea ed et ex) ++ (bA k oa u78.1 u78.2)) H := hP
            have hD : va_D A ((bT k ot tq ow oe oc ou oa to tt) ++ (bC k oc cc ca cl ch) ++ (bU k ou uc ut ub ul uw) ++ (bE k oe ec ew el ea ed et ex) ++ (bA k oa u78.1 u78.2)) := hD
            refine lv_aload_n hx hb dX5_take_81 rfl (lv_at hl 2 rfl) ?_
            refine lv_aload_n hx hb dX5_take_82 rfl (lv_at hl 2 rfl) ?_
            refine va_get (D := D) (ci := 5) (v := .ref (oe 0)) (C := RX5) (T := TX5) (N := 8) hx hb hts hinW hown hK hP 0 rfl rfl 2 (by decide) (hts _ tw_139) (fun _ h9 => h9) rfl dX5_take_83 ?_
            refine lv_iload hx hb dX5_take_86 (lv_at hl 0 rfl) ?_
            refine xx_calll ((bT k ot tq ow oe oc ou oa to tt) ++ (bC k oc cc ca cl ch) ++ (bU k ou uc ut ub ul uw) ++ (bA k oa u78.1 u78.2)) [10, 11, 12, 13, 14, 15, 16] [0, 1, 2, 3, 4, 5, 6, 7, 8, 9, 17, 18] (va_runV (As := [.int (nI b51)]) (rest := [.ref ot]) ⟨hx, hb, hml, hown, hts⟩ (c_E_digest l D k oe ec ew el ea ed et ex (nI b51) (by omega) H.size) (cwV 1 hts (xx_gV tw_311 tw_312 tw_313 tw_4 tw_314) rfl rfl rfl (by decide +kernel) ⟨Nat.le_of_ble_eq_true rfl, Nat.le_of_ble_eq_true rfl⟩) (xx_preV hK hN hP hD [10, 11, 12, 13, 14, 15, 16] (by decide) rfl 2 10 rfl rfl) rfl rfl hl.1 rfl (lv_room (Nat.le_of_ble_eq_true rfl)) dX5_take_88 ⟨Nat.le_of_ble_eq_true rfl, Nat.le_of_ble_eq_true rfl⟩) hP hD hS hA rfl rfl (by decide) (by decide) (fun r88 u88 H locs hw88 hP hD hS => ?_)
            rcases hw88 with ⟨j88, hj88, hx88, rfl⟩ | ⟨hq88, rfl⟩
            · have hx88 : b51 = j88 := (nI_eq (by omega) (by omega)).mp hx88
              subst hx88
              have hP : va_P D vwCl ((bT k ot tq ow oe oc ou oa to tt) ++ (bC k oc cc ca cl ch) ++ (bU k ou uc ut ub ul uw) ++ (bA k oa u78.1 u78.2) ++ (bE k oe ec ew el ea ed et ex)) H := hP
              have hD : va_D A ((bT k ot tq ow oe oc ou oa to tt) ++ (bC k oc cc ca cl ch) ++ (bU k ou uc ut ub ul uw) ++ (bA k oa u78.1 u78.2) ++ (bE k oe ec ew el ea ed et ex)) := hD
              refine va_put (D := D) (ci := 5) (v := .long (ed b51)) (ty := .long) (C := RX5) (T := TX5) (N := 8) hx hb hts hinW tyX5 tyX5_ok nmX5 hown hK hP hD hS 0 rfl rfl 7 (by decide) (hts _ tw_144) (fun _ h9 => h9) rfl (by decide +kernel) rfl rfl (Nat.le_of_ble_eq_true rfl) dX5_take_91 (fun H locs hP hD hS => ?_)
              have hP : va_P D vwCl ((bT k ot tq ow oe oc ou oa to (ed b51)) ++ (bC k oc cc ca cl ch) ++ (bU k ou uc ut ub ul uw) ++ (bA k oa u78.1 u78.2) ++ (bE k oe ec ew el ea ed et ex)) H := hP
              have hD : va_D A ((bT k ot tq ow oe oc ou oa to (ed b51)) ++ (bC k oc cc ca cl ch) ++ (bU k ou uc ut ub ul uw) ++ (bA k oa u78.1 u78.2) ++ (bE k oe ec ew el ea ed et ex)) := hD
              refine lv_iconst (v := (nI 2)) hx hb dX5_take_94 (by decide) ?_
              refine xx_iret ((ed b51), u78.1, u78.2) hx hb hr hlocks hS hK (xx_subP hP [0, 12, 13, 14, 15, 16, 17, 18, 1, 2, 3, 4, 5, 6, 7, 8, 9, 10, 11] rfl) (hD.sub [0, 12, 13, 14, 15, 16, 17, 18, 1, 2, 3, 4, 5, 6, 7, 8, 9, 10, 11] (by decide) rfl) dX5_take_95 ?_
              exact Or.inr ⟨⟨⟨hq1, hq9⟩, xx_lnlt c19⟩, r32, hw32, Or.inl ⟨c41, b51, ⟨hb51, ho51, hl51⟩, rfl, rfl, hw78⟩⟩
            · exact absurd ⟨b51, (by omega), rfl⟩ hq88
      · have c19 : ¬ (0 ≤ tm) := fun h => c19 ((lg_cmp_ge tm 0).mpr h)
        refine lv_bipush (v := (-2)) hx hb dX5_take_22 (by decide) ?_
        refine xx_iret (tt, ac, as) hx hb hr hlocks hS hK hP hD dX5_take_24 ?_
        first | exact Or.inl ⟨rfl, fun h => hq1 h.1.1, rfl⟩ | exact Or.inl ⟨rfl, fun h => hq9 h.1.2, rfl⟩ | exact Or.inl ⟨rfl, fun h => h.2 (xx_lnle c19), rfl⟩
    · have hP : va_P D vwCl ((bT k ot tq ow oe oc ou oa to tt) ++ (bE k oe ec ew el ea ed et ex) ++ (bC k oc cc ca cl ch) ++ (bU k ou uc ut ub ul uw) ++ (bA k oa ac as)) H := hP
      have hD : va_D A ((bT k ot tq ow oe oc ou oa to tt) ++ (bE k oe ec ew el ea ed et ex) ++ (bC k oc cc ca cl ch) ++ (bU k ou uc ut ub ul uw) ++ (bA k oa ac as)) := hD
      refine lv_if_eq (tgt := 22) hx hb dX5_take_12 (by decide) (fun _ => ?_) (fun c => absurd c (by decide))
      refine lv_bipush (v := (-2)) hx hb dX5_take_22 (by decide) ?_
      refine xx_iret (tt, ac, as) hx hb hr hlocks hS hK hP hD dX5_take_24 ?_
      first | exact Or.inl ⟨rfl, fun h => hq1 h.1.1, rfl⟩ | exact Or.inl ⟨rfl, fun h => hq9 h.1.2, rfl⟩ | exact Or.inl ⟨rfl, fun h => h.2 (xx_lnle c19), rfl⟩
  · have hP : va_P D vwCl ((bT k ot tq ow oe oc ou oa to tt) ++ (bE k oe ec ew el ea ed et ex) ++ (bC k oc cc ca cl ch) ++ (bU k ou uc ut ub ul uw) ++ (bA k oa ac as)) H := hP
    have hD : va_D A ((bT k ot tq ow oe oc ou oa to tt) ++ (bE k oe ec ew el ea ed et ex) ++ (bC k oc cc ca cl ch) ++ (bU k ou uc ut ub ul uw) ++ (bA k oa ac as)) := hD
    refine lv_if_eq (tgt := 22) hx hb dX5_take_4 (by decide) (fun _ => ?_) (fun c => absurd c (by decide))
    refine lv_bipush (v := (-2)) hx hb dX5_take_22 (by decide) ?_
    refine xx_iret (tt, ac, as) hx hb hr hlocks hS hK hP hD dX5_take_24 ?_
    first | exact Or.inl ⟨rfl, fun h => hq1 h.1.1, rfl⟩ | exact Or.inl ⟨rfl, fun h => hq9 h.1.2, rfl⟩ | exact Or.inl ⟨rfl, fun h => h.2 (xx_lnle c19), rfl⟩
