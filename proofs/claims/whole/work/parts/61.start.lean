theorem xs_clamp_1 (x : Int32) : ¬ xs_clamp x < nI 1 := by
  unfold xs_clamp
  generalize (if x < nI 5 then x else nI 5) = y
  by_cases h : nI 1 < y
  · rw [if_pos h]
    rw [Int32.lt_iff_toInt_lt] at h ⊢
    omega
  · rw [if_neg h]
    decide
theorem xI_0 (x : Int32) : xI (xs_clamp x) 0 (fun _ => 0) (fun _ => 0) 0 (fun _ => 0) (fun _ => 0) (fun _ => 0) (fun _ => false) 0 (fun _ => 0) 0 (fun _ => 0) 0 :=
  ⟨⟨Nat.zero_le _, fun _ => Nat.zero_le _, Nat.zero_le _, fun _ => Nat.succ_pos _, Nat.zero_le _, Nat.zero_le _, Nat.zero_le _⟩, fun i h => absurd h (Nat.not_lt_zero i), fun i h => absurd h (Nat.not_lt_zero i), fun _ _ => rfl, Nat.zero_le _, xs_clamp_1 x, fun i h => absurd h (Nat.not_lt_zero i)⟩
theorem law_arr {s : State} {args : Array Value} {ty : FieldType} (h : (Cond.arrayClass ty).before args s = true) (hra : ∀ x : ClassId, s.vm.findClass ("[" ++ ty.toString) = some x → va_RA s x ty) : ∃ cA : ClassId, ArrOfT s cA ty ∧ va_RA s cA ty := by
  obtain ⟨cA, kA, comp, h1, h2, h3⟩ := Cond.arrayClass_spec h
  exact ⟨cA, fun n z => ⟨fun k h => (by cases h), kA, h2, comp, h3⟩, hra _ h1⟩
theorem nw_26 : (.methodLinkNest RX5 24 yX4_init "TrustRows" : Cond) ∈ lw_tbl := List.mem_append_right _ (List.mem_of_getElem? (i := 26) (by decide +kernel))
theorem nw_57 : (.methodLinkNest RX5 31 yX2_init "TrustRows" : Cond) ∈ lw_tbl := List.mem_append_right _ (List.mem_of_getElem? (i := 57) (by decide +kernel))
theorem nw_85 : (.methodLinkNest RX5 38 yX1_init "TrustRows" : Cond) ∈ lw_tbl := List.mem_append_right _ (List.mem_of_getElem? (i := 85) (by decide +kernel))
theorem nw_104 : (.methodLinkNest RX5 45 yX3_init "TrustRows" : Cond) ∈ lw_tbl := List.mem_append_right _ (List.mem_of_getElem? (i := 104) (by decide +kernel))
theorem nw_126 : (.methodLinkNest RX5 52 yX0_init "TrustRows" : Cond) ∈ lw_tbl := List.mem_append_right _ (List.mem_of_getElem? (i := 126) (by decide +kernel))
theorem nw_170 : (.methodLinkNest RX4 36 yX5_isLevel "TrustRows" : Cond) ∈ lw_tbl := List.mem_append_right _ (List.mem_of_getElem? (i := 170) (by decide +kernel))
theorem nw_210 : (.methodLinkNest RX4 46 yX5_sumUnder "TrustRows" : Cond) ∈ lw_tbl := List.mem_append_right _ (List.mem_of_getElem? (i := 210) (by decide +kernel))
theorem nw_268 : (.methodLinkNest RX3 28 yX5_isPlaceOrAny "TrustRows" : Cond) ∈ lw_tbl := List.mem_append_right _ (List.mem_of_getElem? (i := 268) (by decide +kernel))
theorem nw_274 : (.methodLinkNest RX3 32 yX5_isLevel "TrustRows" : Cond) ∈ lw_tbl := List.mem_append_right _ (List.mem_of_getElem? (i := 274) (by decide +kernel))
set_option maxHeartbeats 4000000 in
set_option maxRecDepth 100000 in
/-- THE LAW, from its entry -/
theorem whole_start {p : Program} {e : Env} {s : State} {m : MethodId} {below : List Frame} {meth : Method} {c : Code} (l : Launch) {b L : Nat} {xs : Nat → Int32} (hL : L ≤ 6145) (C0 : lw_At p s m meth c b L xs) : W p l e room_1 s m #[Value.ref b] below meth c s.heap [] 0 0 (lw_Z below #[Value.ref b] s) (entryFrame m ([Value.ref b] : List Value).toArray 4) := by
  obtain ⟨hx, hb, hr, hml, hown, hts0, hX, hbl, hlocks, hgv⟩ := id C0
  have hown : s.vm.findClass RL = some m.cls := hown
  have hts : ∀ w ∈ xall, w.before #[Value.ref b] s = true := fun w h => hts0 w (List.mem_filter.mp h).1
  obtain ⟨A, hAe⟩ : ∃ A : Nat → Prop, A = fun q => s.heap.size ≤ q := ⟨_, rfl⟩
  have hA : ∀ q, s.heap.size ≤ q → A q := fun q h => by rw [hAe]; exact h
  have hA9 : ∀ q, A q → s.heap.size ≤ q := fun q h => by rw [hAe] at h; exact h
  have hbA : ¬ A b := fun h => absurd (hA9 b h) (Nat.not_le.mpr hbl)
  obtain ⟨c0, iS0, hKn0⟩ := u_known (C := RX0) (T := TX0) (N := 2) (n := 2) hts inX0 (hts _ tw_125)
  obtain ⟨c1, iS1, hKn1⟩ := u_known (C := RX1) (T := TX1) (N := 4) (n := 4) hts inX1 (hts _ tw_84)
  obtain ⟨c2, iS2, hKn2⟩ := u_known (C := RX2) (T := TX2) (N := 7) (n := 7) hts inX2 (hts _ tw_56)
  obtain ⟨c3, iS3, hKn3⟩ := u_known (C := RX3) (T := TX3) (N := 5) (n := 5) hts inX3 (hts _ tw_103)
  obtain ⟨c4, iS4, hKn4⟩ := u_known (C := RX4) (T := TX4) (N := 7) (n := 7) hts inX4 (hts _ tw_25)
  obtain ⟨c5, iS5, hKn5⟩ := u_known (C := RX5) (T := TX5) (N := 8) (n := 8) hts inX5 (hts _ tw_11)
  obtain ⟨c6, iS6, hKn6⟩ := u_known (C := RX6) (T := TX6) (N := 28) (n := 28) hts inX6 (hts _ tw_371)
  obtain ⟨kI, hkI1, hkI2⟩ := law_arr (hts _ tw_52) (fun _ h => h)
  obtain ⟨kZ, hkZ1, hkZ2⟩ := law_arr (hts _ tw_53) (fun _ h => h)
  obtain ⟨kJ, hkJ1, hkJ2⟩ := law_arr (hts _ tw_54) (fun _ h => h)
  obtain ⟨D, k, hK⟩ : ∃ (D : va_G) (k : Nat → ClassId), va_K D vwCl (xT k) s := by
    refine ⟨(fun j => match j with | 0 => c0 | 1 => c1 | 2 => c2 | 3 => c3 | 4 => c4 | 5 => c5 | _ => c6, fun j => match j with | 0 => iS0 | 1 => iS1 | 2 => iS2 | 3 => iS3 | 4 => iS4 | 5 => iS5 | _ => iS6), fun j => match j with | 0 => kI | 1 => kZ | _ => kJ, ?_, ?_⟩
    · intro j q hq
      match j, hq with
      | 0, hq => cases hq; exact hKn0
      | 1, hq => cases hq; exact hKn1
      | 2, hq => cases hq; exact hKn2
      | 3, hq => cases hq; exact hKn3
      | 4, hq => cases hq; exact hKn4
      | 5, hq => cases hq; exact hKn5
      | 6, hq => cases hq; exact hKn6
      | j + 7, hq => simp [vwCl] at hq
    · intro j q hq
      match j, hq with
      | 0, hq => cases hq; exact ⟨hkI1, hkI2⟩
      | 1, hq => cases hq; exact ⟨hkZ1, hkZ2⟩
      | 2, hq => cases hq; exact ⟨hkJ1, hkJ2⟩
      | j + 3, hq => simp at hq
  have hN : xx_N s := by
    unfold xx_N xx_nest
    exact List.forall_mem_cons.mpr ⟨va_Nw.of rfl (hts0 _ nw_26), List.forall_mem_cons.mpr ⟨va_Nw.of rfl (hts0 _ nw_57), List.forall_mem_cons.mpr ⟨va_Nw.of rfl (hts0 _ nw_85), List.forall_mem_cons.mpr ⟨va_Nw.of rfl (hts0 _ nw_104), List.forall_mem_cons.mpr ⟨va_Nw.of rfl (hts0 _ nw_126), List.forall_mem_cons.mpr ⟨va_Nw.of rfl (hts0 _ nw_170), List.forall_mem_cons.mpr ⟨va_Nw.of rfl (hts0 _ nw_210), List.forall_mem_cons.mpr ⟨va_Nw.of rfl (hts0 _ nw_268), List.forall_mem_cons.mpr ⟨va_Nw.of rfl (hts0 _ nw_274), fun _ h => absurd h List.not_mem_nil⟩⟩⟩⟩⟩⟩⟩⟩⟩
  have C : LC p s m c D k A b L xs := ⟨hx, hb, hml, hown, hts, hX, hbl, hbA, hA, hK, hN, hL⟩
  have hS : va_S A s.heap s.heap [] := va_S.rf
  have hP : va_P D vwCl [] s.heap := fun k q h => by simp at h
  have hD : va_D A [] := ⟨fun i j p q h => by simp at h, fun k q h => by simp at h⟩
  have hl := lv_entry ([.ref b]) (n := 4) (Nat.le_of_ble_eq_true rfl)
  rw [lg_entry_eq]
  generalize (lg_sl ([.ref b]) ++ List.replicate (4 - (lg_sl ([.ref b])).length) Slot.unset).toArray = ls at hl ⊢
  have hl : lv_has ls 4 [(0, .ref b)] := hl
  refine va_new (ci := 5) (fs := [.int (nI 0), .null, .null, .null, .null, .null, .int (bI false), .long 0]) (C := RX5) (T := TX5) (N := 8) hx hb hts inX5 tyX5 tyX5_ok hown (hts _ tw_10) (hts _ tw_11) (hts _ tw_1) hK hP hD hS hA rfl (fun j hj => by rcases (show j = 0 ∨ j = 1 ∨ j = 2 ∨ j = 3 ∨ j = 4 ∨ j = 5 ∨ j = 6 ∨ j = 7 by omega) with rfl | rfl | rfl | rfl | rfl | rfl | rfl | rfl <;> rfl) (Nat.le_of_ble_eq_true rfl) (Nat.le_of_ble_eq_true rfl) dL_law_0 (fun q0 H hP hD hS => ?_)
  have hP : va_P D vwCl ([(q0, .inr (5, [.int (nI 0), .null, .null, .null, .null, .null, .int (bI false), .long 0]))]) H := hP
  have hD : va_D A ([(q0, .inr (5, [.int (nI 0), .null, .null, .null, .null, .null, .int (bI false), .long 0]))]) := hD
  refine W.widen (k := 1) (n := 8) (Nat.le_of_ble_eq_true rfl) (Nat.le_of_ble_eq_true rfl) ?_
  refine lv_dup hx hb dL_law_3 rfl ?_
  refine lv_aload_n hx hb dL_law_4 rfl (lv_at hl 0 rfl) ?_
  refine lv_iconst (v := (nI 0)) hx hb dL_law_5 (by decide) ?_
  refine law_cell C hP hS hl.1 (Nat.le_of_ble_eq_true rfl) (Nat.le_of_ble_eq_true rfl) (Nat.le_of_ble_eq_true rfl) dL_law_6 (fun H locs hP hS => ?_)
  refine xx_callv ([]) [0] [] (va_runI (As := [.int (xcell L xs)]) (rest := [.ref q0]) ⟨hx, hb, hml, hown, hts⟩ (c_T_init l D k q0 (xcell L xs) H.size) (cwI 1 hts (xx_gc tw_14) rfl rfl rfl (hts _ tw_1) (hts _ tw_12) (hts _ tw_13) rfl (by decide +kernel) ⟨Nat.le_of_ble_eq_true rfl, Nat.le_of_ble_eq_true rfl⟩) (xx_preS hK hN hP hD [0] (by decide) rfl) rfl rfl hl.1 rfl (lv_room (Nat.le_of_ble_eq_true rfl)) dL_law_9 ⟨Nat.le_of_ble_eq_true rfl, Nat.le_of_ble_eq_true rfl⟩) hP hD hS hA rfl rfl (by decide) (by decide) (fun u9 H locs hw9 hP9 hD9 hS9 => ?_)
  have hP : va_P D vwCl ((bT k q0 (xs_clamp (xcell L xs)) u9.1 u9.2.1 u9.2.2.1 u9.2.2.2.1 u9.2.2.2.2 false 0) ++ (bW k u9.1 0 (fun _ => 0) (fun _ => false) (fun _ => 0) (fun _ => 0) (fun _ => 0) (fun _ => 0)) ++ (bE k u9.2.1 0 (fun _ => 0) (fun _ => 0) (fun _ => 0) (fun _ => 0) (fun _ => 0) (fun _ => false)) ++ (bC k u9.2.2.1 0 (fun _ => 0) (fun _ => 0) (fun _ => 0)) ++ (bU k u9.2.2.2.1 0 (fun _ => 0) (fun _ => 0) (fun _ => 0) (fun _ => 0)) ++ (bA k u9.2.2.2.2 0 (fun _ => 0))) H := hP9
  have hD : va_D A ((bT k q0 (xs_clamp (xcell L xs)) u9.1 u9.2.1 u9.2.2.1 u9.2.2.2.1 u9.2.2.2.2 false 0) ++ (bW k u9.1 0 (fun _ => 0) (fun _ => false) (fun _ => 0) (fun _ => 0) (fun _ => 0) (fun _ => 0)) ++ (bE k u9.2.1 0 (fun _ => 0) (fun _ => 0) (fun _ => 0) (fun _ => 0) (fun _ => 0) (fun _ => false)) ++ (bC k u9.2.2.1 0 (fun _ => 0) (fun _ => 0) (fun _ => 0)) ++ (bU k u9.2.2.2.1 0 (fun _ => 0) (fun _ => 0) (fun _ => 0) (fun _ => 0)) ++ (bA k u9.2.2.2.2 0 (fun _ => 0))) := hD9
  have hS := hS9
  refine lv_astore_n (lv' := [(1, .ref q0), (0, .ref b)]) hx hb dL_law_12 rfl hl (by decide) rfl (fun ls hl => ?_)
  refine va_new (ci := 6) (fs := [.int (nI 0), .int (nI 0), .int (bI false), .int (nI 0), .null, .null, .null, .null, .null, .null, .int (nI 0), .null, .null, .null, .null, .null, .int (nI 0), .null, .null, .null, .int (nI 0), .null, .null, .null, .null, .long 0, .int (nI 0), .null]) (C := RX6) (T := TX6) (N := 28) hx hb hts inX6 tyX6 tyX6_ok hown (hts _ tw_370) (hts _ tw_371) (hts _ tw_8) hK hP hD hS hA rfl (fun j hj => by rcases (show j = 0 ∨ j = 1 ∨ j = 2 ∨ j = 3 ∨ j = 4 ∨ j = 5 ∨ j = 6 ∨ j = 7 ∨ j = 8 ∨ j = 9 ∨ j = 10 ∨ j = 11 ∨ j = 12 ∨ j = 13 ∨ j = 14 ∨ j = 15 ∨ j = 16 ∨ j = 17 ∨ j = 18 ∨ j = 19 ∨ j = 20 ∨ j = 21 ∨ j = 22 ∨ j = 23 ∨ j = 24 ∨ j = 25 ∨ j = 26 ∨ j = 27 by omega) with rfl | rfl | rfl | rfl | rfl | rfl | rfl | rfl | rfl | rfl | rfl | rfl | rfl | rfl | rfl | rfl | rfl | rfl | rfl | rfl | rfl | rfl | rfl | rfl | rfl | rfl | rfl | rfl <;> rfl) (Nat.le_of_ble_eq_true rfl) (Nat.le_of_ble_eq_true rfl) dL_law_13 (fun q13 H hP hD hS => ?_)
  have hP : va_P D vwCl ((bT k q0 (xs_clamp (xcell L xs)) u9.1 u9.2.1 u9.2.2.1 u9.2.2.2.1 u9.2.2.2.2 false 0) ++ (bW k u9.1 0 (fun _ => 0) (fun _ => false) (fun _ => 0) (fun _ => 0) (fun _ => 0) (fun _ => 0)) ++ (bE k u9.2.1 0 (fun _ => 0) (fun _ => 0) (fun _ => 0) (fun _ => 0) (fun _ => 0) (fun _ => false)) ++ (bC k u9.2.2.1 0 (fun _ => 0) (fun _ => 0) (fun _ => 0)) ++ (bU k u9.2.2.2.1 0 (fun _ => 0) (fun _ => 0) (fun _ => 0) (fun _ => 0)) ++ (bA k u9.2.2.2.2 0 (fun _ => 0)) ++ ([(q13, .inr (6, [.int (nI 0), .int (nI 0), .int (bI false), .int (nI 0), .null, .null, .null, .null, .null, .null, .int (nI 0), .null, .null, .null, .null, .null, .int (nI 0), .null, .null, .null, .int (nI 0), .null, .null, .null, .null, .long 0, .int (nI 0), .null]))])) H := hP
  have hD : va_D A ((bT k q0 (xs_clamp (xcell L xs)) u9.1 u9.2.1 u9.2.2.1 u9.2.2.2.1 u9.2.2.2.2 false 0) ++ (bW k u9.1 0 (fun _ => 0) (fun _ => false) (fun _ => 0) (fun _ => 0) (fun _ => 0) (fun _ => 0)) ++ (bE k u9.2.1 0 (fun _ => 0) (fun _ => 0) (fun _ => 0) (fun _ => 0) (fun _ => 0) (fun _ => false)) ++ (bC k u9.2.2.1 0 (fun _ => 0) (fun _ => 0) (fun _ => 0)) ++ (bU k u9.2.2.2.1 0 (fun _ => 0) (fun _ => 0) (fun _ => 0) (fun _ => 0)) ++ (bA k u9.2.2.2.2 0 (fun _ => 0)) ++ ([(q13, .inr (6, [.int (nI 0), .int (nI 0), .int (bI false), .int (nI 0), .null, .null, .null, .null, .null, .null, .int (nI 0), .null, .null, .null, .null, .null, .int (nI 0), .null, .null, .null, .int (nI 0), .null, .null, .null, .null, .long 0, .int (nI 0), .null]))])) := hD
  refine W.widen (k := 27) (n := 2071) (Nat.le_of_ble_eq_true rfl) (Nat.le_of_ble_eq_true rfl) ?_
  refine lv_dup hx hb dL_law_16 rfl ?_
  refine lv_aload_n hx hb dL_law_17 rfl (lv_at hl 1 rfl) ?_
  refine lv_iconst (v := (nI 0)) hx hb dL_law_18 (by decide) ?_
  refine law_cell C hP hS hl.1 (Nat.le_of_ble_eq_true rfl) (Nat.le_of_ble_eq_true rfl) (Nat.le_of_ble_eq_true rfl) dL_law_19 (fun H locs hP hS => ?_)
  refine xx_callv ((bT k q0 (xs_clamp (xcell L xs)) u9.1 u9.2.1 u9.2.2.1 u9.2.2.2.1 u9.2.2.2.2 false 0) ++ (bW k u9.1 0 (fun _ => 0) (fun _ => false) (fun _ => 0) (fun _ => 0) (fun _ => 0) (fun _ => 0)) ++ (bE k u9.2.1 0 (fun _ => 0) (fun _ => 0) (fun _ => 0) (fun _ => 0) (fun _ => 0) (fun _ => false)) ++ (bC k u9.2.2.1 0 (fun _ => 0) (fun _ => 0) (fun _ => 0)) ++ (bU k u9.2.2.2.1 0 (fun _ => 0) (fun _ => 0) (fun _ => 0) (fun _ => 0)) ++ (bA k u9.2.2.2.2 0 (fun _ => 0))) [26] [0, 1, 2, 3, 4, 5, 6, 7, 8, 9, 10, 11, 12, 13, 14, 15, 16, 17, 18, 19, 20, 21, 22, 23, 24, 25] (va_runI (As := [.int (xcell L xs)]) (rest := [.ref q13]) ⟨hx, hb, hml, hown, hts⟩ (c_M_init l D k q13 (xcell L xs) H.size) (cwI 1 hts (xx_gc tw_374) rfl rfl rfl (hts _ tw_8) (hts _ tw_372) (hts _ tw_373) rfl (by decide +kernel) ⟨Nat.le_of_ble_eq_true rfl, Nat.le_of_ble_eq_true rfl⟩) (xx_preS hK hN hP hD [26] (by decide) rfl) rfl rfl hl.1 rfl (lv_room (Nat.le_of_ble_eq_true rfl)) dL_law_22 ⟨Nat.le_of_ble_eq_true rfl, Nat.le_of_ble_eq_true rfl⟩) hP hD hS hA rfl rfl (by decide) (by decide) (fun u22 H locs hw22 hP9 hD9 hS9 => ?_)
  obtain rfl := hw22
  have hP : va_P D vwCl ((bT k q0 (xs_clamp (xcell L xs)) u9.1 u9.2.1 u9.2.2.1 u9.2.2.2.1 u9.2.2.2.2 false 0) ++ (bW k u9.1 0 (fun _ => 0) (fun _ => false) (fun _ => 0) (fun _ => 0) (fun _ => 0) (fun _ => 0)) ++ (bE k u9.2.1 0 (fun _ => 0) (fun _ => 0) (fun _ => 0) (fun _ => 0) (fun _ => 0) (fun _ => false)) ++ (bC k u9.2.2.1 0 (fun _ => 0) (fun _ => 0) (fun _ => 0)) ++ (bU k u9.2.2.2.1 0 (fun _ => 0) (fun _ => 0) (fun _ => 0) (fun _ => 0)) ++ (bA k u9.2.2.2.2 0 (fun _ => 0)) ++ (bM k u22 (nI 0) (xs_clamp (xcell L xs)) false 0 (fun _ => 0) (fun _ => false) (fun _ => 0) (fun _ => 0) (fun _ => 0) (fun _ => 0) 0 (fun _ => 0) (fun _ => 0) (fun _ => 0) (fun _ => 0) (fun _ => false) 0 (fun _ => 0) (fun _ => 0) (fun _ => 0) 0 (fun _ => 0) (fun _ => 0) (fun _ => 0) (fun _ => 0) 0 0 (fun _ => 0))) H := hP9
  have hD : va_D A ((bT k q0 (xs_clamp (xcell L xs)) u9.1 u9.2.1 u9.2.2.1 u9.2.2.2.1 u9.2.2.2.2 false 0) ++ (bW k u9.1 0 (fun _ => 0) (fun _ => false) (fun _ => 0) (fun _ => 0) (fun _ => 0) (fun _ => 0)) ++ (bE k u9.2.1 0 (fun _ => 0) (fun _ => 0) (fun _ => 0) (fun _ => 0) (fun _ => 0) (fun _ => false)) ++ (bC k u9.2.2.1 0 (fun _ => 0) (fun _ => 0) (fun _ => 0)) ++ (bU k u9.2.2.2.1 0 (fun _ => 0) (fun _ => 0) (fun _ => 0) (fun _ => 0)) ++ (bA k u9.2.2.2.2 0 (fun _ => 0)) ++ (bM k u22 (nI 0) (xs_clamp (xcell L xs)) false 0 (fun _ => 0) (fun _ => false) (fun _ => 0) (fun _ => 0) (fun _ => 0) (fun _ => 0) 0 (fun _ => 0) (fun _ => 0) (fun _ => 0) (fun _ => 0) (fun _ => false) 0 (fun _ => 0) (fun _ => 0) (fun _ => 0) 0 (fun _ => 0) (fun _ => 0) (fun _ => 0) (fun _ => 0) 0 0 (fun _ => 0))) := hD9
  have hS := hS9
  refine lv_astore_n (lv' := [(2, .ref (u22 0)), (1, .ref q0), (0, .ref b)]) hx hb dL_law_25 rfl hl (by decide) rfl (fun ls hl => ?_)
  refine lv_iconst (v := (nI 1)) hx hb dL_law_26 (by decide) ?_
  refine lv_istore_n (lv' := [(3, .int (nI 1)), (2, .ref (u22 0)), (1, .ref q0), (0, .ref b)]) hx hb dL_law_27 rfl hl (by decide) rfl (fun ls hl => ?_)
  exact law_loop C hA9 hr hlocks (L + 1) 1 (by omega) (by omega) q0 u9.1 u9.2.1 u9.2.2.1 u9.2.2.2.1 u9.2.2.2.2 u22 (nI 0) (xs_clamp (xcell L xs)) false 0 0 (fun _ => 0) (fun _ => false) (fun _ => 0) (fun _ => 0) (fun _ => 0) (fun _ => 0) 0 (fun _ => 0) (fun _ => 0) (fun _ => 0) (fun _ => 0) (fun _ => 0) (fun _ => false) 0 (fun _ => 0) (fun _ => 0) (fun _ => 0) 0 (fun _ => 0) (fun _ => 0) (fun _ => 0) (fun _ => 0) 0 (fun _ => 0) (xI_0 _) H locs ls hP hD hS (lv_sub hl [3, 2, 1, 0] rfl)
