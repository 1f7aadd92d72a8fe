theorem dX1_add_0 : decode cX1_add 0 = .ok (.aload_n 0, 1) := by decide +kernel
theorem dX1_add_1 : decode cX1_add 1 = .ok (.getfield 22, 3) := by decide +kernel
theorem dX1_add_4 : decode cX1_add 4 = .ok (.bipush 50, 2) := by decide +kernel
theorem dX1_add_6 : decode cX1_add 6 = .ok (.if_icmp .lt 4, 3) := by decide +kernel
theorem dX1_add_9 : decode cX1_add 9 = .ok (.return_, 1) := by decide +kernel
theorem dX1_add_10 : decode cX1_add 10 = .ok (.aload_n 0, 1) := by decide +kernel
theorem dX1_add_11 : decode cX1_add 11 = .ok (.getfield 9, 3) := by decide +kernel
theorem dX1_add_14 : decode cX1_add 14 = .ok (.aload_n 0, 1) := by decide +kernel
theorem dX1_add_15 : decode cX1_add 15 = .ok (.getfield 22, 3) := by decide +kernel
theorem dX1_add_18 : decode cX1_add 18 = .ok (.lload_n 1, 1) := by decide +kernel
theorem dX1_add_19 : decode cX1_add 19 = .ok (.lastore, 1) := by decide +kernel
theorem dX1_add_20 : decode cX1_add 20 = .ok (.aload_n 0, 1) := by decide +kernel
theorem dX1_add_21 : decode cX1_add 21 = .ok (.getfield 15, 3) := by decide +kernel
theorem dX1_add_24 : decode cX1_add 24 = .ok (.aload_n 0, 1) := by decide +kernel
theorem dX1_add_25 : decode cX1_add 25 = .ok (.getfield 22, 3) := by decide +kernel
theorem dX1_add_28 : decode cX1_add 28 = .ok (.iload_n 3, 1) := by decide +kernel
theorem dX1_add_29 : decode cX1_add 29 = .ok (.iastore, 1) := by decide +kernel
theorem dX1_add_30 : decode cX1_add 30 = .ok (.aload_n 0, 1) := by decide +kernel
theorem dX1_add_31 : decode cX1_add 31 = .ok (.getfield 19, 3) := by decide +kernel
theorem dX1_add_34 : decode cX1_add 34 = .ok (.aload_n 0, 1) := by decide +kernel
theorem dX1_add_35 : decode cX1_add 35 = .ok (.getfield 22, 3) := by decide +kernel
theorem dX1_add_38 : decode cX1_add 38 = .ok (.iload 4, 2) := by decide +kernel
theorem dX1_add_40 : decode cX1_add 40 = .ok (.iastore, 1) := by decide +kernel
theorem dX1_add_41 : decode cX1_add 41 = .ok (.aload_n 0, 1) := by decide +kernel
theorem dX1_add_42 : decode cX1_add 42 = .ok (.dup, 1) := by decide +kernel
theorem dX1_add_43 : decode cX1_add 43 = .ok (.getfield 22, 3) := by decide +kernel
theorem dX1_add_46 : decode cX1_add 46 = .ok (.iconst 1, 1) := by decide +kernel
theorem dX1_add_47 : decode cX1_add 47 = .ok (.iadd, 1) := by decide +kernel
theorem dX1_add_48 : decode cX1_add 48 = .ok (.putfield 22, 3) := by decide +kernel
theorem dX1_add_51 : decode cX1_add 51 = .ok (.return_, 1) := by decide +kernel
theorem dX1_has_0 : decode cX1_has 0 = .ok (.iconst 0, 1) := by decide +kernel
theorem dX1_has_1 : decode cX1_has 1 = .ok (.istore_n 3, 1) := by decide +kernel
theorem dX1_has_2 : decode cX1_has 2 = .ok (.iload_n 3, 1) := by decide +kernel
theorem dX1_has_3 : decode cX1_has 3 = .ok (.aload_n 0, 1) := by decide +kernel
theorem dX1_has_4 : decode cX1_has 4 = .ok (.getfield 22, 3) := by decide +kernel
theorem dX1_has_7 : decode cX1_has 7 = .ok (.if_icmp .ge 22, 3) := by decide +kernel
theorem dX1_has_10 : decode cX1_has 10 = .ok (.aload_n 0, 1) := by decide +kernel
theorem dX1_has_11 : decode cX1_has 11 = .ok (.getfield 9, 3) := by decide +kernel
theorem dX1_has_14 : decode cX1_has 14 = .ok (.iload_n 3, 1) := by decide +kernel
theorem dX1_has_15 : decode cX1_has 15 = .ok (.laload, 1) := by decide +kernel
theorem dX1_has_16 : decode cX1_has 16 = .ok (.lload_n 1, 1) := by decide +kernel
theorem dX1_has_17 : decode cX1_has 17 = .ok (.lcmp, 1) := by decide +kernel
theorem dX1_has_18 : decode cX1_has 18 = .ok (.ifCond .ne 5, 3) := by decide +kernel
theorem dX1_has_21 : decode cX1_has 21 = .ok (.iconst 1, 1) := by decide +kernel
theorem dX1_has_22 : decode cX1_has 22 = .ok (.ireturn, 1) := by decide +kernel
theorem dX1_has_23 : decode cX1_has 23 = .ok (.iinc 3 1, 3) := by decide +kernel
theorem dX1_has_26 : decode cX1_has 26 = .ok (.goto (-24), 3) := by decide +kernel
theorem dX1_has_29 : decode cX1_has 29 = .ok (.iconst 0, 1) := by decide +kernel
theorem dX1_has_30 : decode cX1_has 30 = .ok (.ireturn, 1) := by decide +kernel
theorem dX1_numberAt_0 : decode cX1_numberAt 0 = .ok (.iload_n 1, 1) := by decide +kernel
theorem dX1_numberAt_1 : decode cX1_numberAt 1 = .ok (.ifCond .lt 11, 3) := by decide +kernel
theorem dX1_numberAt_4 : decode cX1_numberAt 4 = .ok (.iload_n 1, 1) := by decide +kernel
theorem dX1_numberAt_5 : decode cX1_numberAt 5 = .ok (.aload_n 0, 1) := by decide +kernel
theorem dX1_numberAt_6 : decode cX1_numberAt 6 = .ok (.getfield 22, 3) := by decide +kernel
theorem dX1_numberAt_9 : decode cX1_numberAt 9 = .ok (.if_icmp .lt 5, 3) := by decide +kernel
theorem dX1_numberAt_12 : decode cX1_numberAt 12 = .ok (.iconst (-1), 1) := by decide +kernel
theorem dX1_numberAt_13 : decode cX1_numberAt 13 = .ok (.ireturn, 1) := by decide +kernel
theorem dX1_numberAt_14 : decode cX1_numberAt 14 = .ok (.iload_n 2, 1) := by decide +kernel
theorem dX1_numberAt_15 : decode cX1_numberAt 15 = .ok (.lookupswitch 39 #[(0, 25), (1, 32)], 25) := by decide +kernel
theorem dX1_numberAt_40 : decode cX1_numberAt 40 = .ok (.aload_n 0, 1) := by decide +kernel
theorem dX1_numberAt_41 : decode cX1_numberAt 41 = .ok (.getfield 15, 3) := by decide +kernel
theorem dX1_numberAt_44 : decode cX1_numberAt 44 = .ok (.iload_n 1, 1) := by decide +kernel
theorem dX1_numberAt_45 : decode cX1_numberAt 45 = .ok (.iaload, 1) := by decide +kernel
theorem dX1_numberAt_46 : decode cX1_numberAt 46 = .ok (.ireturn, 1) := by decide +kernel
theorem dX1_numberAt_47 : decode cX1_numberAt 47 = .ok (.aload_n 0, 1) := by decide +kernel
theorem dX1_numberAt_48 : decode cX1_numberAt 48 = .ok (.getfield 19, 3) := by decide +kernel
theorem dX1_numberAt_51 : decode cX1_numberAt 51 = .ok (.iload_n 1, 1) := by decide +kernel
theorem dX1_numberAt_52 : decode cX1_numberAt 52 = .ok (.iaload, 1) := by decide +kernel
theorem dX1_numberAt_53 : decode cX1_numberAt 53 = .ok (.ireturn, 1) := by decide +kernel
theorem dX1_numberAt_54 : decode cX1_numberAt 54 = .ok (.iconst (-1), 1) := by decide +kernel
theorem dX1_numberAt_55 : decode cX1_numberAt 55 = .ok (.ireturn, 1) := by decide +kernel
def p_C_add (oc : Nat → Nat) (cc : Nat) (ca : Nat → Int64) (cl : Nat → Int32) (ch : Nat → Int32) (a : Int64) (x : Int32) (y : Int32) : (Nat × (Nat → Int64) × (Nat → Int32) × (Nat → Int32)) → Prop := fun u => (50 ≤ cc ∧ u = (cc, ca, cl, ch)) ∨ (cc < 50 ∧ u = (cc + 1, vp_updL ca cc a, upd cl cc x, upd ch cc y))
set_option maxHeartbeats 4000000 in
set_option maxRecDepth 100000 in
theorem c_C_add (l : Launch) (D : va_G) (k : Nat → ClassId) (oc : Nat → Nat) (cc : Nat) (ca : Nat → Int64) (cl : Nat → Int32) (ch : Nat → Int32) (a : Int64) (x : Int32) (y : Int32) (hcc : cc ≤ 50) : xx_Cv l yX1_add (.code yX1_add cX1_add 5 none :: xall) ({ frames := 0, cells := 0, slots := 0, locals := 0 } : Room) D vwCl (xT k) [.ref (oc 0), .long a, .int x, .int y] (bC k oc cc ca cl ch) (p_C_add oc cc ca cl ch a x y) (fun (u : Nat × (Nat → Int64) × (Nat → Int32) × (Nat → Int32)) => bC k oc u.1 u.2.1 u.2.2.1 u.2.2.2) 0 0 := by
  intro sz
  refine xx_met (Qf := fun A => va_Qv (p_C_add oc cc ca cl ch a x y) (xx_B D vwCl (xT k) A (fun (u : Nat × (Nat → Int64) × (Nat → Int32) × (Nat → Int32)) => bC k oc u.1 u.2.1 u.2.2.1 u.2.2.2)) A) (cc := cX1_add) (maxL := 5) (ret := none) (by decide) rfl (Nat.le_of_ble_eq_true rfl) ?_
  intro p e s m below meth c A ls hx hb hr hts hown hlocks hin hml hA hS hP hD hK hN hl
  have hl : lv_has ls 5 [(0, .ref (oc 0)), (1, .long a), (3, .int x), (4, .int y)] := hl
  have hown : s.vm.findClass RX1 = some m.cls := hown
  have hinW := inX1
  refine lv_aload_n hx hb dX1_add_0 rfl (lv_at hl 0 rfl) ?_
  refine va_get (D := D) (ci := 1) (v := .int (nI cc)) (C := RX1) (T := TX1) (N := 4) hx hb hts hinW hown hK hP 0 rfl rfl 3 (by decide) (hts _ tw_92) (fun _ h9 => h9) rfl dX1_add_1 ?_
  refine lv_bipush (v := (nI 50)) hx hb dX1_add_4 (by decide) ?_
  refine lv_icmp_lt (tgt := 10) hx hb dX1_add_6 (by decide) (fun c6 => ?_) (fun c6 => ?_)
  · have c6 : cc < 50 := (nI_ltI (by omega) (by omega)).mp c6
    refine lv_aload_n hx hb dX1_add_10 rfl (lv_at hl 0 rfl) ?_
    refine va_get (D := D) (ci := 1) (v := .ref (oc 1)) (C := RX1) (T := TX1) (N := 4) hx hb hts hinW hown hK hP 0 rfl rfl 0 (by decide) (hts _ tw_89) (fun _ h9 => h9) rfl dX1_add_11 ?_
    refine lv_aload_n hx hb dX1_add_14 rfl (lv_at hl 0 rfl) ?_
    refine va_get (D := D) (ci := 1) (v := .int (nI cc)) (C := RX1) (T := TX1) (N := 4) hx hb hts hinW hown hK hP 0 rfl rfl 3 (by decide) (hts _ tw_92) (fun _ h9 => h9) rfl dX1_add_15 ?_
    refine lv_lload_n hx hb dX1_add_18 rfl (lv_at hl 1 rfl) ?_
    refine xx_last (g := (vp_updL ca cc a)) hx hb hK hP hD hS 1 2 rfl rfl (show cc < 50 by omega) (by decide) rfl dX1_add_19 (fun H locs hP hD hS => ?_)
    have hP : va_P D vwCl (bC k oc cc (vp_updL ca cc a) cl ch) H := hP
    have hD : va_D A (bC k oc cc (vp_updL ca cc a) cl ch) := hD
    refine lv_aload_n hx hb dX1_add_20 rfl (lv_at hl 0 rfl) ?_
    refine va_get (D := D) (ci := 1) (v := .ref (oc 2)) (C := RX1) (T := TX1) (N := 4) hx hb hts hinW hown hK hP 0 rfl rfl 1 (by decide) (hts _ tw_90) (fun _ h9 => h9) rfl dX1_add_21 ?_
    refine lv_aload_n hx hb dX1_add_24 rfl (lv_at hl 0 rfl) ?_
    refine va_get (D := D) (ci := 1) (v := .int (nI cc)) (C := RX1) (T := TX1) (N := 4) hx hb hts hinW hown hK hP 0 rfl rfl 3 (by decide) (hts _ tw_92) (fun _ h9 => h9) rfl dX1_add_25 ?_
    refine lv_iload_n hx hb dX1_add_28 rfl (lv_at hl 2 rfl) ?_
    refine xx_iast (g := (upd cl cc x)) hx hb hK hP hD hS 2 0 rfl rfl (show cc < 50 by omega) (by decide) rfl dX1_add_29 (fun H locs hP hD hS => ?_)
    have hP : va_P D vwCl (bC k oc cc (vp_updL ca cc a) (upd cl cc x) ch) H := hP
    have hD : va_D A (bC k oc cc (vp_updL ca cc a) (upd cl cc x) ch) := hD
    refine lv_aload_n hx hb dX1_add_30 rfl (lv_at hl 0 rfl) ?_
    refine va_get (D := D) (ci := 1) (v := .ref (oc 3)) (C := RX1) (T := TX1) (N := 4) hx hb hts hinW hown hK hP 0 rfl rfl 2 (by decide) (hts _ tw_91) (fun _ h9 => h9) rfl dX1_add_31 ?_
    refine lv_aload_n hx hb dX1_add_34 rfl (lv_at hl 0 rfl) ?_
    refine va_get (D := D) (ci := 1) (v := .int (nI cc)) (C := RX1) (T := TX1) (N := 4) hx hb hts hinW hown hK hP 0 rfl rfl 3 (by decide) (hts _ tw_92) (fun _ h9 => h9) rfl dX1_add_35 ?_
    refine lv_iload hx hb dX1_add_38 (lv_at hl 3 rfl) ?_
    refine xx_iast (g := (upd ch cc y)) hx hb hK hP hD hS 3 0 rfl rfl (show cc < 50 by omega) (by decide) rfl dX1_add_40 (fun H locs hP hD hS => ?_)
    have hP : va_P D vwCl (bC k oc cc (vp_updL ca cc a) (upd cl cc x) (upd ch cc y)) H := hP
    have hD : va_D A (bC k oc cc (vp_updL ca cc a) (upd cl cc x) (upd ch cc y)) := hD
    refine lv_aload_n hx hb dX1_add_41 rfl (lv_at hl 0 rfl) ?_
    refine lv_dup hx hb dX1_add_42 rfl ?_
    refine va_get (D := D) (ci := 1) (v := .int (nI cc)) (C := RX1) (T := TX1) (N := 4) hx hb hts hinW hown hK hP 0 rfl rfl 3 (by decide) (hts _ tw_92) (fun _ h9 => h9) rfl dX1_add_43 ?_
    refine lv_iconst (v := (nI 1)) hx hb dX1_add_46 (by decide) ?_
    refine lv_iadd hx hb dX1_add_47 ?_
    refine xx_topi (nI_add cc 1) ?_
    refine va_put (D := D) (ci := 1) (v := .int (nI (cc + 1))) (ty := .int) (C := RX1) (T := TX1) (N := 4) hx hb hts hinW tyX1 tyX1_ok nmX1 hown hK hP hD hS 0 rfl rfl 3 (by decide) (hts _ tw_92) (fun _ h9 => h9) rfl (by decide +kernel) rfl rfl (Nat.le_of_ble_eq_true rfl) dX1_add_48 (fun H locs hP hD hS => ?_)
    have hP : va_P D vwCl (bC k oc (cc + 1) (vp_updL ca cc a) (upd cl cc x) (upd ch cc y)) H := hP
    have hD : va_D A (bC k oc (cc + 1) (vp_updL ca cc a) (upd cl cc x) (upd ch cc y)) := hD
    refine xx_vret (cc + 1, (vp_updL ca cc a), (upd cl cc x), (upd ch cc y)) hx hb hr hlocks hS hK hP hD dX1_add_51 ?_
    exact Or.inr ⟨c6, rfl⟩
  · have c6 : 50 ≤ cc := Nat.le_of_not_lt (fun h => c6 ((nI_ltI (by omega) (by omega)).mpr h))
    refine xx_vret (cc, ca, cl, ch) hx hb hr hlocks hS hK hP hD dX1_add_9 ?_
    exact Or.inl ⟨c6, rfl⟩
def p_C_has (oc : Nat → Nat) (cc : Nat) (ca : Nat → Int64) (cl : Nat → Int32) (ch : Nat → Int32) (a : Int64) : Int32 → Unit → Prop := fun r u => xb r (∃ i, i < cc ∧ ca i = a)
set_option maxHeartbeats 4000000 in
set_option maxRecDepth 100000 in
theorem c_C_has (l : Launch) (D : va_G) (k : Nat → ClassId) (oc : Nat → Nat) (cc : Nat) (ca : Nat → Int64) (cl : Nat → Int32) (ch : Nat → Int32) (a : Int64) (hcc : cc ≤ 50) : xx_Ci l yX1_has (.code yX1_has cX1_has 4 (some .boolean) :: xall) ({ frames := 0, cells := 0, slots := 0, locals := 0 } : Room) D vwCl (xT k) [.ref (oc 0), .long a] (bC k oc cc ca cl ch) (p_C_has oc cc ca cl ch a) (fun (u : Unit) => bC k oc cc ca cl ch) 0 0 := by
  intro sz
  refine xx_met (Qf := fun A => va_Qi (p_C_has oc cc ca cl ch a) (xx_B D vwCl (xT k) A (fun (u : Unit) => bC k oc cc ca cl ch)) A) (cc := cX1_has) (maxL := 4) (ret := (some .boolean)) (by decide) rfl (Nat.le_of_ble_eq_true rfl) ?_
  intro p e s m below meth c A ls hx hb hr hts hown hlocks hin hml hA hS hP hD hK hN hl
  have hl : lv_has ls 4 [(0, .ref (oc 0)), (1, .long a)] := hl
  have hown : s.vm.findClass RX1 = some m.cls := hown
  have hinW := inX1
  refine lv_iconst (v := (nI 0)) hx hb dX1_has_0 (by decide) ?_
  refine lv_istore_n (lv' := [(3, .int (nI 0)), (0, .ref (oc 0)), (1, .long a)]) hx hb dX1_has_1 rfl hl (by decide) rfl (fun ls hl => ?_)
  have loop2 : ∀ (dd : Nat) (i : Nat), cc + 1 ≤ i + dd → (i ≤ cc) → (∀ j, j < i → ¬ ca j = a) → ∀ (H : Heap) (locs : List Loc) (ls : Array Slot), va_P D vwCl (bC k oc cc ca cl ch) H → va_D A (bC k oc cc ca cl ch) → va_S A s.heap H locs → lv_has ls 4 [(0, .ref (oc 0)), (1, .long a), (3, .int (nI i))] → W p l e ({ frames := 0, cells := 0, slots := 0, locals := 0 } : Room) s m [.ref (oc 0), .long a].toArray below meth c H locs 0 0 (MQ below (va_Qi (p_C_has oc cc ca cl ch a) (xx_B D vwCl (xT k) A (fun (u : Unit) => bC k oc cc ca cl ch)) A) [.ref (oc 0), .long a].toArray s 0 0 A) (F0 m 2 ls []) := by
    intro dd
    induction dd with
    | zero =>
      intro i hm h2 h3
      exact absurd hm (by omega)
    | succ dd ih2 =>
      intro i hm h2 h3 H locs ls hP hD hS hl
      refine lv_iload_n hx hb dX1_has_2 rfl (lv_at hl 2 rfl) ?_
      refine lv_aload_n hx hb dX1_has_3 rfl (lv_at hl 0 rfl) ?_
      refine va_get (D := D) (ci := 1) (v := .int (nI cc)) (C := RX1) (T := TX1) (N := 4) hx hb hts hinW hown hK hP 0 rfl rfl 3 (by decide) (hts _ tw_92) (fun _ h9 => h9) rfl dX1_has_4 ?_
      refine lv_icmp_ge (tgt := 29) hx hb dX1_has_7 (by decide) (fun c7 => ?_) (fun c7 => ?_)
      · have c7 : cc ≤ i := (nI_leI (by omega) (by omega)).mp c7
        refine lv_iconst (v := (nI 0)) hx hb dX1_has_29 (by decide) ?_
        refine xx_zret () hx hb hr hlocks rfl hS hK hP hD dX1_has_30 ?_
        exact xb_f (fun ⟨j, z1, z3⟩ => h3 j (by omega) z3)
      · have c7 : i < cc := Nat.lt_of_not_le (fun h => c7 ((nI_leI (by omega) (by omega)).mpr h))
        refine lv_aload_n hx hb dX1_has_10 rfl (lv_at hl 0 rfl) ?_
        refine va_get (D := D) (ci := 1) (v := .ref (oc 1)) (C := RX1) (T := TX1) (N := 4) hx hb hts hinW hown hK hP 0 rfl rfl 0 (by decide) (hts _ tw_89) (fun _ h9 => h9) rfl dX1_has_11 ?_
        refine lv_iload_n hx hb dX1_has_14 rfl (lv_at hl 2 rfl) ?_
        refine xx_lald hx hb hK hP 1 2 rfl rfl (show i < 50 by omega) (by decide) dX1_has_15 ?_
        refine lv_lload_n hx hb dX1_has_16 rfl (lv_at hl 1 rfl) ?_
        refine W.lcmp hx hb dX1_has_17 ?_
        refine lv_if_ne (tgt := 23) hx hb dX1_has_18 (by decide) (fun c18 => ?_) (fun c18 => ?_)
        · have c18 : ¬ ((ca i) = a) := fun h => c18 ((lg_cmp_eq (ca i) a).mpr h)
          refine lv_iinc (v := (nI (i + 1))) (lv' := [(3, .int (nI (i + 1))), (0, .ref (oc 0)), (1, .long a)]) hx hb dX1_has_23 hl (k := 2) rfl (nI_1 i) (by decide) rfl (fun ls hl => ?_)
          refine lv_goto (tgt := 2) hx hb dX1_has_26 (by decide) ?_
          exact ih2 (i + 1) (by omega) (by omega) (by intro j z1 z3; rcases Nat.lt_or_ge j i with z | z; exact h3 j z z3; obtain rfl : j = i := (by omega); exact c18 z3) H locs ls hP hD hS (lv_sub hl [1, 2, 0] rfl)
        · have c18 : (ca i) = a := (lg_cmp_eq (ca i) a).mp c18
          refine lv_iconst (v := (nI 1)) hx hb dX1_has_21 (by decide) ?_
          refine xx_zret () hx hb hr hlocks rfl hS hK hP hD dX1_has_22 ?_
          exact xb_t ⟨i, c7, c18⟩
  exact loop2 (cc + 1) 0 (by omega) (by omega) (by intro j z1; exact absurd z1 (by omega)) s.heap _ ls hP hD hS (lv_sub hl [1, 2, 0] rfl)
def p_C_at (oc : Nat → Nat) (cc : Nat) (ca : Nat → Int64) (cl : Nat → Int32) (ch : Nat → Int32) (x : Int32) (y : Int32) : Int32 → Unit → Prop := fun r u => (r = (-1) ∧ ¬ (ixN cc x ∧ (y = 0 ∨ y = 1))) ∨ (∃ j, j < cc ∧ x = nI j ∧ ((y = 0 ∧ r = cl j) ∨ (y = 1 ∧ r = ch j)))
set_option maxHeartbeats 4000000 in
set_option maxRecDepth 100000 in
theorem c_C_at (l : Launch) (D : va_G) (k : Nat → ClassId) (oc : Nat → Nat) (cc : Nat) (ca : Nat → Int64) (cl : Nat → Int32) (ch : Nat → Int32) (x : Int32) (y : Int32) (hcc : cc ≤ 50) : xx_Ci l yX1_numberAt (.code yX1_numberAt cX1_numberAt 3 (some .int) :: xall) ({ frames := 0, cells := 0, slots := 0, locals := 0 } : Room) D vwCl (xT k) [.ref (oc 0), .int x, .int y] (bC k oc cc ca cl ch) (p_C_at oc cc ca cl ch x y) (fun (u : Unit) => bC k oc cc ca cl ch) 0 0 := by
  intro sz
  refine xx_met (Qf := fun A => va_Qi (p_C_at oc cc ca cl ch x y) (xx_B D vwCl (xT k) A (fun (u : Unit) => bC k oc cc ca cl ch)) A) (cc := cX1_numberAt) (maxL := 3) (ret := (some .int)) (by decide) rfl (Nat.le_of_ble_eq_true rfl) ?_
  intro p e s m below meth c A ls hx hb hr hts hown hlocks hin hml hA hS hP hD hK hN hl
  have hl : lv_has ls 3 [(0, .ref (oc 0)), (1, .int x), (2, .int y)] := hl
  have hown : s.vm.findClass RX1 = some m.cls := hown
  have hinW := inX1
  refine lv_iload_n hx hb dX1_numberAt_0 rfl (lv_at hl 1 rfl) ?_
  refine lv_if_lt (tgt := 12) hx hb dX1_numberAt_1 (by decide) (fun c1 => ?_) (fun c1 => ?_)
  · refine lv_iconst (v := (-1)) hx hb dX1_numberAt_12 (by decide) ?_
    refine xx_iret () hx hb hr hlocks hS hK hP hD dX1_numberAt_13 ?_
    first | exact Or.inl ⟨rfl, fun h => xx_nix (by omega) (Or.inl c1) h.1⟩ | exact Or.inl ⟨rfl, fun h => xx_nix (by omega) (Or.inr (xx_nle c9)) h.1⟩
  · refine lv_iload_n hx hb dX1_numberAt_4 rfl (lv_at hl 1 rfl) ?_
    refine lv_aload_n hx hb dX1_numberAt_5 rfl (lv_at hl 0 rfl) ?_
    refine va_get (D := D) (ci := 1) (v := .int (nI cc)) (C := RX1) (T := TX1) (N := 4) hx hb hts hinW hown hK hP 0 rfl rfl 3 (by decide) (hts _ tw_92) (fun _ h9 => h9) rfl dX1_numberAt_6 ?_
    refine lv_icmp_lt (tgt := 14) hx hb dX1_numberAt_9 (by decide) (fun c9 => ?_) (fun c9 => ?_)
    · obtain ⟨j, hj, hxj⟩ := xx_ix (n := cc) (by omega) c1 (fun h => absurd c9 (xx_nlt h))
      subst hxj
      refine lv_iload_n hx hb dX1_numberAt_14 rfl (lv_at hl 2 rfl) ?_
      by_cases s0 : y = 0
      · refine lv_lookup (off := 25) (tgt := 40) hx hb dX1_numberAt_15 (by decide) (by rw [s0]; rfl) (by decide) ?_
        refine lv_aload_n hx hb dX1_numberAt_40 rfl (lv_at hl 0 rfl) ?_
        refine va_get (D := D) (ci := 1) (v := .ref (oc 2)) (C := RX1) (T := TX1) (N := 4) hx hb hts hinW hown hK hP 0 rfl rfl 1 (by decide) (hts _ tw_90) (fun _ h9 => h9) rfl dX1_numberAt_41 ?_
        refine lv_iload_n hx hb dX1_numberAt_44 rfl (lv_at hl 1 rfl) ?_
        refine xx_iald hx hb hK hP 2 0 rfl rfl (show j < 50 by omega) (by decide) dX1_numberAt_45 ?_
        refine xx_iret () hx hb hr hlocks hS hK hP hD dX1_numberAt_46 ?_
        exact Or.inr ⟨j, hj, rfl, Or.inl ⟨s0, rfl⟩⟩
      ·
        by_cases s1 : y = 1
        · refine lv_lookup (off := 32) (tgt := 47) hx hb dX1_numberAt_15 (by decide) ((lv_osw s0 rfl).trans (by rw [s1]; rfl)) (by decide) ?_
          refine lv_aload_n hx hb dX1_numberAt_47 rfl (lv_at hl 0 rfl) ?_
          refine va_get (D := D) (ci := 1) (v := .ref (oc 3)) (C := RX1) (T := TX1) (N := 4) hx hb hts hinW hown hK hP 0 rfl rfl 2 (by decide) (hts _ tw_91) (fun _ h9 => h9) rfl dX1_numberAt_48 ?_
          refine lv_iload_n hx hb dX1_numberAt_51 rfl (lv_at hl 1 rfl) ?_
          refine xx_iald hx hb hK hP 3 0 rfl rfl (show j < 50 by omega) (by decide) dX1_numberAt_52 ?_
          refine xx_iret () hx hb hr hlocks hS hK hP hD dX1_numberAt_53 ?_
          exact Or.inr ⟨j, hj, rfl, Or.inr ⟨s1, rfl⟩⟩
        ·
          refine lv_lookup (off := 39) (tgt := 54) hx hb dX1_numberAt_15 (by decide) ((lv_osw s0 rfl).trans ((lv_osw s1 rfl).trans (rfl))) (by decide) ?_
          refine lv_iconst (v := (-1)) hx hb dX1_numberAt_54 (by decide) ?_
          refine xx_iret () hx hb hr hlocks hS hK hP hD dX1_numberAt_55 ?_
          exact Or.inl ⟨rfl, fun h => h.2.elim s0 s1⟩
    · refine lv_iconst (v := (-1)) hx hb dX1_numberAt_12 (by decide) ?_
      refine xx_iret () hx hb hr hlocks hS hK hP hD dX1_numberAt_13 ?_
      first | exact Or.inl ⟨rfl, fun h => xx_nix (by omega) (Or.inl c1) h.1⟩ | exact Or.inl ⟨rfl, fun h => xx_nix (by omega) (Or.inr (xx_nle c9)) h.1⟩
