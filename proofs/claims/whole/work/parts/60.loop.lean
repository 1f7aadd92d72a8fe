def R_law : String := "TrustRowsLaw"
def lw_P (b : Addr) (xs : List Int32) (args : Array Value) (s : State) : Prop := args = #[.ref b] ∧ s.IntsAt b xs ∧ xs.length ≤ 6145 ∧ (Jvm.Cond.and given_1 narrow_1).before args s = true
def lw_Q (_ : Array Value) (s : State) (o : Outcome) (t : State) : Prop := o = .returned (some (.int 1)) ∧ Framed s o t [] 46 4131
def lw_Z (below : List Frame) (a : Array Value) (s : State) : State → Prop := fun t => ∃ o, t.status = .running ∧ Ended t below o ∧ lw_Q a s o t
/-- the law's own end, with 1 on the stack, nothing written that was there before, its room as the claim has it -/
theorem lw_ret {p : Program} {l : Launch} {e : Env} {s : State} {m : MethodId} {below : List Frame} {meth : Method} {c : Code} {b : Nat} (hx : p.tables.exec = Jvm.exec) (hb : c.code = code) (hr : meth.sig.returnType = ret) (hlocks : meth.locks = false) {pc : Nat} {H : Heap} {ls : Array Slot} (hdg : decode code pc = .ok (.ireturn, 1)) : W p l e room_1 s m #[Value.ref b] below meth c H [] 46 4131 (lw_Z below #[Value.ref b] s) (F0 m pc ls [.int 1]) := by
  intro T hT X
  obtain ⟨fs, hret, hrun, hended, hW, hframe⟩ := X.leave (v := some (.int 1)) (hlocks := hlocks) (fun h => by rw [hr] at h; cases h)
  have hmeth' : T.vm.method? m = some meth := X.method'
  refine ⟨T.setFrames fs, ?_, .returned (some (.int 1)), hrun, hended, rfl, ⟨_, rfl⟩, hW, hframe⟩
  jvm_step X.here [X.here.top, hx, hb, hdg, hmeth', hr, ret, narrow_b1]
  (try refine ⟨rfl, ?_⟩); (try refine ⟨rfl, ?_⟩)
  first | (intro acts; rw [hret _ acts rfl rfl rfl]) | rw [hret _ _ rfl rfl rfl]
  exact Steps.refl _
/-- what holds at the law's entry: the machine, the code, the tables' words (any of lw_tbl by 'hts w (by decide +kernel)'), the script of L ints xs at the cell b, what the Statement gives of the start (any of its parts by flat_of_before) -/
def lw_At (p : Program) (s : State) (m : MethodId) (meth : Method) (c : Code) (b L : Nat) (xs : Nat → Int32) : Prop :=
  p.tables.exec = Jvm.exec ∧ c.code = code ∧ meth.sig.returnType = ret ∧ c.maxLocals = 4 ∧ s.vm.findClass R_law = some m.cls ∧ (∀ w ∈ lw_tbl, w.before #[Value.ref b] s = true) ∧ va_X b L xs s s.heap ∧ b < s.heap.size ∧ meth.locks = false ∧ (Jvm.Cond.and given_1 narrow_1).before #[Value.ref b] s = true
theorem law_le {L i : Nat} (hL : L < 2 ^ 30) (hi : i < 2 ^ 30) (h : ¬ nI L - nI 12 < nI i) : i + 12 ≤ L := by
  rw [Int32.lt_iff_toInt_lt, pk_sub_toInt hL (by decide), nI_toInt (by omega)] at h
  omega
theorem law_16 {j : Nat} (hj : j < 2 ^ 4) : j = 0 ∨ j = 1 ∨ j = 2 ∨ j = 3 ∨ j = 4 ∨ j = 5 ∨ j = 6 ∨ j = 7 ∨ j = 8 ∨ j = 9 ∨ j = 10 ∨ j = 11 ∨ j = 12 ∨ j = 13 ∨ j = 14 ∨ j = 15 := by omega
set_option maxHeartbeats 4000000 in
set_option maxRecDepth 100000 in
/-- THE LAW'S LOOP -/
theorem law_loop {p : Program} {l : Launch} {e : Env} {s : State} {m : MethodId} {below : List Frame} {meth : Method} {c : Code} {D : va_G} {k : Nat → ClassId} {A : Nat → Prop} {b L : Nat} {xs : Nat → Int32} (C : LC p s m c D k A b L xs) (hA9 : ∀ q, A q → s.heap.size ≤ q) (hr : meth.sig.returnType = ret) (hlocks : meth.locks = false) : ∀ (n i : Nat), i ≤ L + 1 → L + 1 ≤ i + n → LK p l e s m below meth c D k A (lw_Z below #[Value.ref b] s) b 28 i := by
  intro n
  induction n with
  | zero =>
    intro i h1 h2
    obtain ⟨hx, hb, hml, hown, hts, hX, hbl, hbA, hA, hK, hN, hL⟩ := C
    intro ot ow oe oc ou oa om mth tq to tt wc wl wb wk kk kf ku ec ew el ea ed et ex cc ca cl ch uc ut ub ul uw ac as hI H locs ls hP hD hS hl
    refine lv_iload_n hx hb dL_law_28 rfl (lv_at hl 3 rfl) ?_
    refine lv_aload_n hx hb dL_law_29 rfl (lv_at hl 0 rfl) ?_
    refine va_slen hx hb hX hbl hbA hS dL_law_30 ?_
    refine lv_bipush (v := nI 12) hx hb dL_law_31 (by decide) ?_
    refine lv_isub hx hb dL_law_33 ?_
    refine lv_icmp_gt (tgt := 1138) hx hb dL_law_34 (by decide) (fun c34 => ?_) (fun c34 => absurd (law_le (by omega) (by omega) c34) (by omega))
    refine lv_iconst (v := 1) hx hb dL_law_1138 (by decide) ?_
    refine va_forget (fun q hq => hA9 _ (hS.2.2 q hq)) ?_
    exact lw_ret hx hb hr hlocks dL_law_1139
  | succ n ih =>
    intro i h1 h2
    have C0 := C
    obtain ⟨hx, hb, hml, hown, hts, hX, hbl, hbA, hA, hK, hN, hL⟩ := C
    intro ot ow oe oc ou oa om mth tq to tt wc wl wb wk kk kf ku ec ew el ea ed et ex cc ca cl ch uc ut ub ul uw ac as hI H locs ls hP hD hS hl
    refine lv_iload_n hx hb dL_law_28 rfl (lv_at hl 3 rfl) ?_
    refine lv_aload_n hx hb dL_law_29 rfl (lv_at hl 0 rfl) ?_
    refine va_slen hx hb hX hbl hbA hS dL_law_30 ?_
    refine lv_bipush (v := nI 12) hx hb dL_law_31 (by decide) ?_
    refine lv_isub hx hb dL_law_33 ?_
    refine lv_icmp_gt (tgt := 1138) hx hb dL_law_34 (by decide) (fun c34 => ?_) (fun c34 => ?_)
    · refine lv_iconst (v := 1) hx hb dL_law_1138 (by decide) ?_
      refine va_forget (fun q hq => hA9 _ (hS.2.2 q hq)) ?_
      exact lw_ret hx hb hr hlocks dL_law_1139
    have hi : i + 12 ≤ L := law_le (by omega) (by omega) c34
    have K : LK p l e s m below meth c D k A (lw_Z below #[Value.ref b] s) b 1132 i := by
      intro ot ow oe oc ou oa om mth tq to tt wc wl wb wk kk kf ku ec ew el ea ed et ex cc ca cl ch uc ut ub ul uw ac as hI H locs ls hP hD hS hl
      refine lv_iinc (v := nI (i + 12)) (lv' := [(3, .int (nI (i + 12))), (0, .ref b), (1, .ref ot), (2, .ref (om 0))]) hx hb dL_law_1132 hl (k := 3) rfl (nI_add i 12) (by decide) rfl (fun ls hl => ?_)
      refine lv_goto (tgt := 28) hx hb dL_law_1135 (by decide) ?_
      exact ih (i + 12) (by omega) (by omega) ot ow oe oc ou oa om mth tq to tt wc wl wb wk kk kf ku ec ew el ea ed et ex cc ca cl ch uc ut ub ul uw ac as hI H locs ls hP hD hS (lv_sub hl [1, 2, 3, 0] rfl)
    refine lv_aload_n hx hb dL_law_37 rfl (lv_at hl 0 rfl) ?_
    refine lv_iload_n hx hb dL_law_38 rfl (lv_at hl 3 rfl) ?_
    refine xx_sld hx hb hX hbl hbA hS (show i < L by omega) (by omega) dL_law_39 ?_
    refine lv_bipush (v := nI 15) hx hb dL_law_40 (by decide) ?_
    refine lv_iand hx hb dL_law_42 ?_
    obtain ⟨j, hj, ej⟩ := pk_andE (xs i) (m := nI 15) 4 (by decide)
    refine xx_topi ej ?_
    rcases law_16 hj with rfl | rfl | rfl | rfl | rfl | rfl | rfl | rfl | rfl | rfl | rfl | rfl | rfl | rfl | rfl | rfl
    · refine lv_tableIn (off := 69) (tgt := 112) hx hb dL_law_43 (by decide) (by decide) (by decide) (by decide) ?_
      exact law_writer C0 hi K ot ow oe oc ou oa om mth tq to tt wc wl wb wk kk kf ku ec ew el ea ed et ex cc ca cl ch uc ut ub ul uw ac as hI H locs ls hP hD hS hl
    · refine lv_tableIn (off := 92) (tgt := 135) hx hb dL_law_43 (by decide) (by decide) (by decide) (by decide) ?_
      exact law_key C0 hi K ot ow oe oc ou oa om mth tq to tt wc wl wb wk kk kf ku ec ew el ea ed et ex cc ca cl ch uc ut ub ul uw ac as hI H locs ls hP hD hS hl
    · refine lv_tableIn (off := 239) (tgt := 282) hx hb dL_law_43 (by decide) (by decide) (by decide) (by decide) ?_
      exact law_sum C0 hi K ot ow oe oc ou oa om mth tq to tt wc wl wb wk kk kf ku ec ew el ea ed et ex cc ca cl ch uc ut ub ul uw ac as hI H locs ls hP hD hS hl
    · refine lv_tableIn (off := 375) (tgt := 418) hx hb dL_law_43 (by decide) (by decide) (by decide) (by decide) ?_
      exact law_result C0 hi K ot ow oe oc ou oa om mth tq to tt wc wl wb wk kk kf ku ec ew el ea ed et ex cc ca cl ch uc ut ub ul uw ac as hI H locs ls hP hD hS hl
    · refine lv_tableIn (off := 610) (tgt := 653) hx hb dL_law_43 (by decide) (by decide) (by decide) (by decide) ?_
      exact law_stands C0 hi K ot ow oe oc ou oa om mth tq to tt wc wl wb wk kk kf ku ec ew el ea ed et ex cc ca cl ch uc ut ub ul uw ac as hI H locs ls hP hD hS hl
    · refine lv_tableIn (off := 633) (tgt := 676) hx hb dL_law_43 (by decide) (by decide) (by decide) (by decide) ?_
      exact law_bar C0 hi K ot ow oe oc ou oa om mth tq to tt wc wl wb wk kk kf ku ec ew el ea ed et ex cc ca cl ch uc ut ub ul uw ac as hI H locs ls hP hD hS hl
    · refine lv_tableIn (off := 656) (tgt := 699) hx hb dL_law_43 (by decide) (by decide) (by decide) (by decide) ?_
      exact law_rule C0 hi K ot ow oe oc ou oa om mth tq to tt wc wl wb wk kk kf ku ec ew el ea ed et ex cc ca cl ch uc ut ub ul uw ac as hI H locs ls hP hD hS hl
    · refine lv_tableIn (off := 709) (tgt := 752) hx hb dL_law_43 (by decide) (by decide) (by decide) (by decide) ?_
      exact law_ruleFor C0 hi K ot ow oe oc ou oa om mth tq to tt wc wl wb wk kk kf ku ec ew el ea ed et ex cc ca cl ch uc ut ub ul uw ac as hI H locs ls hP hD hS hl
    · refine lv_tableIn (off := 742) (tgt := 785) hx hb dL_law_43 (by decide) (by decide) (by decide) (by decide) ?_
      exact law_own C0 hi K ot ow oe oc ou oa om mth tq to tt wc wl wb wk kk kf ku ec ew el ea ed et ex cc ca cl ch uc ut ub ul uw ac as hI H locs ls hP hD hS hl
    · refine lv_tableIn (off := 779) (tgt := 822) hx hb dL_law_43 (by decide) (by decide) (by decide) (by decide) ?_
      exact law_take C0 hi K ot ow oe oc ou oa om mth tq to tt wc wl wb wk kk kf ku ec ew el ea ed et ex cc ca cl ch uc ut ub ul uw ac as hI H locs ls hP hD hS hl
    · refine lv_tableIn (off := 894) (tgt := 937) hx hb dL_law_43 (by decide) (by decide) (by decide) (by decide) ?_
      exact law_taken C0 hi K ot ow oe oc ou oa om mth tq to tt wc wl wb wk kk kf ku ec ew el ea ed et ex cc ca cl ch uc ut ub ul uw ac as hI H locs ls hP hD hS hl
    · refine lv_tableIn (off := 908) (tgt := 951) hx hb dL_law_43 (by decide) (by decide) (by decide) (by decide) ?_
      exact law_counted C0 hi K ot ow oe oc ou oa om mth tq to tt wc wl wb wk kk kf ku ec ew el ea ed et ex cc ca cl ch uc ut ub ul uw ac as hI H locs ls hP hD hS hl
    · refine lv_tableIn (off := 1023) (tgt := 1066) hx hb dL_law_43 (by decide) (by decide) (by decide) (by decide) ?_
      exact law_clash C0 hi K ot ow oe oc ou oa om mth tq to tt wc wl wb wk kk kf ku ec ew el ea ed et ex cc ca cl ch uc ut ub ul uw ac as hI H locs ls hP hD hS hl
    · refine lv_tableIn (off := 1056) (tgt := 1099) hx hb dL_law_43 (by decide) (by decide) (by decide) (by decide) ?_
      exact law_audit C0 hi K ot ow oe oc ou oa om mth tq to tt wc wl wb wk kk kf ku ec ew el ea ed et ex cc ca cl ch uc ut ub ul uw ac as hI H locs ls hP hD hS hl
    · refine lv_tableOut (tgt := 1132) hx hb dL_law_43 (by decide) (by decide) ?_
      exact K ot ow oe oc ou oa om mth tq to tt wc wl wb wk kk kf ku ec ew el ea ed et ex cc ca cl ch uc ut ub ul uw ac as hI H locs ls hP hD hS hl
    · refine lv_tableOut (tgt := 1132) hx hb dL_law_43 (by decide) (by decide) ?_
      exact K ot ow oe oc ou oa om mth tq to tt wc wl wb wk kk kf ku ec ew el ea ed et ex cc ca cl ch uc ut ub ul uw ac as hI H locs ls hP hD hS hl
