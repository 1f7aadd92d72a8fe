/-! what class and reference answer from one state is the same -/
/-- what holds of the state between calls -/
def xI (tq : Int32) (wc : Nat) (wl : Nat → Int32) (wk : Nat → Nat) (ec : Nat) (ew : Nat → Nat) (el : Nat → Int32) (ea : Nat → Int64) (ex : Nat → Bool) (cc : Nat) (ca : Nat → Int64) (uc : Nat) (uw : Nat → Int32) (ac : Nat) : Prop :=
  (wc ≤ 12 ∧ (∀ i, wk i ≤ 4) ∧ ec ≤ 100 ∧ (∀ i, ew i < 12) ∧ cc ≤ 50 ∧ uc ≤ 20 ∧ ac ≤ 200) ∧ (∀ i, i < ec → ew i < wc ∧ el i = wl (ew i)) ∧ (∀ i, i < wc → ixN 3 (wl i)) ∧ (∀ i, ec ≤ i → ex i = false) ∧ (2 * cc ≤ xcnt (fun j => xany (fun i => decide (ca i = ea j)) cc) ec) ∧ (¬ tq < nI 1) ∧ (∀ j, j < uc → ¬ uw j < nI 1)
theorem xcnt_le (P : Nat → Bool) (n : Nat) : xcnt P n ≤ n := by
  induction n with
  | zero => exact Nat.le_refl 0
  | succ n ih => simp only [xcnt]; split <;> omega
theorem xcnt_mono {P Q : Nat → Bool} {n : Nat} (h : ∀ j, j < n → P j = true → Q j = true) : xcnt P n ≤ xcnt Q n := by
  induction n with
  | zero => exact Nat.le_refl 0
  | succ n ih =>
    have h1 := ih (fun j hj => h j (by omega))
    have h2 := h n (by omega)
    simp only [xcnt]
    cases hp : P n with
    | false => simp; omega
    | true => rw [h2 hp]; simp; omega
theorem xcnt_congr {P Q : Nat → Bool} {n : Nat} (h : ∀ j, j < n → P j = Q j) : xcnt P n = xcnt Q n := by
  induction n with
  | zero => rfl
  | succ n ih => simp only [xcnt]; rw [ih (fun j hj => h j (by omega)), h n (by omega)]
theorem xcnt_one {P Q : Nat → Bool} {n o : Nat} (h : ∀ j, j < n → P j = true → Q j = true) (ho : o < n) (hp : P o = false) (hq : Q o = true) : xcnt P n + 1 ≤ xcnt Q n := by
  induction n with
  | zero => exact absurd ho (by omega)
  | succ n ih =>
    rcases Nat.lt_or_ge o n with z | z
    · have h1 := ih (fun j hj => h j (by omega)) z
      have h2 := h n (by omega)
      simp only [xcnt]
      cases hp : P n with
      | false => simp; omega
      | true => rw [h2 hp]; simp; omega
    · obtain rfl : o = n := by omega
      have h1 := xcnt_mono (n := o) (fun j hj => h j (by omega))
      simp only [xcnt, hp, hq]
      simp; omega
theorem xcnt_two {P Q : Nat → Bool} {n o m : Nat} (h : ∀ j, j < n → P j = true → Q j = true) (ho : o < n) (hm : m < n) (hne : o ≠ m) (hp : P o = false) (hq : Q o = true) (hp2 : P m = false) (hq2 : Q m = true) : xcnt P n + 2 ≤ xcnt Q n := by
  have h1 := xcnt_one (P := P) (Q := fun j => P j || decide (j = o)) (n := n) (o := o) (fun j _ hj => by simp [hj]) ho hp (by simp)
  have h2 := xcnt_one (P := fun j => P j || decide (j = o)) (Q := Q) (n := n) (o := m) (fun j hj hz => by
    simp only [Bool.or_eq_true, decide_eq_true_eq] at hz
    rcases hz with hz | rfl
    · exact h j hj hz
    · exact hq) hm (by simp [hp2]; exact fun e => hne e.symm) hq2
  omega
theorem xany_congr {P Q : Nat → Bool} {n : Nat} (h : ∀ j, j < n → P j = Q j) : xany P n = xany Q n := by
  induction n with
  | zero => rfl
  | succ n ih => simp only [xany]; rw [ih (fun j hj => h j (by omega)), h n (by omega)]
theorem xp_uniq {O : Nat → Prop} {R : Nat → Nat} {n : Nat} {r r' : Int32} (h : xp_I O R n r) (h' : xp_I O R n r') : r = r' := by
  rcases h with ⟨rfl, h2⟩ | ⟨q, rfl, h3, h4, h5⟩ <;> rcases h' with ⟨rfl, g2⟩ | ⟨q', rfl, g3, g4, g5⟩
  · rfl
  · exact absurd g4 (h2 q' g3)
  · exact absurd h4 (g2 q h3)
  · have a1 := h5 q' g3 g4
    have a2 := g5 q h3 h4
    rcases Nat.lt_trichotomy q q' with z | z | z
    · have := a1.2 z; omega
    · rw [z]
    · have := a2.2 z; omega
theorem xo_uniq {O O' : Nat → Prop} {et : Nat → Int64} {n b b' : Nat} (hO : ∀ j, j < n → (O j ↔ O' j)) (h : b < n ∧ O b ∧ ∀ j, j < n → O j → ¬ (et b < et j) ∧ (b < j → et j < et b)) (h' : b' < n ∧ O' b' ∧ ∀ j, j < n → O' j → ¬ (et b' < et j) ∧ (b' < j → et j < et b')) : b = b' := by
  obtain ⟨h1, h2, h3⟩ := h
  obtain ⟨g1, g2, g3⟩ := h'
  have a1 := h3 b' g1 ((hO b' g1).mpr g2)
  have a2 := g3 b h1 ((hO b h1).mp h2)
  rcases Nat.lt_trichotomy b b' with z | z | z
  · exact absurd (a1.2 z) a2.1
  · exact z
  · exact absurd (a2.2 z) a1.1
theorem xf_uniq {C C' : Prop} {P P' : Nat → Prop} {n : Nat} {r r' : Int32} (hC : C ↔ C') (hP : ∀ j, j < n → (P j ↔ P' j)) (h : (r = (-1) ∧ ¬ ∃ i, i < n ∧ C ∧ P i) ∨ (∃ i, i < n ∧ r = nI i ∧ C ∧ P i ∧ ∀ j, j < i → ¬ P j)) (h' : (r' = (-1) ∧ ¬ ∃ i, i < n ∧ C' ∧ P' i) ∨ (∃ i, i < n ∧ r' = nI i ∧ C' ∧ P' i ∧ ∀ j, j < i → ¬ P' j)) : r = r' := by
  rcases h with ⟨rfl, h2⟩ | ⟨q, h3, rfl, h4, h5, h6⟩ <;> rcases h' with ⟨rfl, g2⟩ | ⟨q', g3, rfl, g4, g5, g6⟩
  · rfl
  · exact absurd ⟨q', g3, hC.mpr g4, (hP q' g3).mpr g5⟩ h2
  · exact absurd ⟨q, h3, hC.mp h4, (hP q h3).mp h5⟩ g2
  · rcases Nat.lt_trichotomy q q' with z | z | z
    · exact absurd ((hP q h3).mp h5) (g6 q z)
    · rw [z]
    · exact absurd ((hP q' g3).mpr g5) (h6 q' z)
/-- the bits, one by one -/
def xs_bits (P : Nat → Bool) (ew : Nat → Nat) : Nat → Nat
  | 0 => 0
  | i + 1 => if P i then xs_bits P ew i ||| 2 ^ (ew i) else xs_bits P ew i
theorem xs_bits_lt {P : Nat → Bool} {ew : Nat → Nat} (h : ∀ i, ew i < 12) (n : Nat) : xs_bits P ew n < 2 ^ 12 := by
  induction n with
  | zero => exact Nat.le_of_ble_eq_true rfl
  | succ n ih =>
    simp only [xs_bits]
    split
    · exact Nat.or_lt_two_pow ih (Nat.pow_lt_pow_right (by decide) (h n))
    · exact ih
theorem xs_bits_test {P : Nat → Bool} {ew : Nat → Nat} (n w : Nat) : (xs_bits P ew n).testBit w = xany (fun z => P z && decide (ew z = w)) n := by
  induction n with
  | zero => simp [xs_bits, xany]
  | succ n ih =>
    simp only [xs_bits, xany]
    cases hp : P n with
    | false => simp [ih]
    | true => simp [ih, Nat.testBit_or, Nat.testBit_two_pow]
theorem nI_or (a b : Nat) : nI a ||| nI b = nI (a ||| b) := by
  apply Int32.toBitVec_inj.mp
  apply BitVec.eq_of_toNat_eq
  simp [nI, Int32.toBitVec_ofNat', Nat.or_mod_two_pow]
theorem nI_one_shl : ∀ k, k < 12 → nI 1 <<< (nI k &&& 31) = nI (2 ^ k) := by decide +kernel
theorem xs_seen_bits {P : Nat → Bool} {ew : Nat → Nat} (h : ∀ i, ew i < 12) (n : Nat) : xs_seen P ew n = nI (xs_bits P ew n) := by
  induction n with
  | zero => rfl
  | succ n ih =>
    simp only [xs_seen, xs_bits]
    split
    · rw [ih, nI_one_shl _ (h n), nI_or]
    · exact ih
theorem xs_pop_all2 : ∀ a : Fin 64, ∀ b : Fin 64, xs_pop (nI (a.val * 64 + b.val)) = nI (xcnt (fun w => (a.val * 64 + b.val).testBit w) 12) := by decide +kernel
theorem xs_pop_all (s : Fin 4096) : xs_pop (nI s.val) = nI (xcnt (fun w => s.val.testBit w) 12) := by
  have h := xs_pop_all2 ⟨s.val / 64, by omega⟩ ⟨s.val % 64, by omega⟩
  have e : s.val / 64 * 64 + s.val % 64 = s.val := by omega
  simp only [e] at h
  exact h
theorem xs_pop_seen {P : Nat → Bool} {ew : Nat → Nat} (h : ∀ i, ew i < 12) (n : Nat) : xs_pop (xs_seen P ew n) = nI (xcnt (fun w => xany (fun z => P z && decide (ew z = w)) n) 12) := by
  rw [xs_seen_bits h]
  have h1 := xs_pop_all ⟨xs_bits P ew n, xs_bits_lt h n⟩
  rw [h1]
  congr 1
  exact xcnt_congr (fun w _ => xs_bits_test n w)
theorem xcnt_cut {P : Nat → Bool} {a b : Nat} (hab : a ≤ b) (h : ∀ j, a ≤ j → j < b → P j = false) : xcnt P b = xcnt P a := by
  induction b with
  | zero => obtain rfl : a = 0 := by omega
            rfl
  | succ b ih =>
    rcases Nat.lt_or_ge a (b + 1) with z | z
    · rw [xcnt_no (h b (by omega) (by omega)), ih (by omega) (fun j h1 h2 => h j h1 (by omega))]
    · obtain rfl : a = b + 1 := by omega
      rfl
/-- the class's count of writers is the reference's -/
theorem xmany_eq {wc ec : Nat} {wl el : Nat → Int32} {ew : Nat → Nat} {ea et : Nat → Int64} {ex : Nat → Bool} {a tm : Int64} {lv : Int32} (hwc : wc ≤ 12) (h12 : ∀ i, ew i < 12) (hb : ∀ i, i < ec → ew i < wc ∧ el i = wl (ew i)) :
    xs_pop (xs_seen (fun j => decide (ex j = false ∧ ea j = a ∧ ¬ (el j < lv) ∧ ¬ (tm < et j))) ew ec) = nI (xcnt (fun w => xany (fun z => decide (ew z = w ∧ (ex z = false ∧ ea z = a ∧ ¬ (tm < et z) ∧ ¬ (wl (ew z) < lv)))) ec) wc) := by
  rw [xs_pop_seen h12]
  congr 1
  rw [xcnt_cut hwc (fun j h1 h2 => ?_)]
  · apply xcnt_congr
    intro w _
    apply xany_congr
    intro z hz
    rw [(hb z hz).2]
    by_cases e : ew z = w
    · simp only [e, decide_true, Bool.and_true, true_and]
      congr 1
      apply propext
      constructor
      · rintro ⟨x1, x2, x3, x4⟩; exact ⟨x1, x2, x4, x3⟩
      · rintro ⟨x1, x2, x3, x4⟩; exact ⟨x1, x2, x4, x3⟩
    · simp [e]
  · cases hq : xany _ ec with
    | false => rfl
    | true =>
      obtain ⟨z, hz, hb2⟩ := xany_iff.mp hq
      simp only [Bool.and_eq_true, decide_eq_true_eq] at hb2
      have := (hb z hz).1
      omega
section SIM
variable {ot : Nat} {om ow oe oc ou oa : Nat → Nat} {mth tq : Int32} {to : Bool} {tt : Int64} {wc : Nat} {wl : Nat → Int32} {wb : Nat → Bool} {wk : Nat → Nat} {kk kf ku : Nat → Int64} {ec : Nat} {ew : Nat → Nat} {el : Nat → Int32} {ea ed et : Nat → Int64} {ex : Nat → Bool} {cc : Nat} {ca : Nat → Int64} {cl ch : Nat → Int32} {uc : Nat} {ut ub ul uw : Nat → Int32} {ac : Nat} {as : Nat → Int32}
theorem sim_writer {x r r' : Int32} {u u' : Nat × (Nat → Int32)} (hI : xI tq wc wl wk ec ew el ea ex cc ca uc uw ac) (hX : p_T_writer ot tq ow oe oc ou oa to tt wc wl wb wk kk kf ku x r u) (hM : p_M_writer om mth tq to wc wl wb wk kk kf ku ec ew ea ed et ex cc ca cl ch uc ut ub ul uw tt ac as x r' u') : r = r' ∧ u' = u ∧ xI tq u.1 u.2 wk ec ew el ea ex cc ca uc uw ac := by
  rcases hX with ⟨rfl, h1, rfl⟩ | ⟨rfl, h1, rfl⟩ <;> rcases hM with ⟨rfl, h2, rfl⟩ | ⟨rfl, h2, rfl⟩
  · exact ⟨rfl, rfl, hI⟩
  · exact absurd h2 h1
  · exact absurd h1 h2
  · refine ⟨rfl, rfl, ?_⟩
    obtain ⟨⟨a1, a2⟩, b, c, d⟩ := hI
    refine ⟨⟨Nat.succ_le_of_lt h1.1, a2⟩, fun i hi => ?_, fun i hi => ?_, d⟩
    · obtain ⟨p, q⟩ := b i hi
      exact ⟨Nat.lt_succ_of_lt p, q.trans (pk_un (Nat.ne_of_lt p)).symm⟩
    · show ixN 3 (upd wl wc x i)
      rcases Nat.lt_or_ge i wc with z | z
      · rw [pk_un (Nat.ne_of_lt z)]; exact c i z
      · obtain rfl : i = wc := by
          have hi : i < wc + 1 := hi
          omega
        rw [pk_us]; exact h1.2
theorem sim_key {x r r' : Int32} {key f g : Int64} {u u' : (Nat → Nat) × (Nat → Int64) × (Nat → Int64) × (Nat → Int64)} (hI : xI tq wc wl wk ec ew el ea ex cc ca uc uw ac) (hX : p_T_key ot tq ow oe oc ou oa to tt wc wl wb wk kk kf ku x key f g r u) (hM : p_M_key om mth tq to wc wl wb wk kk kf ku ec ew ea ed et ex cc ca cl ch uc ut ub ul uw tt ac as x key f g r' u') : r = r' ∧ u' = u ∧ xI tq wc wl u.1 ec ew el ea ex cc ca uc uw ac := by
  rcases hX with ⟨rfl, h1, rfl⟩ | ⟨j, hj, hx, ho, rfl, rfl⟩ <;> rcases hM with ⟨rfl, h2, rfl⟩ | ⟨j', hj', hx', ho', rfl, rfl⟩
  · exact ⟨rfl, rfl, hI⟩
  · exact absurd ⟨j', hj', hx', ho'⟩ h1
  · exact absurd ⟨j, hj, hx, ho⟩ h2
  · obtain ⟨⟨a1, a2, a3⟩, b⟩ := hI
    have e : j = j' := (nI_eq (by omega) (by omega)).mp (hx.symm.trans hx')
    subst e
    refine ⟨rfl, rfl, ⟨a1, fun i => ?_, a3⟩, b⟩
    show xu_N wk j (wk j + 1) i ≤ 4
    unfold xu_N
    split
    · exact ho.2.1
    · exact a2 i
theorem sim_sum {x a d r r' : Int64} (hX : p_T_sum ot tq ow oe oc ou oa to tt x a d r ()) (hM : p_M_sum om mth tq to wc wl wb wk kk kf ku ec ew ea ed et ex cc ca cl ch uc ut ub ul uw tt ac as x a d r' ()) : r = r' := Eq.trans (show r = xs_sum x a d from hX) (show r' = xs_sum x a d from hM).symm
theorem sim_taken {r r' : Int64} (hX : p_T_taken ot tq ow oe oc ou oa to tt r ()) (hM : p_M_taken om mth tq to wc wl wb wk kk kf ku ec ew ea ed et ex cc ca cl ch uc ut ub ul uw tt ac as r' ()) : r = r' := Eq.trans (show r = tt from hX) (show r' = tt from hM).symm
theorem sim_stands {x r r' : Int32} (hX : p_T_stands ot tq ow oe oc ou oa to tt ec ew el ea ed et ex x r ()) (hM : p_M_stands om mth tq to wc wl wb wk kk kf ku ec ew ea ed et ex cc ca cl ch uc ut ub ul uw tt ac as x r' ()) : r = r' := xb_eq hX hM Iff.rfl
theorem sim_bar {x r r' : Int32} {u u' : (Nat → Bool) × (Nat → Bool)} (hI : xI tq wc wl wk ec ew el ea ex cc ca uc uw ac) (hX : p_T_bar ot tq ow oe oc ou oa to tt wc wl wb wk kk kf ku ec ew el ea ed et ex x r u) (hM : p_M_bar om mth tq to wc wl wb wk kk kf ku ec ew ea ed et ex cc ca cl ch uc ut ub ul uw tt ac as x r' u') : r = r' ∧ u' = u ∧ xI tq wc wl wk ec ew el ea u.2 cc ca uc uw ac := by
  rcases hX with ⟨rfl, h1, rfl⟩ | ⟨j, hj, hx, ho, rfl, rfl⟩ <;> rcases hM with ⟨rfl, h2, rfl⟩ | ⟨j', hj', hx', ho', rfl, rfl⟩
  · exact ⟨rfl, rfl, hI⟩
  · exact absurd ⟨j', hj', hx', ho'⟩ h1
  · exact absurd ⟨j, hj, hx, ho⟩ h2
  · obtain ⟨⟨a1, a2⟩, b, c, d, e2⟩ := hI
    have e : j = j' := (nI_eq (by omega) (by omega)).mp (hx.symm.trans hx')
    subst e
    refine ⟨rfl, rfl, ⟨a1, a2⟩, b, c, fun i hi => ?_, e2⟩
    show xd_drop ew ex j ec i = false
    simp [xd_drop, d i hi]; omega
theorem sim_rule {t b lv wt r r' : Int32} {u u' : Nat × (Nat → Int32) × (Nat → Int32) × (Nat → Int32) × (Nat → Int32)} (hI : xI tq wc wl wk ec ew el ea ex cc ca uc uw ac) (hX : p_T_rule ot tq ow oe oc ou oa to tt uc ut ub ul uw t b lv wt r u) (hM : p_M_rule om mth tq to wc wl wb wk kk kf ku ec ew ea ed et ex cc ca cl ch uc ut ub ul uw tt ac as t b lv wt r' u') : r = r' ∧ u' = u ∧ xI tq wc wl wk ec ew el ea ex cc ca u.1 u.2.2.2.2 ac := by
  rcases hX with ⟨rfl, h1, rfl⟩ | ⟨rfl, h1, rfl⟩ <;> rcases hM with ⟨rfl, h2, rfl⟩ | ⟨rfl, h2, rfl⟩
  · exact ⟨rfl, rfl, hI⟩
  · exact absurd h2 h1
  · exact absurd h1 h2
  · refine ⟨rfl, rfl, ?_⟩
    obtain ⟨⟨a1, a2, a3, a4, a5, a6, a7⟩, b, c, d, e, f, g⟩ := hI
    refine ⟨⟨a1, a2, a3, a4, a5, Nat.succ_le_of_lt h1.1, a7⟩, b, c, d, e, f, fun j hj => ?_⟩
    show ¬ upd uw uc wt j < nI 1
    rcases Nat.lt_or_ge j uc with z | z
    · rw [pk_un (Nat.ne_of_lt z)]; exact g j z
    · obtain rfl : j = uc := by
        have hj : j < uc + 1 := hj
        omega
      rw [pk_us]; exact h1.2.2.2.2.1
theorem sim_best {t b r r' : Int32} (hX : p_U_best ou uc ut ub ul uw t b r ()) (hM : p_M_ruleOf om mth tq to wc wl wb wk kk kf ku ec ew ea ed et ex cc ca cl ch uc ut ub ul uw tt ac as t b r' ()) : r = r' :=
  xp_uniq (O := fun j => (ut j = (-1) ∨ ut j = t) ∧ (ub j = (-1) ∨ ub j = b)) (R := fun j => xs_rank (ut j) (ub j)) hX hM
theorem sim_ruleFor {t b r r' : Int32} (hX : p_T_ruleFor ot tq ow oe oc ou oa to tt uc ut ub ul uw t b r ()) (hM : p_M_ruleFor om mth tq to wc wl wb wk kk kf ku ec ew ea ed et ex cc ca cl ch uc ut ub ul uw tt ac as t b r' ()) : r = r' := by
  rcases hX with ⟨rfl, h1⟩ | ⟨h1, h3⟩ <;> rcases hM with ⟨rfl, h2⟩ | ⟨h2, h4⟩
  · rfl
  · exact absurd h2 h1
  · exact absurd h1 h2
  · exact sim_best h3 h4
theorem sim_level {t b q lv lv' : Int32} (huc : uc ≤ 20) (h1 : p_U_best ou uc ut ub ul uw t b q ()) (h2 : p_U_level ou uc ut ub ul uw q lv ()) (hM : p_M_levelFor om mth tq to wc wl wb wk kk kf ku ec ew ea ed et ex cc ca cl ch uc ut ub ul uw tt ac as t b lv' ()) : lv = lv' := by
  obtain ⟨q', h3, h4⟩ := hM
  obtain rfl : q = q' := sim_best h1 h3
  rcases h2 with ⟨j, hj, hq, rfl⟩ | ⟨hn, rfl⟩ <;> rcases h4 with ⟨hq', rfl⟩ | ⟨j', hj', hq', rfl⟩
  · exact absurd (hq'.symm.trans hq) (xx_m1 (by omega))
  · rw [(nI_eq (by omega) (by omega)).mp (hq.symm.trans hq')]
  · rfl
  · exact absurd ⟨j', hj', hq'⟩ hn
theorem sim_counted {a tm : Int64} {t b r r' : Int32} (hI : xI tq wc wl wk ec ew el ea ex cc ca uc uw ac) (hX : p_T_counted ot tq ow oe oc ou oa to tt ec ew el ea ed et ex uc ut ub ul uw a t b tm r ()) (hM : p_M_counted om mth tq to wc wl wb wk kk kf ku ec ew ea ed et ex cc ca cl ch uc ut ub ul uw tt ac as a t b tm r' ()) : r = r' := by
  obtain ⟨⟨a1, a2, a3, a4, a5, a6, a7⟩, bb, c⟩ := hI
  rcases hX with ⟨rfl, h1⟩ | ⟨h1, q, lv, h3, h5, h7⟩ <;> rcases hM with ⟨rfl, h2⟩ | ⟨h2, lv', h4, h6⟩
  · rfl
  · exact absurd h2 h1
  · exact absurd h1 h2
  · obtain rfl : lv = lv' := sim_level a6 h3 h5 h4
    rw [h7, h6]
    exact xmany_eq a1 a4 bb
theorem sim_clash {x y r r' : Int32} (hcc : cc ≤ 50) (hX : p_T_clash ot tq ow oe oc ou oa to tt cc ca cl ch x y r ()) (hM : p_M_clash om mth tq to wc wl wb wk kk kf ku ec ew ea ed et ex cc ca cl ch uc ut ub ul uw tt ac as x y r' ()) : r = r' := by
  rcases hX with ⟨rfl, h1⟩ | ⟨j, hj, hx, h3⟩ <;> rcases hM with ⟨rfl, h2⟩ | ⟨j', hj', hx', h4⟩
  · rfl
  · exact absurd ⟨⟨j', hj', hx'⟩, h4.elim (fun h => Or.inl h.1) (fun h => Or.inr h.1)⟩ h1
  · exact absurd ⟨⟨j, hj, hx⟩, h3.elim (fun h => Or.inl h.1) (fun h => Or.inr h.1)⟩ h2
  · obtain rfl : j = j' := (nI_eq (by omega) (by omega)).mp (hx.symm.trans hx')
    rcases h3 with ⟨e, rfl⟩ | ⟨e, rfl⟩ <;> rcases h4 with ⟨e', rfl⟩ | ⟨e', rfl⟩
    · rfl
    · exact absurd (e.symm.trans e') (by decide)
    · exact absurd (e.symm.trans e') (by decide)
    · rfl
theorem sim_audit {x y r r' : Int32} (hac : ac ≤ 200) (hX : p_T_audit ot tq ow oe oc ou oa to tt ac as x y r ()) (hM : p_M_audit om mth tq to wc wl wb wk kk kf ku ec ew ea ed et ex cc ca cl ch uc ut ub ul uw tt ac as x y r' ()) : r = r' := by
  rcases hX with ⟨rfl, h1⟩ | ⟨j, i, hj, hi, hx, hy, rfl⟩ <;> rcases hM with ⟨rfl, h2⟩ | ⟨j', i', hj', hi', hx', hy', rfl⟩
  · rfl
  · exact absurd ⟨⟨j', hj', hx'⟩, ⟨i', hi', hy'⟩⟩ h1
  · exact absurd ⟨⟨j, hj, hx⟩, ⟨i, hi, hy⟩⟩ h2
  · rw [(nI_eq (by omega) (by omega)).mp (hx.symm.trans hx'), (nI_eq (by omega) (by omega)).mp (hy.symm.trans hy')]
end SIM
