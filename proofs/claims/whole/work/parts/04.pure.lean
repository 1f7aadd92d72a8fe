/-! pure rows: indices, counts, loops' steps -/
def ixN (n : Nat) (x : Int32) : Prop := ∃ j, j < n ∧ x = nI j
theorem xx_ngt {x : Int32} {n : Nat} (hn : n + 1 < 2 ^ 31) (h : nI n < x) : ¬ ixN (n + 1) x := by
  rintro ⟨j, hj, rfl⟩
  have := (nI_ltI (by omega) (by omega)).mp h
  omega
theorem xx_ile {x : Int32} {n : Nat} (hn : n + 1 < 2 ^ 31) (h0 : ¬ x < 0) (h1 : ¬ nI n < x) : ixN (n + 1) x := by
  obtain ⟨j, hj, rfl⟩ := nI_of h0
  have h2 : ¬ n < j := fun z => h1 ((nI_ltI (by omega) hj).mpr z)
  exact ⟨j, by omega, rfl⟩
theorem xx_none {n : Nat} {x : Int32} {P : Nat → Prop} (h : ¬ ixN n x) : ¬ ∃ j, j < n ∧ x = nI j ∧ P j := fun ⟨j, a, b, _⟩ => h ⟨j, a, b⟩
theorem xx_none4 {n : Nat} {x : Int32} {P Q : Nat → Prop} (h : ¬ ∃ j, j < n ∧ x = nI j ∧ P j) : ¬ ∃ j, j < n ∧ x = nI j ∧ (P j ∧ Q j) := fun ⟨j, a, b, d, _⟩ => h ⟨j, a, b, d⟩
theorem xx_one {n j : Nat} {P : Nat → Prop} (hn : n < 2 ^ 31) (hj : j < n) (h : ¬ P j) : ¬ ∃ i, i < n ∧ nI j = nI i ∧ P i := by
  rintro ⟨i, hi, e, hp⟩
  have := (nI_eq (by omega) (by omega)).mp e
  subst this
  exact h hp
theorem xx_nlt {x y : Int32} (h : y ≤ x) : ¬ x < y := by
  rw [Int32.lt_iff_toInt_lt]; rw [Int32.le_iff_toInt_le] at h; omega
theorem xx_nle {x y : Int32} (h : ¬ x < y) : y ≤ x := by
  rw [Int32.lt_iff_toInt_lt] at h; rw [Int32.le_iff_toInt_le]; omega
theorem xx_m1 {j : Nat} (h : j < 2 ^ 31) : ¬ (-1 : Int32) = nI j := by
  intro e
  have e2 := congrArg Int32.toInt e
  rw [nI_toInt h] at e2
  have e3 : (-1 : Int32).toInt = -1 := by decide
  omega
theorem xx_nm1 {j : Nat} (h : j < 2 ^ 31) : ¬ nI j = (-1 : Int32) := fun e => xx_m1 h e.symm
theorem bI_nar (b : Bool) : narrow .boolean (.int (bI b)) = .int (bI b) := by cases b <;> rfl
theorem bI_fit (b : Bool) : fits .boolean (.int (bI b)) = true := by cases b <;> rfl
/-- the step of the sum, for the byte at a shift -/
def xs_mix (x w : Int64) (sh : Nat) : Int64 := (((x ^^^ ((w.toUInt64 >>> ((nI sh).toInt64.toUInt64 &&& Int64.toUInt64 63)).toInt64 &&& 255)) <<< ((nI 11).toInt64 &&& 63)) ||| ((x ^^^ ((w.toUInt64 >>> ((nI sh).toInt64.toUInt64 &&& Int64.toUInt64 63)).toInt64 &&& 255)).toUInt64 >>> ((nI 53).toInt64.toUInt64 &&& Int64.toUInt64 63)).toInt64) * (-7046029254386353131)
def xs_word (x w : Int64) : Int64 := xs_mix (xs_mix (xs_mix (xs_mix (xs_mix (xs_mix (xs_mix (xs_mix x w 56) w 48) w 40) w 32) w 24) w 16) w 8) w 0
def xs_sum (x a d : Int64) : Int64 := xs_word (xs_word x a) d
/-- how many below n -/
def xcnt (P : Nat → Bool) : Nat → Nat
  | 0 => 0
  | n + 1 => xcnt P n + (if P n then 1 else 0)
theorem xcnt_no {P : Nat → Bool} {i : Nat} (h : P i = false) : xcnt P (i + 1) = xcnt P i := by simp [xcnt, h]
theorem xcnt_yes {P : Nat → Bool} {i : Nat} (h : P i = true) : xcnt P (i + 1) = xcnt P i + 1 := by simp [xcnt, h]
/-- dropped ones, once those of writer w below i are dropped too -/
def xd_drop (ew : Nat → Nat) (ex : Nat → Bool) (w i : Nat) : Nat → Bool := fun j => ex j || (decide (j < i) && decide (ew j = w))
theorem xd_zero (ew : Nat → Nat) (ex : Nat → Bool) (w : Nat) : xd_drop ew ex w 0 = ex := by
  funext j; simp [xd_drop]
theorem xd_self (ew : Nat → Nat) (ex : Nat → Bool) (w i : Nat) : xd_drop ew ex w i i = ex i := by simp [xd_drop]
theorem xd_skip {ew : Nat → Nat} {ex : Nat → Bool} {w i : Nat} (h : ¬ ew i = w) : xd_drop ew ex w (i + 1) = xd_drop ew ex w i := by
  funext j
  by_cases hj : j = i
  · subst hj; simp [xd_drop, h]
  · have : (j < i + 1) = (j < i) := propext ⟨fun z => by omega, fun z => by omega⟩
    simp only [xd_drop, this]
theorem xd_skip2 {ew : Nat → Nat} {ex : Nat → Bool} {w i : Nat} (h : ex i = true) : xd_drop ew ex w (i + 1) = xd_drop ew ex w i := by
  funext j
  by_cases hj : j = i
  · subst hj; simp [xd_drop, h]
  · have : (j < i + 1) = (j < i) := propext ⟨fun z => by omega, fun z => by omega⟩
    simp only [xd_drop, this]
theorem xd_put {ew : Nat → Nat} {ex : Nat → Bool} {w i : Nat} (h : ew i = w) : xu_B (xd_drop ew ex w i) i true = xd_drop ew ex w (i + 1) := by
  funext j
  by_cases hj : j = i
  · subst hj; simp [xu_B, xd_drop, h]
  · have : (j < i + 1) = (j < i) := propext ⟨fun z => by omega, fun z => by omega⟩
    simp only [xu_B, if_neg hj, xd_drop, this]
/-- the writers seen, a bit each -/
def xs_seen (P : Nat → Bool) (ew : Nat → Nat) : Nat → Int32
  | 0 => nI 0
  | i + 1 => if P i then xs_seen P ew i ||| (nI 1 <<< (nI (ew i) &&& 31)) else xs_seen P ew i
theorem xs_seen_yes {P : Nat → Bool} {ew : Nat → Nat} {i : Nat} (h : P i = true) : xs_seen P ew (i + 1) = xs_seen P ew i ||| (nI 1 <<< (nI (ew i) &&& 31)) := by simp [xs_seen, h]
theorem xs_seen_no {P : Nat → Bool} {ew : Nat → Nat} {i : Nat} (h : P i = false) : xs_seen P ew (i + 1) = xs_seen P ew i := by simp [xs_seen, h]
/-- how much of target and branch a rule names -/
def xs_rank (t b : Int32) : Nat := (if t = (-1) then 0 else 2) + (if b = (-1) then 0 else 1)
theorem xs_rank_le (t b : Int32) : xs_rank t b ≤ 3 := by unfold xs_rank; split <;> split <;> omega
/-- the latest own one: a loop's steps -/
def xl_I (O : Nat → Prop) (et : Nat → Int64) (i : Nat) (b5 : Int32) (t6 : Int64) : Prop := (b5 = (-1) ∧ ∀ j, j < i → ¬ O j) ∨ (∃ b, b5 = nI b ∧ t6 = et b ∧ b < i ∧ O b ∧ ∀ j, j < i → O j → ¬ (et b < et j) ∧ (b < j → et j < et b))
theorem xl_skip {O : Nat → Prop} {et : Nat → Int64} {i : Nat} {b5 : Int32} {t6 : Int64} (h : xl_I O et i b5 t6) (hn : ¬ O i) : xl_I O et (i + 1) b5 t6 := by
  rcases h with ⟨h1, h2⟩ | ⟨b, h1, h2, h3, h4, h5⟩
  · exact Or.inl ⟨h1, fun j hj hO => by
      rcases Nat.lt_or_ge j i with z | z
      · exact h2 j z hO
      · obtain rfl : j = i := by omega
        exact hn hO⟩
  · exact Or.inr ⟨b, h1, h2, by omega, h4, fun j hj hO => by
      rcases Nat.lt_or_ge j i with z | z
      · exact h5 j z hO
      · obtain rfl : j = i := by omega
        exact absurd hO hn⟩
theorem xl_new {O : Nat → Prop} {et : Nat → Int64} {i : Nat} {b5 : Int32} {t6 : Int64} (hi : i < 2 ^ 31) (h : xl_I O et i b5 t6) (hO : O i) (hc : b5 = (-1) ∨ ¬ et i < t6) : xl_I O et (i + 1) (nI i) (et i) := by
  refine Or.inr ⟨i, rfl, rfl, by omega, hO, fun j hj hOj => ?_⟩
  rcases Nat.lt_or_ge j i with z | z
  · refine ⟨?_, fun q => absurd q (by omega)⟩
    rcases h with ⟨h1, h2⟩ | ⟨b, h1, h2, h3, h4, h5⟩
    · exact absurd hOj (h2 j z)
    · rcases hc with hc | hc
      · exact absurd (hc.symm.trans h1) (xx_m1 (by omega))
      · have := (h5 j z hOj).1
        rw [h2] at hc
        rw [Int64.lt_iff_toInt_lt] at *
        omega
  · obtain rfl : j = i := by omega
    exact ⟨by rw [Int64.lt_iff_toInt_lt]; omega, fun q => absurd q (by omega)⟩
theorem xl_old {O : Nat → Prop} {et : Nat → Int64} {i : Nat} {b5 : Int32} {t6 : Int64} (h : xl_I O et i b5 t6) (hO : O i) (hb : ¬ b5 = (-1)) (hc : et i < t6) : xl_I O et (i + 1) b5 t6 := by
  rcases h with ⟨h1, h2⟩ | ⟨b, h1, h2, h3, h4, h5⟩
  · exact absurd h1 hb
  · refine Or.inr ⟨b, h1, h2, by omega, h4, fun j hj hOj => ?_⟩
    rcases Nat.lt_or_ge j i with z | z
    · exact h5 j z hOj
    · obtain rfl : j = i := by omega
      rw [h2] at hc
      exact ⟨by rw [Int64.lt_iff_toInt_lt] at *; omega, fun _ => hc⟩
/-- the rule that goes ahead: a loop's steps -/
def xq_I (O : Nat → Prop) (R : Nat → Nat) (i : Nat) (b3 : Int32) (m : Nat) : Prop := (b3 = (-1) ∧ m = 0 ∧ ∀ j, j < i → ¬ O j) ∨ (∃ q, b3 = nI q ∧ m = R q ∧ q < i ∧ O q ∧ ∀ j, j < i → O j → R j ≤ R q ∧ (q < j → R j < R q))
theorem xq_skip {O : Nat → Prop} {R : Nat → Nat} {i m : Nat} {b3 : Int32} (h : xq_I O R i b3 m) (hn : ¬ O i) : xq_I O R (i + 1) b3 m := by
  rcases h with ⟨h1, h0, h2⟩ | ⟨b, h1, h2, h3, h4, h5⟩
  · exact Or.inl ⟨h1, h0, fun j hj hO => by
      rcases Nat.lt_or_ge j i with z | z
      · exact h2 j z hO
      · obtain rfl : j = i := by omega
        exact hn hO⟩
  · exact Or.inr ⟨b, h1, h2, by omega, h4, fun j hj hO => by
      rcases Nat.lt_or_ge j i with z | z
      · exact h5 j z hO
      · obtain rfl : j = i := by omega
        exact absurd hO hn⟩
theorem xq_new {O : Nat → Prop} {R : Nat → Nat} {i m : Nat} {b3 : Int32} (h : xq_I O R i b3 m) (hO : O i) (hc : m ≤ R i) : xq_I O R (i + 1) (nI i) (R i) := by
  refine Or.inr ⟨i, rfl, rfl, by omega, hO, fun j hj hOj => ?_⟩
  rcases Nat.lt_or_ge j i with z | z
  · refine ⟨?_, fun q => absurd q (by omega)⟩
    rcases h with ⟨h1, h0, h2⟩ | ⟨b, h1, h2, h3, h4, h5⟩
    · exact absurd hOj (h2 j z)
    · have := (h5 j z hOj).1
      omega
  · obtain rfl : j = i := by omega
    exact ⟨Nat.le_refl _, fun q => absurd q (by omega)⟩
theorem xq_old {O : Nat → Prop} {R : Nat → Nat} {i m : Nat} {b3 : Int32} (h : xq_I O R i b3 m) (hO : O i) (hc : R i < m) : xq_I O R (i + 1) b3 m := by
  rcases h with ⟨h1, h0, h2⟩ | ⟨b, h1, h2, h3, h4, h5⟩
  · exact absurd hc (by omega)
  · refine Or.inr ⟨b, h1, h2, by omega, h4, fun j hj hOj => ?_⟩
    rcases Nat.lt_or_ge j i with z | z
    · exact h5 j z hOj
    · obtain rfl : j = i := by omega
      exact ⟨by omega, fun _ => by omega⟩
theorem xx_lnle {t : Int64} (h : ¬ (0 ≤ t)) : t < 0 := by
  rw [Int64.le_iff_toInt_le] at h; rw [Int64.lt_iff_toInt_lt]; omega
theorem xx_lnlt {t : Int64} (h : 0 ≤ t) : ¬ t < 0 := by
  rw [Int64.le_iff_toInt_le] at h; rw [Int64.lt_iff_toInt_lt]; omega
def xs_clamp (x : Int32) : Int32 := if nI 1 < (if x < nI 5 then x else nI 5) then (if x < nI 5 then x else nI 5) else nI 1
abbrev xx_at (l : List Nat) : Nat → Nat := fun i => l.getD i 0
/-- the JDK's count of bits, in its own steps -/
def xs_pop1 (i : Int32) : Int32 := i - ((i.toUInt32 >>> ((nI 1).toUInt32 &&& Int32.toUInt32 31)).toInt32 &&& (nI 1431655765))
def xs_pop2 (i : Int32) : Int32 := (i &&& (nI 858993459)) + ((i.toUInt32 >>> ((nI 2).toUInt32 &&& Int32.toUInt32 31)).toInt32 &&& (nI 858993459))
def xs_pop3 (i : Int32) : Int32 := (i + (i.toUInt32 >>> ((nI 4).toUInt32 &&& Int32.toUInt32 31)).toInt32) &&& (nI 252645135)
def xs_pop4 (i : Int32) : Int32 := i + (i.toUInt32 >>> ((nI 8).toUInt32 &&& Int32.toUInt32 31)).toInt32
def xs_pop5 (i : Int32) : Int32 := i + (i.toUInt32 >>> ((nI 16).toUInt32 &&& Int32.toUInt32 31)).toInt32
def xs_pop (i : Int32) : Int32 := xs_pop5 (xs_pop4 (xs_pop3 (xs_pop2 (xs_pop1 i)))) &&& (nI 63)
theorem xx_tf {b : Bool} (h1 : b = true) (h2 : b = false) : False := by rw [h1] at h2; exact absurd h2 (by decide)
theorem xcnt_no1 {ew : Nat → Nat} {ex : Nat → Bool} {w i : Nat} (h : ¬ ew i = w) : xcnt (fun j => decide (ew j = w) && !ex j) (i + 1) = xcnt (fun j => decide (ew j = w) && !ex j) i := xcnt_no (by simp [h])
theorem xcnt_no2 {ew : Nat → Nat} {ex : Nat → Bool} {w i : Nat} (h : ex i = true) : xcnt (fun j => decide (ew j = w) && !ex j) (i + 1) = xcnt (fun j => decide (ew j = w) && !ex j) i := xcnt_no (by simp [h])
theorem xcnt_yes2 {ew : Nat → Nat} {ex : Nat → Bool} {w i : Nat} (h1 : ew i = w) (h : ex i = false) : xcnt (fun j => decide (ew j = w) && !ex j) (i + 1) = xcnt (fun j => decide (ew j = w) && !ex j) i + 1 := xcnt_yes (by simp [h, h1])
theorem xs_rank_aa {t b : Int32} (h1 : t = (-1)) (h2 : b = (-1)) : nI 0 = nI (xs_rank t b) := by simp [xs_rank, h1, h2]
theorem xs_rank_an {t b : Int32} (h1 : t = (-1)) (h2 : ¬ b = (-1)) : nI 1 = nI (xs_rank t b) := by simp [xs_rank, h1, h2]
theorem xs_rank_na {t b : Int32} (h1 : ¬ t = (-1)) (h2 : b = (-1)) : nI 2 = nI (xs_rank t b) := by simp [xs_rank, h1, h2]
theorem xs_rank_nn {t b : Int32} (h1 : ¬ t = (-1)) (h2 : ¬ b = (-1)) : nI 3 = nI (xs_rank t b) := by simp [xs_rank, h1, h2]
abbrev bW (k : Nat → ClassId) (ow : Nat → Nat) (wc : Nat) (wl : Nat → Int32) (wb : Nat → Bool) (wk : Nat → Nat) (kk : Nat → Int64) (kf : Nat → Int64) (ku : Nat → Int64) : va_W := [((ow 0), .inr (4, [.ref (ow 1), .ref (ow 2), .ref (ow 3), .ref (ow 4), .ref (ow 5), .ref (ow 6), .int (nI wc)])), ((ow 1), .inl (k 0, 12, .inl wl)), ((ow 2), .inl (k 1, 12, .inl (fun z9 => bI (wb z9)))), ((ow 3), .inl (k 0, 12, .inl (fun z9 => nI (wk z9)))), ((ow 4), .inl (k 2, 48, .inr (.inl kk))), ((ow 5), .inl (k 2, 48, .inr (.inl kf))), ((ow 6), .inl (k 2, 48, .inr (.inl ku)))]
abbrev bE (k : Nat → ClassId) (oe : Nat → Nat) (ec : Nat) (ew : Nat → Nat) (el : Nat → Int32) (ea : Nat → Int64) (ed : Nat → Int64) (et : Nat → Int64) (ex : Nat → Bool) : va_W := [((oe 0), .inr (2, [.ref (oe 1), .ref (oe 2), .ref (oe 3), .ref (oe 4), .ref (oe 5), .ref (oe 6), .int (nI ec)])), ((oe 1), .inl (k 0, 100, .inl (fun z9 => nI (ew z9)))), ((oe 2), .inl (k 0, 100, .inl el)), ((oe 3), .inl (k 2, 100, .inr (.inl ea))), ((oe 4), .inl (k 2, 100, .inr (.inl ed))), ((oe 5), .inl (k 2, 100, .inr (.inl et))), ((oe 6), .inl (k 1, 100, .inl (fun z9 => bI (ex z9))))]
abbrev bC (k : Nat → ClassId) (oc : Nat → Nat) (cc : Nat) (ca : Nat → Int64) (cl : Nat → Int32) (ch : Nat → Int32) : va_W := [((oc 0), .inr (1, [.ref (oc 1), .ref (oc 2), .ref (oc 3), .int (nI cc)])), ((oc 1), .inl (k 2, 50, .inr (.inl ca))), ((oc 2), .inl (k 0, 50, .inl cl)), ((oc 3), .inl (k 0, 50, .inl ch))]
abbrev bU (k : Nat → ClassId) (ou : Nat → Nat) (uc : Nat) (ut : Nat → Int32) (ub : Nat → Int32) (ul : Nat → Int32) (uw : Nat → Int32) : va_W := [((ou 0), .inr (3, [.ref (ou 1), .ref (ou 2), .ref (ou 3), .ref (ou 4), .int (nI uc)])), ((ou 1), .inl (k 0, 20, .inl ut)), ((ou 2), .inl (k 0, 20, .inl ub)), ((ou 3), .inl (k 0, 20, .inl ul)), ((ou 4), .inl (k 0, 20, .inl uw))]
abbrev bA (k : Nat → ClassId) (oa : Nat → Nat) (ac : Nat) (as : Nat → Int32) : va_W := [((oa 0), .inr (0, [.ref (oa 1), .int (nI ac)])), ((oa 1), .inl (k 0, 1000, .inl as))]
abbrev bT (k : Nat → ClassId) (ot : Nat) (tq : Int32) (ow : Nat → Nat) (oe : Nat → Nat) (oc : Nat → Nat) (ou : Nat → Nat) (oa : Nat → Nat) (to : Bool) (tt : Int64) : va_W := [(ot, .inr (5, [.int tq, .ref (ow 0), .ref (oe 0), .ref (oc 0), .ref (ou 0), .ref (oa 0), .int (bI to), .long tt]))]
