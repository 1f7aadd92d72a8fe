theorem xx_mulc (a b : Nat) : nI a * nI b = nI (b * a) := by rw [pk_mul, Nat.mul_comm]
theorem xu_N_same (f : Nat → Nat) (k v : Nat) : xu_N f k v k = v := by simp [xu_N]
theorem xx_inN {x : Int32} {n : Nat} (hn : n + 1 < 2 ^ 31) : (¬ x < nI 0 ∧ ¬ nI n < x) ↔ ixN (n + 1) x := by
  constructor
  · exact fun h => xx_ile hn h.1 h.2
  · rintro ⟨j, hj, rfl⟩
    exact ⟨nI_pos (by omega), fun h => absurd ((nI_ltI (by omega) (by omega)).mp h) (by omega)⟩
theorem xx_inA {x : Int32} : (¬ x < (-1) ∧ ¬ nI 7 < x) ↔ (x = (-1) ∨ ixN 8 x) := by
  constructor
  · rintro ⟨h1, h2⟩
    by_cases h0 : x < 0
    · left
      apply Int32.toInt_inj.mp
      rw [Int32.lt_iff_toInt_lt] at h0 h1
      have e1 : (-1 : Int32).toInt = -1 := by decide
      have e2 : (0 : Int32).toInt = 0 := by decide
      omega
    · exact Or.inr (xx_ile (by decide) h0 h2)
  · rintro (rfl | ⟨j, hj, rfl⟩)
    · exact ⟨by decide, by decide⟩
    · refine ⟨fun h => ?_, fun h => absurd ((nI_ltI (by omega) (by omega)).mp h) (by omega)⟩
      rw [Int32.lt_iff_toInt_lt, nI_toInt (by omega)] at h
      have e1 : (-1 : Int32).toInt = -1 := by decide
      omega
theorem xx_in01 {y : Int32} : (¬ y < nI 0 ∧ ¬ nI 1 < y) ↔ (y = 0 ∨ y = 1) := by
  rw [xx_inN (n := 1) (by decide)]
  constructor
  · rintro ⟨j, hj, rfl⟩
    rcases (show j = 0 ∨ j = 1 by omega) with rfl | rfl
    · exact Or.inl (by decide)
    · exact Or.inr (by decide)
  · rintro (rfl | rfl)
    · exact ⟨0, by omega, by decide⟩
    · exact ⟨1, by omega, by decide⟩
theorem xb_pos {r : Int32} {P : Prop} (h : xb r P) (c : ¬ r = 0) : P := by
  rcases h with ⟨_, h⟩ | ⟨h, _⟩
  · exact h
  · exact absurd h c
theorem xb_neg {r : Int32} {P : Prop} (h : xb r P) (c : r = 0) : ¬ P := by
  rcases h with ⟨h, _⟩ | ⟨_, h⟩
  · rw [c] at h; exact absurd h (by decide)
  · exact h
theorem xb_nar {r : Int32} {P : Prop} (h : xb r P) : narrow .boolean (.int r) = .int r := by
  rcases h with ⟨rfl, _⟩ | ⟨rfl, _⟩ <;> rfl
theorem xa_old {lo i : Nat} {C : Nat → Prop} (h : ∃ z, lo ≤ z ∧ z < i ∧ C z) : ∃ z, lo ≤ z ∧ z < i + 1 ∧ C z := by
  obtain ⟨z, a, b, c⟩ := h; exact ⟨z, a, by omega, c⟩
theorem xa_new {lo i : Nat} {C : Nat → Prop} (h : lo ≤ i) (c : C i) : ∃ z, lo ≤ z ∧ z < i + 1 ∧ C z := ⟨i, h, by omega, c⟩
theorem xa_not {lo i : Nat} {C : Nat → Prop} (h : ¬ ∃ z, lo ≤ z ∧ z < i ∧ C z) (c : ¬ C i) : ¬ ∃ z, lo ≤ z ∧ z < i + 1 ∧ C z := by
  rintro ⟨z, a, b, d⟩
  rcases Nat.lt_or_ge z i with q | q
  · exact h ⟨z, a, q, d⟩
  · obtain rfl : z = i := by omega
    exact c d
theorem xa0_old {i : Nat} {C : Nat → Prop} (h : ∃ z, z < i ∧ C z) : ∃ z, z < i + 1 ∧ C z := by
  obtain ⟨z, b, c⟩ := h; exact ⟨z, by omega, c⟩
theorem xa0_new {i : Nat} {C : Nat → Prop} (c : C i) : ∃ z, z < i + 1 ∧ C z := ⟨i, by omega, c⟩
theorem xa0_not {i : Nat} {C : Nat → Prop} (h : ¬ ∃ z, z < i ∧ C z) (c : ¬ C i) : ¬ ∃ z, z < i + 1 ∧ C z := by
  rintro ⟨z, b, d⟩
  rcases Nat.lt_or_ge z i with q | q
  · exact h ⟨z, q, d⟩
  · obtain rfl : z = i := by omega
    exact c d
/-- the reference's step of the sum -/
def xs_turn (x : Int64) (b : Int32) : Int64 := (((x ^^^ b.toInt64) <<< ((nI 11).toInt64 &&& 63)) ||| ((x ^^^ b.toInt64).toUInt64 >>> ((nI 53).toInt64.toUInt64 &&& Int64.toUInt64 63)).toInt64) * (-7046029254386353131)
theorem xs_b255 (v : Int64) : (v &&& 255).toInt32.toInt64 = v &&& 255 := by
  have h1 : ∃ m : Nat, m < 256 ∧ v &&& 255 = lN m := by
    refine ⟨v.toBitVec.toNat % 2 ^ 8, Nat.mod_lt _ (by decide), ?_⟩
    apply Int64.toBitVec_inj.mp
    apply BitVec.eq_of_toNat_eq
    rw [Int64.toBitVec_and, BitVec.toNat_and]
    have e1 : (255 : Int64).toBitVec.toNat = 2 ^ 8 - 1 := by decide
    rw [e1, Nat.and_two_pow_sub_one_eq_mod]
    show _ = (Int64.ofNat _).toBitVec.toNat
    have h2 : v.toBitVec.toNat % 2 ^ 8 < 256 := Nat.mod_lt _ (by decide)
    simp [Int64.toBitVec_ofNat']
    omega
  obtain ⟨m, hm, e⟩ := h1
  rw [e, lN_i, nI_l (by omega)]
theorem xs_turn_mix (x w : Int64) (sh : Nat) : xs_turn x ((w.toUInt64 >>> ((nI sh).toInt64.toUInt64 &&& Int64.toUInt64 63)).toInt64 &&& 255).toInt32 = xs_mix x w sh := by
  unfold xs_turn xs_mix
  rw [xs_b255]
/-- the rule that goes ahead, without its rank -/
def xp_I (O : Nat → Prop) (R : Nat → Nat) (i : Nat) (b3 : Int32) : Prop := (b3 = (-1) ∧ ∀ j, j < i → ¬ O j) ∨ (∃ q, b3 = nI q ∧ q < i ∧ O q ∧ ∀ j, j < i → O j → R j ≤ R q ∧ (q < j → R j < R q))
theorem xp_skip {O : Nat → Prop} {R : Nat → Nat} {i : Nat} {b3 : Int32} (h : xp_I O R i b3) (hn : ¬ O i) : xp_I O R (i + 1) b3 := by
  rcases h with ⟨h1, h2⟩ | ⟨b, h1, h3, h4, h5⟩
  · exact Or.inl ⟨h1, fun j hj hO => by
      rcases Nat.lt_or_ge j i with z | z
      · exact h2 j z hO
      · obtain rfl : j = i := by omega
        exact hn hO⟩
  · exact Or.inr ⟨b, h1, by omega, h4, fun j hj hO => by
      rcases Nat.lt_or_ge j i with z | z
      · exact h5 j z hO
      · obtain rfl : j = i := by omega
        exact absurd hO hn⟩
theorem xp_new1 {O : Nat → Prop} {R : Nat → Nat} {i : Nat} {b3 : Int32} (hi : i < 2 ^ 31) (h : xp_I O R i b3) (hO : O i) (hc : b3 = (-1)) : xp_I O R (i + 1) (nI i) := by
  refine Or.inr ⟨i, rfl, by omega, hO, fun j hj hOj => ?_⟩
  rcases Nat.lt_or_ge j i with z | z
  · rcases h with ⟨h1, h2⟩ | ⟨b, h1, h3, h4, h5⟩
    · exact absurd hOj (h2 j z)
    · exact absurd (hc.symm.trans h1) (xx_m1 (by omega))
  · obtain rfl : j = i := by omega
    exact ⟨Nat.le_refl _, fun q => absurd q (by omega)⟩
theorem xp_new2 {O : Nat → Prop} {R : Nat → Nat} {i q : Nat} (h : ∀ j, j < i → O j → R j ≤ R q ∧ (q < j → R j < R q)) (hO : O i) (hc : R q ≤ R i) : xp_I O R (i + 1) (nI i) := by
  refine Or.inr ⟨i, rfl, by omega, hO, fun j hj hOj => ?_⟩
  rcases Nat.lt_or_ge j i with z | z
  · have := (h j z hOj).1
    exact ⟨by omega, fun q => absurd q (by omega)⟩
  · obtain rfl : j = i := by omega
    exact ⟨Nat.le_refl _, fun q => absurd q (by omega)⟩
theorem xp_old2 {O : Nat → Prop} {R : Nat → Nat} {i q : Nat} (h1 : q < i) (h2 : O q) (h : ∀ j, j < i → O j → R j ≤ R q ∧ (q < j → R j < R q)) (hc : R i < R q) : xp_I O R (i + 1) (nI q) := by
  refine Or.inr ⟨q, rfl, by omega, h2, fun j hj hOj => ?_⟩
  rcases Nat.lt_or_ge j i with z | z
  · exact h j z hOj
  · obtain rfl : j = i := by omega
    exact ⟨by omega, fun _ => hc⟩
/-- the latest own one, without its time -/
def xo_I (O : Nat → Prop) (et : Nat → Int64) (i : Nat) (b5 : Int32) : Prop := (b5 = (-1) ∧ ∀ j, j < i → ¬ O j) ∨ (∃ b, b5 = nI b ∧ b < i ∧ O b ∧ ∀ j, j < i → O j → ¬ (et b < et j) ∧ (b < j → et j < et b))
theorem xo_skip {O : Nat → Prop} {et : Nat → Int64} {i : Nat} {b5 : Int32} (h : xo_I O et i b5) (hn : ¬ O i) : xo_I O et (i + 1) b5 := by
  rcases h with ⟨h1, h2⟩ | ⟨b, h1, h3, h4, h5⟩
  · exact Or.inl ⟨h1, fun j hj hO => by
      rcases Nat.lt_or_ge j i with z | z
      · exact h2 j z hO
      · obtain rfl : j = i := by omega
        exact hn hO⟩
  · exact Or.inr ⟨b, h1, by omega, h4, fun j hj hO => by
      rcases Nat.lt_or_ge j i with z | z
      · exact h5 j z hO
      · obtain rfl : j = i := by omega
        exact absurd hO hn⟩
theorem xo_new1 {O : Nat → Prop} {et : Nat → Int64} {i : Nat} {b5 : Int32} (hi : i < 2 ^ 31) (h : xo_I O et i b5) (hO : O i) (hc : b5 = (-1)) : xo_I O et (i + 1) (nI i) := by
  refine Or.inr ⟨i, rfl, by omega, hO, fun j hj hOj => ?_⟩
  rcases Nat.lt_or_ge j i with z | z
  · rcases h with ⟨h1, h2⟩ | ⟨b, h1, h3, h4, h5⟩
    · exact absurd hOj (h2 j z)
    · exact absurd (hc.symm.trans h1) (xx_m1 (by omega))
  · obtain rfl : j = i := by omega
    exact ⟨by rw [Int64.lt_iff_toInt_lt]; omega, fun q => absurd q (by omega)⟩
theorem xo_new2 {O : Nat → Prop} {et : Nat → Int64} {i b : Nat} (h : ∀ j, j < i → O j → ¬ (et b < et j) ∧ (b < j → et j < et b)) (hO : O i) (hc : ¬ et i < et b) : xo_I O et (i + 1) (nI i) := by
  refine Or.inr ⟨i, rfl, by omega, hO, fun j hj hOj => ?_⟩
  rcases Nat.lt_or_ge j i with z | z
  · have := (h j z hOj).1
    refine ⟨?_, fun q => absurd q (by omega)⟩
    rw [Int64.lt_iff_toInt_lt] at *
    omega
  · obtain rfl : j = i := by omega
    exact ⟨by rw [Int64.lt_iff_toInt_lt]; omega, fun q => absurd q (by omega)⟩
theorem xo_old2 {O : Nat → Prop} {et : Nat → Int64} {i b : Nat} (h1 : b < i) (h2 : O b) (h : ∀ j, j < i → O j → ¬ (et b < et j) ∧ (b < j → et j < et b)) (hc : et i < et b) : xo_I O et (i + 1) (nI b) := by
  refine Or.inr ⟨b, rfl, by omega, h2, fun j hj hOj => ?_⟩
  rcases Nat.lt_or_ge j i with z | z
  · exact h j z hOj
  · obtain rfl : j = i := by omega
    exact ⟨by rw [Int64.lt_iff_toInt_lt] at *; omega, fun _ => hc⟩
/-- whether any below n -/
def xany (P : Nat → Bool) : Nat → Bool
  | 0 => false
  | n + 1 => xany P n || P n
theorem xany_iff {P : Nat → Bool} {n : Nat} : xany P n = true ↔ ∃ z, z < n ∧ P z = true := by
  induction n with
  | zero => exact ⟨fun h => by simp [xany] at h, fun ⟨z, h, _⟩ => absurd h (by omega)⟩
  | succ n ih =>
    simp only [xany, Bool.or_eq_true]
    constructor
    · rintro (h | h)
      · obtain ⟨z, a, b⟩ := ih.mp h
        exact ⟨z, by omega, b⟩
      · exact ⟨n, by omega, h⟩
    · rintro ⟨z, a, b⟩
      rcases Nat.lt_or_ge z n with q | q
      · exact Or.inl (ih.mpr ⟨z, q, b⟩)
      · obtain rfl : z = n := by omega
        exact Or.inr b
theorem xmany_yes {F : Nat → Nat → Prop} {d : ∀ w z, Decidable (F w z)} {ec w : Nat} {v : Int32} (h : xb v (∃ z, z < ec ∧ F w z)) (c : ¬ v = 0) : xcnt (fun w => xany (fun z => @decide (F w z) (d w z)) ec) (w + 1) = xcnt (fun w => xany (fun z => @decide (F w z) (d w z)) ec) w + 1 := by
  apply xcnt_yes
  obtain ⟨z, a, b⟩ := xb_pos h c
  exact xany_iff.mpr ⟨z, a, by simp [b]⟩
theorem xmany_no {F : Nat → Nat → Prop} {d : ∀ w z, Decidable (F w z)} {ec w : Nat} {v : Int32} (h : xb v (∃ z, z < ec ∧ F w z)) (c : v = 0) : xcnt (fun w => xany (fun z => @decide (F w z) (d w z)) ec) (w + 1) = xcnt (fun w => xany (fun z => @decide (F w z) (d w z)) ec) w := by
  apply xcnt_no
  cases hq : xany (fun z => @decide (F w z) (d w z)) ec with
  | false => rfl
  | true =>
    obtain ⟨z, a, b⟩ := xany_iff.mp hq
    exact absurd ⟨z, a, by simpa using b⟩ (xb_neg h c)
theorem xs_clamp_lo {x : Int32} (h : ¬ nI 1 ≤ x) : nI 1 = xs_clamp x := by
  unfold xs_clamp
  rw [Int32.le_iff_toInt_le] at h
  have e1 : (nI 1).toInt = 1 := by decide
  have e5 : (nI 5).toInt = 5 := by decide
  have h2 : x < nI 5 := by rw [Int32.lt_iff_toInt_lt]; omega
  rw [if_pos h2, if_neg (by rw [Int32.lt_iff_toInt_lt]; omega)]
theorem xs_clamp_hi {x : Int32} (h : ¬ x ≤ nI 5) : nI 5 = xs_clamp x := by
  unfold xs_clamp
  rw [Int32.le_iff_toInt_le] at h
  have h2 : ¬ x < nI 5 := by rw [Int32.lt_iff_toInt_lt]; omega
  rw [if_neg h2, if_pos (by decide)]
theorem xs_clamp_mid {x : Int32} (h1 : nI 1 ≤ x) (h : x ≤ nI 5) : x = xs_clamp x := by
  unfold xs_clamp
  rw [Int32.le_iff_toInt_le] at h h1
  have e1 : (nI 1).toInt = 1 := by decide
  have e5 : (nI 5).toInt = 5 := by decide
  by_cases h5 : x < nI 5
  · rw [if_pos h5]
    by_cases h6 : nI 1 < x
    · rw [if_pos h6]
    · rw [if_neg h6]
      apply Int32.toInt_inj.mp
      rw [Int32.lt_iff_toInt_lt] at h6
      omega
  · rw [if_neg h5, if_pos (by decide)]
    apply Int32.toInt_inj.mp
    rw [Int32.lt_iff_toInt_lt] at h5
    omega
/-- one digest among those that count: the loop's steps -/
def xg_I (O : Nat → Prop) (ed : Nat → Int64) (i : Nat) (b : Int32) : Prop := (b = (-1) ∧ ∀ j, j < i → ¬ O j) ∨ (∃ f, b = nI f ∧ f < i ∧ O f ∧ (∀ j, j < f → ¬ O j) ∧ ∀ j, j < i → O j → ed j = ed f)
theorem xg_skip {O : Nat → Prop} {ed : Nat → Int64} {i : Nat} {b : Int32} (h : xg_I O ed i b) (hn : ¬ O i) : xg_I O ed (i + 1) b := by
  rcases h with ⟨h1, h2⟩ | ⟨f, h1, h3, h4, h5, h6⟩
  · exact Or.inl ⟨h1, fun j hj hO => by
      rcases Nat.lt_or_ge j i with z | z
      · exact h2 j z hO
      · obtain rfl : j = i := by omega
        exact hn hO⟩
  · exact Or.inr ⟨f, h1, by omega, h4, h5, fun j hj hO => by
      rcases Nat.lt_or_ge j i with z | z
      · exact h6 j z hO
      · obtain rfl : j = i := by omega
        exact absurd hO hn⟩
theorem xg_new {O : Nat → Prop} {ed : Nat → Int64} {i : Nat} {b : Int32} (hi : i < 2 ^ 31) (h : xg_I O ed i b) (hO : O i) (hb : b = (-1)) : xg_I O ed (i + 1) (nI i) := by
  rcases h with ⟨h1, h2⟩ | ⟨f, h1, h3, h4, h5, h6⟩
  · exact Or.inr ⟨i, rfl, by omega, hO, h2, fun j hj hOj => by
      rcases Nat.lt_or_ge j i with z | z
      · exact absurd hOj (h2 j z)
      · obtain rfl : j = i := by omega
        rfl⟩
  · exact absurd (hb.symm.trans h1) (xx_m1 (by omega))
theorem xg_same {O : Nat → Prop} {ed : Nat → Int64} {i f : Nat} (h3 : f < i) (h4 : O f) (h5 : ∀ j, j < f → ¬ O j) (h6 : ∀ j, j < i → O j → ed j = ed f) (hc : ed i = ed f) : xg_I O ed (i + 1) (nI f) := by
  refine Or.inr ⟨f, rfl, by omega, h4, h5, fun j hj hO => ?_⟩
  rcases Nat.lt_or_ge j i with z | z
  · exact h6 j z hO
  · obtain rfl : j = i := by omega
    exact hc
theorem xg_end {O : Nat → Prop} {ed : Nat → Int64} {n : Nat} {b : Int32} (h : xg_I O ed n b) : (b = (-1) ∧ ((∀ j, j < n → ¬ O j) ∨ ¬ (∀ i, i < n → O i → ∀ j, j < n → O j → ed i = ed j))) ∨ (∃ f, b = nI f ∧ (f < n ∧ O f ∧ (∀ j, j < f → ¬ O j)) ∧ (∀ i, i < n → O i → ∀ j, j < n → O j → ed i = ed j)) := by
  rcases h with ⟨h1, h2⟩ | ⟨f, h1, h3, h4, h5, h6⟩
  · exact Or.inl ⟨h1, Or.inl h2⟩
  · exact Or.inr ⟨f, h1, ⟨h3, h4, h5⟩, fun i hi hO j hj hOj => (h6 i hi hO).trans (h6 j hj hOj).symm⟩
theorem xx_upd12 {ew : Nat → Nat} (h : ∀ i, ew i < 12) {k w : Nat} (hw : w < 12) : ∀ i, xu_N ew k w i < 12 := by
  intro i
  unfold xu_N
  split
  · exact hw
  · exact h i
abbrev bM (k : Nat → ClassId) (om : Nat → Nat) (mth : Int32) (tq : Int32) (to : Bool) (wc : Nat) (wl : Nat → Int32) (wb : Nat → Bool) (wk : Nat → Nat) (kk : Nat → Int64) (kf : Nat → Int64) (ku : Nat → Int64) (ec : Nat) (ew : Nat → Nat) (ea : Nat → Int64) (ed : Nat → Int64) (et : Nat → Int64) (ex : Nat → Bool) (cc : Nat) (ca : Nat → Int64) (cl : Nat → Int32) (ch : Nat → Int32) (uc : Nat) (ut : Nat → Int32) (ub : Nat → Int32) (ul : Nat → Int32) (uw : Nat → Int32) (tt : Int64) (ac : Nat) (as : Nat → Int32) : va_W := [((om 0), .inr (6, [.int mth, .int tq, .int (bI to), .int (nI wc), .ref (om 1), .ref (om 2), .ref (om 3), .ref (om 4), .ref (om 5), .ref (om 6), .int (nI ec), .ref (om 7), .ref (om 8), .ref (om 9), .ref (om 10), .ref (om 11), .int (nI cc), .ref (om 12), .ref (om 13), .ref (om 14), .int (nI uc), .ref (om 15), .ref (om 16), .ref (om 17), .ref (om 18), .long tt, .int (nI ac), .ref (om 19)])), ((om 1), .inl (k 0, 12, .inl wl)), ((om 2), .inl (k 1, 12, .inl (fun z9 => bI (wb z9)))), ((om 3), .inl (k 0, 12, .inl (fun z9 => nI (wk z9)))), ((om 4), .inl (k 2, 48, .inr (.inl kk))), ((om 5), .inl (k 2, 48, .inr (.inl kf))), ((om 6), .inl (k 2, 48, .inr (.inl ku))), ((om 7), .inl (k 0, 100, .inl (fun z9 => nI (ew z9)))), ((om 8), .inl (k 2, 100, .inr (.inl ea))), ((om 9), .inl (k 2, 100, .inr (.inl ed))), ((om 10), .inl (k 2, 100, .inr (.inl et))), ((om 11), .inl (k 1, 100, .inl (fun z9 => bI (ex z9)))), ((om 12), .inl (k 2, 100, .inr (.inl ca))), ((om 13), .inl (k 0, 100, .inl cl)), ((om 14), .inl (k 0, 100, .inl ch)), ((om 15), .inl (k 0, 20, .inl ut)), ((om 16), .inl (k 0, 20, .inl ub)), ((om 17), .inl (k 0, 20, .inl ul)), ((om 18), .inl (k 0, 20, .inl uw)), ((om 19), .inl (k 0, 1000, .inl as))]
