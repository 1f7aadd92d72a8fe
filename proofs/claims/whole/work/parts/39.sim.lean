section SIM3
variable {ot : Nat} {om ow oe oc ou oa : Nat → Nat} {mth tq : Int32} {to : Bool} {tt : Int64} {wc : Nat} {wl : Nat → Int32} {wb : Nat → Bool} {wk : Nat → Nat} {kk kf ku : Nat → Int64} {ec : Nat} {ew : Nat → Nat} {el : Nat → Int32} {ea ed et : Nat → Int64} {ex : Nat → Bool} {cc : Nat} {ca : Nat → Int64} {cl ch : Nat → Int32} {uc : Nat} {ut ub ul uw : Nat → Int32} {ac : Nat} {as : Nat → Int32}
/-- what is told in the audit -/
theorem sim_tell {t b q n : Int32} {o : Nat} {ed0 tt0 : Int64} {u2 : Nat × (Nat → Int32)} {u' : Int64 × Nat × (Nat → Int32)} (hac : ac ≤ 200) (hq : p_U_best ou uc ut ub ul uw t b q ()) (hX : p_A_add oa ac as t b q n (nI o) u2) (hM : p_M_tell om mth tq to wc wl wb wk kk kf ku ec ew ea ed et ex cc ca cl ch uc ut ub ul uw tt ac as t b n o u') : u' = (ed o, u2) ∧ u2.1 ≤ 200 := by
  obtain ⟨v1, v2⟩ := u'
  obtain ⟨h1, h2⟩ := hM
  dsimp only at h1 h2
  subst h1
  rcases hX with ⟨g1, rfl⟩ | ⟨g1, rfl⟩ <;> rcases h2 with ⟨g2, rfl⟩ | ⟨g2, q', g3, rfl⟩
  · exact ⟨rfl, hac⟩
  · exact absurd g1 (by omega)
  · exact absurd g2 (by omega)
  · obtain rfl : q = q' := sim_best hq g3
    exact ⟨rfl, Nat.succ_le_of_lt g1⟩
theorem sim_take {a tm : Int64} {t b r r' : Int32} {u u' : Int64 × Nat × (Nat → Int32)} (hI : xI tq wc wl wk ec ew el ea ex cc ca uc uw ac) (hX : p_T_take ot tq ow oe oc ou oa to tt ec ew el ea ed et ex cc ca cl ch uc ut ub ul uw ac as a t b tm r u) (hM : p_M_take om mth tq to wc wl wb wk kk kf ku ec ew ea ed et ex cc ca cl ch uc ut ub ul uw tt ac as a t b tm r' u') : r = r' ∧ u' = u ∧ xI tq wc wl wk ec ew el ea ex cc ca uc uw u.2.1 := by
  obtain ⟨⟨a1, a2, a3, a4, a5, a6, a7⟩, bb, c, d, e, f, g⟩ := id hI
  have done : ∀ v : Int64 × Nat × (Nat → Int32), v.2.1 ≤ 200 → xI tq wc wl wk ec ew el ea ex cc ca uc uw v.2.1 := fun v hv => ⟨⟨a1, a2, a3, a4, a5, a6, hv⟩, bb, c, d, e, f, g⟩
  have hOW : ∀ j, j < ec → ((el j = 0 ∧ (ex j = false ∧ ea j = a ∧ ¬ (el j < nI 0) ∧ ¬ (tm < et j))) ↔ (ex j = false ∧ wl (ew j) = 0 ∧ ea j = a ∧ ¬ (tm < et j))) := by
    intro j hj
    rw [(bb j hj).2]
    constructor
    · rintro ⟨x1, x2, x3, x4, x5⟩; exact ⟨x2, x1, x3, x5⟩
    · rintro ⟨x1, x2, x3, x4⟩; exact ⟨x2, x1, x3, by rw [x2]; decide, x4⟩
  rcases hX with ⟨rfl, h1, rfl⟩ | ⟨h1, q, hq, hX⟩ <;> rcases hM with ⟨rfl, h2, rfl⟩ | ⟨h2, hM⟩
  · exact ⟨rfl, rfl, hI⟩
  · exact absurd h2 h1
  · exact absurd h1 h2
  · rcases hX with ⟨k1, o, k2, rfl, k3, k4⟩ | ⟨k1, hX⟩ <;> rcases hM with ⟨m1, o', m2, rfl, m3⟩ | ⟨m1, hM⟩
    · obtain rfl : o = o' := xo_uniq hOW k2 m2
      obtain ⟨w1, w2⟩ := u
      dsimp only at k3 k4
      subst k3
      obtain ⟨n1, n2⟩ := sim_tell (ed0 := 0) (tt0 := 0) a7 hq k4 m3
      exact ⟨rfl, n1, done _ n2⟩
    · exact absurd ⟨k1, o, k2.1, (hOW o k2.1).mp k2.2.1⟩ m1
    · exact absurd ⟨m1, o', m2.1, (hOW o' m2.1).mpr m2.2.1⟩ k1
    · rcases hX with ⟨p1, rfl, rfl⟩ | ⟨p1, lv, wt, p2, p3, hX⟩ <;> rcases hM with ⟨q1, rfl, rfl⟩ | ⟨q1, q', lv', wt', q2, q3, q4, f', q5, hM⟩
      · exact ⟨rfl, rfl, hI⟩
      · exact absurd p1 q1
      · exact absurd q1 p1
      · obtain rfl : q = q' := sim_best hq q2
        obtain rfl : lv = lv' := sim_level a6 hq p2 q3
        have hwt : wt = wt' := by
          rcases p3 with ⟨j, hj, hq1, rfl⟩ | ⟨hn, rfl⟩ <;> rcases q4 with ⟨hq', rfl⟩ | ⟨j', hj', hq', rfl⟩
          · exact absurd (hq'.symm.trans hq1) (xx_m1 (by omega))
          · rw [(nI_eq (by omega) (by omega)).mp (hq1.symm.trans hq')]
          · rfl
          · exact absurd ⟨j', hj', hq'⟩ hn
        subst hwt
        have hw1 : ¬ wt < nI 1 := by
          rcases q4 with ⟨-, rfl⟩ | ⟨j', hj', -, rfl⟩
          · exact f
          · exact g j' hj'
        have hcnt := xmany_eq (wl := wl) (el := el) (ea := ea) (et := et) (ex := ex) (a := a) (tm := tm) (lv := lv) a1 a4 bb
        have hCN : ∀ j, j < ec → ((ex j = false ∧ ea j = a ∧ ¬ (el j < lv) ∧ ¬ (tm < et j)) ↔ (ex j = false ∧ ea j = a ∧ ¬ (tm < et j) ∧ ¬ (wl (ew j) < lv))) := by
          intro j hj
          rw [(bb j hj).2]
          constructor
          · rintro ⟨x1, x2, x3, x4⟩; exact ⟨x1, x2, x4, x3⟩
          · rintro ⟨x1, x2, x3, x4⟩; exact ⟨x1, x2, x4, x3⟩
        have hONE : (∀ i, i < ec → (ex i = false ∧ ea i = a ∧ ¬ (el i < lv) ∧ ¬ (tm < et i)) → ∀ j, j < ec → (ex j = false ∧ ea j = a ∧ ¬ (el j < lv) ∧ ¬ (tm < et j)) → ed i = ed j) ↔ (∀ i, i < ec → (ex i = false ∧ ea i = a ∧ ¬ (tm < et i) ∧ ¬ (wl (ew i) < lv)) → ∀ j, j < ec → (ex j = false ∧ ea j = a ∧ ¬ (tm < et j) ∧ ¬ (wl (ew j) < lv)) → ed i = ed j) :=
          ⟨fun h i hi x j hj y => h i hi ((hCN i hi).mpr x) j hj ((hCN j hj).mpr y), fun h i hi x j hj y => h i hi ((hCN i hi).mp x) j hj ((hCN j hj).mp y)⟩
        have hnone : (∀ j, j < ec → ¬ (ex j = false ∧ ea j = a ∧ ¬ (tm < et j) ∧ ¬ (wl (ew j) < lv))) → nI (xcnt (fun w => xany (fun z => decide (ew z = w ∧ (ex z = false ∧ ea z = a ∧ ¬ (tm < et z) ∧ ¬ (wl (ew z) < lv)))) ec) wc) < wt := by
          intro h
          have h0 : xcnt (fun w => xany (fun z => decide (ew z = w ∧ (ex z = false ∧ ea z = a ∧ ¬ (tm < et z) ∧ ¬ (wl (ew z) < lv)))) ec) wc = 0 := by
            have := xcnt_cut (P := fun w => xany (fun z => decide (ew z = w ∧ (ex z = false ∧ ea z = a ∧ ¬ (tm < et z) ∧ ¬ (wl (ew z) < lv)))) ec) (Nat.zero_le wc) (fun j _ _ => by
              cases hz : xany (fun z => decide (ew z = j ∧ (ex z = false ∧ ea z = a ∧ ¬ (tm < et z) ∧ ¬ (wl (ew z) < lv)))) ec with
              | false => rfl
              | true =>
                obtain ⟨z, z1, z2⟩ := xany_iff.mp hz
                exact absurd (of_decide_eq_true z2).2 (h z z1))
            exact this
          rw [h0]
          rw [Int32.lt_iff_toInt_lt] at hw1 ⊢
          have e0 : (nI 0).toInt = 0 := by decide
          have e1 : (nI 1).toInt = 1 := by decide
          omega
        rw [hcnt] at hX
        rcases hX with ⟨rfl, x1, rfl⟩ | ⟨rfl, ⟨x1, x2⟩, ff, x3, x4, x5⟩ <;> rcases hM with ⟨rfl, y1, rfl⟩ | ⟨rfl, y1, gg, hgg, rfl, y2⟩
        · exact ⟨rfl, rfl, hI⟩
        · rcases q5 with ⟨z1, -⟩ | ⟨ff, z1, z2, z3⟩
          · exact absurd z1.symm (xx_m1 (by omega))
          · exact absurd ⟨y1, hONE.mpr z3⟩ x1
        · rcases y1 with y1 | rfl
          · exact absurd y1 x1
          · rcases q5 with ⟨-, z2 | z2⟩ | ⟨f0, z1, z2, -⟩
            · exact absurd (hnone z2) x1
            · exact absurd (hONE.mp x2) z2
            · exact absurd z1 (xx_m1 (by omega))
        · obtain ⟨f0, z1, ⟨z2, z3, z4⟩, z5⟩ : ∃ f0, nI gg = nI f0 ∧ (f0 < ec ∧ (ex f0 = false ∧ ea f0 = a ∧ ¬ (tm < et f0) ∧ ¬ (wl (ew f0) < lv)) ∧ (∀ j, j < f0 → ¬ (ex j = false ∧ ea j = a ∧ ¬ (tm < et j) ∧ ¬ (wl (ew j) < lv)))) ∧ (∀ i, i < ec → (ex i = false ∧ ea i = a ∧ ¬ (tm < et i) ∧ ¬ (wl (ew i) < lv)) → ∀ j, j < ec → (ex j = false ∧ ea j = a ∧ ¬ (tm < et j) ∧ ¬ (wl (ew j) < lv)) → ed i = ed j) := by
            rcases q5 with ⟨z1, -⟩ | h
            · exact absurd z1.symm (xx_m1 (by omega))
            · exact h
          obtain rfl : gg = f0 := (nI_eq (by omega) (by omega)).mp z1
          rcases x3 with ⟨-, n0⟩ | ⟨i, i1, rfl, i2, i3⟩
          · exact absurd (hnone (fun j hj h => n0 j hj ((hCN j hj).mpr h))) x1
          · obtain rfl : i = gg := by
              rcases Nat.lt_trichotomy i gg with z | z | z
              · exact absurd ((hCN i i1).mp i2) (z4 i z)
              · exact z
              · exact absurd ((hCN gg hgg).mpr z3) (i3 gg z)
            obtain ⟨w1, w2⟩ := u
            dsimp only at x4 x5
            rcases x4 with ⟨j, j1, j2, rfl⟩ | ⟨j1, -⟩
            · obtain rfl : i = j := (nI_eq (by omega) (by omega)).mp j2
              obtain ⟨n1, n2⟩ := sim_tell (ed0 := 0) (tt0 := 0) a7 hq x5 y2
              exact ⟨rfl, n1, done _ n2⟩
            · exact absurd ⟨i, i1, rfl⟩ j1
end SIM3
