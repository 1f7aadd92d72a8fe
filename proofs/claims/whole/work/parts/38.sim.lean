/-! result and take -/
section SIM2
variable {ot : Nat} {om ow oe oc ou oa : Nat → Nat} {mth tq : Int32} {to : Bool} {tt : Int64} {wc : Nat} {wl : Nat → Int32} {wb : Nat → Bool} {wk : Nat → Nat} {kk kf ku : Nat → Int64} {ec : Nat} {ew : Nat → Nat} {el : Nat → Int32} {ea ed et : Nat → Int64} {ex : Nat → Bool} {cc : Nat} {ca : Nat → Int64} {cl ch : Nat → Int32} {uc : Nat} {ut ub ul uw : Nat → Int32} {ac : Nat} {as : Nat → Int32}
theorem xlev {x : Int32} (h : ixN 3 x) : ¬ x = 0 ↔ ¬ x ≤ 0 := by
  obtain ⟨j, hj, rfl⟩ := h
  rcases (show j = 0 ∨ j = 1 ∨ j = 2 by omega) with rfl | rfl | rfl <;> decide
/-- the invariant, once a result has come that clashes with none anew -/
theorem xI_add {w : Nat} {a : Int64} (hI : xI tq wc wl wk ec ew el ea ex cc ca uc uw ac) (hw : w < wc) (hec : ec < 100) : xI tq wc wl wk (ec + 1) (xu_N ew ec w) (upd el ec (wl w)) (vp_updL ea ec a) ex cc ca uc uw ac := by
  obtain ⟨⟨a1, a2, a3, a4, a5⟩, b, c, d, e, f⟩ := hI
  refine ⟨⟨a1, a2, hec, xx_upd12 a4 (by omega), a5⟩, fun i hi => ?_, c, fun i hi => d i (by omega), ?_, f⟩
  · rcases Nat.lt_or_ge i ec with z | z
    · obtain ⟨p, q⟩ := b i z
      have e1 : xu_N ew ec w i = ew i := by simp [xu_N]; omega
      rw [e1, pk_un (Nat.ne_of_lt z)]
      exact ⟨p, q⟩
    · obtain rfl : i = ec := by omega
      rw [xu_N_same, pk_us]
      exact ⟨hw, rfl⟩
  · have h1 : xcnt (fun j => xany (fun i => decide (ca i = vp_updL ea ec a j)) cc) ec = xcnt (fun j => xany (fun i => decide (ca i = ea j)) cc) ec := by
      apply xcnt_congr
      intro j hj
      rw [pk_uLn (Nat.ne_of_lt hj)]
    have h2 : xcnt (fun j => xany (fun i => decide (ca i = vp_updL ea ec a j)) cc) (ec + 1) ≥ xcnt (fun j => xany (fun i => decide (ca i = vp_updL ea ec a j)) cc) ec := by
      simp only [xcnt]; omega
    omega
/-- a clash that is told anew finds room, and the count of clashing results grows by two -/
theorem xI_clash {w o : Nat} {a : Int64} (hI : xI tq wc wl wk ec ew el ea ex cc ca uc uw ac) (hec : ec < 100) (hno : ¬ ∃ i, i < cc ∧ ca i = a) (ho : o < ec) (hoa : ea o = a) :
    cc < 50 ∧ 2 * (cc + 1) ≤ xcnt (fun j => xany (fun i => decide (vp_updL ca cc a i = vp_updL ea ec a j)) (cc + 1)) (ec + 1) := by
  obtain ⟨-, -, -, -, e, -⟩ := hI
  have h1 : xcnt (fun j => xany (fun i => decide (ca i = vp_updL ea ec a j)) cc) ec = xcnt (fun j => xany (fun i => decide (ca i = ea j)) cc) ec := by
    apply xcnt_congr
    intro j hj
    rw [pk_uLn (Nat.ne_of_lt hj)]
  have h3 : ∀ j, vp_updL ea ec a j = a → xany (fun i => decide (ca i = vp_updL ea ec a j)) cc = false := by
    intro j hj
    cases hq : xany (fun i => decide (ca i = vp_updL ea ec a j)) cc with
    | false => rfl
    | true =>
      obtain ⟨z, hz, hz2⟩ := xany_iff.mp hq
      exact absurd ⟨z, hz, (of_decide_eq_true hz2).trans hj⟩ hno
  have h4 : ∀ j, vp_updL ea ec a j = a → xany (fun i => decide (vp_updL ca cc a i = vp_updL ea ec a j)) (cc + 1) = true := fun j hj => xany_iff.mpr ⟨cc, by omega, decide_eq_true (by rw [pk_uLs, hj])⟩
  have eo : vp_updL ea ec a o = a := by rw [pk_uLn (Nat.ne_of_lt ho)]; exact hoa
  have ee : vp_updL ea ec a ec = a := pk_uLs
  have h2 := xcnt_two (P := fun j => xany (fun i => decide (ca i = vp_updL ea ec a j)) cc) (Q := fun j => xany (fun i => decide (vp_updL ca cc a i = vp_updL ea ec a j)) (cc + 1)) (n := ec + 1) (o := o) (m := ec) (fun j _ hj => by
    obtain ⟨z, hz, hz2⟩ := xany_iff.mp hj
    exact xany_iff.mpr ⟨z, by omega, decide_eq_true (by rw [pk_uLn (Nat.ne_of_lt hz)]; exact of_decide_eq_true hz2)⟩) (by omega) (by omega) (Nat.ne_of_lt ho) (h3 o eo) (h4 o eo) (h3 ec ee) (h4 ec ee)
  have h5 : xcnt (fun j => xany (fun i => decide (ca i = vp_updL ea ec a j)) cc) (ec + 1) ≥ xcnt (fun j => xany (fun i => decide (ca i = vp_updL ea ec a j)) cc) ec := by
    simp only [xcnt]; omega
  have h6 := xcnt_le (fun j => xany (fun i => decide (vp_updL ca cc a i = vp_updL ea ec a j)) (cc + 1)) (ec + 1)
  constructor <;> omega
theorem sim_against {w : Nat} {a d t : Int64} {q q' : Int32} (hI : xI tq wc wl wk ec ew el ea ex cc ca uc uw ac) (hw : w < wc) (hX : p_E_against oe (ec + 1) (xu_N ew ec w) (upd el ec (wl w)) (vp_updL ea ec a) (vp_updL ed ec d) (vp_updL et ec t) ex ec q ()) (hM : p_M_against om mth tq to wc wl wb wk kk kf ku (ec + 1) (xu_N ew ec w) (vp_updL ea ec a) (vp_updL ed ec d) (vp_updL et ec t) ex cc ca cl ch uc ut ub ul uw tt ac as ec q' ()) : q = q' := by
  obtain ⟨-, b, c, dd, -⟩ := hI
  refine xf_uniq (n := ec) (C := ex ec = false ∧ ¬ upd el ec (wl w) ec = 0) (C' := ¬ wl (xu_N ew ec w ec) = 0) (P := fun i => vp_updL ea ec a i = vp_updL ea ec a ec ∧ ¬ vp_updL ed ec d i = vp_updL ed ec d ec ∧ ex i = false ∧ ¬ upd el ec (wl w) i = 0) (P' := fun i => ex i = false ∧ ¬ (wl (xu_N ew ec w i) ≤ 0) ∧ vp_updL ea ec a i = vp_updL ea ec a ec ∧ ¬ vp_updL ed ec d i = vp_updL ed ec d ec) ?_ ?_ hX hM
  · rw [pk_us, xu_N_same]
    exact ⟨fun h => h.2, fun h => ⟨dd ec (Nat.le_refl _), h⟩⟩
  · intro j hj
    obtain ⟨p, q⟩ := b j hj
    have e1 : xu_N ew ec w j = ew j := by simp [xu_N]; omega
    rw [pk_un (Nat.ne_of_lt hj), e1, q]
    have e2 := xlev (c _ p)
    constructor
    · rintro ⟨x1, x2, x3, x4⟩; exact ⟨x3, e2.mp x4, x1, x2⟩
    · rintro ⟨x1, x2, x3, x4⟩; exact ⟨x3, x4, x1, e2.mpr x2⟩
theorem sim_result {x r r' : Int32} {a d un xr t : Int64} {u : (Nat × (Nat → Nat) × (Nat → Int32) × (Nat → Int64) × (Nat → Int64) × (Nat → Int64)) × (Nat × (Nat → Int64) × (Nat → Int32) × (Nat → Int32))} {u' : (Nat × (Nat → Nat) × (Nat → Int64) × (Nat → Int64) × (Nat → Int64)) × (Nat × (Nat → Int64) × (Nat → Int32) × (Nat → Int32))}
    (hI : xI tq wc wl wk ec ew el ea ex cc ca uc uw ac) (hX : p_T_result ot tq ow oe oc ou oa to tt wc wl wb wk kk kf ku ec ew el ea ed et ex cc ca cl ch x a d un xr t r u) (hM : p_M_result om mth tq to wc wl wb wk kk kf ku ec ew ea ed et ex cc ca cl ch uc ut ub ul uw tt ac as x a d un xr t r' u') :
    r = r' ∧ u' = ((u.1.1, u.1.2.1, u.1.2.2.2.1, u.1.2.2.2.2.1, u.1.2.2.2.2.2), u.2) ∧ xI tq wc wl wk u.1.1 u.1.2.1 u.1.2.2.1 u.1.2.2.2.1 ex u.2.1 u.2.2.1 uc uw ac := by
  have hwc : wc ≤ 12 := hI.1.1
  rcases hX with ⟨rfl, h1, rfl⟩ | ⟨w, ⟨v1, v2, v3, v4⟩, hX⟩ <;> rcases hM with ⟨rfl, h2, rfl⟩ | ⟨w', ⟨v1', v2', v3', v4'⟩, hM⟩
  · exact ⟨rfl, rfl, hI⟩
  · exact (h1.elim (fun h => h ⟨w', v1', v2', v3'⟩) v4').elim
  · exact (h2.elim (fun h => h ⟨w, v1, v2, v3⟩) v4).elim
  · obtain rfl : w = w' := (nI_eq (by omega) (by omega)).mp (v2.symm.trans v2')
    rcases hX with ⟨rfl, f1, rfl⟩ | ⟨rfl, f1, l1, rfl⟩ | ⟨rfl, f1, l1, c1, rfl⟩ | ⟨rfl, f1, l1, c1, e1, n1⟩ <;> rcases hM with ⟨rfl, f2, rfl⟩ | ⟨rfl, f2, l2, rfl⟩ | ⟨rfl, f2, l2, c2, rfl⟩ | ⟨rfl, f2, l2, c2, e2, q', n2, n3⟩
    · exact ⟨rfl, rfl, hI⟩
    · exact absurd f2 f1
    · exact absurd f2 f1
    · exact absurd f2 f1
    · exact absurd f1 f2
    · exact ⟨rfl, rfl, hI⟩
    · exact absurd l1 l2
    · exact absurd l1 l2
    · exact absurd f1 f2
    · exact absurd l2 l1
    · exact ⟨rfl, rfl, hI⟩
    · exact absurd c1 (by omega)
    · exact absurd f1 f2
    · exact absurd l2 l1
    · exact absurd c2 (by omega)
    · obtain ⟨uE, uC⟩ := u
      obtain ⟨uE', uC'⟩ := u'
      dsimp only at e1 e2 n1 n3
      subst e1
      subst e2
      refine ⟨rfl, ?_⟩
      rcases n1 with ⟨k1, rfl⟩ | ⟨k1, q, k2, k3⟩
      · rcases n3 with ⟨g1, rfl⟩ | ⟨g1, rfl⟩
        · exact absurd k1 g1.2
        · exact ⟨rfl, xI_add hI v1 c1⟩
      · obtain rfl : q = q' := sim_against hI v1 k2 n2
        rcases k3 with ⟨rfl, rfl⟩ | ⟨k3, k4⟩
        · rcases n3 with ⟨g1, rfl⟩ | ⟨g1, rfl⟩
          · exact absurd rfl g1.1
          · exact ⟨rfl, xI_add hI v1 c1⟩
        · rcases n3 with ⟨g1, rfl⟩ | ⟨g1, rfl⟩
          · rcases k2 with ⟨z1, -⟩ | ⟨o, z1, rfl, z2, z3, -⟩
            · exact absurd z1 k3
            · have z4 : ea o = a := by
                have := z3.1
                rw [pk_uLn (Nat.ne_of_lt z1), pk_uLs] at this
                exact this
              obtain ⟨m1, m2⟩ := xI_clash (w := w) hI c1 k1 z1 z4
              rcases k4 with ⟨k5, -⟩ | ⟨k5, rfl⟩
              · exact absurd k5 (by omega)
              · refine ⟨rfl, ?_⟩
                obtain ⟨⟨a1, a2, a3, a4, a5, a6⟩, b, c, d, e, f⟩ := xI_add (a := a) hI v1 c1
                exact ⟨⟨a1, a2, a3, a4, Nat.succ_le_of_lt m1, a6⟩, b, c, d, m2, f⟩
          · exact absurd ⟨k3, k1⟩ g1
end SIM2
