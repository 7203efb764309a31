set_option maxHeartbeats 4000000 in
theorem te280_X0_isEvenEnough_s (fu : Nat) (hfu : 1000000000000 ≤ fu) (κ : Nat) (hκ : κ < 14) (U : Nat) (c248_groups : Int32) (c248_pots : Int32) (c248_teams : Int32) (c248_bars : Int32) (c261_many : Int32) (a263 : Nat → Int32) (c267_total : Int32) (a268 : Nat → Int32) (a269 : Nat → Int32) (n269 : Nat) (a271 : Nat → Int32) (v1 : Int32) (v2 : Int32) (v3 : Int32) (c305_fresh : Int32) (a306 : Nat → Int32) (n306 : Nat) (p0 : c248_groups.toInt ≤ 4) (p1 : 2 ≤ c248_groups.toInt) (p2 : c248_pots.toInt ≤ 4) (p3 : 0 ≤ c248_pots.toInt) (p4 : c248_teams.toInt ≤ 12) (p5 : 0 ≤ c248_teams.toInt) (p6 : c248_bars.toInt ≤ 10) (p7 : 0 ≤ c248_bars.toInt) (p8 : c261_many.toInt ≤ 24) (p9 : 0 ≤ c261_many.toInt) (p10 : c267_total.toInt ≤ 13824) (p11 : 1 ≤ c267_total.toInt) (p12 : ((n269 : Nat) : Int) ≤ 13824) (p13 : 1 ≤ ((n269 : Nat) : Int)) (p14 : c305_fresh.toInt ≤ 1) (p15 : 0 ≤ c305_fresh.toInt) (p16 : ((n306 : Nat) : Int) ≤ 8064) (p17 : 144 ≤ ((n306 : Nat) : Int)) (p18 : c267_total.toInt ≤ ((n269 : Nat) : Int)) (p19 : (-1) ≤ v1.toInt) (p20 : v1.toInt + 1 ≤ c248_bars.toInt) (p21 : (-1) ≤ v2.toInt) (p22 : v2.toInt + 1 ≤ c248_bars.toInt) (hr_a263 : dz_rq a263 (dz_kr κ) (dz_kg κ) 0 (((dz_kg κ : Nat) : Int) - 1)) (hr_a268 : dz_pt a268 (dz_kS κ)) (hr_a269 : dz_rg a269 n269 0 1023) (o0 : U = dz_needE c305_fresh c248_bars n306 a271 v1 v2 c248_teams c248_groups) (o1 : v2.toInt = -1 ∨ (0 ≤ v1.toInt ∧ v1.toInt < v2.toInt)) (o2 : c248_groups.toInt = ((dz_kg κ : Nat) : Int)) (o3 : c248_pots.toInt = ((dz_kp κ : Nat) : Int)) (o4 : c248_teams.toInt = ((dz_km κ : Nat) : Int)) (o5 : c261_many.toInt = ((dz_kr κ : Nat) : Int)) (o6 : c267_total.toInt = ((dz_kt κ : Nat) : Int)) (o7 : dz_rb a269 (dz_kt κ) c248_bars) (o8 : c305_fresh.toInt = 0 ∨ dz_kn c248_bars ≤ ((n306 : Nat) : Int)) : dz_T (f280_X0_isEvenEnough fu U c248_groups c248_pots c248_teams c248_bars c261_many a263 c267_total a268 a269 n269 a271 v1 v2 v3 c305_fresh a306 n306) (fun r => r.1.toInt ≤ 1 ∧ 0 ≤ r.1.toInt ∧ r.2.1.toInt ≤ 1 ∧ 0 ≤ r.2.1.toInt ∧ ((r.2.2.2 : Nat) : Int) ≤ 8064 ∧ 144 ≤ ((r.2.2.2 : Nat) : Int) ∧ (r.2.1.toInt = 0 ∨ dz_kn c248_bars ≤ ((r.2.2.2 : Nat) : Int)) ∧ (dz_needE c305_fresh c248_bars n306 a271 v1 v2 c248_teams c248_groups = 0 ∨ r.2.1.toInt ≠ 0) ∧ (r.2.1.toInt ≠ 0 ∨ (c305_fresh.toInt = 0 ∧ r.2.1 = c305_fresh ∧ r.2.2.2 = n306))) := by
  subst o0
  have hin : dz_in ((dz_bitE v1) ||| (dz_bitE v2)) 1024 := dz_bitEin (bars := c248_bars) (by omega) (by omega) (by omega) (by omega)
  by_cases hw : a271 ((dz_bitE v1) ||| (dz_bitE v2)).toNatClampNeg = 0 ∨ c248_teams.toInt ≤ c248_groups.toInt
  · have e : dz_needE c305_fresh c248_bars n306 a271 v1 v2 c248_teams c248_groups = 0 := by
      unfold dz_needE
      by_cases c : a271 ((dz_bitE v1) ||| (dz_bitE v2)).toNatClampNeg = 0
      · rw [if_pos c]
      · rw [if_neg c, if_pos (Int32.le_iff_toInt_le.mpr (hw.resolve_left c))]
    obtain ⟨x, hx, x1, x0⟩ := dz_ev0 fu hfu c248_groups c248_pots c248_teams c248_bars c261_many a263 c267_total a268 a269 n269 a271 v1 v2 v3 c305_fresh a306 n306 p1 p0 hin hw
    rw [e, hx]
    refine dz_Ts ⟨x1, x0, p14, p15, p16, p17, o8, Or.inl rfl, ?_⟩
    by_cases f0 : c305_fresh.toInt = 0
    · exact Or.inr ⟨f0, rfl, rfl⟩
    · exact Or.inl f0
  · have c1 : ¬ a271 ((dz_bitE v1) ||| (dz_bitE v2)).toNatClampNeg = 0 := fun h => hw (Or.inl h)
    have c2 : ¬ c248_teams.toInt ≤ c248_groups.toInt := fun h => hw (Or.inr h)
    have e : dz_needE c305_fresh c248_bars n306 a271 v1 v2 c248_teams c248_groups = dz_needT c305_fresh c248_bars n306 := by
      unfold dz_needE
      rw [if_neg c1, if_neg (fun h => c2 (Int32.le_iff_toInt_le.mp h))]
    rw [e]
    refine dz_Tw (dz_TP (dz_TP (t280_X0_isEvenEnough_s fu hfu κ hκ (dz_needT c305_fresh c248_bars n306) c248_groups c248_pots c248_teams c248_bars c261_many a263 c267_total a268 a269 n269 a271 v1 v2 v3 c305_fresh a306 n306 p0 p1 p2 p3 p4 p5 p6 p7 p8 p9 p10 p11 p12 p13 p14 p15 p16 p17 p18 p19 p20 p21 p22 hr_a263 hr_a268 hr_a269 (Nat.le_refl _) o1 o2 o3 o4 o5 o6 o7 o8) (dz_evQ fu _ c248_groups c248_pots c248_teams c248_bars c261_many a263 c267_total a268 a269 n269 a271 v1 v2 v3 c305_fresh a306 n306 0 ⟨Nat.zero_le _, by omega⟩)) (dz_evR fu _ c248_groups c248_pots c248_teams c248_bars c261_many a263 c267_total a268 a269 n269 a271 v1 v2 v3 c305_fresh a306 n306 (by omega) p1 p0 (by omega) c1)) (fun r q => ?_)
    obtain ⟨⟨⟨q0, q1, q2, q3, q4, q5, q6⟩, qa⟩, qb⟩ := q
    exact ⟨q0, q1, q2, q3, q4, q5, q6, Or.inr qb, qa.2⟩
