/-! ball: no more balls than teams -/
theorem dz_ballP (fu : Nat) (c248_groups c248_pots c248_teams c261_groups c261_many c261_everyRank : Int32) (a262 a264 : Nat → Int32) (c267_total c267_lawfulOnes : Int32) (a268 a269 : Nat → Int32) (n269 : Nat) (a275 a276 : Nat → Int32) (v1 c274_out : Int32) (a277 a278 : Nat → Int32) (c280_fresh : Int32) (a281 a282 a283 : Nat → Int32) (c313_fresh c319_fresh c325_fresh : Int32) (g0 : 2 ≤ c248_groups.toInt) (o0 : 0 ≤ c274_out.toInt) (h : c274_out.toInt ≤ c248_teams.toInt) (t12 : c248_teams.toInt ≤ 12) : dz_P (f184_X11_ball fu c248_groups c248_pots c248_teams c261_groups c261_many c261_everyRank a262 a264 c267_total c267_lawfulOnes a268 a269 n269 a275 a276 v1 c274_out a277 a278 c280_fresh a281 a282 a283 c313_fresh c319_fresh c325_fresh) (fun r => r.2.1.toInt ≤ c248_teams.toInt) := by
  have l0 : (0 : Int32).toInt = 0 := by decide
  have l1 : (1 : Int32).toInt = 1 := by decide
  have lm : (-1 : Int32).toInt = -1 := by decide
  unfold f184_X11_ball s184_X11_ball_0
  refine dz_Pa (fun r1 => dz_Pi (fun _ => dz_Ps h) (fun _ => dz_Pi (fun _ => dz_Ps h) (fun _ => dz_Pi (fun d => dz_Pi (fun _ => ?_) (fun _ => dz_Ps h)) (fun _ => dz_Pn))))
  have d0 : 0 ≤ v1.toInt := by
    by_cases q : 0 ≤ v1.toInt
    · exact q
    · exact absurd (Or.inl (Int32.lt_iff_toInt_lt.mpr (by omega))) d
  have p7 : dz_P (f160_X3_potOf fu c248_groups v1) (fun r => 0 ≤ r.toInt) := by
    unfold f160_X3_potOf s160_X3_potOf_0
    exact dz_Pi (fun _ => dz_Ps (by rw [l0]; decide)) (fun _ => dz_Pi (fun _ => dz_Ps (dz_divv d0 (by omega)).2.1) (fun _ => dz_Pn))
  have p9 : dz_P (f170_X8_potInTurn fu c248_groups c248_teams c274_out a275) (fun r => r.toInt = -1 ∨ c274_out.toInt < c248_teams.toInt) := by
    unfold f170_X8_potInTurn s170_X8_potInTurn_0
    exact dz_Pi (fun _ => dz_Ps (Or.inl lm)) (fun c => dz_Pa (fun _ => dz_Pi (fun _ => dz_Ps (Or.inr (dz_fnle c))) (fun _ => dz_Pn)))
  refine dz_Pb p7 (fun r7 h7 => dz_Pb p9 (fun r9 h9 => dz_Pi (fun e => ?_) (fun _ => dz_Ps h)))
  have lt : c274_out.toInt < c248_teams.toInt := by
    rcases h9 with h9 | h9
    · rw [e] at h7
      omega
    · exact h9
  refine dz_Pa (fun _ => dz_Pa (fun _ => dz_Pa (fun _ => dz_Pa (fun _ => dz_Pa (fun _ => dz_Pa (fun _ => dz_Pa (fun _ => dz_Pa (fun r26 => dz_Pi (fun _ => dz_Ps h) (fun _ => ?_)))))))))
  have pp : dz_P (f183_X8_put fu v1 r26 c274_out a277 a278) (fun r => r.1.toInt ≤ c248_teams.toInt) := by
    unfold f183_X8_put s183_X8_put_0
    have ea := dz_add (a := c274_out) (b := 1) (by omega) (by omega)
    exact dz_Pi (fun _ => dz_Ps h) (fun _ => dz_Pi (fun _ => dz_Pi (fun _ => dz_Ps (by show (c274_out + 1).toInt ≤ _; omega)) (fun _ => dz_Pn)) (fun _ => dz_Pn))
  exact dz_Pb pp (fun r29 h29 => dz_Pa (fun _ => dz_Ps h29))
