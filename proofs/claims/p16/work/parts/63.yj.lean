set_option maxHeartbeats 4000000 in
set_option maxRecDepth 10000 in
theorem t165_X11_judge_s (fu : Nat) (hfu : 1000000000000 ≤ fu) (κ : Nat) (hκ : κ < 14) (c267_total : Int32) (a269 : Nat → Int32) (n269 : Nat) (v1 : Int32) (p0 : c267_total.toInt ≤ 13824) (p1 : 1 ≤ c267_total.toInt) (p2 : ((n269 : Nat) : Int) ≤ 13824) (p3 : 1 ≤ ((n269 : Nat) : Int)) (p4 : c267_total.toInt ≤ ((n269 : Nat) : Int)) (hr_a269 : dz_rg a269 n269 0 1023) (o0 : c267_total.toInt = ((dz_kt κ : Nat) : Int)) : dz_T (f165_X11_judge fu c267_total a269 n269 v1) (fun r => r.toInt ≤ 1 ∧ (-1) ≤ r.toInt) := by
  unfold f165_X11_judge s165_X11_judge_0
  refine dz_Tbe (show f164_X11_isCode fu c267_total v1 = (if (v1 < (0 : Int32)) then (some (0 : Int32)) else (if (c267_total ≤ v1) then (some (0 : Int32)) else (some (1 : Int32)))) from rfl) ?_
  have e1 := dz_l0
  refine dz_Tltb (fun h2 => ?_) (fun h2 => ?_)
  · skip
    refine dz_Tsb ?_
    refine dz_Teq (fun h3 => ?_) (fun h3 => ?_)
    · skip
      have e4 := dz_lm1
      exact dz_Ts ⟨(by omega), (by omega)⟩
    · skip
      exfalso; omega
  · skip
    refine dz_Tleb (fun h5 => ?_) (fun h5 => ?_)
    · skip
      refine dz_Tsb ?_
      refine dz_Teq (fun h6 => ?_) (fun h6 => ?_)
      · skip
        have e7 := dz_lm1
        exact dz_Ts ⟨(by omega), (by omega)⟩
      · skip
        exfalso; omega
    · skip
      refine dz_Tsb ?_
      have e8 := dz_l1
      refine dz_Teq (fun h9 => ?_) (fun h9 => ?_)
      · skip
        exfalso; omega
      · skip
        refine dz_Tin (by omega) (by omega) ?_
        have e10 := dz_rgat (hr_a269) (i := v1) (by omega) (by omega)
        refine dz_Teq (fun h11 => ?_) (fun h11 => ?_)
        · skip
          exact dz_Ts ⟨(by omega), (by omega)⟩
        · skip
          exact dz_Ts ⟨(by omega), (by omega)⟩
