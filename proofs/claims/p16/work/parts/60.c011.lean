set_option maxHeartbeats 1000000 in
theorem t178_X8_rankAtLevel_s (fu : Nat) (hfu : 1000000000000 ≤ fu) (κ : Nat) (hκ : κ < 14) (c248_groups : Int32) (c261_everyRank : Int32) (a264 : Nat → Int32) (a275 : Nat → Int32) (a277 : Nat → Int32) (v1 : Int32) (p0 : c248_groups.toInt ≤ 4) (p1 : 2 ≤ c248_groups.toInt) (p2 : c261_everyRank.toInt ≤ 16777215) (p3 : 0 ≤ c261_everyRank.toInt) (p4 : 0 ≤ v1.toInt) (p5 : v1.toInt ≤ 3) (hr_a264 : dz_rg a264 16 0 16777215) (hr_a275 : dz_pm a275 (dz_kp κ)) (hr_a277 : dz_rg a277 12 (-1) 3) (o0 : v1.toInt ≤ ((dz_kp κ : Nat) : Int) - 1) (o1 : c248_groups.toInt = ((dz_kg κ : Nat) : Int)) (o2 : c261_everyRank.toInt = ((dz_ke κ : Nat) : Int)) : dz_T (f178_X8_rankAtLevel fu c248_groups c261_everyRank a264 a275 a277 v1) (fun r => r.toInt ≤ 23 ∧ 0 ≤ r.toInt ∧ r.toInt + 2 ≤ c261_everyRank.toInt ∧ (r.toInt ≤ (((dz_kr κ : Nat) : Int) - 1))) := by
  rcases (show κ = 0 ∨ κ = 1 ∨ κ = 2 ∨ κ = 3 ∨ κ = 4 ∨ κ = 5 ∨ κ = 6 ∨ κ = 7 ∨ κ = 8 ∨ κ = 9 ∨ κ = 10 ∨ κ = 11 ∨ κ = 12 ∨ κ = 13 by omega) with rfl | rfl | rfl | rfl | rfl | rfl | rfl | rfl | rfl | rfl | rfl | rfl | rfl | rfl
  · skip
    have o0 : v1.toInt ≤ (0 : Int) - 1 := o0
    have o1 : c248_groups.toInt = (2 : Int) := o1
    have o2 : c261_everyRank.toInt = (3 : Int) := o2
    have hdz_kr : ((dz_kr 0 : Nat) : Int) = (2 : Int) := rfl
    refine dz_Tw (t178_X8_rankAtLevel_g20 fu hfu c248_groups c261_everyRank a264 a275 a277 v1 (by first | assumption | omega) (by first | assumption | omega) (by first | assumption | omega) (by first | assumption | omega) (by first | assumption | omega) (by first | assumption | omega) (by first | exact hr_a264 | exact dz_rgm hr_a264 (by omega) (by omega) | exact dz_pmr hr_a264 (by decide) (by omega) (by omega) (by omega) | exact dz_ptr hr_a264 (by decide) (by decide) (by omega) | exact dz_ptr hr_a264 (by decide) (by decide) (by show _ ≤ 0; omega) | exact dz_rgs hr_a264 (by omega)) (by first | exact hr_a275 | exact dz_rgm hr_a275 (by omega) (by omega) | exact dz_pmr hr_a275 (by decide) (by omega) (by omega) (by omega) | exact dz_ptr hr_a275 (by decide) (by decide) (by omega) | exact dz_ptr hr_a275 (by decide) (by decide) (by show _ ≤ 0; omega) | exact dz_rgs hr_a275 (by omega)) (by first | exact hr_a277 | exact dz_rgm hr_a277 (by omega) (by omega) | exact dz_pmr hr_a277 (by decide) (by omega) (by omega) (by omega) | exact dz_ptr hr_a277 (by decide) (by decide) (by omega) | exact dz_ptr hr_a277 (by decide) (by decide) (by show _ ≤ 0; omega) | exact dz_rgs hr_a277 (by omega))) (fun r h => ?_)
    exact ⟨(by first | assumption | omega), (by first | assumption | omega), (by first | assumption | omega), (by first | assumption | omega)⟩
  · skip
    have o0 : v1.toInt ≤ (1 : Int) - 1 := o0
    have o1 : c248_groups.toInt = (2 : Int) := o1
    have o2 : c261_everyRank.toInt = (3 : Int) := o2
    have hdz_kr : ((dz_kr 1 : Nat) : Int) = (2 : Int) := rfl
    refine dz_Tw (t178_X8_rankAtLevel_g21 fu hfu c248_groups c261_everyRank a264 a275 a277 v1 (by first | assumption | omega) (by first | assumption | omega) (by first | assumption | omega) (by first | assumption | omega) (by first | assumption | omega) (by first | assumption | omega) (by first | exact hr_a264 | exact dz_rgm hr_a264 (by omega) (by omega) | exact dz_pmr hr_a264 (by decide) (by omega) (by omega) (by omega) | exact dz_ptr hr_a264 (by decide) (by decide) (by omega) | exact dz_ptr hr_a264 (by decide) (by decide) (by show _ ≤ 1; omega) | exact dz_rgs hr_a264 (by omega)) (by first | exact hr_a275 | exact dz_rgm hr_a275 (by omega) (by omega) | exact dz_pmr hr_a275 (by decide) (by omega) (by omega) (by omega) | exact dz_ptr hr_a275 (by decide) (by decide) (by omega) | exact dz_ptr hr_a275 (by decide) (by decide) (by show _ ≤ 1; omega) | exact dz_rgs hr_a275 (by omega)) (by first | exact hr_a277 | exact dz_rgm hr_a277 (by omega) (by omega) | exact dz_pmr hr_a277 (by decide) (by omega) (by omega) (by omega) | exact dz_ptr hr_a277 (by decide) (by decide) (by omega) | exact dz_ptr hr_a277 (by decide) (by decide) (by show _ ≤ 1; omega) | exact dz_rgs hr_a277 (by omega))) (fun r h => ?_)
    obtain ⟨g0, g1, g2⟩ := h
    exact ⟨(by first | assumption | omega), (by first | assumption | omega), (by first | assumption | omega), (by first | assumption | omega)⟩
  · skip
    have o0 : v1.toInt ≤ (2 : Int) - 1 := o0
    have o1 : c248_groups.toInt = (2 : Int) := o1
    have o2 : c261_everyRank.toInt = (3 : Int) := o2
    have hdz_kr : ((dz_kr 2 : Nat) : Int) = (2 : Int) := rfl
    refine dz_Tw (t178_X8_rankAtLevel_g22 fu hfu c248_groups c261_everyRank a264 a275 a277 v1 (by first | assumption | omega) (by first | assumption | omega) (by first | assumption | omega) (by first | assumption | omega) (by first | assumption | omega) (by first | assumption | omega) (by first | exact hr_a264 | exact dz_rgm hr_a264 (by omega) (by omega) | exact dz_pmr hr_a264 (by decide) (by omega) (by omega) (by omega) | exact dz_ptr hr_a264 (by decide) (by decide) (by omega) | exact dz_ptr hr_a264 (by decide) (by decide) (by show _ ≤ 2; omega) | exact dz_rgs hr_a264 (by omega)) (by first | exact hr_a275 | exact dz_rgm hr_a275 (by omega) (by omega) | exact dz_pmr hr_a275 (by decide) (by omega) (by omega) (by omega) | exact dz_ptr hr_a275 (by decide) (by decide) (by omega) | exact dz_ptr hr_a275 (by decide) (by decide) (by show _ ≤ 2; omega) | exact dz_rgs hr_a275 (by omega)) (by first | exact hr_a277 | exact dz_rgm hr_a277 (by omega) (by omega) | exact dz_pmr hr_a277 (by decide) (by omega) (by omega) (by omega) | exact dz_ptr hr_a277 (by decide) (by decide) (by omega) | exact dz_ptr hr_a277 (by decide) (by decide) (by show _ ≤ 2; omega) | exact dz_rgs hr_a277 (by omega))) (fun r h => ?_)
    obtain ⟨g0, g1, g2⟩ := h
    exact ⟨(by first | assumption | omega), (by first | assumption | omega), (by first | assumption | omega), (by first | assumption | omega)⟩
  · skip
    have o0 : v1.toInt ≤ (3 : Int) - 1 := o0
    have o1 : c248_groups.toInt = (2 : Int) := o1
    have o2 : c261_everyRank.toInt = (3 : Int) := o2
    have hdz_kr : ((dz_kr 3 : Nat) : Int) = (2 : Int) := rfl
    refine dz_Tw (t178_X8_rankAtLevel_g23 fu hfu c248_groups c261_everyRank a264 a275 a277 v1 (by first | assumption | omega) (by first | assumption | omega) (by first | assumption | omega) (by first | assumption | omega) (by first | assumption | omega) (by first | assumption | omega) (by first | exact hr_a264 | exact dz_rgm hr_a264 (by omega) (by omega) | exact dz_pmr hr_a264 (by decide) (by omega) (by omega) (by omega) | exact dz_ptr hr_a264 (by decide) (by decide) (by omega) | exact dz_ptr hr_a264 (by decide) (by decide) (by show _ ≤ 3; omega) | exact dz_rgs hr_a264 (by omega)) (by first | exact hr_a275 | exact dz_rgm hr_a275 (by omega) (by omega) | exact dz_pmr hr_a275 (by decide) (by omega) (by omega) (by omega) | exact dz_ptr hr_a275 (by decide) (by decide) (by omega) | exact dz_ptr hr_a275 (by decide) (by decide) (by show _ ≤ 3; omega) | exact dz_rgs hr_a275 (by omega)) (by first | exact hr_a277 | exact dz_rgm hr_a277 (by omega) (by omega) | exact dz_pmr hr_a277 (by decide) (by omega) (by omega) (by omega) | exact dz_ptr hr_a277 (by decide) (by decide) (by omega) | exact dz_ptr hr_a277 (by decide) (by decide) (by show _ ≤ 3; omega) | exact dz_rgs hr_a277 (by omega))) (fun r h => ?_)
    obtain ⟨g0, g1, g2⟩ := h
    exact ⟨(by first | assumption | omega), (by first | assumption | omega), (by first | assumption | omega), (by first | assumption | omega)⟩
  · skip
    have o0 : v1.toInt ≤ (4 : Int) - 1 := o0
    have o1 : c248_groups.toInt = (2 : Int) := o1
    have o2 : c261_everyRank.toInt = (3 : Int) := o2
    have hdz_kr : ((dz_kr 4 : Nat) : Int) = (2 : Int) := rfl
    refine dz_Tw (t178_X8_rankAtLevel_g24 fu hfu c248_groups c261_everyRank a264 a275 a277 v1 (by first | assumption | omega) (by first | assumption | omega) (by first | assumption | omega) (by first | assumption | omega) (by first | assumption | omega) (by first | assumption | omega) (by first | exact hr_a264 | exact dz_rgm hr_a264 (by omega) (by omega) | exact dz_pmr hr_a264 (by decide) (by omega) (by omega) (by omega) | exact dz_ptr hr_a264 (by decide) (by decide) (by omega) | exact dz_ptr hr_a264 (by decide) (by decide) (by show _ ≤ 4; omega) | exact dz_rgs hr_a264 (by omega)) (by first | exact hr_a275 | exact dz_rgm hr_a275 (by omega) (by omega) | exact dz_pmr hr_a275 (by decide) (by omega) (by omega) (by omega) | exact dz_ptr hr_a275 (by decide) (by decide) (by omega) | exact dz_ptr hr_a275 (by decide) (by decide) (by show _ ≤ 4; omega) | exact dz_rgs hr_a275 (by omega)) (by first | exact hr_a277 | exact dz_rgm hr_a277 (by omega) (by omega) | exact dz_pmr hr_a277 (by decide) (by omega) (by omega) (by omega) | exact dz_ptr hr_a277 (by decide) (by decide) (by omega) | exact dz_ptr hr_a277 (by decide) (by decide) (by show _ ≤ 4; omega) | exact dz_rgs hr_a277 (by omega))) (fun r h => ?_)
    obtain ⟨g0, g1, g2⟩ := h
    exact ⟨(by first | assumption | omega), (by first | assumption | omega), (by first | assumption | omega), (by first | assumption | omega)⟩
  · skip
    have o0 : v1.toInt ≤ (0 : Int) - 1 := o0
    have o1 : c248_groups.toInt = (3 : Int) := o1
    have o2 : c261_everyRank.toInt = (63 : Int) := o2
    have hdz_kr : ((dz_kr 5 : Nat) : Int) = (6 : Int) := rfl
    refine dz_Tw (t178_X8_rankAtLevel_g30 fu hfu c248_groups c261_everyRank a264 a275 a277 v1 (by first | assumption | omega) (by first | assumption | omega) (by first | assumption | omega) (by first | assumption | omega) (by first | assumption | omega) (by first | assumption | omega) (by first | exact hr_a264 | exact dz_rgm hr_a264 (by omega) (by omega) | exact dz_pmr hr_a264 (by decide) (by omega) (by omega) (by omega) | exact dz_ptr hr_a264 (by decide) (by decide) (by omega) | exact dz_ptr hr_a264 (by decide) (by decide) (by show _ ≤ 0; omega) | exact dz_rgs hr_a264 (by omega)) (by first | exact hr_a275 | exact dz_rgm hr_a275 (by omega) (by omega) | exact dz_pmr hr_a275 (by decide) (by omega) (by omega) (by omega) | exact dz_ptr hr_a275 (by decide) (by decide) (by omega) | exact dz_ptr hr_a275 (by decide) (by decide) (by show _ ≤ 0; omega) | exact dz_rgs hr_a275 (by omega)) (by first | exact hr_a277 | exact dz_rgm hr_a277 (by omega) (by omega) | exact dz_pmr hr_a277 (by decide) (by omega) (by omega) (by omega) | exact dz_ptr hr_a277 (by decide) (by decide) (by omega) | exact dz_ptr hr_a277 (by decide) (by decide) (by show _ ≤ 0; omega) | exact dz_rgs hr_a277 (by omega))) (fun r h => ?_)
    exact ⟨(by first | assumption | omega), (by first | assumption | omega), (by first | assumption | omega), (by first | assumption | omega)⟩
  · skip
    have o0 : v1.toInt ≤ (1 : Int) - 1 := o0
    have o1 : c248_groups.toInt = (3 : Int) := o1
    have o2 : c261_everyRank.toInt = (63 : Int) := o2
    have hdz_kr : ((dz_kr 6 : Nat) : Int) = (6 : Int) := rfl
    refine dz_Tw (t178_X8_rankAtLevel_g31 fu hfu c248_groups c261_everyRank a264 a275 a277 v1 (by first | assumption | omega) (by first | assumption | omega) (by first | assumption | omega) (by first | assumption | omega) (by first | assumption | omega) (by first | assumption | omega) (by first | exact hr_a264 | exact dz_rgm hr_a264 (by omega) (by omega) | exact dz_pmr hr_a264 (by decide) (by omega) (by omega) (by omega) | exact dz_ptr hr_a264 (by decide) (by decide) (by omega) | exact dz_ptr hr_a264 (by decide) (by decide) (by show _ ≤ 1; omega) | exact dz_rgs hr_a264 (by omega)) (by first | exact hr_a275 | exact dz_rgm hr_a275 (by omega) (by omega) | exact dz_pmr hr_a275 (by decide) (by omega) (by omega) (by omega) | exact dz_ptr hr_a275 (by decide) (by decide) (by omega) | exact dz_ptr hr_a275 (by decide) (by decide) (by show _ ≤ 1; omega) | exact dz_rgs hr_a275 (by omega)) (by first | exact hr_a277 | exact dz_rgm hr_a277 (by omega) (by omega) | exact dz_pmr hr_a277 (by decide) (by omega) (by omega) (by omega) | exact dz_ptr hr_a277 (by decide) (by decide) (by omega) | exact dz_ptr hr_a277 (by decide) (by decide) (by show _ ≤ 1; omega) | exact dz_rgs hr_a277 (by omega))) (fun r h => ?_)
    obtain ⟨g0, g1, g2⟩ := h
    exact ⟨(by first | assumption | omega), (by first | assumption | omega), (by first | assumption | omega), (by first | assumption | omega)⟩
  · skip
    have o0 : v1.toInt ≤ (2 : Int) - 1 := o0
    have o1 : c248_groups.toInt = (3 : Int) := o1
    have o2 : c261_everyRank.toInt = (63 : Int) := o2
    have hdz_kr : ((dz_kr 7 : Nat) : Int) = (6 : Int) := rfl
    refine dz_Tw (t178_X8_rankAtLevel_g32 fu hfu c248_groups c261_everyRank a264 a275 a277 v1 (by first | assumption | omega) (by first | assumption | omega) (by first | assumption | omega) (by first | assumption | omega) (by first | assumption | omega) (by first | assumption | omega) (by first | exact hr_a264 | exact dz_rgm hr_a264 (by omega) (by omega) | exact dz_pmr hr_a264 (by decide) (by omega) (by omega) (by omega) | exact dz_ptr hr_a264 (by decide) (by decide) (by omega) | exact dz_ptr hr_a264 (by decide) (by decide) (by show _ ≤ 2; omega) | exact dz_rgs hr_a264 (by omega)) (by first | exact hr_a275 | exact dz_rgm hr_a275 (by omega) (by omega) | exact dz_pmr hr_a275 (by decide) (by omega) (by omega) (by omega) | exact dz_ptr hr_a275 (by decide) (by decide) (by omega) | exact dz_ptr hr_a275 (by decide) (by decide) (by show _ ≤ 2; omega) | exact dz_rgs hr_a275 (by omega)) (by first | exact hr_a277 | exact dz_rgm hr_a277 (by omega) (by omega) | exact dz_pmr hr_a277 (by decide) (by omega) (by omega) (by omega) | exact dz_ptr hr_a277 (by decide) (by decide) (by omega) | exact dz_ptr hr_a277 (by decide) (by decide) (by show _ ≤ 2; omega) | exact dz_rgs hr_a277 (by omega))) (fun r h => ?_)
    obtain ⟨g0, g1, g2⟩ := h
    exact ⟨(by first | assumption | omega), (by first | assumption | omega), (by first | assumption | omega), (by first | assumption | omega)⟩
  · skip
    have o0 : v1.toInt ≤ (3 : Int) - 1 := o0
    have o1 : c248_groups.toInt = (3 : Int) := o1
    have o2 : c261_everyRank.toInt = (63 : Int) := o2
    have hdz_kr : ((dz_kr 8 : Nat) : Int) = (6 : Int) := rfl
    refine dz_Tw (t178_X8_rankAtLevel_g33 fu hfu c248_groups c261_everyRank a264 a275 a277 v1 (by first | assumption | omega) (by first | assumption | omega) (by first | assumption | omega) (by first | assumption | omega) (by first | assumption | omega) (by first | assumption | omega) (by first | exact hr_a264 | exact dz_rgm hr_a264 (by omega) (by omega) | exact dz_pmr hr_a264 (by decide) (by omega) (by omega) (by omega) | exact dz_ptr hr_a264 (by decide) (by decide) (by omega) | exact dz_ptr hr_a264 (by decide) (by decide) (by show _ ≤ 3; omega) | exact dz_rgs hr_a264 (by omega)) (by first | exact hr_a275 | exact dz_rgm hr_a275 (by omega) (by omega) | exact dz_pmr hr_a275 (by decide) (by omega) (by omega) (by omega) | exact dz_ptr hr_a275 (by decide) (by decide) (by omega) | exact dz_ptr hr_a275 (by decide) (by decide) (by show _ ≤ 3; omega) | exact dz_rgs hr_a275 (by omega)) (by first | exact hr_a277 | exact dz_rgm hr_a277 (by omega) (by omega) | exact dz_pmr hr_a277 (by decide) (by omega) (by omega) (by omega) | exact dz_ptr hr_a277 (by decide) (by decide) (by omega) | exact dz_ptr hr_a277 (by decide) (by decide) (by show _ ≤ 3; omega) | exact dz_rgs hr_a277 (by omega))) (fun r h => ?_)
    obtain ⟨g0, g1, g2⟩ := h
    exact ⟨(by first | assumption | omega), (by first | assumption | omega), (by first | assumption | omega), (by first | assumption | omega)⟩
  · skip
    have o0 : v1.toInt ≤ (4 : Int) - 1 := o0
    have o1 : c248_groups.toInt = (3 : Int) := o1
    have o2 : c261_everyRank.toInt = (63 : Int) := o2
    have hdz_kr : ((dz_kr 9 : Nat) : Int) = (6 : Int) := rfl
    refine dz_Tw (t178_X8_rankAtLevel_g34 fu hfu c248_groups c261_everyRank a264 a275 a277 v1 (by first | assumption | omega) (by first | assumption | omega) (by first | assumption | omega) (by first | assumption | omega) (by first | assumption | omega) (by first | assumption | omega) (by first | exact hr_a264 | exact dz_rgm hr_a264 (by omega) (by omega) | exact dz_pmr hr_a264 (by decide) (by omega) (by omega) (by omega) | exact dz_ptr hr_a264 (by decide) (by decide) (by omega) | exact dz_ptr hr_a264 (by decide) (by decide) (by show _ ≤ 4; omega) | exact dz_rgs hr_a264 (by omega)) (by first | exact hr_a275 | exact dz_rgm hr_a275 (by omega) (by omega) | exact dz_pmr hr_a275 (by decide) (by omega) (by omega) (by omega) | exact dz_ptr hr_a275 (by decide) (by decide) (by omega) | exact dz_ptr hr_a275 (by decide) (by decide) (by show _ ≤ 4; omega) | exact dz_rgs hr_a275 (by omega)) (by first | exact hr_a277 | exact dz_rgm hr_a277 (by omega) (by omega) | exact dz_pmr hr_a277 (by decide) (by omega) (by omega) (by omega) | exact dz_ptr hr_a277 (by decide) (by decide) (by omega) | exact dz_ptr hr_a277 (by decide) (by decide) (by show _ ≤ 4; omega) | exact dz_rgs hr_a277 (by omega))) (fun r h => ?_)
    obtain ⟨g0, g1, g2⟩ := h
    exact ⟨(by first | assumption | omega), (by first | assumption | omega), (by first | assumption | omega), (by first | assumption | omega)⟩
  · skip
    have o0 : v1.toInt ≤ (0 : Int) - 1 := o0
    have o1 : c248_groups.toInt = (4 : Int) := o1
    have o2 : c261_everyRank.toInt = (16777215 : Int) := o2
    have hdz_kr : ((dz_kr 10 : Nat) : Int) = (24 : Int) := rfl
    refine dz_Tw (t178_X8_rankAtLevel_g40 fu hfu c248_groups c261_everyRank a264 a275 a277 v1 (by first | assumption | omega) (by first | assumption | omega) (by first | assumption | omega) (by first | assumption | omega) (by first | assumption | omega) (by first | assumption | omega) (by first | exact hr_a264 | exact dz_rgm hr_a264 (by omega) (by omega) | exact dz_pmr hr_a264 (by decide) (by omega) (by omega) (by omega) | exact dz_ptr hr_a264 (by decide) (by decide) (by omega) | exact dz_ptr hr_a264 (by decide) (by decide) (by show _ ≤ 0; omega) | exact dz_rgs hr_a264 (by omega)) (by first | exact hr_a275 | exact dz_rgm hr_a275 (by omega) (by omega) | exact dz_pmr hr_a275 (by decide) (by omega) (by omega) (by omega) | exact dz_ptr hr_a275 (by decide) (by decide) (by omega) | exact dz_ptr hr_a275 (by decide) (by decide) (by show _ ≤ 0; omega) | exact dz_rgs hr_a275 (by omega)) (by first | exact hr_a277 | exact dz_rgm hr_a277 (by omega) (by omega) | exact dz_pmr hr_a277 (by decide) (by omega) (by omega) (by omega) | exact dz_ptr hr_a277 (by decide) (by decide) (by omega) | exact dz_ptr hr_a277 (by decide) (by decide) (by show _ ≤ 0; omega) | exact dz_rgs hr_a277 (by omega))) (fun r h => ?_)
    exact ⟨(by first | assumption | omega), (by first | assumption | omega), (by first | assumption | omega), (by first | assumption | omega)⟩
  · skip
    have o0 : v1.toInt ≤ (1 : Int) - 1 := o0
    have o1 : c248_groups.toInt = (4 : Int) := o1
    have o2 : c261_everyRank.toInt = (16777215 : Int) := o2
    have hdz_kr : ((dz_kr 11 : Nat) : Int) = (24 : Int) := rfl
    refine dz_Tw (t178_X8_rankAtLevel_g41 fu hfu c248_groups c261_everyRank a264 a275 a277 v1 (by first | assumption | omega) (by first | assumption | omega) (by first | assumption | omega) (by first | assumption | omega) (by first | assumption | omega) (by first | assumption | omega) (by first | exact hr_a264 | exact dz_rgm hr_a264 (by omega) (by omega) | exact dz_pmr hr_a264 (by decide) (by omega) (by omega) (by omega) | exact dz_ptr hr_a264 (by decide) (by decide) (by omega) | exact dz_ptr hr_a264 (by decide) (by decide) (by show _ ≤ 1; omega) | exact dz_rgs hr_a264 (by omega)) (by first | exact hr_a275 | exact dz_rgm hr_a275 (by omega) (by omega) | exact dz_pmr hr_a275 (by decide) (by omega) (by omega) (by omega) | exact dz_ptr hr_a275 (by decide) (by decide) (by omega) | exact dz_ptr hr_a275 (by decide) (by decide) (by show _ ≤ 1; omega) | exact dz_rgs hr_a275 (by omega)) (by first | exact hr_a277 | exact dz_rgm hr_a277 (by omega) (by omega) | exact dz_pmr hr_a277 (by decide) (by omega) (by omega) (by omega) | exact dz_ptr hr_a277 (by decide) (by decide) (by omega) | exact dz_ptr hr_a277 (by decide) (by decide) (by show _ ≤ 1; omega) | exact dz_rgs hr_a277 (by omega))) (fun r h => ?_)
    obtain ⟨g0, g1, g2⟩ := h
    exact ⟨(by first | assumption | omega), (by first | assumption | omega), (by first | assumption | omega), (by first | assumption | omega)⟩
  · skip
    have o0 : v1.toInt ≤ (2 : Int) - 1 := o0
    have o1 : c248_groups.toInt = (4 : Int) := o1
    have o2 : c261_everyRank.toInt = (16777215 : Int) := o2
    have hdz_kr : ((dz_kr 12 : Nat) : Int) = (24 : Int) := rfl
    refine dz_Tw (t178_X8_rankAtLevel_g42 fu hfu c248_groups c261_everyRank a264 a275 a277 v1 (by first | assumption | omega) (by first | assumption | omega) (by first | assumption | omega) (by first | assumption | omega) (by first | assumption | omega) (by first | assumption | omega) (by first | exact hr_a264 | exact dz_rgm hr_a264 (by omega) (by omega) | exact dz_pmr hr_a264 (by decide) (by omega) (by omega) (by omega) | exact dz_ptr hr_a264 (by decide) (by decide) (by omega) | exact dz_ptr hr_a264 (by decide) (by decide) (by show _ ≤ 2; omega) | exact dz_rgs hr_a264 (by omega)) (by first | exact hr_a275 | exact dz_rgm hr_a275 (by omega) (by omega) | exact dz_pmr hr_a275 (by decide) (by omega) (by omega) (by omega) | exact dz_ptr hr_a275 (by decide) (by decide) (by omega) | exact dz_ptr hr_a275 (by decide) (by decide) (by show _ ≤ 2; omega) | exact dz_rgs hr_a275 (by omega)) (by first | exact hr_a277 | exact dz_rgm hr_a277 (by omega) (by omega) | exact dz_pmr hr_a277 (by decide) (by omega) (by omega) (by omega) | exact dz_ptr hr_a277 (by decide) (by decide) (by omega) | exact dz_ptr hr_a277 (by decide) (by decide) (by show _ ≤ 2; omega) | exact dz_rgs hr_a277 (by omega))) (fun r h => ?_)
    obtain ⟨g0, g1, g2⟩ := h
    exact ⟨(by first | assumption | omega), (by first | assumption | omega), (by first | assumption | omega), (by first | assumption | omega)⟩
  · skip
    have o0 : v1.toInt ≤ (3 : Int) - 1 := o0
    have o1 : c248_groups.toInt = (4 : Int) := o1
    have o2 : c261_everyRank.toInt = (16777215 : Int) := o2
    have hdz_kr : ((dz_kr 13 : Nat) : Int) = (24 : Int) := rfl
    refine dz_Tw (t178_X8_rankAtLevel_g43 fu hfu c248_groups c261_everyRank a264 a275 a277 v1 (by first | assumption | omega) (by first | assumption | omega) (by first | assumption | omega) (by first | assumption | omega) (by first | assumption | omega) (by first | assumption | omega) (by first | exact hr_a264 | exact dz_rgm hr_a264 (by omega) (by omega) | exact dz_pmr hr_a264 (by decide) (by omega) (by omega) (by omega) | exact dz_ptr hr_a264 (by decide) (by decide) (by omega) | exact dz_ptr hr_a264 (by decide) (by decide) (by show _ ≤ 3; omega) | exact dz_rgs hr_a264 (by omega)) (by first | exact hr_a275 | exact dz_rgm hr_a275 (by omega) (by omega) | exact dz_pmr hr_a275 (by decide) (by omega) (by omega) (by omega) | exact dz_ptr hr_a275 (by decide) (by decide) (by omega) | exact dz_ptr hr_a275 (by decide) (by decide) (by show _ ≤ 3; omega) | exact dz_rgs hr_a275 (by omega)) (by first | exact hr_a277 | exact dz_rgm hr_a277 (by omega) (by omega) | exact dz_pmr hr_a277 (by decide) (by omega) (by omega) (by omega) | exact dz_ptr hr_a277 (by decide) (by decide) (by omega) | exact dz_ptr hr_a277 (by decide) (by decide) (by show _ ≤ 3; omega) | exact dz_rgs hr_a277 (by omega))) (fun r h => ?_)
    obtain ⟨g0, g1, g2⟩ := h
    exact ⟨(by first | assumption | omega), (by first | assumption | omega), (by first | assumption | omega), (by first | assumption | omega)⟩
abbrev p179_X8_prefix_s (fu : Nat) (κ : Nat) (c248_groups : Int32) (c261_many : Int32) (c261_everyRank : Int32) (a264 : Nat → Int32) (c274_out : Int32) (a275 : Nat → Int32) (a277 : Nat → Int32) (k : Nat) : Prop :=
  (∀ (v1 : Int32) (v2 : Int32) (v3 : Int32), v1.toInt ≤ 331775 → 0 ≤ v1.toInt → v2.toInt ≤ 6 → 0 ≤ v2.toInt → v3.toInt ≤ 4 → 0 ≤ v3.toInt → v2.toInt ≤ c274_out.toInt → v3.toInt ≤ c274_out.toInt → v3.toInt ≤ v2.toInt → v3.toInt ≤ c261_everyRank.toInt + 2 → ((v3.toInt = 0 ∧ v1.toInt < 1) ∨ (v3.toInt = 1 ∧ v1.toInt < 24) ∨ (v3.toInt = 2 ∧ v1.toInt < 576) ∨ (v3.toInt = 3 ∧ v1.toInt < 13824) ∨ (v3.toInt = 4 ∧ v1.toInt < 331776)) → v2.toInt ≤ ((dz_kp κ : Nat) : Int) → v2.toInt = (c274_out / c248_groups).toInt → 0 + 0 + (4 - v3.toInt) * 10 + 5 ≤ ((k : Nat) : Int) → dz_T ((F179_X8_prefix fu c248_groups c261_many c261_everyRank a264 c274_out a275 a277 k) v1 v2 v3) (fun r => r.toInt ≤ 331775 ∧ 0 ≤ r.toInt ∧ ((((c274_out / c248_groups).toInt = 0 ∧ r.toInt < 1) ∨ ((c274_out / c248_groups).toInt = 1 ∧ r.toInt < 24) ∨ ((c274_out / c248_groups).toInt = 2 ∧ r.toInt < 576) ∨ ((c274_out / c248_groups).toInt = 3 ∧ r.toInt < 13824) ∨ ((c274_out / c248_groups).toInt = 4 ∧ r.toInt < 331776)))))
set_option maxHeartbeats 1000000 in
set_option maxRecDepth 10000 in
theorem t179_X8_prefix_h1_s (fu : Nat) (hfu : 1000000000000 ≤ fu) (κ : Nat) (hκ : κ < 14) (c248_groups : Int32) (c261_many : Int32) (c261_everyRank : Int32) (a264 : Nat → Int32) (c274_out : Int32) (a275 : Nat → Int32) (a277 : Nat → Int32) (p0 : c248_groups.toInt ≤ 4) (p1 : 2 ≤ c248_groups.toInt) (p2 : c261_many.toInt ≤ 24) (p3 : 0 ≤ c261_many.toInt) (p4 : c261_everyRank.toInt ≤ 16777215) (p5 : 0 ≤ c261_everyRank.toInt) (p6 : c274_out.toInt ≤ 12) (p7 : 0 ≤ c274_out.toInt) (hr_a264 : dz_rg a264 16 0 16777215) (hr_a275 : dz_pm a275 (dz_kp κ)) (hr_a277 : dz_rg a277 12 (-1) 3) (o0 : c248_groups.toInt = ((dz_kg κ : Nat) : Int)) (o1 : c261_many.toInt = ((dz_kr κ : Nat) : Int)) (o2 : c261_everyRank.toInt = ((dz_ke κ : Nat) : Int)) (o3 : c274_out.toInt ≤ ((dz_km κ : Nat) : Int)) (k : Nat) (ih : ∀ j9, j9 < k → p179_X8_prefix_s fu κ c248_groups c261_many c261_everyRank a264 c274_out a275 a277 j9) : ∀ (v1 : Int32) (v2 : Int32) (v3 : Int32), v1.toInt ≤ 331775 → 0 ≤ v1.toInt → v2.toInt ≤ 6 → 0 ≤ v2.toInt → v3.toInt ≤ 4 → 0 ≤ v3.toInt → v2.toInt ≤ c274_out.toInt → v3.toInt ≤ c274_out.toInt → v3.toInt ≤ v2.toInt → v3.toInt ≤ c261_everyRank.toInt + 2 → ((v3.toInt = 0 ∧ v1.toInt < 1) ∨ (v3.toInt = 1 ∧ v1.toInt < 24) ∨ (v3.toInt = 2 ∧ v1.toInt < 576) ∨ (v3.toInt = 3 ∧ v1.toInt < 13824) ∨ (v3.toInt = 4 ∧ v1.toInt < 331776)) → v2.toInt ≤ ((dz_kp κ : Nat) : Int) → v2.toInt = (c274_out / c248_groups).toInt → 0 + 0 + (4 - v3.toInt) * 10 + 5 ≤ ((k : Nat) : Int) → dz_T ((F179_X8_prefix fu c248_groups c261_many c261_everyRank a264 c274_out a275 a277 k) v1 v2 v3) (fun r => r.toInt ≤ 331775 ∧ 0 ≤ r.toInt ∧ ((((c274_out / c248_groups).toInt = 0 ∧ r.toInt < 1) ∨ ((c274_out / c248_groups).toInt = 1 ∧ r.toInt < 24) ∨ ((c274_out / c248_groups).toInt = 2 ∧ r.toInt < 576) ∨ ((c274_out / c248_groups).toInt = 3 ∧ r.toInt < 13824) ∨ ((c274_out / c248_groups).toInt = 4 ∧ r.toInt < 331776)))) := by
  intro v1 v2 v3 i0 i1 i2 i3 i4 i5 i6 i7 i8 i9 x0 x1 x2 hm
  obtain ⟨k0, rfl⟩ : ∃ x, k = x + 1 := ⟨k - 1, by omega⟩
  show dz_T (s179_X8_prefix_1 fu c248_groups c261_many c261_everyRank a264 c274_out a275 a277 (F179_X8_prefix fu c248_groups c261_many c261_everyRank a264 c274_out a275 a277 k0)  v1 v2 v3) _
  unfold s179_X8_prefix_1
  have hk4 := dz_kp4 hκ
  rcases (show v3.toInt = 0 ∨ v3.toInt = 1 ∨ v3.toInt = 2 ∨ v3.toInt = 3 ∨ v3.toInt = 4 by omega) with hs | hs | hs | hs | hs
  · skip
    refine dz_Tle (fun h1 => ?_) (fun h1 => ?_)
    · skip
      exact dz_Ts ⟨i0, i1, (by omega)⟩
    · skip
      refine dz_Tb (t178_X8_rankAtLevel_s fu hfu κ hκ _ _ _ _ _ _ p0 p1 p4 p5 i5 (by first | assumption | omega) (hr_a264) (hr_a275) (hr_a277) (by first | assumption | omega) o0 o2) (fun r1 q => ?_)
      obtain ⟨q1_0, q1_1, q1_2, qo1_0⟩ := q
      have e2 := dz_mull (a := v1) (b := c261_many) 0 (by omega) (by omega) (by omega)
      have e3 := dz_add (a := (v1 * c261_many)) (b := r1) (by omega) (by omega)
      have e4 := dz_l1
      have e5 := dz_add (a := v3) (b := (1 : Int32)) (by omega) (by omega)
      exact (ih k0 (by omega)) ((v1 * c261_many) + r1) v2 (v3 + (1 : Int32)) (by omega) (by omega) i2 i3 (by omega) (by omega) i6 (by omega) (by omega) (by omega) (by omega) (by omega) (by omega) (by omega)
  · skip
    refine dz_Tle (fun h6 => ?_) (fun h6 => ?_)
    · skip
      exact dz_Ts ⟨i0, i1, (by omega)⟩
    · skip
      refine dz_Tb (t178_X8_rankAtLevel_s fu hfu κ hκ _ _ _ _ _ _ p0 p1 p4 p5 i5 (by first | assumption | omega) (hr_a264) (hr_a275) (hr_a277) (by first | assumption | omega) o0 o2) (fun r2 q => ?_)
      obtain ⟨q2_0, q2_1, q2_2, qo2_0⟩ := q
      have e7 := dz_mulb (a := v1) (b := c261_many) 23 24 (by omega) (by omega) (by omega) (by omega) (by omega)
      have e8 := dz_add (a := (v1 * c261_many)) (b := r2) (by omega) (by omega)
      have e9 := dz_l1
      have e10 := dz_add (a := v3) (b := (1 : Int32)) (by omega) (by omega)
      exact (ih k0 (by omega)) ((v1 * c261_many) + r2) v2 (v3 + (1 : Int32)) (by omega) (by omega) i2 i3 (by omega) (by omega) i6 (by omega) (by omega) (by omega) (by omega) (by omega) (by omega) (by omega)
  · skip
    refine dz_Tle (fun h11 => ?_) (fun h11 => ?_)
    · skip
      exact dz_Ts ⟨i0, i1, (by omega)⟩
    · skip
      refine dz_Tb (t178_X8_rankAtLevel_s fu hfu κ hκ _ _ _ _ _ _ p0 p1 p4 p5 i5 (by first | assumption | omega) (hr_a264) (hr_a275) (hr_a277) (by first | assumption | omega) o0 o2) (fun r3 q => ?_)
      obtain ⟨q3_0, q3_1, q3_2, qo3_0⟩ := q
      have e12 := dz_mulb (a := v1) (b := c261_many) 575 24 (by omega) (by omega) (by omega) (by omega) (by omega)
      have e13 := dz_add (a := (v1 * c261_many)) (b := r3) (by omega) (by omega)
      have e14 := dz_l1
      have e15 := dz_add (a := v3) (b := (1 : Int32)) (by omega) (by omega)
      exact (ih k0 (by omega)) ((v1 * c261_many) + r3) v2 (v3 + (1 : Int32)) (by omega) (by omega) i2 i3 (by omega) (by omega) i6 (by omega) (by omega) (by omega) (by omega) (by omega) (by omega) (by omega)
  · skip
    refine dz_Tle (fun h16 => ?_) (fun h16 => ?_)
    · skip
      exact dz_Ts ⟨i0, i1, (by omega)⟩
    · skip
      refine dz_Tb (t178_X8_rankAtLevel_s fu hfu κ hκ _ _ _ _ _ _ p0 p1 p4 p5 i5 (by first | assumption | omega) (hr_a264) (hr_a275) (hr_a277) (by first | assumption | omega) o0 o2) (fun r4 q => ?_)
      obtain ⟨q4_0, q4_1, q4_2, qo4_0⟩ := q
      have e17 := dz_mulb (a := v1) (b := c261_many) 13823 24 (by omega) (by omega) (by omega) (by omega) (by omega)
      have e18 := dz_add (a := (v1 * c261_many)) (b := r4) (by omega) (by omega)
      have e19 := dz_l1
      have e20 := dz_add (a := v3) (b := (1 : Int32)) (by omega) (by omega)
      exact (ih k0 (by omega)) ((v1 * c261_many) + r4) v2 (v3 + (1 : Int32)) (by omega) (by omega) i2 i3 (by omega) (by omega) i6 (by omega) (by omega) (by omega) (by omega) (by omega) (by omega) (by omega)
  · skip
    refine dz_Tle (fun h21 => ?_) (fun h21 => ?_)
    · skip
      exact dz_Ts ⟨i0, i1, (by omega)⟩
    · skip
      refine dz_Tb (t178_X8_rankAtLevel_s fu hfu κ hκ _ _ _ _ _ _ p0 p1 p4 p5 i5 (by first | assumption | omega) (hr_a264) (hr_a275) (hr_a277) (by first | assumption | omega) o0 o2) (fun r5 q => ?_)
      obtain ⟨q5_0, q5_1, q5_2, qo5_0⟩ := q
      exfalso; omega
theorem t179_X8_prefix_I_s (fu : Nat) (hfu : 1000000000000 ≤ fu) (κ : Nat) (hκ : κ < 14) (c248_groups : Int32) (c261_many : Int32) (c261_everyRank : Int32) (a264 : Nat → Int32) (c274_out : Int32) (a275 : Nat → Int32) (a277 : Nat → Int32) (p0 : c248_groups.toInt ≤ 4) (p1 : 2 ≤ c248_groups.toInt) (p2 : c261_many.toInt ≤ 24) (p3 : 0 ≤ c261_many.toInt) (p4 : c261_everyRank.toInt ≤ 16777215) (p5 : 0 ≤ c261_everyRank.toInt) (p6 : c274_out.toInt ≤ 12) (p7 : 0 ≤ c274_out.toInt) (hr_a264 : dz_rg a264 16 0 16777215) (hr_a275 : dz_pm a275 (dz_kp κ)) (hr_a277 : dz_rg a277 12 (-1) 3) (o0 : c248_groups.toInt = ((dz_kg κ : Nat) : Int)) (o1 : c261_many.toInt = ((dz_kr κ : Nat) : Int)) (o2 : c261_everyRank.toInt = ((dz_ke κ : Nat) : Int)) (o3 : c274_out.toInt ≤ ((dz_km κ : Nat) : Int)) (k : Nat) : p179_X8_prefix_s fu κ c248_groups c261_many c261_everyRank a264 c274_out a275 a277 k := by
  induction k using Nat.strongRecOn with
  | _ k ih => exact t179_X8_prefix_h1_s fu hfu κ hκ c248_groups c261_many c261_everyRank a264 c274_out a275 a277 p0 p1 p2 p3 p4 p5 p6 p7 hr_a264 hr_a275 hr_a277 o0 o1 o2 o3 k ih
set_option maxHeartbeats 1000000 in
set_option maxRecDepth 10000 in
theorem t179_X8_prefix_E_s (fu : Nat) (hfu : 1000000000000 ≤ fu) (κ : Nat) (hκ : κ < 14) (c248_groups : Int32) (c261_many : Int32) (c261_everyRank : Int32) (a264 : Nat → Int32) (c274_out : Int32) (a275 : Nat → Int32) (a277 : Nat → Int32) (p0 : c248_groups.toInt ≤ 4) (p1 : 2 ≤ c248_groups.toInt) (p2 : c261_many.toInt ≤ 24) (p3 : 0 ≤ c261_many.toInt) (p4 : c261_everyRank.toInt ≤ 16777215) (p5 : 0 ≤ c261_everyRank.toInt) (p6 : c274_out.toInt ≤ 12) (p7 : 0 ≤ c274_out.toInt) (hr_a264 : dz_rg a264 16 0 16777215) (hr_a275 : dz_pm a275 (dz_kp κ)) (hr_a277 : dz_rg a277 12 (-1) 3) (o0 : c248_groups.toInt = ((dz_kg κ : Nat) : Int)) (o1 : c261_many.toInt = ((dz_kr κ : Nat) : Int)) (o2 : c261_everyRank.toInt = ((dz_ke κ : Nat) : Int)) (o3 : c274_out.toInt ≤ ((dz_km κ : Nat) : Int)) (kv : Nat) (hkv : 1000000000000 ≤ kv) : dz_T (s179_X8_prefix_0 fu c248_groups c261_many c261_everyRank a264 c274_out a275 a277 (F179_X8_prefix fu c248_groups c261_many c261_everyRank a264 c274_out a275 a277 kv) ) (fun r => r.toInt ≤ 331775 ∧ 0 ≤ r.toInt ∧ ((((c274_out / c248_groups).toInt = 0 ∧ r.toInt < 1) ∨ ((c274_out / c248_groups).toInt = 1 ∧ r.toInt < 24) ∨ ((c274_out / c248_groups).toInt = 2 ∧ r.toInt < 576) ∨ ((c274_out / c248_groups).toInt = 3 ∧ r.toInt < 13824) ∨ ((c274_out / c248_groups).toInt = 4 ∧ r.toInt < 331776)))) := by
  unfold s179_X8_prefix_0
  have hfull := dz_kfull hκ (o := c274_out) (g := c248_groups) (by omega) (by omega) (by omega)
  have hk4 := dz_kp4 hκ
  refine dz_Tbe (show f169_X8_fullPots fu c248_groups c274_out = (Option.bind (f160_X3_potOf fu c248_groups c274_out) (fun b2 => (some b2))) from rfl) ?_
  refine dz_Tba ?_
  refine dz_Tbe (show f160_X3_potOf fu c248_groups c274_out = (if (c248_groups ≤ (0 : Int32)) then (some (0 : Int32)) else (if (¬ (c248_groups = (0 : Int32))) then (some (c274_out / c248_groups)) else none)) from rfl) ?_
  have e1 := dz_l0
  refine dz_Tleb (fun h2 => ?_) (fun h2 => ?_)
  · skip
    exfalso; omega
  · skip
    refine dz_Tzb (by omega) ?_
    refine dz_Tsb ?_
    refine dz_Tsb ?_
    have e3 := dz_divq (a := c274_out) (b := c248_groups) 2 12 (by omega) (by omega) (by omega) (by omega)
    exact (t179_X8_prefix_I_s fu hfu κ hκ c248_groups c261_many c261_everyRank a264 c274_out a275 a277 p0 p1 p2 p3 p4 p5 p6 p7 hr_a264 hr_a275 hr_a277 o0 o1 o2 o3 kv) (0 : Int32) (c274_out / c248_groups) (0 : Int32) (by omega) (by omega) (by omega) (by omega) (by omega) (by omega) (by omega) (by omega) (by omega) (by omega) (by omega) (by omega) (by omega) (by omega)
theorem t179_X8_prefix_s (fu : Nat) (hfu : 1000000000000 ≤ fu) (κ : Nat) (hκ : κ < 14) (c248_groups : Int32) (c261_many : Int32) (c261_everyRank : Int32) (a264 : Nat → Int32) (c274_out : Int32) (a275 : Nat → Int32) (a277 : Nat → Int32) (p0 : c248_groups.toInt ≤ 4) (p1 : 2 ≤ c248_groups.toInt) (p2 : c261_many.toInt ≤ 24) (p3 : 0 ≤ c261_many.toInt) (p4 : c261_everyRank.toInt ≤ 16777215) (p5 : 0 ≤ c261_everyRank.toInt) (p6 : c274_out.toInt ≤ 12) (p7 : 0 ≤ c274_out.toInt) (hr_a264 : dz_rg a264 16 0 16777215) (hr_a275 : dz_pm a275 (dz_kp κ)) (hr_a277 : dz_rg a277 12 (-1) 3) (o0 : c248_groups.toInt = ((dz_kg κ : Nat) : Int)) (o1 : c261_many.toInt = ((dz_kr κ : Nat) : Int)) (o2 : c261_everyRank.toInt = ((dz_ke κ : Nat) : Int)) (o3 : c274_out.toInt ≤ ((dz_km κ : Nat) : Int)) : dz_T (f179_X8_prefix fu c248_groups c261_many c261_everyRank a264 c274_out a275 a277) (fun r => r.toInt ≤ 331775 ∧ 0 ≤ r.toInt ∧ ((((c274_out / c248_groups).toInt = 0 ∧ r.toInt < 1) ∨ ((c274_out / c248_groups).toInt = 1 ∧ r.toInt < 24) ∨ ((c274_out / c248_groups).toInt = 2 ∧ r.toInt < 576) ∨ ((c274_out / c248_groups).toInt = 3 ∧ r.toInt < 13824) ∨ ((c274_out / c248_groups).toInt = 4 ∧ r.toInt < 331776)))) :=
  t179_X8_prefix_E_s fu hfu κ hκ c248_groups c261_many c261_everyRank a264 c274_out a275 a277 p0 p1 p2 p3 p4 p5 p6 p7 hr_a264 hr_a275 hr_a277 o0 o1 o2 o3 fu hfu
set_option maxHeartbeats 1000000 in
set_option maxRecDepth 10000 in
theorem t180_X10_ranksOpen (fu : Nat) (hfu : 1000000000000 ≤ fu) (a281 : Nat → Int32) (a282 : Nat → Int32) (v1 : Int32) (v2 : Int32) (p0 : v2.toInt ≤ 1000000) (hr_a281 : dz_rg a281 601 0 16777215) (hr_a282 : dz_rg a282 5 0 14425) : dz_T (f180_X10_ranksOpen fu a281 a282 v1 v2) (fun r => r.toInt ≤ 16777215 ∧ 0 ≤ r.toInt) := by
  unfold f180_X10_ranksOpen s180_X10_ranksOpen_0
  have e1 := dz_l0
  refine dz_Tlt (fun h2 => ?_) (fun h2 => ?_)
  · skip
    exact dz_Ts ⟨(by omega), (by omega)⟩
  · skip
    have e3 := dz_l4
    refine dz_Tle (fun h4 => ?_) (fun h4 => ?_)
    · skip
      exact dz_Ts ⟨(by omega), (by omega)⟩
    · skip
      refine dz_Tle (fun h5 => ?_) (fun h5 => ?_)
      · skip
        refine dz_Tin (by omega) (by omega) ?_
        have e6 := dz_l601
        have e7 := dz_rgat (hr_a282) (i := v1) (by omega) (by omega)
        have e8 := dz_add (a := (a282 v1.toNatClampNeg)) (b := v2) (by omega) (by omega)
        refine dz_Tle (fun h9 => ?_) (fun h9 => ?_)
        · skip
          exact dz_Ts ⟨(by omega), (by omega)⟩
        · skip
          refine dz_Tin (by omega) (by omega) ?_
          have e10 := dz_rgat (hr_a281) (i := ((a282 v1.toNatClampNeg) + v2)) (by omega) (by omega)
          exact dz_Ts ⟨(by omega), (by omega)⟩
      · skip
        exact dz_Ts ⟨(by omega), (by omega)⟩
abbrev p181_X4_firstOpen_s (fu : Nat) (κ : Nat) (c261_groups : Int32) (a264 : Nat → Int32) (a276 : Nat → Int32) (k : Nat) : Prop :=
  (∀ (v1 : Int32) (v2 : Int32) (v4 : Int32), v1.toInt ≤ 16777215 → 0 ≤ v1.toInt → v2.toInt ≤ 3 → 0 ≤ v2.toInt → v4.toInt ≤ 4 → 0 ≤ v4.toInt → v4.toInt ≤ c261_groups.toInt → 0 + 0 + (4 - v4.toInt) * 10 + 5 ≤ ((k : Nat) : Int) → dz_T ((F181_X4_firstOpen fu c261_groups a264 a276 k) v1 v2 v4) (fun r => r.toInt ≤ 16777215 ∧ 0 ≤ r.toInt))
set_option maxHeartbeats 1000000 in
set_option maxRecDepth 10000 in
theorem t181_X4_firstOpen_h1_s (fu : Nat) (hfu : 1000000000000 ≤ fu) (κ : Nat) (hκ : κ < 14) (c261_groups : Int32) (a264 : Nat → Int32) (a276 : Nat → Int32) (p0 : c261_groups.toInt ≤ 4) (p1 : 0 ≤ c261_groups.toInt) (hr_a264 : dz_rg a264 16 0 16777215) (hr_a276 : dz_rg a276 4 0 3) (o0 : c261_groups.toInt = ((dz_kg κ : Nat) : Int)) (k : Nat) (ih : ∀ j9, j9 < k → p181_X4_firstOpen_s fu κ c261_groups a264 a276 j9) : ∀ (v1 : Int32) (v2 : Int32) (v4 : Int32), v1.toInt ≤ 16777215 → 0 ≤ v1.toInt → v2.toInt ≤ 3 → 0 ≤ v2.toInt → v4.toInt ≤ 4 → 0 ≤ v4.toInt → v4.toInt ≤ c261_groups.toInt → 0 + 0 + (4 - v4.toInt) * 10 + 5 ≤ ((k : Nat) : Int) → dz_T ((F181_X4_firstOpen fu c261_groups a264 a276 k) v1 v2 v4) (fun r => r.toInt ≤ 16777215 ∧ 0 ≤ r.toInt) := by
  intro v1 v2 v4 i0 i1 i2 i3 i4 i5 i6 hm
  obtain ⟨k0, rfl⟩ : ∃ x, k = x + 1 := ⟨k - 1, by omega⟩
  show dz_T (s181_X4_firstOpen_1 fu c261_groups a264 a276 (F181_X4_firstOpen fu c261_groups a264 a276 k0)  v1 v2 v4) _
  unfold s181_X4_firstOpen_1
  refine dz_Tle (fun h1 => ?_) (fun h1 => ?_)
  · skip
    have e2 := dz_l0
    exact dz_Ts ⟨(by omega), (by omega)⟩
  · skip
    refine dz_Tin (by omega) (by omega) ?_
    have e3 := dz_l4
    have e4 := dz_mulr (a := v2) (b := (4 : Int32)) 4 (by omega) (by omega) (by omega)
    have e5 := dz_rgat (hr_a276) (i := v4) (by omega) (by omega)
    have e6 := dz_add (a := (v2 * (4 : Int32))) (b := (a276 v4.toNatClampNeg)) (by omega) (by omega)
    refine dz_Tin (by omega) (by omega) ?_
    have e7 := dz_rgat (hr_a264) (i := ((v2 * (4 : Int32)) + (a276 v4.toNatClampNeg))) (by omega) (by omega)
    have e8 := dz_andr (a := v1) (b := (a264 ((v2 * (4 : Int32)) + (a276 v4.toNatClampNeg)).toNatClampNeg)) (by omega)
    have e9 := dz_andl (a := v1) (b := (a264 ((v2 * (4 : Int32)) + (a276 v4.toNatClampNeg)).toNatClampNeg)) (by omega)
    have e10 := dz_l0
    refine dz_Teq (fun h11 => ?_) (fun h11 => ?_)
    · skip
      have e12 := dz_l1
      have e13 := dz_add (a := v4) (b := (1 : Int32)) (by omega) (by omega)
      exact (ih k0 (by omega)) v1 v2 (v4 + (1 : Int32)) i0 i1 i2 i3 (by omega) (by omega) (by omega) (by omega)
    · skip
      exact dz_Ts ⟨(by omega), (by omega)⟩
theorem t181_X4_firstOpen_I_s (fu : Nat) (hfu : 1000000000000 ≤ fu) (κ : Nat) (hκ : κ < 14) (c261_groups : Int32) (a264 : Nat → Int32) (a276 : Nat → Int32) (p0 : c261_groups.toInt ≤ 4) (p1 : 0 ≤ c261_groups.toInt) (hr_a264 : dz_rg a264 16 0 16777215) (hr_a276 : dz_rg a276 4 0 3) (o0 : c261_groups.toInt = ((dz_kg κ : Nat) : Int)) (k : Nat) : p181_X4_firstOpen_s fu κ c261_groups a264 a276 k := by
  induction k using Nat.strongRecOn with
  | _ k ih => exact t181_X4_firstOpen_h1_s fu hfu κ hκ c261_groups a264 a276 p0 p1 hr_a264 hr_a276 o0 k ih
set_option maxHeartbeats 1000000 in
set_option maxRecDepth 10000 in
theorem t181_X4_firstOpen_E_s (fu : Nat) (hfu : 1000000000000 ≤ fu) (κ : Nat) (hκ : κ < 14) (c261_groups : Int32) (a264 : Nat → Int32) (a276 : Nat → Int32) (v1 : Int32) (v2 : Int32) (p0 : c261_groups.toInt ≤ 4) (p1 : 0 ≤ c261_groups.toInt) (p2 : 0 ≤ v2.toInt) (p3 : v2.toInt ≤ 3) (p4 : 0 ≤ v1.toInt) (p5 : v1.toInt ≤ 16777215) (hr_a264 : dz_rg a264 16 0 16777215) (hr_a276 : dz_rg a276 4 0 3) (o0 : c261_groups.toInt = ((dz_kg κ : Nat) : Int)) (kv : Nat) (hkv : 1000000000000 ≤ kv) : dz_T (s181_X4_firstOpen_0 fu c261_groups a264 a276 (F181_X4_firstOpen fu c261_groups a264 a276 kv)  v1 v2) (fun r => r.toInt ≤ 16777215 ∧ 0 ≤ r.toInt) := by
  unfold s181_X4_firstOpen_0
  have e1 := dz_l0
  exact (t181_X4_firstOpen_I_s fu hfu κ hκ c261_groups a264 a276 p0 p1 hr_a264 hr_a276 o0 kv) v1 v2 (0 : Int32) p5 p4 p3 p2 (by omega) (by omega) (by omega) (by omega)
theorem t181_X4_firstOpen_s (fu : Nat) (hfu : 1000000000000 ≤ fu) (κ : Nat) (hκ : κ < 14) (c261_groups : Int32) (a264 : Nat → Int32) (a276 : Nat → Int32) (v1 : Int32) (v2 : Int32) (p0 : c261_groups.toInt ≤ 4) (p1 : 0 ≤ c261_groups.toInt) (p2 : 0 ≤ v2.toInt) (p3 : v2.toInt ≤ 3) (p4 : 0 ≤ v1.toInt) (p5 : v1.toInt ≤ 16777215) (hr_a264 : dz_rg a264 16 0 16777215) (hr_a276 : dz_rg a276 4 0 3) (o0 : c261_groups.toInt = ((dz_kg κ : Nat) : Int)) : dz_T (f181_X4_firstOpen fu c261_groups a264 a276 v1 v2) (fun r => r.toInt ≤ 16777215 ∧ 0 ≤ r.toInt) :=
  t181_X4_firstOpen_E_s fu hfu κ hκ c261_groups a264 a276 v1 v2 p0 p1 p2 p3 p4 p5 hr_a264 hr_a276 o0 fu hfu
set_option maxHeartbeats 1000000 in
set_option maxRecDepth 10000 in
theorem t182_X4_groupWith (fu : Nat) (hfu : 1000000000000 ≤ fu) (a262 : Nat → Int32) (v1 : Int32) (v2 : Int32) (p0 : 0 ≤ v2.toInt) (p1 : v2.toInt ≤ 3) (p2 : 0 ≤ v1.toInt) (p3 : v1.toInt ≤ 16777215) (hr_a262 : dz_rg a262 96 0 3) : dz_T (f182_X4_groupWith fu a262 v1 v2) (fun r => r.toInt ≤ 3 ∧ (-1) ≤ r.toInt ∧ r.toInt ≤ v1.toInt + 2) := by
  unfold f182_X4_groupWith s182_X4_groupWith_0
  have e1 := dz_l0
  refine dz_Teq (fun h2 => ?_) (fun h2 => ?_)
  · skip
    have e3 := dz_lm1
    exact dz_Ts ⟨(by omega), (by omega), (by omega)⟩
  · skip
    refine dz_Tb (t129_X4_only fu hfu _ 24 (by omega) (by omega) (by decide)) (fun r1 q => ?_)
    obtain ⟨q1_0, q1_1⟩ := q
    refine dz_Tb (t130_X4_groupAt fu hfu _ _ _ q1_1 q1_0 p0 p1 (hr_a262)) (fun r2 q => ?_)
    obtain ⟨q2_0, q2_1⟩ := q
    exact dz_Ts ⟨q2_0, (by first | assumption | omega), (by first | assumption | omega)⟩
set_option maxHeartbeats 1000000 in
set_option maxRecDepth 10000 in
theorem t183_X8_put (fu : Nat) (hfu : 1000000000000 ≤ fu) (v1 : Int32) (v2 : Int32) (c274_out : Int32) (a277 : Nat → Int32) (a278 : Nat → Int32) (p0 : c274_out.toInt ≤ 12) (p1 : 0 ≤ c274_out.toInt) (p2 : 0 ≤ v1.toInt) (p3 : v1.toInt ≤ 11) (p4 : 0 ≤ v2.toInt) (p5 : v2.toInt ≤ 3) (hr_a277 : dz_rg a277 12 (-1) 3) (hr_a278 : dz_rg a278 12 0 11) : dz_T (f183_X8_put fu v1 v2 c274_out a277 a278) (fun r => r.1.toInt ≤ 12 ∧ 1 ≤ r.1.toInt ∧ c274_out.toInt ≤ r.1.toInt ∧ r.1.toInt ≤ c274_out.toInt + 1 ∧ dz_rg r.2.1 12 (-1) 3 ∧ dz_rg r.2.2 12 0 11) := by
  unfold f183_X8_put s183_X8_put_0
  have e1 := dz_l12
  refine dz_Tle (fun h2 => ?_) (fun h2 => ?_)
  · skip
    refine dz_Ts ?_
    dsimp only
    exact ⟨p0, (by first | assumption | omega), (by first | assumption | omega), (by first | assumption | omega), (hr_a277), (hr_a278)⟩
  · skip
    refine dz_Tin (by omega) (by omega) ?_
    refine dz_Tin (by omega) (by omega) ?_
    have e3 := dz_l1
    have e4 := dz_add (a := c274_out) (b := (1 : Int32)) (by omega) (by omega)
    refine dz_Ts ?_
    dsimp only
    exact ⟨(by omega), (by omega), (by omega), (by omega), (dz_rgu (hr_a277) (by omega) (by omega)), (dz_rgu (hr_a278) (by omega) (by omega))⟩
set_option maxHeartbeats 1000000 in
set_option maxRecDepth 10000 in
theorem t184_X11_ball_s (fu : Nat) (hfu : 1000000000000 ≤ fu) (κ : Nat) (hκ : κ < 14) (c248_groups : Int32) (c248_pots : Int32) (c248_teams : Int32) (c261_groups : Int32) (c261_many : Int32) (c261_everyRank : Int32) (a262 : Nat → Int32) (a264 : Nat → Int32) (c267_total : Int32) (c267_lawfulOnes : Int32) (a268 : Nat → Int32) (a269 : Nat → Int32) (n269 : Nat) (a275 : Nat → Int32) (a276 : Nat → Int32) (v1 : Int32) (c274_out : Int32) (a277 : Nat → Int32) (a278 : Nat → Int32) (c280_fresh : Int32) (a281 : Nat → Int32) (a282 : Nat → Int32) (a283 : Nat → Int32) (c313_fresh : Int32) (c319_fresh : Int32) (c325_fresh : Int32) (p0 : c248_groups.toInt ≤ 4) (p1 : 2 ≤ c248_groups.toInt) (p2 : c248_pots.toInt ≤ 4) (p3 : 0 ≤ c248_pots.toInt) (p4 : c248_teams.toInt ≤ 12) (p5 : 0 ≤ c248_teams.toInt) (p6 : c261_groups.toInt ≤ 4) (p7 : 0 ≤ c261_groups.toInt) (p8 : c261_many.toInt ≤ 24) (p9 : 0 ≤ c261_many.toInt) (p10 : c261_everyRank.toInt ≤ 16777215) (p11 : 0 ≤ c261_everyRank.toInt) (p12 : c267_total.toInt ≤ 13824) (p13 : 1 ≤ c267_total.toInt) (p14 : c267_lawfulOnes.toInt ≤ 13824) (p15 : 0 ≤ c267_lawfulOnes.toInt) (p16 : ((n269 : Nat) : Int) ≤ 13824) (p17 : 1 ≤ ((n269 : Nat) : Int)) (p18 : c274_out.toInt ≤ 12) (p19 : 0 ≤ c274_out.toInt) (p20 : c280_fresh.toInt ≤ 1) (p21 : 0 ≤ c280_fresh.toInt) (p22 : c267_total.toInt ≤ ((n269 : Nat) : Int)) (p23 : c267_lawfulOnes.toInt ≤ c267_total.toInt) (p24 : c274_out.toInt ≤ c248_teams.toInt) (hr_a262 : dz_rg a262 96 0 3) (hr_a264 : dz_rg a264 16 0 16777215) (hr_a268 : dz_pt a268 (dz_kS κ)) (hr_a269 : dz_rg a269 n269 0 1023) (hr_a275 : dz_pm a275 (dz_kp κ)) (hr_a276 : dz_rg a276 4 0 3) (hr_a277 : dz_rg a277 12 (-1) 3) (hr_a278 : dz_rg a278 12 0 11) (hr_a281 : dz_rg a281 601 0 16777215) (hr_a282 : dz_rg a282 5 0 14425) (hr_a283 : (c280_fresh.toInt = 0 ∨ dz_pm a283 (dz_kp κ))) (o0 : c248_groups.toInt = ((dz_kg κ : Nat) : Int)) (o1 : c248_pots.toInt = ((dz_kp κ : Nat) : Int)) (o2 : c248_teams.toInt = ((dz_km κ : Nat) : Int)) (o3 : c261_groups.toInt = ((dz_kg κ : Nat) : Int)) (o4 : c261_many.toInt = ((dz_kr κ : Nat) : Int)) (o5 : c261_everyRank.toInt = ((dz_ke κ : Nat) : Int)) (o6 : c267_total.toInt = ((dz_kt κ : Nat) : Int)) (o7 : c274_out.toInt ≤ ((dz_km κ : Nat) : Int)) : dz_T (f184_X11_ball fu c248_groups c248_pots c248_teams c261_groups c261_many c261_everyRank a262 a264 c267_total c267_lawfulOnes a268 a269 n269 a275 a276 v1 c274_out a277 a278 c280_fresh a281 a282 a283 c313_fresh c319_fresh c325_fresh) (fun r => r.1.toInt ≤ 3 ∧ (-1) ≤ r.1.toInt ∧ r.2.1.toInt ≤ 12 ∧ 0 ≤ r.2.1.toInt ∧ r.2.2.2.2.1.toInt ≤ 1 ∧ 0 ≤ r.2.2.2.2.1.toInt ∧ c274_out.toInt ≤ r.2.1.toInt ∧ r.2.1.toInt ≤ c248_teams.toInt + 1 ∧ r.2.1.toInt ≤ c274_out.toInt + 1 ∧ r.1.toInt ≤ r.2.1.toInt + 2 ∧ r.1.toInt ≤ r.2.2.2.2.1.toInt + 2 ∧ r.1.toInt ≤ c248_teams.toInt + 2 ∧ r.1.toInt ≤ c267_lawfulOnes.toInt + 2 ∧ dz_rg r.2.2.1 12 (-1) 3 ∧ dz_rg r.2.2.2.1 12 0 11 ∧ dz_rg r.2.2.2.2.2.1 601 0 16777215 ∧ dz_rg r.2.2.2.2.2.2.1 5 0 14425 ∧ (r.2.2.2.2.1.toInt = 0 ∨ dz_pm r.2.2.2.2.2.2.2.1 (dz_kp κ))) := by
  unfold f184_X11_ball s184_X11_ball_0
  have hk4 := dz_kp4 hκ
  have hteam := dz_kteam hκ (o := v1) (g := c248_groups) (by omega)
  refine dz_Tbe (show f159_X11_isTeam fu c248_teams v1 = (if (v1 < (0 : Int32)) then (some (0 : Int32)) else (if (c248_teams ≤ v1) then (some (0 : Int32)) else (some (1 : Int32)))) from rfl) ?_
  have e1 := dz_l0
  refine dz_Tltb (fun h2 => ?_) (fun h2 => ?_)
  · skip
    refine dz_Tsb ?_
    refine dz_Teq (fun h3 => ?_) (fun h3 => ?_)
    · skip
      have e4 := dz_lm1
      refine dz_Ts ?_
      dsimp only
      exact ⟨(by omega), (by omega), p18, p19, p20, p21, (by first | assumption | omega), (by first | assumption | omega), (by first | assumption | omega), (by omega), (by omega), (by omega), (by omega), (hr_a277), (hr_a278), (hr_a281), (hr_a282), hr_a283⟩
    · skip
      exfalso; omega
  · skip
    refine dz_Tleb (fun h5 => ?_) (fun h5 => ?_)
    · skip
      refine dz_Tsb ?_
      refine dz_Teq (fun h6 => ?_) (fun h6 => ?_)
      · skip
        have e7 := dz_lm1
        refine dz_Ts ?_
        dsimp only
        exact ⟨(by omega), (by omega), p18, p19, p20, p21, (by first | assumption | omega), (by first | assumption | omega), (by first | assumption | omega), (by omega), (by omega), (by omega), (by omega), (hr_a277), (hr_a278), (hr_a281), (hr_a282), hr_a283⟩
      · skip
        exfalso; omega
    · skip
      refine dz_Tsb ?_
      have e8 := dz_l1
      refine dz_Teq (fun h9 => ?_) (fun h9 => ?_)
      · skip
        exfalso; omega
      · skip
        refine dz_Teq (fun h10 => ?_) (fun h10 => ?_)
        · skip
          have e11 := dz_lm1
          refine dz_Ts ?_
          dsimp only
          exact ⟨(by omega), (by omega), p18, p19, p20, p21, (by first | assumption | omega), (by first | assumption | omega), (by first | assumption | omega), (by omega), (by omega), (by omega), (by omega), (hr_a277), (hr_a278), (hr_a281), (hr_a282), hr_a283⟩
        · skip
          refine dz_Tin (by omega) (by omega) ?_
          have e12 := dz_rgat (hr_a277) (i := v1) (by omega) (by omega)
          have e13 := dz_lm1
          refine dz_Teq (fun h14 => ?_) (fun h14 => ?_)
          · skip
            refine dz_Tbe (show f160_X3_potOf fu c248_groups v1 = (if (c248_groups ≤ (0 : Int32)) then (some (0 : Int32)) else (if (¬ (c248_groups = (0 : Int32))) then (some (v1 / c248_groups)) else none)) from rfl) ?_
            refine dz_Tleb (fun h15 => ?_) (fun h15 => ?_)
            · skip
              exfalso; omega
            · skip
              refine dz_Tzb (by omega) ?_
              refine dz_Tsb ?_
              refine dz_Tb (t170_X8_potInTurn_s fu hfu κ hκ _ _ _ _ p0 p1 p4 p5 p18 p19 p24 (hr_a275) o0 o2 o7) (fun r3 q => ?_)
              obtain ⟨q3_0, q3_1, q3_2, qo3_0⟩ := q
              have e16 := dz_divq (a := v1) (b := c248_groups) 2 11 (by omega) (by omega) (by omega) (by omega)
              refine dz_Teq (fun h17 => ?_) (fun h17 => ?_)
              · skip
                refine dz_Tb (t175_X11_treeOfNow_s fu hfu κ hκ _ _ _ _ _ _ _ _ _ _ _ p2 p3 p8 p9 p12 p13 p16 p17 p20 p21 p22 (hr_a268) (hr_a269) (hr_a275) (hr_a281) (hr_a282) hr_a283 o1 o4 o6) (fun r4 q => ?_)
                obtain ⟨q4_0, q4_1, qa4_1, qa4_2, qa4_3⟩ := q
                refine dz_Tbe (show f169_X8_fullPots fu c248_groups c274_out = (Option.bind (f160_X3_potOf fu c248_groups c274_out) (fun b6 => (some b6))) from rfl) ?_
                refine dz_Tba ?_
                refine dz_Tbe (show f160_X3_potOf fu c248_groups c274_out = (if (c248_groups ≤ (0 : Int32)) then (some (0 : Int32)) else (if (¬ (c248_groups = (0 : Int32))) then (some (c274_out / c248_groups)) else none)) from rfl) ?_
                refine dz_Tleb (fun h18 => ?_) (fun h18 => ?_)
                · skip
                  exfalso; omega
                · skip
                  refine dz_Tzb (by omega) ?_
                  refine dz_Tsb ?_
                  refine dz_Tsb ?_
                  refine dz_Tb (t179_X8_prefix_s fu hfu κ hκ _ _ _ _ _ _ _ p0 p1 p8 p9 p10 p11 p18 p19 (hr_a264) (hr_a275) (hr_a277) o0 o4 o5 o7) (fun r8 q => ?_)
                  obtain ⟨q8_0, q8_1, qo8_0⟩ := q
                  have e19 := dz_divq (a := c274_out) (b := c248_groups) 2 12 (by omega) (by omega) (by omega) (by omega)
                  refine dz_Tb (t180_X10_ranksOpen fu hfu _ _ _ _ (by first | assumption | omega) (qa4_1) (qa4_2)) (fun r9 q => ?_)
                  obtain ⟨q9_0, q9_1⟩ := q
                  refine dz_Tb (t177_X8_ranksLeft_s fu hfu κ hκ _ _ _ _ _ p0 p1 p10 p11 (by omega) (by omega) (hr_a264) (hr_a277) (by first | assumption | omega) o0 o5) (fun r10 q => ?_)
                  obtain ⟨q10_0, q10_1, q10_2⟩ := q
                  refine dz_Tbe (show f161_X3_placeOf fu c248_groups v1 = (if (c248_groups ≤ (0 : Int32)) then (some (0 : Int32)) else (if (¬ (c248_groups = (0 : Int32))) then (some (dz_rem v1 c248_groups)) else none)) from rfl) ?_
                  refine dz_Tleb (fun h20 => ?_) (fun h20 => ?_)
                  · skip
                    exfalso; omega
                  · skip
                    refine dz_Tzb (by omega) ?_
                    refine dz_Tsb ?_
                    have e21 := dz_andr (a := r9) (b := r10) (by omega)
                    have e22 := dz_andl (a := r9) (b := r10) (by omega)
                    have e23 := dz_remv (a := v1) (b := c248_groups) (by omega) (by omega)
                    refine dz_Tb (t181_X4_firstOpen_s fu hfu κ hκ _ _ _ _ _ p6 p7 (by omega) (by omega) (by omega) (by omega) (hr_a264) (hr_a276) o3) (fun r12 q => ?_)
                    obtain ⟨q12_0, q12_1⟩ := q
                    refine dz_Tb (t182_X4_groupWith fu hfu _ _ _ (by omega) (by omega) q12_1 q12_0 (hr_a262)) (fun r13 q => ?_)
                    obtain ⟨q13_0, q13_1, q13_2⟩ := q
                    refine dz_Teq (fun h24 => ?_) (fun h24 => ?_)
                    · skip
                      refine dz_Ts ?_
                      dsimp only
                      exact ⟨q13_0, q13_1, p18, p19, q4_0, (by first | assumption | omega), (by first | assumption | omega), (by first | assumption | omega), (by first | assumption | omega), (by first | assumption | omega), (by first | assumption | omega), (by first | assumption | omega), (by first | assumption | omega), (hr_a277), (hr_a278), (qa4_1), (qa4_2), (Or.inr (qa4_3))⟩
                    · skip
                      refine dz_Tb (t183_X8_put fu hfu _ _ _ _ _ p18 p19 (by first | assumption | omega) (by first | assumption | omega) (by first | assumption | omega) q13_0 (hr_a277) (hr_a278)) (fun r14 q => ?_)
                      obtain ⟨q14_0, q14_1, q14_2, q14_3, qa14_1, qa14_2⟩ := q
                      refine dz_Tb (t148_X11_stageChanged fu hfu _ _ _ ) (fun r15 _ => ?_)
                      refine dz_Ts ?_
                      dsimp only
                      exact ⟨q13_0, q13_1, q14_0, (by first | assumption | omega), q4_0, (by first | assumption | omega), q14_2, (by first | assumption | omega), q14_3, (by first | assumption | omega), (by first | assumption | omega), (by first | assumption | omega), (by first | assumption | omega), (qa14_1), (qa14_2), (qa4_1), (qa4_2), (Or.inr (qa4_3))⟩
              · skip
                refine dz_Ts ?_
                dsimp only
                exact ⟨(by omega), (by omega), p18, p19, p20, p21, (by first | assumption | omega), (by first | assumption | omega), (by first | assumption | omega), (by omega), (by omega), (by omega), (by omega), (hr_a277), (hr_a278), (hr_a281), (hr_a282), hr_a283⟩
          · skip
            refine dz_Ts ?_
            dsimp only
            exact ⟨(by omega), (by omega), p18, p19, p20, p21, (by first | assumption | omega), (by first | assumption | omega), (by first | assumption | omega), (by omega), (by omega), (by omega), (by omega), (hr_a277), (hr_a278), (hr_a281), (hr_a282), hr_a283⟩
abbrev p187_X8_reason_g2 (fu : Nat) (c248_groups : Int32) (c274_out : Int32) (a276 : Nat → Int32) (a277 : Nat → Int32) (a278 : Nat → Int32) (k : Nat) : Prop :=
  (∀ (v1 : Int32) (v2 : Int32) (v3 : Int32) (v4 : Int32), 1 ≤ c274_out.toInt → v2.toInt ≤ 11 → 0 ≤ v2.toInt → v3.toInt ≤ 3 → (-1) ≤ v3.toInt → v4.toInt ≤ 2 → 0 ≤ v4.toInt → 0 + 49 + (2 - v4.toInt) * 14 + 7 ≤ ((k : Nat) : Int) → dz_T ((F187_X8_reason fu c248_groups c274_out a276 a277 a278 k).1 v1 v2 v3 v4) (fun r => r.toInt ≤ 3 ∧ (-1) ≤ r.toInt ∧ r.toInt ≤ c274_out.toInt + 2 ∧ c274_out.toInt ≤ r.toInt + 8)) ∧ (∀ (v1 : Int32) (v4 : Int32) (v5 : Int32), 1 ≤ c274_out.toInt → v4.toInt ≤ 10 → 0 ≤ v4.toInt → v5.toInt ≤ 2 → 0 ≤ v5.toInt → 0 + 0 + (2 - v5.toInt) * 14 + 7 ≤ ((k : Nat) : Int) → dz_T ((F187_X8_reason fu c248_groups c274_out a276 a277 a278 k).2.2 v1 v4 v5) (fun r => r.toInt ≤ 3 ∧ (-1) ≤ r.toInt ∧ r.toInt ≤ c274_out.toInt + 2 ∧ c274_out.toInt ≤ r.toInt + 8))
set_option maxHeartbeats 1000000 in
set_option maxRecDepth 10000 in
theorem t187_X8_reason_h1_g2 (fu : Nat) (hfu : 1000000000000 ≤ fu) (c248_groups : Int32) (c274_out : Int32) (a276 : Nat → Int32) (a277 : Nat → Int32) (a278 : Nat → Int32) (p0 : c248_groups.toInt ≤ 2) (p1 : 2 ≤ c248_groups.toInt) (p2 : c274_out.toInt ≤ 8) (p3 : 0 ≤ c274_out.toInt) (hr_a276 : dz_rg a276 4 0 3) (hr_a277 : dz_rg a277 12 (-1) 3) (hr_a278 : dz_rg a278 12 0 11) (k : Nat) (ih : ∀ j9, j9 < k → p187_X8_reason_g2 fu c248_groups c274_out a276 a277 a278 j9) : ∀ (v1 : Int32) (v2 : Int32) (v3 : Int32) (v4 : Int32), 1 ≤ c274_out.toInt → v2.toInt ≤ 11 → 0 ≤ v2.toInt → v3.toInt ≤ 3 → (-1) ≤ v3.toInt → v4.toInt ≤ 2 → 0 ≤ v4.toInt → 0 + 49 + (2 - v4.toInt) * 14 + 7 ≤ ((k : Nat) : Int) → dz_T ((F187_X8_reason fu c248_groups c274_out a276 a277 a278 k).1 v1 v2 v3 v4) (fun r => r.toInt ≤ 3 ∧ (-1) ≤ r.toInt ∧ r.toInt ≤ c274_out.toInt + 2 ∧ c274_out.toInt ≤ r.toInt + 8) := by
  intro v1 v2 v3 v4 i0 i1 i2 i3 i4 i5 i6 hm
  obtain ⟨k0, rfl⟩ : ∃ x, k = x + 1 := ⟨k - 1, by omega⟩
  show dz_T (s187_X8_reason_1 fu c248_groups c274_out a276 a277 a278 (F187_X8_reason fu c248_groups c274_out a276 a277 a278 k0).1 (F187_X8_reason fu c248_groups c274_out a276 a277 a278 k0).2.1  v1 v2 v3 v4) _
  unfold s187_X8_reason_1
  refine dz_Tle (fun h1 => ?_) (fun h1 => ?_)
  · skip
    obtain ⟨k1, rfl⟩ : ∃ x, k0 = x + 1 := ⟨k0 - 1, by omega⟩
    show dz_T (s187_X8_reason_2 fu c248_groups c274_out a276 a277 a278 (F187_X8_reason fu c248_groups c274_out a276 a277 a278 k1).2.2 v1 v2) _
    unfold s187_X8_reason_2
    refine dz_Tbe (show f160_X3_potOf fu c248_groups v2 = (if (c248_groups ≤ (0 : Int32)) then (some (0 : Int32)) else (if (¬ (c248_groups = (0 : Int32))) then (some (v2 / c248_groups)) else none)) from rfl) ?_
    have e2 := dz_l0
    refine dz_Tleb (fun h3 => ?_) (fun h3 => ?_)
    · skip
      exfalso; omega
    · skip
      refine dz_Tzb (by omega) ?_
      refine dz_Tsb ?_
      have e4 := dz_divn (a := v2) (b := c248_groups) 2 (by omega) (by omega) (by omega)
      have e5 := dz_mulr (a := (v2 / c248_groups)) (b := c248_groups) 2 (by omega) (by omega) (by omega)
      exact (ih k1 (by omega)).2 v1 ((v2 / c248_groups) * c248_groups) (0 : Int32) i0 (by omega) (by omega) (by omega) (by omega) (by omega)
  · skip
    refine dz_Tin (by omega) (by omega) ?_
    have e6 := dz_rgat (hr_a276) (i := v4) (by omega) (by omega)
    refine dz_Teq (fun h7 => ?_) (fun h7 => ?_)
    · skip
      have e8 := dz_l3
      exact dz_Ts ⟨(by omega), (by omega), (by omega), (by omega)⟩
    · skip
      refine dz_Tin (by omega) (by omega) ?_
      refine dz_Teq (fun h9 => ?_) (fun h9 => ?_)
      · skip
        obtain ⟨k2, rfl⟩ : ∃ x, k0 = x + 1 := ⟨k0 - 1, by omega⟩
        show dz_T (s187_X8_reason_2 fu c248_groups c274_out a276 a277 a278 (F187_X8_reason fu c248_groups c274_out a276 a277 a278 k2).2.2 v1 v2) _
        unfold s187_X8_reason_2
        refine dz_Tbe (show f160_X3_potOf fu c248_groups v2 = (if (c248_groups ≤ (0 : Int32)) then (some (0 : Int32)) else (if (¬ (c248_groups = (0 : Int32))) then (some (v2 / c248_groups)) else none)) from rfl) ?_
        have e10 := dz_l0
        refine dz_Tleb (fun h11 => ?_) (fun h11 => ?_)
        · skip
          exfalso; omega
        · skip
          refine dz_Tzb (by omega) ?_
          refine dz_Tsb ?_
          have e12 := dz_divn (a := v2) (b := c248_groups) 2 (by omega) (by omega) (by omega)
          have e13 := dz_mulr (a := (v2 / c248_groups)) (b := c248_groups) 2 (by omega) (by omega) (by omega)
          exact (ih k2 (by omega)).2 v1 ((v2 / c248_groups) * c248_groups) (0 : Int32) i0 (by omega) (by omega) (by omega) (by omega) (by omega)
      · skip
        have e14 := dz_l1
        have e15 := dz_add (a := v4) (b := (1 : Int32)) (by omega) (by omega)
        exact (ih k0 (by omega)).1 v1 v2 v3 (v4 + (1 : Int32)) i0 i1 i2 i3 i4 (by omega) (by omega) (by omega)
set_option maxHeartbeats 1000000 in
set_option maxRecDepth 10000 in
theorem t187_X8_reason_h3_g2 (fu : Nat) (hfu : 1000000000000 ≤ fu) (c248_groups : Int32) (c274_out : Int32) (a276 : Nat → Int32) (a277 : Nat → Int32) (a278 : Nat → Int32) (p0 : c248_groups.toInt ≤ 2) (p1 : 2 ≤ c248_groups.toInt) (p2 : c274_out.toInt ≤ 8) (p3 : 0 ≤ c274_out.toInt) (hr_a276 : dz_rg a276 4 0 3) (hr_a277 : dz_rg a277 12 (-1) 3) (hr_a278 : dz_rg a278 12 0 11) (k : Nat) (ih : ∀ j9, j9 < k → p187_X8_reason_g2 fu c248_groups c274_out a276 a277 a278 j9) : ∀ (v1 : Int32) (v4 : Int32) (v5 : Int32), 1 ≤ c274_out.toInt → v4.toInt ≤ 10 → 0 ≤ v4.toInt → v5.toInt ≤ 2 → 0 ≤ v5.toInt → 0 + 0 + (2 - v5.toInt) * 14 + 7 ≤ ((k : Nat) : Int) → dz_T ((F187_X8_reason fu c248_groups c274_out a276 a277 a278 k).2.2 v1 v4 v5) (fun r => r.toInt ≤ 3 ∧ (-1) ≤ r.toInt ∧ r.toInt ≤ c274_out.toInt + 2 ∧ c274_out.toInt ≤ r.toInt + 8) := by
  intro v1 v4 v5 i0 i1 i2 i3 i4 hm
  obtain ⟨k0, rfl⟩ : ∃ x, k = x + 1 := ⟨k - 1, by omega⟩
  show dz_T (s187_X8_reason_3 fu c248_groups c274_out a276 a277 a278 (F187_X8_reason fu c248_groups c274_out a276 a277 a278 k0).2.2  v1 v4 v5) _
  unfold s187_X8_reason_3
  refine dz_Tle (fun h1 => ?_) (fun h1 => ?_)
  · skip
    have e2 := dz_l2
    exact dz_Ts ⟨(by omega), (by omega), (by omega), (by omega)⟩
  · skip
    have e3 := dz_add (a := v4) (b := v5) (by omega) (by omega)
    refine dz_Tin (by omega) (by omega) ?_
    have e4 := dz_rgat (hr_a277) (i := (v4 + v5)) (by omega) (by omega)
    refine dz_Teq (fun h5 => ?_) (fun h5 => ?_)
    · skip
      have e6 := dz_l1
      exact dz_Ts ⟨(by omega), (by omega), (by omega), (by omega)⟩
    · skip
      have e7 := dz_l1
      have e8 := dz_add (a := v5) (b := (1 : Int32)) (by omega) (by omega)
      exact (ih k0 (by omega)).2 v1 v4 (v5 + (1 : Int32)) i0 i1 i2 (by omega) (by omega) (by omega)
theorem t187_X8_reason_I_g2 (fu : Nat) (hfu : 1000000000000 ≤ fu) (c248_groups : Int32) (c274_out : Int32) (a276 : Nat → Int32) (a277 : Nat → Int32) (a278 : Nat → Int32) (p0 : c248_groups.toInt ≤ 2) (p1 : 2 ≤ c248_groups.toInt) (p2 : c274_out.toInt ≤ 8) (p3 : 0 ≤ c274_out.toInt) (hr_a276 : dz_rg a276 4 0 3) (hr_a277 : dz_rg a277 12 (-1) 3) (hr_a278 : dz_rg a278 12 0 11) (k : Nat) : p187_X8_reason_g2 fu c248_groups c274_out a276 a277 a278 k := by
  induction k using Nat.strongRecOn with
  | _ k ih => exact ⟨t187_X8_reason_h1_g2 fu hfu c248_groups c274_out a276 a277 a278 p0 p1 p2 p3 hr_a276 hr_a277 hr_a278 k ih, t187_X8_reason_h3_g2 fu hfu c248_groups c274_out a276 a277 a278 p0 p1 p2 p3 hr_a276 hr_a277 hr_a278 k ih⟩
set_option maxHeartbeats 1000000 in
set_option maxRecDepth 10000 in
theorem t187_X8_reason_E_g2 (fu : Nat) (hfu : 1000000000000 ≤ fu) (c248_groups : Int32) (c274_out : Int32) (a276 : Nat → Int32) (a277 : Nat → Int32) (a278 : Nat → Int32) (v1 : Int32) (p0 : c248_groups.toInt ≤ 2) (p1 : 2 ≤ c248_groups.toInt) (p2 : c274_out.toInt ≤ 8) (p3 : 0 ≤ c274_out.toInt) (hr_a276 : dz_rg a276 4 0 3) (hr_a277 : dz_rg a277 12 (-1) 3) (hr_a278 : dz_rg a278 12 0 11) (kv : Nat) (hkv : 1000000000000 ≤ kv) : dz_T (s187_X8_reason_0 fu c248_groups c274_out a276 a277 a278 (F187_X8_reason fu c248_groups c274_out a276 a277 a278 kv).1  v1) (fun r => r.toInt ≤ 3 ∧ (-1) ≤ r.toInt ∧ r.toInt ≤ c274_out.toInt + 2 ∧ c274_out.toInt ≤ r.toInt + 8) := by
  unfold s187_X8_reason_0
  have e1 := dz_l0
  refine dz_Teq (fun h2 => ?_) (fun h2 => ?_)
  · skip
    have e3 := dz_lm1
    exact dz_Ts ⟨(by omega), (by omega), (by omega), (by omega)⟩
  · skip
    refine dz_Tbe (show f186_X8_latest fu c274_out a278 = (if (c274_out ≤ (0 : Int32)) then (some (-(1 : Int32))) else (if dz_in (c274_out - (1 : Int32)) 12 then (some (a278 (c274_out - (1 : Int32)).toNatClampNeg)) else none)) from rfl) ?_
    refine dz_Tleb (fun h4 => ?_) (fun h4 => ?_)
    · skip
      exfalso; omega
    · skip
      have e5 := dz_l1
      have e6 := dz_sub (a := c274_out) (b := (1 : Int32)) (by omega) (by omega)
      refine dz_Tinb (by omega) (by omega) ?_
      refine dz_Tsb ?_
      have e7 := dz_rgat (hr_a278) (i := (c274_out - (1 : Int32))) (by omega) (by omega)
      refine dz_Tin (by omega) (by omega) ?_
      have e8 := dz_rgat (hr_a277) (i := (a278 (c274_out - (1 : Int32)).toNatClampNeg)) (by omega) (by omega)
      refine dz_Teq (fun h9 => ?_) (fun h9 => ?_)
      · skip
        exact dz_Ts ⟨(by omega), (by omega), (by omega), (by omega)⟩
      · skip
        exact (t187_X8_reason_I_g2 fu hfu c248_groups c274_out a276 a277 a278 p0 p1 p2 p3 hr_a276 hr_a277 hr_a278 kv).1 v1 (a278 (c274_out - (1 : Int32)).toNatClampNeg) (a277 (a278 (c274_out - (1 : Int32)).toNatClampNeg).toNatClampNeg) (0 : Int32) (by first | assumption | omega) (by omega) (by omega) (by omega) (by omega) (by omega) (by omega) (by omega)
theorem t187_X8_reason_g2 (fu : Nat) (hfu : 1000000000000 ≤ fu) (c248_groups : Int32) (c274_out : Int32) (a276 : Nat → Int32) (a277 : Nat → Int32) (a278 : Nat → Int32) (v1 : Int32) (p0 : c248_groups.toInt ≤ 2) (p1 : 2 ≤ c248_groups.toInt) (p2 : c274_out.toInt ≤ 8) (p3 : 0 ≤ c274_out.toInt) (hr_a276 : dz_rg a276 4 0 3) (hr_a277 : dz_rg a277 12 (-1) 3) (hr_a278 : dz_rg a278 12 0 11) : dz_T (f187_X8_reason fu c248_groups c274_out a276 a277 a278 v1) (fun r => r.toInt ≤ 3 ∧ (-1) ≤ r.toInt ∧ r.toInt ≤ c274_out.toInt + 2 ∧ c274_out.toInt ≤ r.toInt + 8) :=
  t187_X8_reason_E_g2 fu hfu c248_groups c274_out a276 a277 a278 v1 p0 p1 p2 p3 hr_a276 hr_a277 hr_a278 fu hfu
abbrev p187_X8_reason_g3 (fu : Nat) (c248_groups : Int32) (c274_out : Int32) (a276 : Nat → Int32) (a277 : Nat → Int32) (a278 : Nat → Int32) (k : Nat) : Prop :=
  (∀ (v1 : Int32) (v2 : Int32) (v3 : Int32) (v4 : Int32), 1 ≤ c274_out.toInt → v2.toInt ≤ 11 → 0 ≤ v2.toInt → v3.toInt ≤ 3 → (-1) ≤ v3.toInt → v4.toInt ≤ 3 → 0 ≤ v4.toInt → 0 + 63 + (3 - v4.toInt) * 14 + 7 ≤ ((k : Nat) : Int) → dz_T ((F187_X8_reason fu c248_groups c274_out a276 a277 a278 k).1 v1 v2 v3 v4) (fun r => r.toInt ≤ 3 ∧ (-1) ≤ r.toInt ∧ r.toInt ≤ c274_out.toInt + 2 ∧ c274_out.toInt ≤ r.toInt + 12)) ∧ (∀ (v1 : Int32) (v4 : Int32) (v5 : Int32), 1 ≤ c274_out.toInt → v4.toInt ≤ 9 → 0 ≤ v4.toInt → v5.toInt ≤ 3 → 0 ≤ v5.toInt → 0 + 0 + (3 - v5.toInt) * 14 + 7 ≤ ((k : Nat) : Int) → dz_T ((F187_X8_reason fu c248_groups c274_out a276 a277 a278 k).2.2 v1 v4 v5) (fun r => r.toInt ≤ 3 ∧ (-1) ≤ r.toInt ∧ r.toInt ≤ c274_out.toInt + 2 ∧ c274_out.toInt ≤ r.toInt + 12))
set_option maxHeartbeats 1000000 in
set_option maxRecDepth 10000 in
theorem t187_X8_reason_h1_g3 (fu : Nat) (hfu : 1000000000000 ≤ fu) (c248_groups : Int32) (c274_out : Int32) (a276 : Nat → Int32) (a277 : Nat → Int32) (a278 : Nat → Int32) (p0 : c248_groups.toInt ≤ 3) (p1 : 3 ≤ c248_groups.toInt) (p2 : c274_out.toInt ≤ 12) (p3 : 0 ≤ c274_out.toInt) (hr_a276 : dz_rg a276 4 0 3) (hr_a277 : dz_rg a277 12 (-1) 3) (hr_a278 : dz_rg a278 12 0 11) (k : Nat) (ih : ∀ j9, j9 < k → p187_X8_reason_g3 fu c248_groups c274_out a276 a277 a278 j9) : ∀ (v1 : Int32) (v2 : Int32) (v3 : Int32) (v4 : Int32), 1 ≤ c274_out.toInt → v2.toInt ≤ 11 → 0 ≤ v2.toInt → v3.toInt ≤ 3 → (-1) ≤ v3.toInt → v4.toInt ≤ 3 → 0 ≤ v4.toInt → 0 + 63 + (3 - v4.toInt) * 14 + 7 ≤ ((k : Nat) : Int) → dz_T ((F187_X8_reason fu c248_groups c274_out a276 a277 a278 k).1 v1 v2 v3 v4) (fun r => r.toInt ≤ 3 ∧ (-1) ≤ r.toInt ∧ r.toInt ≤ c274_out.toInt + 2 ∧ c274_out.toInt ≤ r.toInt + 12) := by
  intro v1 v2 v3 v4 i0 i1 i2 i3 i4 i5 i6 hm
  obtain ⟨k0, rfl⟩ : ∃ x, k = x + 1 := ⟨k - 1, by omega⟩
  show dz_T (s187_X8_reason_1 fu c248_groups c274_out a276 a277 a278 (F187_X8_reason fu c248_groups c274_out a276 a277 a278 k0).1 (F187_X8_reason fu c248_groups c274_out a276 a277 a278 k0).2.1  v1 v2 v3 v4) _
  unfold s187_X8_reason_1
  refine dz_Tle (fun h1 => ?_) (fun h1 => ?_)
  · skip
    obtain ⟨k1, rfl⟩ : ∃ x, k0 = x + 1 := ⟨k0 - 1, by omega⟩
    show dz_T (s187_X8_reason_2 fu c248_groups c274_out a276 a277 a278 (F187_X8_reason fu c248_groups c274_out a276 a277 a278 k1).2.2 v1 v2) _
    unfold s187_X8_reason_2
    refine dz_Tbe (show f160_X3_potOf fu c248_groups v2 = (if (c248_groups ≤ (0 : Int32)) then (some (0 : Int32)) else (if (¬ (c248_groups = (0 : Int32))) then (some (v2 / c248_groups)) else none)) from rfl) ?_
    have e2 := dz_l0
    refine dz_Tleb (fun h3 => ?_) (fun h3 => ?_)
    · skip
      exfalso; omega
    · skip
      refine dz_Tzb (by omega) ?_
      refine dz_Tsb ?_
      have e4 := dz_divn (a := v2) (b := c248_groups) 3 (by omega) (by omega) (by omega)
      have e5 := dz_mulr (a := (v2 / c248_groups)) (b := c248_groups) 3 (by omega) (by omega) (by omega)
      exact (ih k1 (by omega)).2 v1 ((v2 / c248_groups) * c248_groups) (0 : Int32) i0 (by omega) (by omega) (by omega) (by omega) (by omega)
  · skip
    refine dz_Tin (by omega) (by omega) ?_
    have e6 := dz_rgat (hr_a276) (i := v4) (by omega) (by omega)
    refine dz_Teq (fun h7 => ?_) (fun h7 => ?_)
    · skip
      have e8 := dz_l3
      exact dz_Ts ⟨(by omega), (by omega), (by omega), (by omega)⟩
    · skip
      refine dz_Tin (by omega) (by omega) ?_
      refine dz_Teq (fun h9 => ?_) (fun h9 => ?_)
      · skip
        obtain ⟨k2, rfl⟩ : ∃ x, k0 = x + 1 := ⟨k0 - 1, by omega⟩
        show dz_T (s187_X8_reason_2 fu c248_groups c274_out a276 a277 a278 (F187_X8_reason fu c248_groups c274_out a276 a277 a278 k2).2.2 v1 v2) _
        unfold s187_X8_reason_2
        refine dz_Tbe (show f160_X3_potOf fu c248_groups v2 = (if (c248_groups ≤ (0 : Int32)) then (some (0 : Int32)) else (if (¬ (c248_groups = (0 : Int32))) then (some (v2 / c248_groups)) else none)) from rfl) ?_
        have e10 := dz_l0
        refine dz_Tleb (fun h11 => ?_) (fun h11 => ?_)
        · skip
          exfalso; omega
        · skip
          refine dz_Tzb (by omega) ?_
          refine dz_Tsb ?_
          have e12 := dz_divn (a := v2) (b := c248_groups) 3 (by omega) (by omega) (by omega)
          have e13 := dz_mulr (a := (v2 / c248_groups)) (b := c248_groups) 3 (by omega) (by omega) (by omega)
          exact (ih k2 (by omega)).2 v1 ((v2 / c248_groups) * c248_groups) (0 : Int32) i0 (by omega) (by omega) (by omega) (by omega) (by omega)
      · skip
        have e14 := dz_l1
        have e15 := dz_add (a := v4) (b := (1 : Int32)) (by omega) (by omega)
        exact (ih k0 (by omega)).1 v1 v2 v3 (v4 + (1 : Int32)) i0 i1 i2 i3 i4 (by omega) (by omega) (by omega)
set_option maxHeartbeats 1000000 in
set_option maxRecDepth 10000 in
theorem t187_X8_reason_h3_g3 (fu : Nat) (hfu : 1000000000000 ≤ fu) (c248_groups : Int32) (c274_out : Int32) (a276 : Nat → Int32) (a277 : Nat → Int32) (a278 : Nat → Int32) (p0 : c248_groups.toInt ≤ 3) (p1 : 3 ≤ c248_groups.toInt) (p2 : c274_out.toInt ≤ 12) (p3 : 0 ≤ c274_out.toInt) (hr_a276 : dz_rg a276 4 0 3) (hr_a277 : dz_rg a277 12 (-1) 3) (hr_a278 : dz_rg a278 12 0 11) (k : Nat) (ih : ∀ j9, j9 < k → p187_X8_reason_g3 fu c248_groups c274_out a276 a277 a278 j9) : ∀ (v1 : Int32) (v4 : Int32) (v5 : Int32), 1 ≤ c274_out.toInt → v4.toInt ≤ 9 → 0 ≤ v4.toInt → v5.toInt ≤ 3 → 0 ≤ v5.toInt → 0 + 0 + (3 - v5.toInt) * 14 + 7 ≤ ((k : Nat) : Int) → dz_T ((F187_X8_reason fu c248_groups c274_out a276 a277 a278 k).2.2 v1 v4 v5) (fun r => r.toInt ≤ 3 ∧ (-1) ≤ r.toInt ∧ r.toInt ≤ c274_out.toInt + 2 ∧ c274_out.toInt ≤ r.toInt + 12) := by
  intro v1 v4 v5 i0 i1 i2 i3 i4 hm
  obtain ⟨k0, rfl⟩ : ∃ x, k = x + 1 := ⟨k - 1, by omega⟩
  show dz_T (s187_X8_reason_3 fu c248_groups c274_out a276 a277 a278 (F187_X8_reason fu c248_groups c274_out a276 a277 a278 k0).2.2  v1 v4 v5) _
  unfold s187_X8_reason_3
  refine dz_Tle (fun h1 => ?_) (fun h1 => ?_)
  · skip
    have e2 := dz_l2
    exact dz_Ts ⟨(by omega), (by omega), (by omega), (by omega)⟩
  · skip
    have e3 := dz_add (a := v4) (b := v5) (by omega) (by omega)
    refine dz_Tin (by omega) (by omega) ?_
    have e4 := dz_rgat (hr_a277) (i := (v4 + v5)) (by omega) (by omega)
    refine dz_Teq (fun h5 => ?_) (fun h5 => ?_)
    · skip
      have e6 := dz_l1
      exact dz_Ts ⟨(by omega), (by omega), (by omega), (by omega)⟩
    · skip
      have e7 := dz_l1
      have e8 := dz_add (a := v5) (b := (1 : Int32)) (by omega) (by omega)
      exact (ih k0 (by omega)).2 v1 v4 (v5 + (1 : Int32)) i0 i1 i2 (by omega) (by omega) (by omega)
theorem t187_X8_reason_I_g3 (fu : Nat) (hfu : 1000000000000 ≤ fu) (c248_groups : Int32) (c274_out : Int32) (a276 : Nat → Int32) (a277 : Nat → Int32) (a278 : Nat → Int32) (p0 : c248_groups.toInt ≤ 3) (p1 : 3 ≤ c248_groups.toInt) (p2 : c274_out.toInt ≤ 12) (p3 : 0 ≤ c274_out.toInt) (hr_a276 : dz_rg a276 4 0 3) (hr_a277 : dz_rg a277 12 (-1) 3) (hr_a278 : dz_rg a278 12 0 11) (k : Nat) : p187_X8_reason_g3 fu c248_groups c274_out a276 a277 a278 k := by
  induction k using Nat.strongRecOn with
  | _ k ih => exact ⟨t187_X8_reason_h1_g3 fu hfu c248_groups c274_out a276 a277 a278 p0 p1 p2 p3 hr_a276 hr_a277 hr_a278 k ih, t187_X8_reason_h3_g3 fu hfu c248_groups c274_out a276 a277 a278 p0 p1 p2 p3 hr_a276 hr_a277 hr_a278 k ih⟩
set_option maxHeartbeats 1000000 in
set_option maxRecDepth 10000 in
theorem t187_X8_reason_E_g3 (fu : Nat) (hfu : 1000000000000 ≤ fu) (c248_groups : Int32) (c274_out : Int32) (a276 : Nat → Int32) (a277 : Nat → Int32) (a278 : Nat → Int32) (v1 : Int32) (p0 : c248_groups.toInt ≤ 3) (p1 : 3 ≤ c248_groups.toInt) (p2 : c274_out.toInt ≤ 12) (p3 : 0 ≤ c274_out.toInt) (hr_a276 : dz_rg a276 4 0 3) (hr_a277 : dz_rg a277 12 (-1) 3) (hr_a278 : dz_rg a278 12 0 11) (kv : Nat) (hkv : 1000000000000 ≤ kv) : dz_T (s187_X8_reason_0 fu c248_groups c274_out a276 a277 a278 (F187_X8_reason fu c248_groups c274_out a276 a277 a278 kv).1  v1) (fun r => r.toInt ≤ 3 ∧ (-1) ≤ r.toInt ∧ r.toInt ≤ c274_out.toInt + 2 ∧ c274_out.toInt ≤ r.toInt + 12) := by
  unfold s187_X8_reason_0
  have e1 := dz_l0
  refine dz_Teq (fun h2 => ?_) (fun h2 => ?_)
  · skip
    have e3 := dz_lm1
    exact dz_Ts ⟨(by omega), (by omega), (by omega), (by omega)⟩
  · skip
    refine dz_Tbe (show f186_X8_latest fu c274_out a278 = (if (c274_out ≤ (0 : Int32)) then (some (-(1 : Int32))) else (if dz_in (c274_out - (1 : Int32)) 12 then (some (a278 (c274_out - (1 : Int32)).toNatClampNeg)) else none)) from rfl) ?_
    refine dz_Tleb (fun h4 => ?_) (fun h4 => ?_)
    · skip
      exfalso; omega
    · skip
      have e5 := dz_l1
      have e6 := dz_sub (a := c274_out) (b := (1 : Int32)) (by omega) (by omega)
      refine dz_Tinb (by omega) (by omega) ?_
      refine dz_Tsb ?_
      have e7 := dz_rgat (hr_a278) (i := (c274_out - (1 : Int32))) (by omega) (by omega)
      refine dz_Tin (by omega) (by omega) ?_
      have e8 := dz_rgat (hr_a277) (i := (a278 (c274_out - (1 : Int32)).toNatClampNeg)) (by omega) (by omega)
      refine dz_Teq (fun h9 => ?_) (fun h9 => ?_)
      · skip
        exact dz_Ts ⟨(by omega), (by omega), (by omega), (by omega)⟩
      · skip
        exact (t187_X8_reason_I_g3 fu hfu c248_groups c274_out a276 a277 a278 p0 p1 p2 p3 hr_a276 hr_a277 hr_a278 kv).1 v1 (a278 (c274_out - (1 : Int32)).toNatClampNeg) (a277 (a278 (c274_out - (1 : Int32)).toNatClampNeg).toNatClampNeg) (0 : Int32) (by first | assumption | omega) (by omega) (by omega) (by omega) (by omega) (by omega) (by omega) (by omega)
theorem t187_X8_reason_g3 (fu : Nat) (hfu : 1000000000000 ≤ fu) (c248_groups : Int32) (c274_out : Int32) (a276 : Nat → Int32) (a277 : Nat → Int32) (a278 : Nat → Int32) (v1 : Int32) (p0 : c248_groups.toInt ≤ 3) (p1 : 3 ≤ c248_groups.toInt) (p2 : c274_out.toInt ≤ 12) (p3 : 0 ≤ c274_out.toInt) (hr_a276 : dz_rg a276 4 0 3) (hr_a277 : dz_rg a277 12 (-1) 3) (hr_a278 : dz_rg a278 12 0 11) : dz_T (f187_X8_reason fu c248_groups c274_out a276 a277 a278 v1) (fun r => r.toInt ≤ 3 ∧ (-1) ≤ r.toInt ∧ r.toInt ≤ c274_out.toInt + 2 ∧ c274_out.toInt ≤ r.toInt + 12) :=
  t187_X8_reason_E_g3 fu hfu c248_groups c274_out a276 a277 a278 v1 p0 p1 p2 p3 hr_a276 hr_a277 hr_a278 fu hfu
abbrev p187_X8_reason_g4 (fu : Nat) (c248_groups : Int32) (c274_out : Int32) (a276 : Nat → Int32) (a277 : Nat → Int32) (a278 : Nat → Int32) (k : Nat) : Prop :=
  (∀ (v1 : Int32) (v2 : Int32) (v3 : Int32) (v4 : Int32), 1 ≤ c274_out.toInt → v2.toInt ≤ 11 → 0 ≤ v2.toInt → v3.toInt ≤ 3 → (-1) ≤ v3.toInt → v4.toInt ≤ 4 → 0 ≤ v4.toInt → 0 + 77 + (4 - v4.toInt) * 14 + 7 ≤ ((k : Nat) : Int) → dz_T ((F187_X8_reason fu c248_groups c274_out a276 a277 a278 k).1 v1 v2 v3 v4) (fun r => r.toInt ≤ 3 ∧ (-1) ≤ r.toInt ∧ r.toInt ≤ c274_out.toInt + 2 ∧ c274_out.toInt ≤ r.toInt + 12)) ∧ (∀ (v1 : Int32) (v4 : Int32) (v5 : Int32), 1 ≤ c274_out.toInt → v4.toInt ≤ 8 → 0 ≤ v4.toInt → v5.toInt ≤ 4 → 0 ≤ v5.toInt → 0 + 0 + (4 - v5.toInt) * 14 + 7 ≤ ((k : Nat) : Int) → dz_T ((F187_X8_reason fu c248_groups c274_out a276 a277 a278 k).2.2 v1 v4 v5) (fun r => r.toInt ≤ 3 ∧ (-1) ≤ r.toInt ∧ r.toInt ≤ c274_out.toInt + 2 ∧ c274_out.toInt ≤ r.toInt + 12))
set_option maxHeartbeats 1000000 in
set_option maxRecDepth 10000 in
theorem t187_X8_reason_h1_g4 (fu : Nat) (hfu : 1000000000000 ≤ fu) (c248_groups : Int32) (c274_out : Int32) (a276 : Nat → Int32) (a277 : Nat → Int32) (a278 : Nat → Int32) (p0 : c248_groups.toInt ≤ 4) (p1 : 4 ≤ c248_groups.toInt) (p2 : c274_out.toInt ≤ 12) (p3 : 0 ≤ c274_out.toInt) (hr_a276 : dz_rg a276 4 0 3) (hr_a277 : dz_rg a277 12 (-1) 3) (hr_a278 : dz_rg a278 12 0 11) (k : Nat) (ih : ∀ j9, j9 < k → p187_X8_reason_g4 fu c248_groups c274_out a276 a277 a278 j9) : ∀ (v1 : Int32) (v2 : Int32) (v3 : Int32) (v4 : Int32), 1 ≤ c274_out.toInt → v2.toInt ≤ 11 → 0 ≤ v2.toInt → v3.toInt ≤ 3 → (-1) ≤ v3.toInt → v4.toInt ≤ 4 → 0 ≤ v4.toInt → 0 + 77 + (4 - v4.toInt) * 14 + 7 ≤ ((k : Nat) : Int) → dz_T ((F187_X8_reason fu c248_groups c274_out a276 a277 a278 k).1 v1 v2 v3 v4) (fun r => r.toInt ≤ 3 ∧ (-1) ≤ r.toInt ∧ r.toInt ≤ c274_out.toInt + 2 ∧ c274_out.toInt ≤ r.toInt + 12) := by
  intro v1 v2 v3 v4 i0 i1 i2 i3 i4 i5 i6 hm
  obtain ⟨k0, rfl⟩ : ∃ x, k = x + 1 := ⟨k - 1, by omega⟩
  show dz_T (s187_X8_reason_1 fu c248_groups c274_out a276 a277 a278 (F187_X8_reason fu c248_groups c274_out a276 a277 a278 k0).1 (F187_X8_reason fu c248_groups c274_out a276 a277 a278 k0).2.1  v1 v2 v3 v4) _
  unfold s187_X8_reason_1
  refine dz_Tle (fun h1 => ?_) (fun h1 => ?_)
  · skip
    obtain ⟨k1, rfl⟩ : ∃ x, k0 = x + 1 := ⟨k0 - 1, by omega⟩
    show dz_T (s187_X8_reason_2 fu c248_groups c274_out a276 a277 a278 (F187_X8_reason fu c248_groups c274_out a276 a277 a278 k1).2.2 v1 v2) _
    unfold s187_X8_reason_2
    refine dz_Tbe (show f160_X3_potOf fu c248_groups v2 = (if (c248_groups ≤ (0 : Int32)) then (some (0 : Int32)) else (if (¬ (c248_groups = (0 : Int32))) then (some (v2 / c248_groups)) else none)) from rfl) ?_
    have e2 := dz_l0
    refine dz_Tleb (fun h3 => ?_) (fun h3 => ?_)
    · skip
      exfalso; omega
    · skip
      refine dz_Tzb (by omega) ?_
      refine dz_Tsb ?_
      have e4 := dz_divn (a := v2) (b := c248_groups) 4 (by omega) (by omega) (by omega)
      have e5 := dz_mulr (a := (v2 / c248_groups)) (b := c248_groups) 4 (by omega) (by omega) (by omega)
      exact (ih k1 (by omega)).2 v1 ((v2 / c248_groups) * c248_groups) (0 : Int32) i0 (by omega) (by omega) (by omega) (by omega) (by omega)
  · skip
    refine dz_Tin (by omega) (by omega) ?_
    have e6 := dz_rgat (hr_a276) (i := v4) (by omega) (by omega)
    refine dz_Teq (fun h7 => ?_) (fun h7 => ?_)
    · skip
      have e8 := dz_l3
      exact dz_Ts ⟨(by omega), (by omega), (by omega), (by omega)⟩
    · skip
      refine dz_Tin (by omega) (by omega) ?_
      refine dz_Teq (fun h9 => ?_) (fun h9 => ?_)
      · skip
        obtain ⟨k2, rfl⟩ : ∃ x, k0 = x + 1 := ⟨k0 - 1, by omega⟩
        show dz_T (s187_X8_reason_2 fu c248_groups c274_out a276 a277 a278 (F187_X8_reason fu c248_groups c274_out a276 a277 a278 k2).2.2 v1 v2) _
        unfold s187_X8_reason_2
        refine dz_Tbe (show f160_X3_potOf fu c248_groups v2 = (if (c248_groups ≤ (0 : Int32)) then (some (0 : Int32)) else (if (¬ (c248_groups = (0 : Int32))) then (some (v2 / c248_groups)) else none)) from rfl) ?_
        have e10 := dz_l0
        refine dz_Tleb (fun h11 => ?_) (fun h11 => ?_)
        · skip
          exfalso; omega
        · skip
          refine dz_Tzb (by omega) ?_
          refine dz_Tsb ?_
          have e12 := dz_divn (a := v2) (b := c248_groups) 4 (by omega) (by omega) (by omega)
          have e13 := dz_mulr (a := (v2 / c248_groups)) (b := c248_groups) 4 (by omega) (by omega) (by omega)
          exact (ih k2 (by omega)).2 v1 ((v2 / c248_groups) * c248_groups) (0 : Int32) i0 (by omega) (by omega) (by omega) (by omega) (by omega)
      · skip
        have e14 := dz_l1
        have e15 := dz_add (a := v4) (b := (1 : Int32)) (by omega) (by omega)
        exact (ih k0 (by omega)).1 v1 v2 v3 (v4 + (1 : Int32)) i0 i1 i2 i3 i4 (by omega) (by omega) (by omega)
set_option maxHeartbeats 1000000 in
set_option maxRecDepth 10000 in
theorem t187_X8_reason_h3_g4 (fu : Nat) (hfu : 1000000000000 ≤ fu) (c248_groups : Int32) (c274_out : Int32) (a276 : Nat → Int32) (a277 : Nat → Int32) (a278 : Nat → Int32) (p0 : c248_groups.toInt ≤ 4) (p1 : 4 ≤ c248_groups.toInt) (p2 : c274_out.toInt ≤ 12) (p3 : 0 ≤ c274_out.toInt) (hr_a276 : dz_rg a276 4 0 3) (hr_a277 : dz_rg a277 12 (-1) 3) (hr_a278 : dz_rg a278 12 0 11) (k : Nat) (ih : ∀ j9, j9 < k → p187_X8_reason_g4 fu c248_groups c274_out a276 a277 a278 j9) : ∀ (v1 : Int32) (v4 : Int32) (v5 : Int32), 1 ≤ c274_out.toInt → v4.toInt ≤ 8 → 0 ≤ v4.toInt → v5.toInt ≤ 4 → 0 ≤ v5.toInt → 0 + 0 + (4 - v5.toInt) * 14 + 7 ≤ ((k : Nat) : Int) → dz_T ((F187_X8_reason fu c248_groups c274_out a276 a277 a278 k).2.2 v1 v4 v5) (fun r => r.toInt ≤ 3 ∧ (-1) ≤ r.toInt ∧ r.toInt ≤ c274_out.toInt + 2 ∧ c274_out.toInt ≤ r.toInt + 12) := by
  intro v1 v4 v5 i0 i1 i2 i3 i4 hm
  obtain ⟨k0, rfl⟩ : ∃ x, k = x + 1 := ⟨k - 1, by omega⟩
  show dz_T (s187_X8_reason_3 fu c248_groups c274_out a276 a277 a278 (F187_X8_reason fu c248_groups c274_out a276 a277 a278 k0).2.2  v1 v4 v5) _
  unfold s187_X8_reason_3
  refine dz_Tle (fun h1 => ?_) (fun h1 => ?_)
  · skip
    have e2 := dz_l2
    exact dz_Ts ⟨(by omega), (by omega), (by omega), (by omega)⟩
  · skip
    have e3 := dz_add (a := v4) (b := v5) (by omega) (by omega)
    refine dz_Tin (by omega) (by omega) ?_
    have e4 := dz_rgat (hr_a277) (i := (v4 + v5)) (by omega) (by omega)
    refine dz_Teq (fun h5 => ?_) (fun h5 => ?_)
    · skip
      have e6 := dz_l1
      exact dz_Ts ⟨(by omega), (by omega), (by omega), (by omega)⟩
    · skip
      have e7 := dz_l1
      have e8 := dz_add (a := v5) (b := (1 : Int32)) (by omega) (by omega)
      exact (ih k0 (by omega)).2 v1 v4 (v5 + (1 : Int32)) i0 i1 i2 (by omega) (by omega) (by omega)
theorem t187_X8_reason_I_g4 (fu : Nat) (hfu : 1000000000000 ≤ fu) (c248_groups : Int32) (c274_out : Int32) (a276 : Nat → Int32) (a277 : Nat → Int32) (a278 : Nat → Int32) (p0 : c248_groups.toInt ≤ 4) (p1 : 4 ≤ c248_groups.toInt) (p2 : c274_out.toInt ≤ 12) (p3 : 0 ≤ c274_out.toInt) (hr_a276 : dz_rg a276 4 0 3) (hr_a277 : dz_rg a277 12 (-1) 3) (hr_a278 : dz_rg a278 12 0 11) (k : Nat) : p187_X8_reason_g4 fu c248_groups c274_out a276 a277 a278 k := by
  induction k using Nat.strongRecOn with
  | _ k ih => exact ⟨t187_X8_reason_h1_g4 fu hfu c248_groups c274_out a276 a277 a278 p0 p1 p2 p3 hr_a276 hr_a277 hr_a278 k ih, t187_X8_reason_h3_g4 fu hfu c248_groups c274_out a276 a277 a278 p0 p1 p2 p3 hr_a276 hr_a277 hr_a278 k ih⟩
set_option maxHeartbeats 1000000 in
set_option maxRecDepth 10000 in
theorem t187_X8_reason_E_g4 (fu : Nat) (hfu : 1000000000000 ≤ fu) (c248_groups : Int32) (c274_out : Int32) (a276 : Nat → Int32) (a277 : Nat → Int32) (a278 : Nat → Int32) (v1 : Int32) (p0 : c248_groups.toInt ≤ 4) (p1 : 4 ≤ c248_groups.toInt) (p2 : c274_out.toInt ≤ 12) (p3 : 0 ≤ c274_out.toInt) (hr_a276 : dz_rg a276 4 0 3) (hr_a277 : dz_rg a277 12 (-1) 3) (hr_a278 : dz_rg a278 12 0 11) (kv : Nat) (hkv : 1000000000000 ≤ kv) : dz_T (s187_X8_reason_0 fu c248_groups c274_out a276 a277 a278 (F187_X8_reason fu c248_groups c274_out a276 a277 a278 kv).1  v1) (fun r => r.toInt ≤ 3 ∧ (-1) ≤ r.toInt ∧ r.toInt ≤ c274_out.toInt + 2 ∧ c274_out.toInt ≤ r.toInt + 12) := by
  unfold s187_X8_reason_0
  have e1 := dz_l0
  refine dz_Teq (fun h2 => ?_) (fun h2 => ?_)
  · skip
    have e3 := dz_lm1
    exact dz_Ts ⟨(by omega), (by omega), (by omega), (by omega)⟩
  · skip
    refine dz_Tbe (show f186_X8_latest fu c274_out a278 = (if (c274_out ≤ (0 : Int32)) then (some (-(1 : Int32))) else (if dz_in (c274_out - (1 : Int32)) 12 then (some (a278 (c274_out - (1 : Int32)).toNatClampNeg)) else none)) from rfl) ?_
    refine dz_Tleb (fun h4 => ?_) (fun h4 => ?_)
    · skip
      exfalso; omega
    · skip
      have e5 := dz_l1
      have e6 := dz_sub (a := c274_out) (b := (1 : Int32)) (by omega) (by omega)
      refine dz_Tinb (by omega) (by omega) ?_
      refine dz_Tsb ?_
      have e7 := dz_rgat (hr_a278) (i := (c274_out - (1 : Int32))) (by omega) (by omega)
      refine dz_Tin (by omega) (by omega) ?_
      have e8 := dz_rgat (hr_a277) (i := (a278 (c274_out - (1 : Int32)).toNatClampNeg)) (by omega) (by omega)
      refine dz_Teq (fun h9 => ?_) (fun h9 => ?_)
      · skip
        exact dz_Ts ⟨(by omega), (by omega), (by omega), (by omega)⟩
      · skip
        exact (t187_X8_reason_I_g4 fu hfu c248_groups c274_out a276 a277 a278 p0 p1 p2 p3 hr_a276 hr_a277 hr_a278 kv).1 v1 (a278 (c274_out - (1 : Int32)).toNatClampNeg) (a277 (a278 (c274_out - (1 : Int32)).toNatClampNeg).toNatClampNeg) (0 : Int32) (by first | assumption | omega) (by omega) (by omega) (by omega) (by omega) (by omega) (by omega) (by omega)
theorem t187_X8_reason_g4 (fu : Nat) (hfu : 1000000000000 ≤ fu) (c248_groups : Int32) (c274_out : Int32) (a276 : Nat → Int32) (a277 : Nat → Int32) (a278 : Nat → Int32) (v1 : Int32) (p0 : c248_groups.toInt ≤ 4) (p1 : 4 ≤ c248_groups.toInt) (p2 : c274_out.toInt ≤ 12) (p3 : 0 ≤ c274_out.toInt) (hr_a276 : dz_rg a276 4 0 3) (hr_a277 : dz_rg a277 12 (-1) 3) (hr_a278 : dz_rg a278 12 0 11) : dz_T (f187_X8_reason fu c248_groups c274_out a276 a277 a278 v1) (fun r => r.toInt ≤ 3 ∧ (-1) ≤ r.toInt ∧ r.toInt ≤ c274_out.toInt + 2 ∧ c274_out.toInt ≤ r.toInt + 12) :=
  t187_X8_reason_E_g4 fu hfu c248_groups c274_out a276 a277 a278 v1 p0 p1 p2 p3 hr_a276 hr_a277 hr_a278 fu hfu
set_option maxHeartbeats 1000000 in
theorem t187_X8_reason_s (fu : Nat) (hfu : 1000000000000 ≤ fu) (κ : Nat) (hκ : κ < 14) (c248_groups : Int32) (c274_out : Int32) (a276 : Nat → Int32) (a277 : Nat → Int32) (a278 : Nat → Int32) (v1 : Int32) (p0 : c248_groups.toInt ≤ 4) (p1 : 2 ≤ c248_groups.toInt) (p2 : c274_out.toInt ≤ 12) (p3 : 0 ≤ c274_out.toInt) (hr_a276 : dz_rg a276 4 0 3) (hr_a277 : dz_rg a277 12 (-1) 3) (hr_a278 : dz_rg a278 12 0 11) (o0 : c248_groups.toInt = ((dz_kg κ : Nat) : Int)) (o1 : c274_out.toInt ≤ ((dz_km κ : Nat) : Int)) : dz_T (f187_X8_reason fu c248_groups c274_out a276 a277 a278 v1) (fun r => r.toInt ≤ 3 ∧ (-1) ≤ r.toInt ∧ r.toInt ≤ c274_out.toInt + 2 ∧ c274_out.toInt ≤ r.toInt + 12) := by
  rcases (show κ = 0 ∨ κ = 1 ∨ κ = 2 ∨ κ = 3 ∨ κ = 4 ∨ κ = 5 ∨ κ = 6 ∨ κ = 7 ∨ κ = 8 ∨ κ = 9 ∨ κ = 10 ∨ κ = 11 ∨ κ = 12 ∨ κ = 13 by omega) with rfl | rfl | rfl | rfl | rfl | rfl | rfl | rfl | rfl | rfl | rfl | rfl | rfl | rfl
  · skip
    have o0 : c248_groups.toInt = (2 : Int) := o0
    have o1 : c274_out.toInt ≤ (0 : Int) := o1
    refine dz_Tw (t187_X8_reason_g2 fu hfu c248_groups c274_out a276 a277 a278 v1 (by first | assumption | omega) (by first | assumption | omega) (by first | assumption | omega) (by first | assumption | omega) (by first | exact hr_a276 | exact dz_rgm hr_a276 (by omega) (by omega) | exact dz_pmr hr_a276 (by decide) (by omega) (by omega) (by omega) | exact dz_ptr hr_a276 (by decide) (by decide) (by omega) | exact dz_ptr hr_a276 (by decide) (by decide) (by show _ ≤ 0; omega) | exact dz_rgs hr_a276 (by omega)) (by first | exact hr_a277 | exact dz_rgm hr_a277 (by omega) (by omega) | exact dz_pmr hr_a277 (by decide) (by omega) (by omega) (by omega) | exact dz_ptr hr_a277 (by decide) (by decide) (by omega) | exact dz_ptr hr_a277 (by decide) (by decide) (by show _ ≤ 0; omega) | exact dz_rgs hr_a277 (by omega)) (by first | exact hr_a278 | exact dz_rgm hr_a278 (by omega) (by omega) | exact dz_pmr hr_a278 (by decide) (by omega) (by omega) (by omega) | exact dz_ptr hr_a278 (by decide) (by decide) (by omega) | exact dz_ptr hr_a278 (by decide) (by decide) (by show _ ≤ 0; omega) | exact dz_rgs hr_a278 (by omega))) (fun r h => ?_)
    obtain ⟨g0, g1, g2, g3⟩ := h
    exact ⟨(by first | assumption | omega), (by first | assumption | omega), (by first | assumption | omega), (by first | assumption | omega)⟩
  · skip
    have o0 : c248_groups.toInt = (2 : Int) := o0
    have o1 : c274_out.toInt ≤ (2 : Int) := o1
    refine dz_Tw (t187_X8_reason_g2 fu hfu c248_groups c274_out a276 a277 a278 v1 (by first | assumption | omega) (by first | assumption | omega) (by first | assumption | omega) (by first | assumption | omega) (by first | exact hr_a276 | exact dz_rgm hr_a276 (by omega) (by omega) | exact dz_pmr hr_a276 (by decide) (by omega) (by omega) (by omega) | exact dz_ptr hr_a276 (by decide) (by decide) (by omega) | exact dz_ptr hr_a276 (by decide) (by decide) (by show _ ≤ 1; omega) | exact dz_rgs hr_a276 (by omega)) (by first | exact hr_a277 | exact dz_rgm hr_a277 (by omega) (by omega) | exact dz_pmr hr_a277 (by decide) (by omega) (by omega) (by omega) | exact dz_ptr hr_a277 (by decide) (by decide) (by omega) | exact dz_ptr hr_a277 (by decide) (by decide) (by show _ ≤ 1; omega) | exact dz_rgs hr_a277 (by omega)) (by first | exact hr_a278 | exact dz_rgm hr_a278 (by omega) (by omega) | exact dz_pmr hr_a278 (by decide) (by omega) (by omega) (by omega) | exact dz_ptr hr_a278 (by decide) (by decide) (by omega) | exact dz_ptr hr_a278 (by decide) (by decide) (by show _ ≤ 1; omega) | exact dz_rgs hr_a278 (by omega))) (fun r h => ?_)
    obtain ⟨g0, g1, g2, g3⟩ := h
    exact ⟨(by first | assumption | omega), (by first | assumption | omega), (by first | assumption | omega), (by first | assumption | omega)⟩
  · skip
    have o0 : c248_groups.toInt = (2 : Int) := o0
    have o1 : c274_out.toInt ≤ (4 : Int) := o1
    refine dz_Tw (t187_X8_reason_g2 fu hfu c248_groups c274_out a276 a277 a278 v1 (by first | assumption | omega) (by first | assumption | omega) (by first | assumption | omega) (by first | assumption | omega) (by first | exact hr_a276 | exact dz_rgm hr_a276 (by omega) (by omega) | exact dz_pmr hr_a276 (by decide) (by omega) (by omega) (by omega) | exact dz_ptr hr_a276 (by decide) (by decide) (by omega) | exact dz_ptr hr_a276 (by decide) (by decide) (by show _ ≤ 2; omega) | exact dz_rgs hr_a276 (by omega)) (by first | exact hr_a277 | exact dz_rgm hr_a277 (by omega) (by omega) | exact dz_pmr hr_a277 (by decide) (by omega) (by omega) (by omega) | exact dz_ptr hr_a277 (by decide) (by decide) (by omega) | exact dz_ptr hr_a277 (by decide) (by decide) (by show _ ≤ 2; omega) | exact dz_rgs hr_a277 (by omega)) (by first | exact hr_a278 | exact dz_rgm hr_a278 (by omega) (by omega) | exact dz_pmr hr_a278 (by decide) (by omega) (by omega) (by omega) | exact dz_ptr hr_a278 (by decide) (by decide) (by omega) | exact dz_ptr hr_a278 (by decide) (by decide) (by show _ ≤ 2; omega) | exact dz_rgs hr_a278 (by omega))) (fun r h => ?_)
    obtain ⟨g0, g1, g2, g3⟩ := h
    exact ⟨(by first | assumption | omega), (by first | assumption | omega), (by first | assumption | omega), (by first | assumption | omega)⟩
  · skip
    have o0 : c248_groups.toInt = (2 : Int) := o0
    have o1 : c274_out.toInt ≤ (6 : Int) := o1
    refine dz_Tw (t187_X8_reason_g2 fu hfu c248_groups c274_out a276 a277 a278 v1 (by first | assumption | omega) (by first | assumption | omega) (by first | assumption | omega) (by first | assumption | omega) (by first | exact hr_a276 | exact dz_rgm hr_a276 (by omega) (by omega) | exact dz_pmr hr_a276 (by decide) (by omega) (by omega) (by omega) | exact dz_ptr hr_a276 (by decide) (by decide) (by omega) | exact dz_ptr hr_a276 (by decide) (by decide) (by show _ ≤ 3; omega) | exact dz_rgs hr_a276 (by omega)) (by first | exact hr_a277 | exact dz_rgm hr_a277 (by omega) (by omega) | exact dz_pmr hr_a277 (by decide) (by omega) (by omega) (by omega) | exact dz_ptr hr_a277 (by decide) (by decide) (by omega) | exact dz_ptr hr_a277 (by decide) (by decide) (by show _ ≤ 3; omega) | exact dz_rgs hr_a277 (by omega)) (by first | exact hr_a278 | exact dz_rgm hr_a278 (by omega) (by omega) | exact dz_pmr hr_a278 (by decide) (by omega) (by omega) (by omega) | exact dz_ptr hr_a278 (by decide) (by decide) (by omega) | exact dz_ptr hr_a278 (by decide) (by decide) (by show _ ≤ 3; omega) | exact dz_rgs hr_a278 (by omega))) (fun r h => ?_)
    obtain ⟨g0, g1, g2, g3⟩ := h
    exact ⟨(by first | assumption | omega), (by first | assumption | omega), (by first | assumption | omega), (by first | assumption | omega)⟩
  · skip
    have o0 : c248_groups.toInt = (2 : Int) := o0
    have o1 : c274_out.toInt ≤ (8 : Int) := o1
    refine dz_Tw (t187_X8_reason_g2 fu hfu c248_groups c274_out a276 a277 a278 v1 (by first | assumption | omega) (by first | assumption | omega) (by first | assumption | omega) (by first | assumption | omega) (by first | exact hr_a276 | exact dz_rgm hr_a276 (by omega) (by omega) | exact dz_pmr hr_a276 (by decide) (by omega) (by omega) (by omega) | exact dz_ptr hr_a276 (by decide) (by decide) (by omega) | exact dz_ptr hr_a276 (by decide) (by decide) (by show _ ≤ 4; omega) | exact dz_rgs hr_a276 (by omega)) (by first | exact hr_a277 | exact dz_rgm hr_a277 (by omega) (by omega) | exact dz_pmr hr_a277 (by decide) (by omega) (by omega) (by omega) | exact dz_ptr hr_a277 (by decide) (by decide) (by omega) | exact dz_ptr hr_a277 (by decide) (by decide) (by show _ ≤ 4; omega) | exact dz_rgs hr_a277 (by omega)) (by first | exact hr_a278 | exact dz_rgm hr_a278 (by omega) (by omega) | exact dz_pmr hr_a278 (by decide) (by omega) (by omega) (by omega) | exact dz_ptr hr_a278 (by decide) (by decide) (by omega) | exact dz_ptr hr_a278 (by decide) (by decide) (by show _ ≤ 4; omega) | exact dz_rgs hr_a278 (by omega))) (fun r h => ?_)
    obtain ⟨g0, g1, g2, g3⟩ := h
    exact ⟨(by first | assumption | omega), (by first | assumption | omega), (by first | assumption | omega), (by first | assumption | omega)⟩
  · skip
    have o0 : c248_groups.toInt = (3 : Int) := o0
    have o1 : c274_out.toInt ≤ (0 : Int) := o1
    refine dz_Tw (t187_X8_reason_g3 fu hfu c248_groups c274_out a276 a277 a278 v1 (by first | assumption | omega) (by first | assumption | omega) (by first | assumption | omega) (by first | assumption | omega) (by first | exact hr_a276 | exact dz_rgm hr_a276 (by omega) (by omega) | exact dz_pmr hr_a276 (by decide) (by omega) (by omega) (by omega) | exact dz_ptr hr_a276 (by decide) (by decide) (by omega) | exact dz_ptr hr_a276 (by decide) (by decide) (by show _ ≤ 0; omega) | exact dz_rgs hr_a276 (by omega)) (by first | exact hr_a277 | exact dz_rgm hr_a277 (by omega) (by omega) | exact dz_pmr hr_a277 (by decide) (by omega) (by omega) (by omega) | exact dz_ptr hr_a277 (by decide) (by decide) (by omega) | exact dz_ptr hr_a277 (by decide) (by decide) (by show _ ≤ 0; omega) | exact dz_rgs hr_a277 (by omega)) (by first | exact hr_a278 | exact dz_rgm hr_a278 (by omega) (by omega) | exact dz_pmr hr_a278 (by decide) (by omega) (by omega) (by omega) | exact dz_ptr hr_a278 (by decide) (by decide) (by omega) | exact dz_ptr hr_a278 (by decide) (by decide) (by show _ ≤ 0; omega) | exact dz_rgs hr_a278 (by omega))) (fun r h => ?_)
    obtain ⟨g0, g1, g2, g3⟩ := h
    exact ⟨(by first | assumption | omega), (by first | assumption | omega), (by first | assumption | omega), (by first | assumption | omega)⟩
  · skip
    have o0 : c248_groups.toInt = (3 : Int) := o0
    have o1 : c274_out.toInt ≤ (3 : Int) := o1
    refine dz_Tw (t187_X8_reason_g3 fu hfu c248_groups c274_out a276 a277 a278 v1 (by first | assumption | omega) (by first | assumption | omega) (by first | assumption | omega) (by first | assumption | omega) (by first | exact hr_a276 | exact dz_rgm hr_a276 (by omega) (by omega) | exact dz_pmr hr_a276 (by decide) (by omega) (by omega) (by omega) | exact dz_ptr hr_a276 (by decide) (by decide) (by omega) | exact dz_ptr hr_a276 (by decide) (by decide) (by show _ ≤ 1; omega) | exact dz_rgs hr_a276 (by omega)) (by first | exact hr_a277 | exact dz_rgm hr_a277 (by omega) (by omega) | exact dz_pmr hr_a277 (by decide) (by omega) (by omega) (by omega) | exact dz_ptr hr_a277 (by decide) (by decide) (by omega) | exact dz_ptr hr_a277 (by decide) (by decide) (by show _ ≤ 1; omega) | exact dz_rgs hr_a277 (by omega)) (by first | exact hr_a278 | exact dz_rgm hr_a278 (by omega) (by omega) | exact dz_pmr hr_a278 (by decide) (by omega) (by omega) (by omega) | exact dz_ptr hr_a278 (by decide) (by decide) (by omega) | exact dz_ptr hr_a278 (by decide) (by decide) (by show _ ≤ 1; omega) | exact dz_rgs hr_a278 (by omega))) (fun r h => ?_)
    obtain ⟨g0, g1, g2, g3⟩ := h
    exact ⟨(by first | assumption | omega), (by first | assumption | omega), (by first | assumption | omega), (by first | assumption | omega)⟩
  · skip
    have o0 : c248_groups.toInt = (3 : Int) := o0
    have o1 : c274_out.toInt ≤ (6 : Int) := o1
    refine dz_Tw (t187_X8_reason_g3 fu hfu c248_groups c274_out a276 a277 a278 v1 (by first | assumption | omega) (by first | assumption | omega) (by first | assumption | omega) (by first | assumption | omega) (by first | exact hr_a276 | exact dz_rgm hr_a276 (by omega) (by omega) | exact dz_pmr hr_a276 (by decide) (by omega) (by omega) (by omega) | exact dz_ptr hr_a276 (by decide) (by decide) (by omega) | exact dz_ptr hr_a276 (by decide) (by decide) (by show _ ≤ 2; omega) | exact dz_rgs hr_a276 (by omega)) (by first | exact hr_a277 | exact dz_rgm hr_a277 (by omega) (by omega) | exact dz_pmr hr_a277 (by decide) (by omega) (by omega) (by omega) | exact dz_ptr hr_a277 (by decide) (by decide) (by omega) | exact dz_ptr hr_a277 (by decide) (by decide) (by show _ ≤ 2; omega) | exact dz_rgs hr_a277 (by omega)) (by first | exact hr_a278 | exact dz_rgm hr_a278 (by omega) (by omega) | exact dz_pmr hr_a278 (by decide) (by omega) (by omega) (by omega) | exact dz_ptr hr_a278 (by decide) (by decide) (by omega) | exact dz_ptr hr_a278 (by decide) (by decide) (by show _ ≤ 2; omega) | exact dz_rgs hr_a278 (by omega))) (fun r h => ?_)
    obtain ⟨g0, g1, g2, g3⟩ := h
    exact ⟨(by first | assumption | omega), (by first | assumption | omega), (by first | assumption | omega), (by first | assumption | omega)⟩
  · skip
    have o0 : c248_groups.toInt = (3 : Int) := o0
    have o1 : c274_out.toInt ≤ (9 : Int) := o1
    refine dz_Tw (t187_X8_reason_g3 fu hfu c248_groups c274_out a276 a277 a278 v1 (by first | assumption | omega) (by first | assumption | omega) (by first | assumption | omega) (by first | assumption | omega) (by first | exact hr_a276 | exact dz_rgm hr_a276 (by omega) (by omega) | exact dz_pmr hr_a276 (by decide) (by omega) (by omega) (by omega) | exact dz_ptr hr_a276 (by decide) (by decide) (by omega) | exact dz_ptr hr_a276 (by decide) (by decide) (by show _ ≤ 3; omega) | exact dz_rgs hr_a276 (by omega)) (by first | exact hr_a277 | exact dz_rgm hr_a277 (by omega) (by omega) | exact dz_pmr hr_a277 (by decide) (by omega) (by omega) (by omega) | exact dz_ptr hr_a277 (by decide) (by decide) (by omega) | exact dz_ptr hr_a277 (by decide) (by decide) (by show _ ≤ 3; omega) | exact dz_rgs hr_a277 (by omega)) (by first | exact hr_a278 | exact dz_rgm hr_a278 (by omega) (by omega) | exact dz_pmr hr_a278 (by decide) (by omega) (by omega) (by omega) | exact dz_ptr hr_a278 (by decide) (by decide) (by omega) | exact dz_ptr hr_a278 (by decide) (by decide) (by show _ ≤ 3; omega) | exact dz_rgs hr_a278 (by omega))) (fun r h => ?_)
    obtain ⟨g0, g1, g2, g3⟩ := h
    exact ⟨(by first | assumption | omega), (by first | assumption | omega), (by first | assumption | omega), (by first | assumption | omega)⟩
  · skip
    have o0 : c248_groups.toInt = (3 : Int) := o0
    have o1 : c274_out.toInt ≤ (12 : Int) := o1
    refine dz_Tw (t187_X8_reason_g3 fu hfu c248_groups c274_out a276 a277 a278 v1 (by first | assumption | omega) (by first | assumption | omega) (by first | assumption | omega) (by first | assumption | omega) (by first | exact hr_a276 | exact dz_rgm hr_a276 (by omega) (by omega) | exact dz_pmr hr_a276 (by decide) (by omega) (by omega) (by omega) | exact dz_ptr hr_a276 (by decide) (by decide) (by omega) | exact dz_ptr hr_a276 (by decide) (by decide) (by show _ ≤ 4; omega) | exact dz_rgs hr_a276 (by omega)) (by first | exact hr_a277 | exact dz_rgm hr_a277 (by omega) (by omega) | exact dz_pmr hr_a277 (by decide) (by omega) (by omega) (by omega) | exact dz_ptr hr_a277 (by decide) (by decide) (by omega) | exact dz_ptr hr_a277 (by decide) (by decide) (by show _ ≤ 4; omega) | exact dz_rgs hr_a277 (by omega)) (by first | exact hr_a278 | exact dz_rgm hr_a278 (by omega) (by omega) | exact dz_pmr hr_a278 (by decide) (by omega) (by omega) (by omega) | exact dz_ptr hr_a278 (by decide) (by decide) (by omega) | exact dz_ptr hr_a278 (by decide) (by decide) (by show _ ≤ 4; omega) | exact dz_rgs hr_a278 (by omega))) (fun r h => ?_)
    obtain ⟨g0, g1, g2, g3⟩ := h
    exact ⟨(by first | assumption | omega), (by first | assumption | omega), (by first | assumption | omega), (by first | assumption | omega)⟩
  · skip
    have o0 : c248_groups.toInt = (4 : Int) := o0
    have o1 : c274_out.toInt ≤ (0 : Int) := o1
    refine dz_Tw (t187_X8_reason_g4 fu hfu c248_groups c274_out a276 a277 a278 v1 (by first | assumption | omega) (by first | assumption | omega) (by first | assumption | omega) (by first | assumption | omega) (by first | exact hr_a276 | exact dz_rgm hr_a276 (by omega) (by omega) | exact dz_pmr hr_a276 (by decide) (by omega) (by omega) (by omega) | exact dz_ptr hr_a276 (by decide) (by decide) (by omega) | exact dz_ptr hr_a276 (by decide) (by decide) (by show _ ≤ 0; omega) | exact dz_rgs hr_a276 (by omega)) (by first | exact hr_a277 | exact dz_rgm hr_a277 (by omega) (by omega) | exact dz_pmr hr_a277 (by decide) (by omega) (by omega) (by omega) | exact dz_ptr hr_a277 (by decide) (by decide) (by omega) | exact dz_ptr hr_a277 (by decide) (by decide) (by show _ ≤ 0; omega) | exact dz_rgs hr_a277 (by omega)) (by first | exact hr_a278 | exact dz_rgm hr_a278 (by omega) (by omega) | exact dz_pmr hr_a278 (by decide) (by omega) (by omega) (by omega) | exact dz_ptr hr_a278 (by decide) (by decide) (by omega) | exact dz_ptr hr_a278 (by decide) (by decide) (by show _ ≤ 0; omega) | exact dz_rgs hr_a278 (by omega))) (fun r h => ?_)
    obtain ⟨g0, g1, g2, g3⟩ := h
    exact ⟨(by first | assumption | omega), (by first | assumption | omega), (by first | assumption | omega), (by first | assumption | omega)⟩
  · skip
    have o0 : c248_groups.toInt = (4 : Int) := o0
    have o1 : c274_out.toInt ≤ (4 : Int) := o1
    refine dz_Tw (t187_X8_reason_g4 fu hfu c248_groups c274_out a276 a277 a278 v1 (by first | assumption | omega) (by first | assumption | omega) (by first | assumption | omega) (by first | assumption | omega) (by first | exact hr_a276 | exact dz_rgm hr_a276 (by omega) (by omega) | exact dz_pmr hr_a276 (by decide) (by omega) (by omega) (by omega) | exact dz_ptr hr_a276 (by decide) (by decide) (by omega) | exact dz_ptr hr_a276 (by decide) (by decide) (by show _ ≤ 1; omega) | exact dz_rgs hr_a276 (by omega)) (by first | exact hr_a277 | exact dz_rgm hr_a277 (by omega) (by omega) | exact dz_pmr hr_a277 (by decide) (by omega) (by omega) (by omega) | exact dz_ptr hr_a277 (by decide) (by decide) (by omega) | exact dz_ptr hr_a277 (by decide) (by decide) (by show _ ≤ 1; omega) | exact dz_rgs hr_a277 (by omega)) (by first | exact hr_a278 | exact dz_rgm hr_a278 (by omega) (by omega) | exact dz_pmr hr_a278 (by decide) (by omega) (by omega) (by omega) | exact dz_ptr hr_a278 (by decide) (by decide) (by omega) | exact dz_ptr hr_a278 (by decide) (by decide) (by show _ ≤ 1; omega) | exact dz_rgs hr_a278 (by omega))) (fun r h => ?_)
    obtain ⟨g0, g1, g2, g3⟩ := h
    exact ⟨(by first | assumption | omega), (by first | assumption | omega), (by first | assumption | omega), (by first | assumption | omega)⟩
  · skip
    have o0 : c248_groups.toInt = (4 : Int) := o0
    have o1 : c274_out.toInt ≤ (8 : Int) := o1
    refine dz_Tw (t187_X8_reason_g4 fu hfu c248_groups c274_out a276 a277 a278 v1 (by first | assumption | omega) (by first | assumption | omega) (by first | assumption | omega) (by first | assumption | omega) (by first | exact hr_a276 | exact dz_rgm hr_a276 (by omega) (by omega) | exact dz_pmr hr_a276 (by decide) (by omega) (by omega) (by omega) | exact dz_ptr hr_a276 (by decide) (by decide) (by omega) | exact dz_ptr hr_a276 (by decide) (by decide) (by show _ ≤ 2; omega) | exact dz_rgs hr_a276 (by omega)) (by first | exact hr_a277 | exact dz_rgm hr_a277 (by omega) (by omega) | exact dz_pmr hr_a277 (by decide) (by omega) (by omega) (by omega) | exact dz_ptr hr_a277 (by decide) (by decide) (by omega) | exact dz_ptr hr_a277 (by decide) (by decide) (by show _ ≤ 2; omega) | exact dz_rgs hr_a277 (by omega)) (by first | exact hr_a278 | exact dz_rgm hr_a278 (by omega) (by omega) | exact dz_pmr hr_a278 (by decide) (by omega) (by omega) (by omega) | exact dz_ptr hr_a278 (by decide) (by decide) (by omega) | exact dz_ptr hr_a278 (by decide) (by decide) (by show _ ≤ 2; omega) | exact dz_rgs hr_a278 (by omega))) (fun r h => ?_)
    obtain ⟨g0, g1, g2, g3⟩ := h
    exact ⟨(by first | assumption | omega), (by first | assumption | omega), (by first | assumption | omega), (by first | assumption | omega)⟩
  · skip
    have o0 : c248_groups.toInt = (4 : Int) := o0
    have o1 : c274_out.toInt ≤ (12 : Int) := o1
    refine dz_Tw (t187_X8_reason_g4 fu hfu c248_groups c274_out a276 a277 a278 v1 (by first | assumption | omega) (by first | assumption | omega) (by first | assumption | omega) (by first | assumption | omega) (by first | exact hr_a276 | exact dz_rgm hr_a276 (by omega) (by omega) | exact dz_pmr hr_a276 (by decide) (by omega) (by omega) (by omega) | exact dz_ptr hr_a276 (by decide) (by decide) (by omega) | exact dz_ptr hr_a276 (by decide) (by decide) (by show _ ≤ 3; omega) | exact dz_rgs hr_a276 (by omega)) (by first | exact hr_a277 | exact dz_rgm hr_a277 (by omega) (by omega) | exact dz_pmr hr_a277 (by decide) (by omega) (by omega) (by omega) | exact dz_ptr hr_a277 (by decide) (by decide) (by omega) | exact dz_ptr hr_a277 (by decide) (by decide) (by show _ ≤ 3; omega) | exact dz_rgs hr_a277 (by omega)) (by first | exact hr_a278 | exact dz_rgm hr_a278 (by omega) (by omega) | exact dz_pmr hr_a278 (by decide) (by omega) (by omega) (by omega) | exact dz_ptr hr_a278 (by decide) (by decide) (by omega) | exact dz_ptr hr_a278 (by decide) (by decide) (by show _ ≤ 3; omega) | exact dz_rgs hr_a278 (by omega))) (fun r h => ?_)
    obtain ⟨g0, g1, g2, g3⟩ := h
    exact ⟨(by first | assumption | omega), (by first | assumption | omega), (by first | assumption | omega), (by first | assumption | omega)⟩
set_option maxHeartbeats 1000000 in
set_option maxRecDepth 10000 in
theorem t188_X11_why_s (fu : Nat) (hfu : 1000000000000 ≤ fu) (κ : Nat) (hκ : κ < 14) (c248_groups : Int32) (c274_out : Int32) (a276 : Nat → Int32) (a277 : Nat → Int32) (a278 : Nat → Int32) (v1 : Int32) (p0 : c248_groups.toInt ≤ 4) (p1 : 2 ≤ c248_groups.toInt) (p2 : c274_out.toInt ≤ 12) (p3 : 0 ≤ c274_out.toInt) (hr_a276 : dz_rg a276 4 0 3) (hr_a277 : dz_rg a277 12 (-1) 3) (hr_a278 : dz_rg a278 12 0 11) (o0 : c248_groups.toInt = ((dz_kg κ : Nat) : Int)) (o1 : c274_out.toInt ≤ ((dz_km κ : Nat) : Int)) : dz_T (f188_X11_why fu c248_groups c274_out a276 a277 a278 v1) (fun r => r.toInt ≤ 3 ∧ (-1) ≤ r.toInt ∧ r.toInt ≤ c274_out.toInt + 2) := by
  unfold f188_X11_why s188_X11_why_0
  refine dz_Tbe (show f185_X11_isGroup fu c248_groups v1 = (if (v1 < (0 : Int32)) then (some (0 : Int32)) else (if (c248_groups ≤ v1) then (some (0 : Int32)) else (some (1 : Int32)))) from rfl) ?_
  have e1 := dz_l0
  refine dz_Tltb (fun h2 => ?_) (fun h2 => ?_)
  · skip
    refine dz_Tsb ?_
    refine dz_Teq (fun h3 => ?_) (fun h3 => ?_)
    · skip
      have e4 := dz_lm1
      exact dz_Ts ⟨(by omega), (by omega), (by omega)⟩
    · skip
      exfalso; omega
  · skip
    refine dz_Tleb (fun h5 => ?_) (fun h5 => ?_)
    · skip
      refine dz_Tsb ?_
      refine dz_Teq (fun h6 => ?_) (fun h6 => ?_)
      · skip
        have e7 := dz_lm1
        exact dz_Ts ⟨(by omega), (by omega), (by omega)⟩
      · skip
        exfalso; omega
    · skip
      refine dz_Tsb ?_
      have e8 := dz_l1
      refine dz_Teq (fun h9 => ?_) (fun h9 => ?_)
      · skip
        exfalso; omega
      · skip
        refine dz_Tb (t187_X8_reason_s fu hfu κ hκ _ _ _ _ _ _ p0 p1 p2 p3 (hr_a276) (hr_a277) (hr_a278) o0 o1) (fun r2 q => ?_)
        obtain ⟨q2_0, q2_1, q2_2, q2_3⟩ := q
        exact dz_Ts ⟨q2_0, q2_1, q2_2⟩
set_option maxHeartbeats 1000000 in
set_option maxRecDepth 10000 in
theorem t189_X11_clear (fu : Nat) (hfu : 1000000000000 ≤ fu) (c274_out : Int32) (a277 : Nat → Int32) (c313_fresh : Int32) (c319_fresh : Int32) (c325_fresh : Int32) (p0 : c274_out.toInt ≤ 12) (p1 : 0 ≤ c274_out.toInt) (hr_a277 : dz_rg a277 12 (-1) 3) : dz_T (f189_X11_clear fu c274_out a277 c313_fresh c319_fresh c325_fresh) (fun r => r.1.toInt ≤ 12 ∧ 0 ≤ r.1.toInt ∧ r.2.1.toInt ≤ 0 ∧ 0 ≤ r.2.1.toInt ∧ r.1.toInt ≤ c274_out.toInt ∧ c274_out.toInt ≤ r.1.toInt ∧ dz_rg r.2.2.1 12 (-1) 3) := by
  unfold f189_X11_clear s189_X11_clear_0
  refine dz_Tb (t145_X8_empty fu hfu _ _ p0 p1 (hr_a277)) (fun r1 q => ?_)
  obtain ⟨q1_0, q1_1, qa1_1⟩ := q
  refine dz_Tb (t148_X11_stageChanged fu hfu _ _ _ ) (fun r2 _ => ?_)
  refine dz_Ts ?_
  dsimp only
  exact ⟨p0, p1, q1_0, q1_1, (by first | assumption | omega), (by first | assumption | omega), (qa1_1)⟩
set_option maxHeartbeats 1000000 in
set_option maxRecDepth 10000 in
theorem t190_X11_placed_s (fu : Nat) (hfu : 1000000000000 ≤ fu) (κ : Nat) (hκ : κ < 14) (c248_teams : Int32) (a277 : Nat → Int32) (v1 : Int32) (p0 : c248_teams.toInt ≤ 12) (p1 : 0 ≤ c248_teams.toInt) (hr_a277 : dz_rg a277 12 (-1) 3) (o0 : c248_teams.toInt = ((dz_km κ : Nat) : Int)) : dz_T (f190_X11_placed fu c248_teams a277 v1) (fun r => r.toInt ≤ 3 ∧ (-1) ≤ r.toInt ∧ r.toInt ≤ c248_teams.toInt + 2) := by
  unfold f190_X11_placed s190_X11_placed_0
  refine dz_Tbe (show f159_X11_isTeam fu c248_teams v1 = (if (v1 < (0 : Int32)) then (some (0 : Int32)) else (if (c248_teams ≤ v1) then (some (0 : Int32)) else (some (1 : Int32)))) from rfl) ?_
  have e1 := dz_l0
  refine dz_Tltb (fun h2 => ?_) (fun h2 => ?_)
  · skip
    refine dz_Tsb ?_
    refine dz_Teq (fun h3 => ?_) (fun h3 => ?_)
    · skip
      have e4 := dz_lm1
      exact dz_Ts ⟨(by omega), (by omega), (by omega)⟩
    · skip
      exfalso; omega
  · skip
    refine dz_Tleb (fun h5 => ?_) (fun h5 => ?_)
    · skip
      refine dz_Tsb ?_
      refine dz_Teq (fun h6 => ?_) (fun h6 => ?_)
      · skip
        have e7 := dz_lm1
        exact dz_Ts ⟨(by omega), (by omega), (by omega)⟩
      · skip
        exfalso; omega
    · skip
      refine dz_Tsb ?_
      have e8 := dz_l1
      refine dz_Teq (fun h9 => ?_) (fun h9 => ?_)
      · skip
        exfalso; omega
      · skip
        refine dz_Tin (by omega) (by omega) ?_
        have e10 := dz_rgat (hr_a277) (i := v1) (by omega) (by omega)
        exact dz_Ts ⟨(by omega), (by omega), (by omega)⟩
set_option maxHeartbeats 1000000 in
set_option maxRecDepth 10000 in
theorem t191_X8_takeBack (fu : Nat) (hfu : 1000000000000 ≤ fu) (a278 : Nat → Int32) (c274_out : Int32) (a277 : Nat → Int32) (p0 : c274_out.toInt ≤ 12) (p1 : 0 ≤ c274_out.toInt) (hr_a278 : dz_rg a278 12 0 11) (hr_a277 : dz_rg a277 12 (-1) 3) : dz_T (f191_X8_takeBack fu a278 c274_out a277) (fun r => r.1.toInt ≤ 11 ∧ 0 ≤ r.1.toInt ∧ r.1.toInt ≤ c274_out.toInt ∧ c274_out.toInt ≤ r.1.toInt + 1 ∧ dz_rg r.2 12 (-1) 3) := by
  unfold f191_X8_takeBack s191_X8_takeBack_0
  have e1 := dz_l0
  refine dz_Tle (fun h2 => ?_) (fun h2 => ?_)
  · skip
    refine dz_Ts ?_
    dsimp only
    exact ⟨(by first | assumption | omega), p1, (by first | assumption | omega), (by first | assumption | omega), (hr_a277)⟩
  · skip
    have e3 := dz_l1
    have e4 := dz_sub (a := c274_out) (b := (1 : Int32)) (by omega) (by omega)
    refine dz_Tin (by omega) (by omega) ?_
    have e5 := dz_rgat (hr_a278) (i := (c274_out - (1 : Int32))) (by omega) (by omega)
    refine dz_Tin (by omega) (by omega) ?_
    have e6 := dz_lm1
    refine dz_Ts ?_
    dsimp only
    exact ⟨(by omega), (by omega), (by omega), (by omega), (dz_rgu (hr_a277) (by omega) (by omega))⟩
set_option maxHeartbeats 1000000 in
set_option maxRecDepth 10000 in
theorem t192_X11_undo (fu : Nat) (hfu : 1000000000000 ≤ fu) (a278 : Nat → Int32) (c274_out : Int32) (a277 : Nat → Int32) (c313_fresh : Int32) (c319_fresh : Int32) (c325_fresh : Int32) (p0 : c274_out.toInt ≤ 12) (p1 : 0 ≤ c274_out.toInt) (hr_a278 : dz_rg a278 12 0 11) (hr_a277 : dz_rg a277 12 (-1) 3) : dz_T (f192_X11_undo fu a278 c274_out a277 c313_fresh c319_fresh c325_fresh) (fun r => r.1.toInt ≤ 11 ∧ (-1) ≤ r.1.toInt ∧ r.2.1.toInt ≤ 11 ∧ 0 ≤ r.2.1.toInt ∧ r.1.toInt ≤ r.2.1.toInt ∧ r.1.toInt ≤ c274_out.toInt ∧ r.2.1.toInt ≤ c274_out.toInt ∧ r.2.1.toInt ≤ r.1.toInt + 1 ∧ c274_out.toInt ≤ r.1.toInt + 1 ∧ dz_rg r.2.2.1 12 (-1) 3) := by
  unfold f192_X11_undo s192_X11_undo_0
  have e1 := dz_l0
  refine dz_Teq (fun h2 => ?_) (fun h2 => ?_)
  · skip
    have e3 := dz_lm1
    refine dz_Ts ?_
    dsimp only
    exact ⟨(by omega), (by omega), (by first | assumption | omega), p1, (by omega), (by omega), (by first | assumption | omega), (by omega), (by omega), (hr_a277)⟩
  · skip
    refine dz_Tb (t191_X8_takeBack fu hfu _ _ _ p0 p1 (hr_a278) (hr_a277)) (fun r1 q => ?_)
    obtain ⟨q1_0, q1_1, q1_2, q1_3, qa1_1⟩ := q
    refine dz_Tb (t148_X11_stageChanged fu hfu _ _ _ ) (fun r2 _ => ?_)
    refine dz_Ts ?_
    dsimp only
    exact ⟨q1_0, (by first | assumption | omega), q1_0, q1_1, (by first | assumption | omega), q1_2, q1_2, (by first | assumption | omega), q1_3, (qa1_1)⟩
abbrev p193_X8_allow_s (fu : Nat) (κ : Nat) (c248_groups : Int32) (c248_pots : Int32) (c261_everyRank : Int32) (a264 : Nat → Int32) (a277 : Nat → Int32) (k : Nat) : Prop :=
  (∀ (v1 : Int32) (v2 : Int32) (v3 : Int32) (a279 : Nat → Int32), v2.toInt ≤ 3 → (-1) ≤ v2.toInt → v3.toInt ≤ 4 → 0 ≤ v3.toInt → v3.toInt ≤ c248_pots.toInt → dz_rg a279 4 0 16777215 → 0 + 0 + (4 - v3.toInt) * 10 + 5 ≤ ((k : Nat) : Int) → dz_T ((F193_X8_allow fu c248_groups c248_pots c261_everyRank a264 a277 k) v1 v2 v3 a279) (fun r => dz_rg r 4 0 16777215))
set_option maxHeartbeats 1000000 in
set_option maxRecDepth 10000 in
theorem t193_X8_allow_h1_s (fu : Nat) (hfu : 1000000000000 ≤ fu) (κ : Nat) (hκ : κ < 14) (c248_groups : Int32) (c248_pots : Int32) (c261_everyRank : Int32) (a264 : Nat → Int32) (a277 : Nat → Int32) (p0 : c248_groups.toInt ≤ 4) (p1 : 2 ≤ c248_groups.toInt) (p2 : c248_pots.toInt ≤ 4) (p3 : 0 ≤ c248_pots.toInt) (p4 : c261_everyRank.toInt ≤ 16777215) (p5 : 0 ≤ c261_everyRank.toInt) (hr_a264 : dz_rg a264 16 0 16777215) (hr_a277 : dz_rg a277 12 (-1) 3) (o0 : c248_groups.toInt = ((dz_kg κ : Nat) : Int)) (o1 : c248_pots.toInt = ((dz_kp κ : Nat) : Int)) (o2 : c261_everyRank.toInt = ((dz_ke κ : Nat) : Int)) (k : Nat) (ih : ∀ j9, j9 < k → p193_X8_allow_s fu κ c248_groups c248_pots c261_everyRank a264 a277 j9) : ∀ (v1 : Int32) (v2 : Int32) (v3 : Int32) (a279 : Nat → Int32), v2.toInt ≤ 3 → (-1) ≤ v2.toInt → v3.toInt ≤ 4 → 0 ≤ v3.toInt → v3.toInt ≤ c248_pots.toInt → dz_rg a279 4 0 16777215 → 0 + 0 + (4 - v3.toInt) * 10 + 5 ≤ ((k : Nat) : Int) → dz_T ((F193_X8_allow fu c248_groups c248_pots c261_everyRank a264 a277 k) v1 v2 v3 a279) (fun r => dz_rg r 4 0 16777215) := by
  intro v1 v2 v3 a279 i0 i1 i2 i3 i4 hr_a279 hm
  obtain ⟨k0, rfl⟩ : ∃ x, k = x + 1 := ⟨k - 1, by omega⟩
  show dz_T (s193_X8_allow_1 fu c248_groups c248_pots c261_everyRank a264 a277 (F193_X8_allow fu c248_groups c248_pots c261_everyRank a264 a277 k0)  v1 v2 v3 a279) _
  unfold s193_X8_allow_1
  refine dz_Tle (fun h1 => ?_) (fun h1 => ?_)
  · skip
    exact dz_Ts (hr_a279)
  · skip
    refine dz_Tb (t176_X8_ranksIf_s fu hfu κ hκ _ _ _ _ _ _ _ p0 p1 p4 p5 i3 i1 i0 (by first | assumption | omega) (hr_a264) (hr_a277) (by first | assumption | omega) o0 o2) (fun r1 q => ?_)
    obtain ⟨q1_0, q1_1, q1_2⟩ := q
    refine dz_Tin (by omega) (by omega) ?_
    have e2 := dz_l1
    have e3 := dz_add (a := v3) (b := (1 : Int32)) (by omega) (by omega)
    exact (ih k0 (by omega)) v1 v2 (v3 + (1 : Int32)) (upd a279 v3.toNatClampNeg r1) i0 i1 (by omega) (by omega) (by omega) (dz_rgu (hr_a279) (by omega) (by omega)) (by omega)
theorem t193_X8_allow_I_s (fu : Nat) (hfu : 1000000000000 ≤ fu) (κ : Nat) (hκ : κ < 14) (c248_groups : Int32) (c248_pots : Int32) (c261_everyRank : Int32) (a264 : Nat → Int32) (a277 : Nat → Int32) (p0 : c248_groups.toInt ≤ 4) (p1 : 2 ≤ c248_groups.toInt) (p2 : c248_pots.toInt ≤ 4) (p3 : 0 ≤ c248_pots.toInt) (p4 : c261_everyRank.toInt ≤ 16777215) (p5 : 0 ≤ c261_everyRank.toInt) (hr_a264 : dz_rg a264 16 0 16777215) (hr_a277 : dz_rg a277 12 (-1) 3) (o0 : c248_groups.toInt = ((dz_kg κ : Nat) : Int)) (o1 : c248_pots.toInt = ((dz_kp κ : Nat) : Int)) (o2 : c261_everyRank.toInt = ((dz_ke κ : Nat) : Int)) (k : Nat) : p193_X8_allow_s fu κ c248_groups c248_pots c261_everyRank a264 a277 k := by
  induction k using Nat.strongRecOn with
  | _ k ih => exact t193_X8_allow_h1_s fu hfu κ hκ c248_groups c248_pots c261_everyRank a264 a277 p0 p1 p2 p3 p4 p5 hr_a264 hr_a277 o0 o1 o2 k ih
set_option maxHeartbeats 1000000 in
set_option maxRecDepth 10000 in
theorem t193_X8_allow_E_s (fu : Nat) (hfu : 1000000000000 ≤ fu) (κ : Nat) (hκ : κ < 14) (c248_groups : Int32) (c248_pots : Int32) (c261_everyRank : Int32) (a264 : Nat → Int32) (a277 : Nat → Int32) (v1 : Int32) (v2 : Int32) (a279 : Nat → Int32) (p0 : c248_groups.toInt ≤ 4) (p1 : 2 ≤ c248_groups.toInt) (p2 : c248_pots.toInt ≤ 4) (p3 : 0 ≤ c248_pots.toInt) (p4 : c261_everyRank.toInt ≤ 16777215) (p5 : 0 ≤ c261_everyRank.toInt) (p6 : (-1) ≤ v2.toInt) (p7 : v2.toInt ≤ 3) (hr_a264 : dz_rg a264 16 0 16777215) (hr_a277 : dz_rg a277 12 (-1) 3) (hr_a279 : dz_rg a279 4 0 16777215) (o0 : c248_groups.toInt = ((dz_kg κ : Nat) : Int)) (o1 : c248_pots.toInt = ((dz_kp κ : Nat) : Int)) (o2 : c261_everyRank.toInt = ((dz_ke κ : Nat) : Int)) (kv : Nat) (hkv : 1000000000000 ≤ kv) : dz_T (s193_X8_allow_0 fu c248_groups c248_pots c261_everyRank a264 a277 (F193_X8_allow fu c248_groups c248_pots c261_everyRank a264 a277 kv)  v1 v2 a279) (fun r => dz_rg r 4 0 16777215) := by
  unfold s193_X8_allow_0
  have e1 := dz_l0
  exact (t193_X8_allow_I_s fu hfu κ hκ c248_groups c248_pots c261_everyRank a264 a277 p0 p1 p2 p3 p4 p5 hr_a264 hr_a277 o0 o1 o2 kv) v1 v2 (0 : Int32) a279 p7 p6 (by omega) (by omega) (by omega) (hr_a279) (by omega)
theorem t193_X8_allow_s (fu : Nat) (hfu : 1000000000000 ≤ fu) (κ : Nat) (hκ : κ < 14) (c248_groups : Int32) (c248_pots : Int32) (c261_everyRank : Int32) (a264 : Nat → Int32) (a277 : Nat → Int32) (v1 : Int32) (v2 : Int32) (a279 : Nat → Int32) (p0 : c248_groups.toInt ≤ 4) (p1 : 2 ≤ c248_groups.toInt) (p2 : c248_pots.toInt ≤ 4) (p3 : 0 ≤ c248_pots.toInt) (p4 : c261_everyRank.toInt ≤ 16777215) (p5 : 0 ≤ c261_everyRank.toInt) (p6 : (-1) ≤ v2.toInt) (p7 : v2.toInt ≤ 3) (hr_a264 : dz_rg a264 16 0 16777215) (hr_a277 : dz_rg a277 12 (-1) 3) (hr_a279 : dz_rg a279 4 0 16777215) (o0 : c248_groups.toInt = ((dz_kg κ : Nat) : Int)) (o1 : c248_pots.toInt = ((dz_kp κ : Nat) : Int)) (o2 : c261_everyRank.toInt = ((dz_ke κ : Nat) : Int)) : dz_T (f193_X8_allow fu c248_groups c248_pots c261_everyRank a264 a277 v1 v2 a279) (fun r => dz_rg r 4 0 16777215) :=
  t193_X8_allow_E_s fu hfu κ hκ c248_groups c248_pots c261_everyRank a264 a277 v1 v2 a279 p0 p1 p2 p3 p4 p5 p6 p7 hr_a264 hr_a277 hr_a279 o0 o1 o2 fu hfu
abbrev p194_X2_fits_s (fu : Nat) (κ : Nat) (c248_pots : Int32) (c261_many : Int32) (a268 : Nat → Int32) (a279 : Nat → Int32) (k : Nat) : Prop :=
  (∀ (v1 : Int32) (v3 : Int32), v1.toInt ≤ 13823 → 0 ≤ v1.toInt → v3.toInt ≤ 4 → 0 ≤ v3.toInt → v3.toInt ≤ c248_pots.toInt → 0 + 0 + (4 - v3.toInt) * 10 + 5 ≤ ((k : Nat) : Int) → dz_T ((F194_X2_fits fu c248_pots c261_many a268 a279 k) v1 v3) (fun r => r.toInt ≤ 1 ∧ 0 ≤ r.toInt))
set_option maxHeartbeats 1000000 in
set_option maxRecDepth 10000 in
theorem t194_X2_fits_h1_s (fu : Nat) (hfu : 1000000000000 ≤ fu) (κ : Nat) (hκ : κ < 14) (c248_pots : Int32) (c261_many : Int32) (a268 : Nat → Int32) (a279 : Nat → Int32) (p0 : c248_pots.toInt ≤ 4) (p1 : 0 ≤ c248_pots.toInt) (p2 : c261_many.toInt ≤ 24) (p3 : 0 ≤ c261_many.toInt) (hr_a268 : dz_pt a268 (dz_kS κ)) (hr_a279 : dz_rg a279 4 0 16777215) (o0 : c248_pots.toInt = ((dz_kp κ : Nat) : Int)) (o1 : c261_many.toInt = ((dz_kr κ : Nat) : Int)) (k : Nat) (ih : ∀ j9, j9 < k → p194_X2_fits_s fu κ c248_pots c261_many a268 a279 j9) : ∀ (v1 : Int32) (v3 : Int32), v1.toInt ≤ 13823 → 0 ≤ v1.toInt → v3.toInt ≤ 4 → 0 ≤ v3.toInt → v3.toInt ≤ c248_pots.toInt → 0 + 0 + (4 - v3.toInt) * 10 + 5 ≤ ((k : Nat) : Int) → dz_T ((F194_X2_fits fu c248_pots c261_many a268 a279 k) v1 v3) (fun r => r.toInt ≤ 1 ∧ 0 ≤ r.toInt) := by
  intro v1 v3 i0 i1 i2 i3 i4 hm
  obtain ⟨k0, rfl⟩ : ∃ x, k = x + 1 := ⟨k - 1, by omega⟩
  show dz_T (s194_X2_fits_1 fu c248_pots c261_many a268 a279 (F194_X2_fits fu c248_pots c261_many a268 a279 k0)  v1 v3) _
  unfold s194_X2_fits_1
  refine dz_Tle (fun h1 => ?_) (fun h1 => ?_)
  · skip
    have e2 := dz_l1
    exact dz_Ts ⟨(by omega), (by omega)⟩
  · skip
    refine dz_Tin (by omega) (by omega) ?_
    refine dz_Tbe (show f141_X2_rankIn fu c261_many a268 v1 v3 = (if dz_in v3 4 then (if ((a268 v3.toNatClampNeg) ≤ (0 : Int32)) then (some (0 : Int32)) else (if (c261_many ≤ (0 : Int32)) then (some (0 : Int32)) else (if (¬ ((a268 v3.toNatClampNeg) = (0 : Int32))) then (if (¬ (c261_many = (0 : Int32))) then (some (dz_rem (v1 / (a268 v3.toNatClampNeg)) c261_many)) else none) else none))) else none) from rfl) ?_
    refine dz_Tinb (by omega) (by omega) ?_
    have e3 := dz_kSat (hr_a268) (i := v3) hκ (by omega) (by omega)
    have e4 := dz_l0
    refine dz_Tleb (fun h5 => ?_) (fun h5 => ?_)
    · skip
      exfalso; omega
    · skip
      refine dz_Tleb (fun h6 => ?_) (fun h6 => ?_)
      · skip
        refine dz_Tsb ?_
        have e7 := dz_rgat (hr_a279) (i := v3) (by omega) (by omega)
        have e8 := dz_ushp (a := (a279 v3.toNatClampNeg)) (b := (0 : Int32)) (by omega)
        have e9 := dz_l1
        have e10 := dz_andr (a := (dz_ush (a279 v3.toNatClampNeg) (0 : Int32))) (b := (1 : Int32)) (by omega)
        have e11 := dz_andl (a := (dz_ush (a279 v3.toNatClampNeg) (0 : Int32))) (b := (1 : Int32)) (by omega)
        refine dz_Teq (fun h12 => ?_) (fun h12 => ?_)
        · skip
          exact dz_Ts ⟨(by omega), (by omega)⟩
        · skip
          have e13 := dz_add (a := v3) (b := (1 : Int32)) (by omega) (by omega)
          exact (ih k0 (by omega)) v1 (v3 + (1 : Int32)) i0 i1 (by omega) (by omega) (by omega) (by omega)
      · skip
        refine dz_Tzb (by omega) ?_
        refine dz_Tzb (by omega) ?_
        refine dz_Tsb ?_
        have e14 := dz_rgat (hr_a279) (i := v3) (by omega) (by omega)
        have e15 := dz_divq (a := v1) (b := (a268 v3.toNatClampNeg)) 1 13823 (by omega) (by omega) (by omega) (by omega)
        have e16 := dz_remv (a := (v1 / (a268 v3.toNatClampNeg))) (b := c261_many) (by omega) (by omega)
        have e17 := dz_ushp (a := (a279 v3.toNatClampNeg)) (b := (dz_rem (v1 / (a268 v3.toNatClampNeg)) c261_many)) (by omega)
        have e18 := dz_l1
        have e19 := dz_andr (a := (dz_ush (a279 v3.toNatClampNeg) (dz_rem (v1 / (a268 v3.toNatClampNeg)) c261_many))) (b := (1 : Int32)) (by omega)
        have e20 := dz_andl (a := (dz_ush (a279 v3.toNatClampNeg) (dz_rem (v1 / (a268 v3.toNatClampNeg)) c261_many))) (b := (1 : Int32)) (by omega)
        refine dz_Teq (fun h21 => ?_) (fun h21 => ?_)
        · skip
          exact dz_Ts ⟨(by omega), (by omega)⟩
        · skip
          have e22 := dz_add (a := v3) (b := (1 : Int32)) (by omega) (by omega)
          exact (ih k0 (by omega)) v1 (v3 + (1 : Int32)) i0 i1 (by omega) (by omega) (by omega) (by omega)
theorem t194_X2_fits_I_s (fu : Nat) (hfu : 1000000000000 ≤ fu) (κ : Nat) (hκ : κ < 14) (c248_pots : Int32) (c261_many : Int32) (a268 : Nat → Int32) (a279 : Nat → Int32) (p0 : c248_pots.toInt ≤ 4) (p1 : 0 ≤ c248_pots.toInt) (p2 : c261_many.toInt ≤ 24) (p3 : 0 ≤ c261_many.toInt) (hr_a268 : dz_pt a268 (dz_kS κ)) (hr_a279 : dz_rg a279 4 0 16777215) (o0 : c248_pots.toInt = ((dz_kp κ : Nat) : Int)) (o1 : c261_many.toInt = ((dz_kr κ : Nat) : Int)) (k : Nat) : p194_X2_fits_s fu κ c248_pots c261_many a268 a279 k := by
  induction k using Nat.strongRecOn with
  | _ k ih => exact t194_X2_fits_h1_s fu hfu κ hκ c248_pots c261_many a268 a279 p0 p1 p2 p3 hr_a268 hr_a279 o0 o1 k ih
set_option maxHeartbeats 1000000 in
set_option maxRecDepth 10000 in
theorem t194_X2_fits_E_s (fu : Nat) (hfu : 1000000000000 ≤ fu) (κ : Nat) (hκ : κ < 14) (c248_pots : Int32) (c261_many : Int32) (a268 : Nat → Int32) (a279 : Nat → Int32) (v1 : Int32) (p0 : c248_pots.toInt ≤ 4) (p1 : 0 ≤ c248_pots.toInt) (p2 : c261_many.toInt ≤ 24) (p3 : 0 ≤ c261_many.toInt) (p4 : 0 ≤ v1.toInt) (p5 : v1.toInt ≤ 13823) (hr_a268 : dz_pt a268 (dz_kS κ)) (hr_a279 : dz_rg a279 4 0 16777215) (o0 : c248_pots.toInt = ((dz_kp κ : Nat) : Int)) (o1 : c261_many.toInt = ((dz_kr κ : Nat) : Int)) (kv : Nat) (hkv : 1000000000000 ≤ kv) : dz_T (s194_X2_fits_0 fu c248_pots c261_many a268 a279 (F194_X2_fits fu c248_pots c261_many a268 a279 kv)  v1) (fun r => r.toInt ≤ 1 ∧ 0 ≤ r.toInt) := by
  unfold s194_X2_fits_0
  have e1 := dz_l0
  exact (t194_X2_fits_I_s fu hfu κ hκ c248_pots c261_many a268 a279 p0 p1 p2 p3 hr_a268 hr_a279 o0 o1 kv) v1 (0 : Int32) p5 p4 (by omega) (by omega) (by omega) (by omega)
theorem t194_X2_fits_s (fu : Nat) (hfu : 1000000000000 ≤ fu) (κ : Nat) (hκ : κ < 14) (c248_pots : Int32) (c261_many : Int32) (a268 : Nat → Int32) (a279 : Nat → Int32) (v1 : Int32) (p0 : c248_pots.toInt ≤ 4) (p1 : 0 ≤ c248_pots.toInt) (p2 : c261_many.toInt ≤ 24) (p3 : 0 ≤ c261_many.toInt) (p4 : 0 ≤ v1.toInt) (p5 : v1.toInt ≤ 13823) (hr_a268 : dz_pt a268 (dz_kS κ)) (hr_a279 : dz_rg a279 4 0 16777215) (o0 : c248_pots.toInt = ((dz_kp κ : Nat) : Int)) (o1 : c261_many.toInt = ((dz_kr κ : Nat) : Int)) : dz_T (f194_X2_fits fu c248_pots c261_many a268 a279 v1) (fun r => r.toInt ≤ 1 ∧ 0 ≤ r.toInt) :=
  t194_X2_fits_E_s fu hfu κ hκ c248_pots c261_many a268 a279 v1 p0 p1 p2 p3 p4 p5 hr_a268 hr_a279 o0 o1 fu hfu
abbrev p195_X2_firstLawful_s (fu : Nat) (κ : Nat) (c248_pots : Int32) (c261_many : Int32) (c267_lawfulOnes : Int32) (a268 : Nat → Int32) (a270 : Nat → Int32) (n270 : Nat) (a279 : Nat → Int32) (k : Nat) : Prop :=
  (∀ (v2 : Int32), v2.toInt ≤ 13824 → 0 ≤ v2.toInt → v2.toInt ≤ ((n270 : Nat) : Int) → v2.toInt ≤ c267_lawfulOnes.toInt → 0 + 0 + (13824 - v2.toInt) * 10 + 5 ≤ ((k : Nat) : Int) → dz_T ((F195_X2_firstLawful fu c248_pots c261_many c267_lawfulOnes a268 a270 n270 a279 k) v2) (fun r => r.toInt ≤ 13823 ∧ (-1) ≤ r.toInt))
set_option maxHeartbeats 1000000 in
set_option maxRecDepth 10000 in
theorem t195_X2_firstLawful_h1_s (fu : Nat) (hfu : 1000000000000 ≤ fu) (κ : Nat) (hκ : κ < 14) (c248_pots : Int32) (c261_many : Int32) (c267_lawfulOnes : Int32) (a268 : Nat → Int32) (a270 : Nat → Int32) (n270 : Nat) (a279 : Nat → Int32) (p0 : c248_pots.toInt ≤ 4) (p1 : 0 ≤ c248_pots.toInt) (p2 : c261_many.toInt ≤ 24) (p3 : 0 ≤ c261_many.toInt) (p4 : c267_lawfulOnes.toInt ≤ 13824) (p5 : 0 ≤ c267_lawfulOnes.toInt) (p6 : ((n270 : Nat) : Int) ≤ 13824) (p7 : 1 ≤ ((n270 : Nat) : Int)) (p8 : c267_lawfulOnes.toInt ≤ ((n270 : Nat) : Int)) (hr_a268 : dz_pt a268 (dz_kS κ)) (hr_a270 : dz_rg a270 c267_lawfulOnes.toInt.toNat 0 (((dz_kt κ : Nat) : Int) - 1)) (hr_a279 : dz_rg a279 4 0 16777215) (o0 : c248_pots.toInt = ((dz_kp κ : Nat) : Int)) (o1 : c261_many.toInt = ((dz_kr κ : Nat) : Int)) (k : Nat) (ih : ∀ j9, j9 < k → p195_X2_firstLawful_s fu κ c248_pots c261_many c267_lawfulOnes a268 a270 n270 a279 j9) : ∀ (v2 : Int32), v2.toInt ≤ 13824 → 0 ≤ v2.toInt → v2.toInt ≤ ((n270 : Nat) : Int) → v2.toInt ≤ c267_lawfulOnes.toInt → 0 + 0 + (13824 - v2.toInt) * 10 + 5 ≤ ((k : Nat) : Int) → dz_T ((F195_X2_firstLawful fu c248_pots c261_many c267_lawfulOnes a268 a270 n270 a279 k) v2) (fun r => r.toInt ≤ 13823 ∧ (-1) ≤ r.toInt) := by
  intro v2 i0 i1 i2 i3 hm
  obtain ⟨k0, rfl⟩ : ∃ x, k = x + 1 := ⟨k - 1, by omega⟩
  show dz_T (s195_X2_firstLawful_1 fu c248_pots c261_many c267_lawfulOnes a268 a270 n270 a279 (F195_X2_firstLawful fu c248_pots c261_many c267_lawfulOnes a268 a270 n270 a279 k0)  v2) _
  unfold s195_X2_firstLawful_1
  refine dz_Tle (fun h1 => ?_) (fun h1 => ?_)
  · skip
    have e2 := dz_lm1
    exact dz_Ts ⟨(by omega), (by omega)⟩
  · skip
    refine dz_Tin (by omega) (by omega) ?_
    have e3 := dz_rgat (hr_a270) (i := v2) (by omega) (by omega)
    have e4 := dz_kt4 hκ
    refine dz_Tb (t194_X2_fits_s fu hfu κ hκ _ _ _ _ _ p0 p1 p2 p3 (by omega) (by omega) (hr_a268) (hr_a279) o0 o1) (fun r1 q => ?_)
    obtain ⟨q1_0, q1_1⟩ := q
    have e5 := dz_l0
    refine dz_Teq (fun h6 => ?_) (fun h6 => ?_)
    · skip
      have e7 := dz_l1
      have e8 := dz_add (a := v2) (b := (1 : Int32)) (by omega) (by omega)
      exact (ih k0 (by omega)) (v2 + (1 : Int32)) (by omega) (by omega) (by omega) (by omega) (by omega)
    · skip
      refine dz_Tin (by omega) (by omega) ?_
      exact dz_Ts ⟨(by omega), (by omega)⟩
theorem t195_X2_firstLawful_I_s (fu : Nat) (hfu : 1000000000000 ≤ fu) (κ : Nat) (hκ : κ < 14) (c248_pots : Int32) (c261_many : Int32) (c267_lawfulOnes : Int32) (a268 : Nat → Int32) (a270 : Nat → Int32) (n270 : Nat) (a279 : Nat → Int32) (p0 : c248_pots.toInt ≤ 4) (p1 : 0 ≤ c248_pots.toInt) (p2 : c261_many.toInt ≤ 24) (p3 : 0 ≤ c261_many.toInt) (p4 : c267_lawfulOnes.toInt ≤ 13824) (p5 : 0 ≤ c267_lawfulOnes.toInt) (p6 : ((n270 : Nat) : Int) ≤ 13824) (p7 : 1 ≤ ((n270 : Nat) : Int)) (p8 : c267_lawfulOnes.toInt ≤ ((n270 : Nat) : Int)) (hr_a268 : dz_pt a268 (dz_kS κ)) (hr_a270 : dz_rg a270 c267_lawfulOnes.toInt.toNat 0 (((dz_kt κ : Nat) : Int) - 1)) (hr_a279 : dz_rg a279 4 0 16777215) (o0 : c248_pots.toInt = ((dz_kp κ : Nat) : Int)) (o1 : c261_many.toInt = ((dz_kr κ : Nat) : Int)) (k : Nat) : p195_X2_firstLawful_s fu κ c248_pots c261_many c267_lawfulOnes a268 a270 n270 a279 k := by
  induction k using Nat.strongRecOn with
  | _ k ih => exact t195_X2_firstLawful_h1_s fu hfu κ hκ c248_pots c261_many c267_lawfulOnes a268 a270 n270 a279 p0 p1 p2 p3 p4 p5 p6 p7 p8 hr_a268 hr_a270 hr_a279 o0 o1 k ih
set_option maxHeartbeats 1000000 in
set_option maxRecDepth 10000 in
theorem t195_X2_firstLawful_E_s (fu : Nat) (hfu : 1000000000000 ≤ fu) (κ : Nat) (hκ : κ < 14) (c248_pots : Int32) (c261_many : Int32) (c267_lawfulOnes : Int32) (a268 : Nat → Int32) (a270 : Nat → Int32) (n270 : Nat) (a279 : Nat → Int32) (p0 : c248_pots.toInt ≤ 4) (p1 : 0 ≤ c248_pots.toInt) (p2 : c261_many.toInt ≤ 24) (p3 : 0 ≤ c261_many.toInt) (p4 : c267_lawfulOnes.toInt ≤ 13824) (p5 : 0 ≤ c267_lawfulOnes.toInt) (p6 : ((n270 : Nat) : Int) ≤ 13824) (p7 : 1 ≤ ((n270 : Nat) : Int)) (p8 : c267_lawfulOnes.toInt ≤ ((n270 : Nat) : Int)) (hr_a268 : dz_pt a268 (dz_kS κ)) (hr_a270 : dz_rg a270 c267_lawfulOnes.toInt.toNat 0 (((dz_kt κ : Nat) : Int) - 1)) (hr_a279 : dz_rg a279 4 0 16777215) (o0 : c248_pots.toInt = ((dz_kp κ : Nat) : Int)) (o1 : c261_many.toInt = ((dz_kr κ : Nat) : Int)) (kv : Nat) (hkv : 1000000000000 ≤ kv) : dz_T (s195_X2_firstLawful_0 fu c248_pots c261_many c267_lawfulOnes a268 a270 n270 a279 (F195_X2_firstLawful fu c248_pots c261_many c267_lawfulOnes a268 a270 n270 a279 kv) ) (fun r => r.toInt ≤ 13823 ∧ (-1) ≤ r.toInt) := by
  unfold s195_X2_firstLawful_0
  have e1 := dz_l0
  exact (t195_X2_firstLawful_I_s fu hfu κ hκ c248_pots c261_many c267_lawfulOnes a268 a270 n270 a279 p0 p1 p2 p3 p4 p5 p6 p7 p8 hr_a268 hr_a270 hr_a279 o0 o1 kv) (0 : Int32) (by omega) (by omega) (by omega) (by omega) (by omega)
theorem t195_X2_firstLawful_s (fu : Nat) (hfu : 1000000000000 ≤ fu) (κ : Nat) (hκ : κ < 14) (c248_pots : Int32) (c261_many : Int32) (c267_lawfulOnes : Int32) (a268 : Nat → Int32) (a270 : Nat → Int32) (n270 : Nat) (a279 : Nat → Int32) (p0 : c248_pots.toInt ≤ 4) (p1 : 0 ≤ c248_pots.toInt) (p2 : c261_many.toInt ≤ 24) (p3 : 0 ≤ c261_many.toInt) (p4 : c267_lawfulOnes.toInt ≤ 13824) (p5 : 0 ≤ c267_lawfulOnes.toInt) (p6 : ((n270 : Nat) : Int) ≤ 13824) (p7 : 1 ≤ ((n270 : Nat) : Int)) (p8 : c267_lawfulOnes.toInt ≤ ((n270 : Nat) : Int)) (hr_a268 : dz_pt a268 (dz_kS κ)) (hr_a270 : dz_rg a270 c267_lawfulOnes.toInt.toNat 0 (((dz_kt κ : Nat) : Int) - 1)) (hr_a279 : dz_rg a279 4 0 16777215) (o0 : c248_pots.toInt = ((dz_kp κ : Nat) : Int)) (o1 : c261_many.toInt = ((dz_kr κ : Nat) : Int)) : dz_T (f195_X2_firstLawful fu c248_pots c261_many c267_lawfulOnes a268 a270 n270 a279) (fun r => r.toInt ≤ 13823 ∧ (-1) ≤ r.toInt) :=
  t195_X2_firstLawful_E_s fu hfu κ hκ c248_pots c261_many c267_lawfulOnes a268 a270 n270 a279 p0 p1 p2 p3 p4 p5 p6 p7 p8 hr_a268 hr_a270 hr_a279 o0 o1 fu hfu
set_option maxHeartbeats 1000000 in
set_option maxRecDepth 10000 in
theorem t196_X11_ends_s (fu : Nat) (hfu : 1000000000000 ≤ fu) (κ : Nat) (hκ : κ < 14) (c248_groups : Int32) (c248_pots : Int32) (c248_teams : Int32) (c261_many : Int32) (c261_everyRank : Int32) (a262 : Nat → Int32) (a264 : Nat → Int32) (c267_lawfulOnes : Int32) (a268 : Nat → Int32) (a270 : Nat → Int32) (n270 : Nat) (a277 : Nat → Int32) (v1 : Int32) (a279 : Nat → Int32) (p0 : c248_groups.toInt ≤ 4) (p1 : 2 ≤ c248_groups.toInt) (p2 : c248_pots.toInt ≤ 4) (p3 : 0 ≤ c248_pots.toInt) (p4 : c248_teams.toInt ≤ 12) (p5 : 0 ≤ c248_teams.toInt) (p6 : c261_many.toInt ≤ 24) (p7 : 0 ≤ c261_many.toInt) (p8 : c261_everyRank.toInt ≤ 16777215) (p9 : 0 ≤ c261_everyRank.toInt) (p10 : c267_lawfulOnes.toInt ≤ 13824) (p11 : 0 ≤ c267_lawfulOnes.toInt) (p12 : ((n270 : Nat) : Int) ≤ 13824) (p13 : 1 ≤ ((n270 : Nat) : Int)) (p14 : c267_lawfulOnes.toInt ≤ ((n270 : Nat) : Int)) (hr_a262 : dz_rg a262 96 0 3) (hr_a264 : dz_rg a264 16 0 16777215) (hr_a268 : dz_pt a268 (dz_kS κ)) (hr_a270 : dz_rg a270 c267_lawfulOnes.toInt.toNat 0 (((dz_kt κ : Nat) : Int) - 1)) (hr_a277 : dz_rg a277 12 (-1) 3) (hr_a279 : dz_rg a279 4 0 16777215) (o0 : c248_groups.toInt = ((dz_kg κ : Nat) : Int)) (o1 : c248_pots.toInt = ((dz_kp κ : Nat) : Int)) (o2 : c248_teams.toInt = ((dz_km κ : Nat) : Int)) (o3 : c261_many.toInt = ((dz_kr κ : Nat) : Int)) (o4 : c261_everyRank.toInt = ((dz_ke κ : Nat) : Int)) : dz_T (f196_X11_ends fu c248_groups c248_pots c248_teams c261_many c261_everyRank a262 a264 c267_lawfulOnes a268 a270 n270 a277 v1 a279) (fun r => r.1.toInt ≤ 3 ∧ (-1) ≤ r.1.toInt ∧ r.1.toInt ≤ c248_teams.toInt + 2 ∧ dz_rg r.2 4 0 16777215) := by
  unfold f196_X11_ends s196_X11_ends_0
  refine dz_Tbe (show f159_X11_isTeam fu c248_teams v1 = (if (v1 < (0 : Int32)) then (some (0 : Int32)) else (if (c248_teams ≤ v1) then (some (0 : Int32)) else (some (1 : Int32)))) from rfl) ?_
  have e1 := dz_l0
  refine dz_Tltb (fun h2 => ?_) (fun h2 => ?_)
  · skip
    refine dz_Tsb ?_
    refine dz_Teq (fun h3 => ?_) (fun h3 => ?_)
    · skip
      have e4 := dz_lm1
      refine dz_Ts ?_
      dsimp only
      exact ⟨(by omega), (by omega), (by omega), (hr_a279)⟩
    · skip
      exfalso; omega
  · skip
    refine dz_Tleb (fun h5 => ?_) (fun h5 => ?_)
    · skip
      refine dz_Tsb ?_
      refine dz_Teq (fun h6 => ?_) (fun h6 => ?_)
      · skip
        have e7 := dz_lm1
        refine dz_Ts ?_
        dsimp only
        exact ⟨(by omega), (by omega), (by omega), (hr_a279)⟩
      · skip
        exfalso; omega
    · skip
      refine dz_Tsb ?_
      have e8 := dz_l1
      refine dz_Teq (fun h9 => ?_) (fun h9 => ?_)
      · skip
        exfalso; omega
      · skip
        have e10 := dz_lm1
        refine dz_Tb (t193_X8_allow_s fu hfu κ hκ _ _ _ _ _ _ _ _ p0 p1 p2 p3 p8 p9 (by omega) (by omega) (hr_a264) (hr_a277) (hr_a279) o0 o1 o4) (fun r2 q => ?_)
        have qa2_0 := q
        refine dz_Tb (t195_X2_firstLawful_s fu hfu κ hκ _ _ _ _ _ _ _ p2 p3 p6 p7 p10 p11 p12 p13 p14 (hr_a268) (hr_a270) (qa2_0) o1 o3) (fun r3 q => ?_)
        obtain ⟨q3_0, q3_1⟩ := q
        refine dz_Teq (fun h11 => ?_) (fun h11 => ?_)
        · skip
          refine dz_Ts ?_
          dsimp only
          exact ⟨(by omega), (by omega), (by omega), (qa2_0)⟩
        · skip
          refine dz_Tb (t162_X2_groupIn_s fu hfu κ hκ _ _ _ _ _ _ p0 p1 p6 p7 (by first | assumption | omega) q3_0 (by first | assumption | omega) (by first | assumption | omega) (hr_a262) (hr_a268) (by first | assumption | omega) o0 o3) (fun r4 q => ?_)
          obtain ⟨q4_0, q4_1⟩ := q
          refine dz_Ts ?_
          dsimp only
          exact ⟨q4_0, (by first | assumption | omega), (by first | assumption | omega), (qa2_0)⟩
abbrev p197_X2_fewestAgainst_s (fu : Nat) (κ : Nat) (c248_pots : Int32) (c248_bars : Int32) (c261_many : Int32) (c267_total : Int32) (a268 : Nat → Int32) (a269 : Nat → Int32) (n269 : Nat) (a279 : Nat → Int32) (k : Nat) : Prop :=
  (∀ (v2 : Int32) (a272 : Nat → Int32), v2.toInt ≤ 13824 → 0 ≤ v2.toInt → v2.toInt ≤ ((n269 : Nat) : Int) → v2.toInt ≤ c267_total.toInt → 0 + 0 + (13824 - v2.toInt) * 12 + 6 ≤ ((k : Nat) : Int) → dz_T ((F197_X2_fewestAgainst fu c248_pots c248_bars c261_many c267_total a268 a269 n269 a279 k).1 v2 a272) (fun r => r.1.toInt ≤ 1023 ∧ 0 ≤ r.1.toInt))
set_option maxHeartbeats 1000000 in
set_option maxRecDepth 10000 in
theorem t197_X2_fewestAgainst_h1_s (fu : Nat) (hfu : 1000000000000 ≤ fu) (κ : Nat) (hκ : κ < 14) (c248_pots : Int32) (c248_bars : Int32) (c261_many : Int32) (c267_total : Int32) (a268 : Nat → Int32) (a269 : Nat → Int32) (n269 : Nat) (a279 : Nat → Int32) (p0 : c248_pots.toInt ≤ 4) (p1 : 0 ≤ c248_pots.toInt) (p2 : c248_bars.toInt ≤ 10) (p3 : 0 ≤ c248_bars.toInt) (p4 : c261_many.toInt ≤ 24) (p5 : 0 ≤ c261_many.toInt) (p6 : c267_total.toInt ≤ 13824) (p7 : 1 ≤ c267_total.toInt) (p8 : ((n269 : Nat) : Int) ≤ 13824) (p9 : 1 ≤ ((n269 : Nat) : Int)) (p10 : c267_total.toInt ≤ ((n269 : Nat) : Int)) (hr_a268 : dz_pt a268 (dz_kS κ)) (hr_a269 : dz_rg a269 n269 0 1023) (hr_a279 : dz_rg a279 4 0 16777215) (o0 : c248_pots.toInt = ((dz_kp κ : Nat) : Int)) (o1 : c261_many.toInt = ((dz_kr κ : Nat) : Int)) (o2 : c267_total.toInt = ((dz_kt κ : Nat) : Int)) (k : Nat) (ih : ∀ j9, j9 < k → p197_X2_fewestAgainst_s fu κ c248_pots c248_bars c261_many c267_total a268 a269 n269 a279 j9) : ∀ (v2 : Int32) (a272 : Nat → Int32), v2.toInt ≤ 13824 → 0 ≤ v2.toInt → v2.toInt ≤ ((n269 : Nat) : Int) → v2.toInt ≤ c267_total.toInt → 0 + 0 + (13824 - v2.toInt) * 12 + 6 ≤ ((k : Nat) : Int) → dz_T ((F197_X2_fewestAgainst fu c248_pots c248_bars c261_many c267_total a268 a269 n269 a279 k).1 v2 a272) (fun r => r.1.toInt ≤ 1023 ∧ 0 ≤ r.1.toInt) := by
  intro v2 a272 i0 i1 i2 i3 hm
  obtain ⟨k0, rfl⟩ : ∃ x, k = x + 1 := ⟨k - 1, by omega⟩
  show dz_T (s197_X2_fewestAgainst_1 fu c248_pots c248_bars c261_many c267_total a268 a269 n269 a279 (F197_X2_fewestAgainst fu c248_pots c248_bars c261_many c267_total a268 a269 n269 a279 k0).2  v2 a272) _
  unfold s197_X2_fewestAgainst_1
  refine dz_Tle (fun h1 => ?_) (fun h1 => ?_)
  · skip
    refine dz_Tb (t138_X2_addUp fu hfu _ _ p3 p2) (fun r1 _ => ?_)
    refine dz_Tb (t157_X2_fewest fu hfu _ _ p3 p2) (fun r2 q => ?_)
    obtain ⟨q2_0, q2_1⟩ := q
    refine dz_Ts ?_
    dsimp only
    exact ⟨q2_0, q2_1⟩
  · skip
    refine dz_Tb (t194_X2_fits_s fu hfu κ hκ _ _ _ _ _ p0 p1 p4 p5 i1 (by first | assumption | omega) (hr_a268) (hr_a279) o0 o1) (fun r3 q => ?_)
    obtain ⟨q3_0, q3_1⟩ := q
    have e2 := dz_l0
    refine dz_Teq (fun h3 => ?_) (fun h3 => ?_)
    · skip
      obtain ⟨k1, rfl⟩ : ∃ x, k0 = x + 1 := ⟨k0 - 1, by omega⟩
      show dz_T (s197_X2_fewestAgainst_2 fu c248_pots c248_bars c261_many c267_total a268 a269 n269 a279 (F197_X2_fewestAgainst fu c248_pots c248_bars c261_many c267_total a268 a269 n269 a279 k1).1 v2 a272) _
      unfold s197_X2_fewestAgainst_2
      have e4 := dz_l1
      have e5 := dz_add (a := v2) (b := (1 : Int32)) (by omega) (by omega)
      exact (ih k1 (by omega)) (v2 + (1 : Int32)) a272 (by omega) (by omega) (by omega) (by omega) (by omega)
    · skip
      refine dz_Tin (by omega) (by omega) ?_
      have e6 := dz_rgat (hr_a269) (i := v2) (by omega) (by omega)
      refine dz_Tin (by omega) (by omega) ?_
      refine dz_Tin (by omega) (by omega) ?_
      obtain ⟨k2, rfl⟩ : ∃ x, k0 = x + 1 := ⟨k0 - 1, by omega⟩
      show dz_T (s197_X2_fewestAgainst_2 fu c248_pots c248_bars c261_many c267_total a268 a269 n269 a279 (F197_X2_fewestAgainst fu c248_pots c248_bars c261_many c267_total a268 a269 n269 a279 k2).1 v2 (upd a272 (a269 v2.toNatClampNeg).toNatClampNeg ((a272 (a269 v2.toNatClampNeg).toNatClampNeg) + (1 : Int32)))) _
      unfold s197_X2_fewestAgainst_2
      have e7 := dz_l1
      have e8 := dz_add (a := v2) (b := (1 : Int32)) (by omega) (by omega)
      exact (ih k2 (by omega)) (v2 + (1 : Int32)) (upd a272 (a269 v2.toNatClampNeg).toNatClampNeg ((a272 (a269 v2.toNatClampNeg).toNatClampNeg) + (1 : Int32))) (by omega) (by omega) (by omega) (by omega) (by omega)
theorem t197_X2_fewestAgainst_I_s (fu : Nat) (hfu : 1000000000000 ≤ fu) (κ : Nat) (hκ : κ < 14) (c248_pots : Int32) (c248_bars : Int32) (c261_many : Int32) (c267_total : Int32) (a268 : Nat → Int32) (a269 : Nat → Int32) (n269 : Nat) (a279 : Nat → Int32) (p0 : c248_pots.toInt ≤ 4) (p1 : 0 ≤ c248_pots.toInt) (p2 : c248_bars.toInt ≤ 10) (p3 : 0 ≤ c248_bars.toInt) (p4 : c261_many.toInt ≤ 24) (p5 : 0 ≤ c261_many.toInt) (p6 : c267_total.toInt ≤ 13824) (p7 : 1 ≤ c267_total.toInt) (p8 : ((n269 : Nat) : Int) ≤ 13824) (p9 : 1 ≤ ((n269 : Nat) : Int)) (p10 : c267_total.toInt ≤ ((n269 : Nat) : Int)) (hr_a268 : dz_pt a268 (dz_kS κ)) (hr_a269 : dz_rg a269 n269 0 1023) (hr_a279 : dz_rg a279 4 0 16777215) (o0 : c248_pots.toInt = ((dz_kp κ : Nat) : Int)) (o1 : c261_many.toInt = ((dz_kr κ : Nat) : Int)) (o2 : c267_total.toInt = ((dz_kt κ : Nat) : Int)) (k : Nat) : p197_X2_fewestAgainst_s fu κ c248_pots c248_bars c261_many c267_total a268 a269 n269 a279 k := by
  induction k using Nat.strongRecOn with
  | _ k ih => exact t197_X2_fewestAgainst_h1_s fu hfu κ hκ c248_pots c248_bars c261_many c267_total a268 a269 n269 a279 p0 p1 p2 p3 p4 p5 p6 p7 p8 p9 p10 hr_a268 hr_a269 hr_a279 o0 o1 o2 k ih
set_option maxHeartbeats 1000000 in
set_option maxRecDepth 10000 in
theorem t197_X2_fewestAgainst_E_s (fu : Nat) (hfu : 1000000000000 ≤ fu) (κ : Nat) (hκ : κ < 14) (c248_pots : Int32) (c248_bars : Int32) (c261_many : Int32) (c267_total : Int32) (a268 : Nat → Int32) (a269 : Nat → Int32) (n269 : Nat) (a279 : Nat → Int32) (a272 : Nat → Int32) (p0 : c248_pots.toInt ≤ 4) (p1 : 0 ≤ c248_pots.toInt) (p2 : c248_bars.toInt ≤ 10) (p3 : 0 ≤ c248_bars.toInt) (p4 : c261_many.toInt ≤ 24) (p5 : 0 ≤ c261_many.toInt) (p6 : c267_total.toInt ≤ 13824) (p7 : 1 ≤ c267_total.toInt) (p8 : ((n269 : Nat) : Int) ≤ 13824) (p9 : 1 ≤ ((n269 : Nat) : Int)) (p10 : c267_total.toInt ≤ ((n269 : Nat) : Int)) (hr_a268 : dz_pt a268 (dz_kS κ)) (hr_a269 : dz_rg a269 n269 0 1023) (hr_a279 : dz_rg a279 4 0 16777215) (o0 : c248_pots.toInt = ((dz_kp κ : Nat) : Int)) (o1 : c261_many.toInt = ((dz_kr κ : Nat) : Int)) (o2 : c267_total.toInt = ((dz_kt κ : Nat) : Int)) (kv : Nat) (hkv : 1000000000000 ≤ kv) : dz_T (s197_X2_fewestAgainst_0 fu c248_pots c248_bars c261_many c267_total a268 a269 n269 a279 (F197_X2_fewestAgainst fu c248_pots c248_bars c261_many c267_total a268 a269 n269 a279 kv).1  a272) (fun r => r.1.toInt ≤ 1023 ∧ 0 ≤ r.1.toInt) := by
  unfold s197_X2_fewestAgainst_0
  have e1 := dz_l0
  refine dz_Tb (t137_J7_fill_53178_o fu hfu _ _ ) (fun r1 _ => ?_)
  exact (t197_X2_fewestAgainst_I_s fu hfu κ hκ c248_pots c248_bars c261_many c267_total a268 a269 n269 a279 p0 p1 p2 p3 p4 p5 p6 p7 p8 p9 p10 hr_a268 hr_a269 hr_a279 o0 o1 o2 kv) (0 : Int32) r1 (by omega) (by omega) (by omega) (by omega) (by omega)
theorem t197_X2_fewestAgainst_s (fu : Nat) (hfu : 1000000000000 ≤ fu) (κ : Nat) (hκ : κ < 14) (c248_pots : Int32) (c248_bars : Int32) (c261_many : Int32) (c267_total : Int32) (a268 : Nat → Int32) (a269 : Nat → Int32) (n269 : Nat) (a279 : Nat → Int32) (a272 : Nat → Int32) (p0 : c248_pots.toInt ≤ 4) (p1 : 0 ≤ c248_pots.toInt) (p2 : c248_bars.toInt ≤ 10) (p3 : 0 ≤ c248_bars.toInt) (p4 : c261_many.toInt ≤ 24) (p5 : 0 ≤ c261_many.toInt) (p6 : c267_total.toInt ≤ 13824) (p7 : 1 ≤ c267_total.toInt) (p8 : ((n269 : Nat) : Int) ≤ 13824) (p9 : 1 ≤ ((n269 : Nat) : Int)) (p10 : c267_total.toInt ≤ ((n269 : Nat) : Int)) (hr_a268 : dz_pt a268 (dz_kS κ)) (hr_a269 : dz_rg a269 n269 0 1023) (hr_a279 : dz_rg a279 4 0 16777215) (o0 : c248_pots.toInt = ((dz_kp κ : Nat) : Int)) (o1 : c261_many.toInt = ((dz_kr κ : Nat) : Int)) (o2 : c267_total.toInt = ((dz_kt κ : Nat) : Int)) : dz_T (f197_X2_fewestAgainst fu c248_pots c248_bars c261_many c267_total a268 a269 n269 a279 a272) (fun r => r.1.toInt ≤ 1023 ∧ 0 ≤ r.1.toInt) :=
  t197_X2_fewestAgainst_E_s fu hfu κ hκ c248_pots c248_bars c261_many c267_total a268 a269 n269 a279 a272 p0 p1 p2 p3 p4 p5 p6 p7 p8 p9 p10 hr_a268 hr_a269 hr_a279 o0 o1 o2 fu hfu
set_option maxHeartbeats 1000000 in
set_option maxRecDepth 10000 in
theorem t198_X11_blame_s (fu : Nat) (hfu : 1000000000000 ≤ fu) (κ : Nat) (hκ : κ < 14) (c248_groups : Int32) (c248_pots : Int32) (c248_bars : Int32) (c261_many : Int32) (c261_everyRank : Int32) (a264 : Nat → Int32) (c267_total : Int32) (a268 : Nat → Int32) (a269 : Nat → Int32) (n269 : Nat) (c274_out : Int32) (a276 : Nat → Int32) (a277 : Nat → Int32) (a278 : Nat → Int32) (v1 : Int32) (a272 : Nat → Int32) (a279 : Nat → Int32) (p0 : c248_groups.toInt ≤ 4) (p1 : 2 ≤ c248_groups.toInt) (p2 : c248_pots.toInt ≤ 4) (p3 : 0 ≤ c248_pots.toInt) (p4 : c248_bars.toInt ≤ 10) (p5 : 0 ≤ c248_bars.toInt) (p6 : c261_many.toInt ≤ 24) (p7 : 0 ≤ c261_many.toInt) (p8 : c261_everyRank.toInt ≤ 16777215) (p9 : 0 ≤ c261_everyRank.toInt) (p10 : c267_total.toInt ≤ 13824) (p11 : 1 ≤ c267_total.toInt) (p12 : ((n269 : Nat) : Int) ≤ 13824) (p13 : 1 ≤ ((n269 : Nat) : Int)) (p14 : c274_out.toInt ≤ 12) (p15 : 0 ≤ c274_out.toInt) (p16 : c267_total.toInt ≤ ((n269 : Nat) : Int)) (hr_a264 : dz_rg a264 16 0 16777215) (hr_a268 : dz_pt a268 (dz_kS κ)) (hr_a269 : dz_rg a269 n269 0 1023) (hr_a276 : dz_rg a276 4 0 3) (hr_a277 : dz_rg a277 12 (-1) 3) (hr_a278 : dz_rg a278 12 0 11) (hr_a279 : dz_rg a279 4 0 16777215) (o0 : c248_groups.toInt = ((dz_kg κ : Nat) : Int)) (o1 : c248_pots.toInt = ((dz_kp κ : Nat) : Int)) (o2 : c261_many.toInt = ((dz_kr κ : Nat) : Int)) (o3 : c261_everyRank.toInt = ((dz_ke κ : Nat) : Int)) (o4 : c267_total.toInt = ((dz_kt κ : Nat) : Int)) (o5 : c274_out.toInt ≤ ((dz_km κ : Nat) : Int)) : dz_T (f198_X11_blame fu c248_groups c248_pots c248_bars c261_many c261_everyRank a264 c267_total a268 a269 n269 c274_out a276 a277 a278 v1 a272 a279) (fun r => r.1.toInt ≤ 1023 ∧ (-1) ≤ r.1.toInt ∧ dz_rg r.2.2 4 0 16777215) := by
  unfold f198_X11_blame s198_X11_blame_0
  refine dz_Tbe (show f185_X11_isGroup fu c248_groups v1 = (if (v1 < (0 : Int32)) then (some (0 : Int32)) else (if (c248_groups ≤ v1) then (some (0 : Int32)) else (some (1 : Int32)))) from rfl) ?_
  have e1 := dz_l0
  refine dz_Tltb (fun h2 => ?_) (fun h2 => ?_)
  · skip
    refine dz_Tsb ?_
    refine dz_Teq (fun h3 => ?_) (fun h3 => ?_)
    · skip
      have e4 := dz_lm1
      refine dz_Ts ?_
      dsimp only
      exact ⟨(by omega), (by omega), (hr_a279)⟩
    · skip
      exfalso; omega
  · skip
    refine dz_Tleb (fun h5 => ?_) (fun h5 => ?_)
    · skip
      refine dz_Tsb ?_
      refine dz_Teq (fun h6 => ?_) (fun h6 => ?_)
      · skip
        have e7 := dz_lm1
        refine dz_Ts ?_
        dsimp only
        exact ⟨(by omega), (by omega), (hr_a279)⟩
      · skip
        exfalso; omega
    · skip
      refine dz_Tsb ?_
      have e8 := dz_l1
      refine dz_Teq (fun h9 => ?_) (fun h9 => ?_)
      · skip
        exfalso; omega
      · skip
        refine dz_Tb (t187_X8_reason_s fu hfu κ hκ _ _ _ _ _ _ p0 p1 p14 p15 (hr_a276) (hr_a277) (hr_a278) o0 o5) (fun r2 q => ?_)
        obtain ⟨q2_0, q2_1, q2_2, q2_3⟩ := q
        have e10 := dz_l2
        refine dz_Teq (fun h11 => ?_) (fun h11 => ?_)
        · skip
          refine dz_Tbe (show f186_X8_latest fu c274_out a278 = (if (c274_out ≤ (0 : Int32)) then (some (-(1 : Int32))) else (if dz_in (c274_out - (1 : Int32)) 12 then (some (a278 (c274_out - (1 : Int32)).toNatClampNeg)) else none)) from rfl) ?_
          refine dz_Tleb (fun h12 => ?_) (fun h12 => ?_)
          · skip
            refine dz_Tsb ?_
            have e13 := dz_lm1
            refine dz_Tb (t193_X8_allow_s fu hfu κ hκ _ _ _ _ _ _ _ _ p0 p1 p2 p3 p8 p9 (by first | assumption | omega) (by first | assumption | omega) (hr_a264) (hr_a277) (hr_a279) o0 o1 o3) (fun r4 q => ?_)
            have qa4_0 := q
            refine dz_Tb (t197_X2_fewestAgainst_s fu hfu κ hκ _ _ _ _ _ _ _ _ _ p2 p3 p4 p5 p6 p7 p10 p11 p12 p13 p16 (hr_a268) (hr_a269) (qa4_0) o1 o2 o4) (fun r5 q => ?_)
            obtain ⟨q5_0, q5_1⟩ := q
            refine dz_Ts ?_
            dsimp only
            exact ⟨q5_0, (by first | assumption | omega), (qa4_0)⟩
          · skip
            have e14 := dz_sub (a := c274_out) (b := (1 : Int32)) (by omega) (by omega)
            refine dz_Tinb (by omega) (by omega) ?_
            refine dz_Tsb ?_
            have e15 := dz_rgat (hr_a278) (i := (c274_out - (1 : Int32))) (by omega) (by omega)
            refine dz_Tb (t193_X8_allow_s fu hfu κ hκ _ _ _ _ _ _ _ _ p0 p1 p2 p3 p8 p9 (by first | assumption | omega) (by first | assumption | omega) (hr_a264) (hr_a277) (hr_a279) o0 o1 o3) (fun r6 q => ?_)
            have qa6_0 := q
            refine dz_Tb (t197_X2_fewestAgainst_s fu hfu κ hκ _ _ _ _ _ _ _ _ _ p2 p3 p4 p5 p6 p7 p10 p11 p12 p13 p16 (hr_a268) (hr_a269) (qa6_0) o1 o2 o4) (fun r7 q => ?_)
            obtain ⟨q7_0, q7_1⟩ := q
            refine dz_Ts ?_
            dsimp only
            exact ⟨q7_0, (by first | assumption | omega), (qa6_0)⟩
        · skip
          have e16 := dz_lm1
          refine dz_Ts ?_
          dsimp only
          exact ⟨(by omega), (by omega), (hr_a279)⟩
