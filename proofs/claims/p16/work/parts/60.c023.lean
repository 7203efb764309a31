set_option maxHeartbeats 1000000 in
theorem t285_X9_sizeOfPart_s (fu : Nat) (hfu : 1000000000000 ≤ fu) (κ : Nat) (hκ : κ < 14) (c248_pots : Int32) (c261_many : Int32) (c261_swapsAPot : Int32) (a265 : Nat → Int32) (c267_total : Int32) (a268 : Nat → Int32) (a269 : Nat → Int32) (n269 : Nat) (n308 : Nat) (n309 : Nat) (v1 : Int32) (c307_queued : Int32) (a308 : Nat → Int32) (a309 : Nat → Int32) (p0 : c248_pots.toInt ≤ 4) (p1 : 0 ≤ c248_pots.toInt) (p2 : c261_many.toInt ≤ 24) (p3 : 0 ≤ c261_many.toInt) (p4 : c261_swapsAPot.toInt ≤ 6) (p5 : 0 ≤ c261_swapsAPot.toInt) (p6 : c267_total.toInt ≤ 13824) (p7 : 1 ≤ c267_total.toInt) (p8 : ((n269 : Nat) : Int) ≤ 13824) (p9 : 1 ≤ ((n269 : Nat) : Int)) (p10 : ((n308 : Nat) : Int) ≤ 13824) (p11 : 1 ≤ ((n308 : Nat) : Int)) (p12 : ((n309 : Nat) : Int) ≤ 13824) (p13 : 1 ≤ ((n309 : Nat) : Int)) (p14 : c307_queued.toInt ≤ 13824) (p15 : 0 ≤ c307_queued.toInt) (p16 : c267_total.toInt ≤ ((n269 : Nat) : Int)) (p17 : ((n308 : Nat) : Int) ≤ ((n309 : Nat) : Int)) (p18 : ((n309 : Nat) : Int) ≤ ((n308 : Nat) : Int)) (p19 : 0 ≤ v1.toInt) (p20 : v1.toInt + 1 ≤ c267_total.toInt) (p21 : v1.toInt ≤ 13823) (p22 : c267_total.toInt ≤ ((n308 : Nat) : Int)) (hr_a265 : dz_rt a265 (dz_kr κ) (dz_kw κ) 0 (((dz_kr κ : Nat) : Int) - 1)) (hr_a268 : dz_pt a268 (dz_kS κ)) (hr_a269 : dz_rg a269 n269 0 1023) (hr_a309 : dz_rg a309 c307_queued.toInt.toNat 0 (((dz_kt κ : Nat) : Int) - 1)) (o0 : c248_pots.toInt = ((dz_kp κ : Nat) : Int)) (o1 : c261_many.toInt = ((dz_kr κ : Nat) : Int)) (o2 : c261_swapsAPot.toInt = ((dz_kw κ : Nat) : Int)) (o3 : c267_total.toInt = ((dz_kt κ : Nat) : Int)) : dz_T (f285_X9_sizeOfPart fu c248_pots c261_many c261_swapsAPot a265 c267_total a268 a269 n269 n308 n309 v1 c307_queued a308 a309) (fun r => r.1.toInt ≤ 13824 ∧ (-13824) ≤ r.1.toInt ∧ r.2.1.toInt ≤ 13824 ∧ 0 ≤ r.2.1.toInt ∧ r.1.toInt ≤ r.2.1.toInt ∧ dz_rg r.2.2.2 r.2.1.toInt.toNat 0 (((dz_kt κ : Nat) : Int) - 1)) := by
  rcases (show κ = 0 ∨ κ = 1 ∨ κ = 2 ∨ κ = 3 ∨ κ = 4 ∨ κ = 5 ∨ κ = 6 ∨ κ = 7 ∨ κ = 8 ∨ κ = 9 ∨ κ = 10 ∨ κ = 11 ∨ κ = 12 ∨ κ = 13 by omega) with rfl | rfl | rfl | rfl | rfl | rfl | rfl | rfl | rfl | rfl | rfl | rfl | rfl | rfl
  · skip
    have o0 : c248_pots.toInt = (0 : Int) := o0
    have o1 : c261_many.toInt = (2 : Int) := o1
    have o2 : c261_swapsAPot.toInt = (1 : Int) := o2
    have o3 : c267_total.toInt = (1 : Int) := o3
    refine dz_Tw (t285_X9_sizeOfPart_g20 fu hfu c248_pots c261_many c261_swapsAPot a265 c267_total a268 a269 n269 n308 n309 v1 c307_queued a308 a309 (by first | assumption | omega) (by first | assumption | omega) (by first | assumption | omega) (by first | assumption | omega) (by first | assumption | omega) (by first | assumption | omega) (by first | assumption | omega) (by first | assumption | omega) (by first | assumption | omega) (by first | assumption | omega) (by first | assumption | omega) (by first | assumption | omega) (by first | assumption | omega) (by first | assumption | omega) (by first | assumption | omega) (by first | assumption | omega) (by first | assumption | omega) (by first | assumption | omega) (by first | assumption | omega) (by first | assumption | omega) (by first | assumption | omega) (by first | assumption | omega) (by first | exact hr_a265 | exact dz_rgm hr_a265 (by omega) (by omega) | exact dz_pmr hr_a265 (by decide) (by omega) (by omega) (by omega) | exact dz_ptr hr_a265 (by decide) (by decide) (by omega) | exact dz_ptr hr_a265 (by decide) (by decide) (by show _ ≤ 0; omega) | exact dz_rgs hr_a265 (by omega)) (by first | exact hr_a269 | exact dz_rgm hr_a269 (by omega) (by omega) | exact dz_pmr hr_a269 (by decide) (by omega) (by omega) (by omega) | exact dz_ptr hr_a269 (by decide) (by decide) (by omega) | exact dz_ptr hr_a269 (by decide) (by decide) (by show _ ≤ 0; omega) | exact dz_rgs hr_a269 (by omega)) (by first | exact hr_a309 | exact dz_rgm hr_a309 (by omega) (by omega) | exact dz_pmr hr_a309 (by decide) (by omega) (by omega) (by omega) | exact dz_ptr hr_a309 (by decide) (by decide) (by omega) | exact dz_ptr hr_a309 (by decide) (by decide) (by show _ ≤ 0; omega) | exact dz_rgs hr_a309 (by omega))) (fun r h => ?_)
    obtain ⟨g0, g1, g2, g3, g4, g5⟩ := h
    exact ⟨(by first | assumption | omega), (by first | assumption | omega), (by first | assumption | omega), (by first | assumption | omega), (by first | assumption | omega), (by first | exact g5 | exact dz_rgm g5 (by omega) (by omega))⟩
  · skip
    have o0 : c248_pots.toInt = (1 : Int) := o0
    have o1 : c261_many.toInt = (2 : Int) := o1
    have o2 : c261_swapsAPot.toInt = (1 : Int) := o2
    have o3 : c267_total.toInt = (2 : Int) := o3
    refine dz_Tw (t285_X9_sizeOfPart_g21 fu hfu c248_pots c261_many c261_swapsAPot a265 c267_total a268 a269 n269 n308 n309 v1 c307_queued a308 a309 (by first | assumption | omega) (by first | assumption | omega) (by first | assumption | omega) (by first | assumption | omega) (by first | assumption | omega) (by first | assumption | omega) (by first | assumption | omega) (by first | assumption | omega) (by first | assumption | omega) (by first | assumption | omega) (by first | assumption | omega) (by first | assumption | omega) (by first | assumption | omega) (by first | assumption | omega) (by first | assumption | omega) (by first | assumption | omega) (by first | assumption | omega) (by first | assumption | omega) (by first | assumption | omega) (by first | assumption | omega) (by first | assumption | omega) (by first | assumption | omega) (by first | exact hr_a265 | exact dz_rgm hr_a265 (by omega) (by omega) | exact dz_pmr hr_a265 (by decide) (by omega) (by omega) (by omega) | exact dz_ptr hr_a265 (by decide) (by decide) (by omega) | exact dz_ptr hr_a265 (by decide) (by decide) (by show _ ≤ 1; omega) | exact dz_rgs hr_a265 (by omega)) (by first | exact hr_a268 | exact dz_rgm hr_a268 (by omega) (by omega) | exact dz_pmr hr_a268 (by decide) (by omega) (by omega) (by omega) | exact dz_ptr hr_a268 (by decide) (by decide) (by omega) | exact dz_ptr hr_a268 (by decide) (by decide) (by show _ ≤ 1; omega) | exact dz_rgs hr_a268 (by omega)) (by first | exact hr_a269 | exact dz_rgm hr_a269 (by omega) (by omega) | exact dz_pmr hr_a269 (by decide) (by omega) (by omega) (by omega) | exact dz_ptr hr_a269 (by decide) (by decide) (by omega) | exact dz_ptr hr_a269 (by decide) (by decide) (by show _ ≤ 1; omega) | exact dz_rgs hr_a269 (by omega)) (by first | exact hr_a309 | exact dz_rgm hr_a309 (by omega) (by omega) | exact dz_pmr hr_a309 (by decide) (by omega) (by omega) (by omega) | exact dz_ptr hr_a309 (by decide) (by decide) (by omega) | exact dz_ptr hr_a309 (by decide) (by decide) (by show _ ≤ 1; omega) | exact dz_rgs hr_a309 (by omega))) (fun r h => ?_)
    obtain ⟨g0, g1, g2, g3, g4, g5⟩ := h
    exact ⟨(by first | assumption | omega), (by first | assumption | omega), (by first | assumption | omega), (by first | assumption | omega), (by first | assumption | omega), (by first | exact g5 | exact dz_rgm g5 (by omega) (by omega))⟩
  · skip
    have o0 : c248_pots.toInt = (2 : Int) := o0
    have o1 : c261_many.toInt = (2 : Int) := o1
    have o2 : c261_swapsAPot.toInt = (1 : Int) := o2
    have o3 : c267_total.toInt = (4 : Int) := o3
    refine dz_Tw (t285_X9_sizeOfPart_g22 fu hfu c248_pots c261_many c261_swapsAPot a265 c267_total a268 a269 n269 n308 n309 v1 c307_queued a308 a309 (by first | assumption | omega) (by first | assumption | omega) (by first | assumption | omega) (by first | assumption | omega) (by first | assumption | omega) (by first | assumption | omega) (by first | assumption | omega) (by first | assumption | omega) (by first | assumption | omega) (by first | assumption | omega) (by first | assumption | omega) (by first | assumption | omega) (by first | assumption | omega) (by first | assumption | omega) (by first | assumption | omega) (by first | assumption | omega) (by first | assumption | omega) (by first | assumption | omega) (by first | assumption | omega) (by first | assumption | omega) (by first | assumption | omega) (by first | assumption | omega) (by first | exact hr_a265 | exact dz_rgm hr_a265 (by omega) (by omega) | exact dz_pmr hr_a265 (by decide) (by omega) (by omega) (by omega) | exact dz_ptr hr_a265 (by decide) (by decide) (by omega) | exact dz_ptr hr_a265 (by decide) (by decide) (by show _ ≤ 2; omega) | exact dz_rgs hr_a265 (by omega)) (by first | exact hr_a268 | exact dz_rgm hr_a268 (by omega) (by omega) | exact dz_pmr hr_a268 (by decide) (by omega) (by omega) (by omega) | exact dz_ptr hr_a268 (by decide) (by decide) (by omega) | exact dz_ptr hr_a268 (by decide) (by decide) (by show _ ≤ 2; omega) | exact dz_rgs hr_a268 (by omega)) (by first | exact hr_a269 | exact dz_rgm hr_a269 (by omega) (by omega) | exact dz_pmr hr_a269 (by decide) (by omega) (by omega) (by omega) | exact dz_ptr hr_a269 (by decide) (by decide) (by omega) | exact dz_ptr hr_a269 (by decide) (by decide) (by show _ ≤ 2; omega) | exact dz_rgs hr_a269 (by omega)) (by first | exact hr_a309 | exact dz_rgm hr_a309 (by omega) (by omega) | exact dz_pmr hr_a309 (by decide) (by omega) (by omega) (by omega) | exact dz_ptr hr_a309 (by decide) (by decide) (by omega) | exact dz_ptr hr_a309 (by decide) (by decide) (by show _ ≤ 2; omega) | exact dz_rgs hr_a309 (by omega))) (fun r h => ?_)
    obtain ⟨g0, g1, g2, g3, g4, g5⟩ := h
    exact ⟨(by first | assumption | omega), (by first | assumption | omega), (by first | assumption | omega), (by first | assumption | omega), (by first | assumption | omega), (by first | exact g5 | exact dz_rgm g5 (by omega) (by omega))⟩
  · skip
    have o0 : c248_pots.toInt = (3 : Int) := o0
    have o1 : c261_many.toInt = (2 : Int) := o1
    have o2 : c261_swapsAPot.toInt = (1 : Int) := o2
    have o3 : c267_total.toInt = (8 : Int) := o3
    refine dz_Tw (t285_X9_sizeOfPart_g23 fu hfu c248_pots c261_many c261_swapsAPot a265 c267_total a268 a269 n269 n308 n309 v1 c307_queued a308 a309 (by first | assumption | omega) (by first | assumption | omega) (by first | assumption | omega) (by first | assumption | omega) (by first | assumption | omega) (by first | assumption | omega) (by first | assumption | omega) (by first | assumption | omega) (by first | assumption | omega) (by first | assumption | omega) (by first | assumption | omega) (by first | assumption | omega) (by first | assumption | omega) (by first | assumption | omega) (by first | assumption | omega) (by first | assumption | omega) (by first | assumption | omega) (by first | assumption | omega) (by first | assumption | omega) (by first | assumption | omega) (by first | assumption | omega) (by first | assumption | omega) (by first | exact hr_a265 | exact dz_rgm hr_a265 (by omega) (by omega) | exact dz_pmr hr_a265 (by decide) (by omega) (by omega) (by omega) | exact dz_ptr hr_a265 (by decide) (by decide) (by omega) | exact dz_ptr hr_a265 (by decide) (by decide) (by show _ ≤ 3; omega) | exact dz_rgs hr_a265 (by omega)) (by first | exact hr_a268 | exact dz_rgm hr_a268 (by omega) (by omega) | exact dz_pmr hr_a268 (by decide) (by omega) (by omega) (by omega) | exact dz_ptr hr_a268 (by decide) (by decide) (by omega) | exact dz_ptr hr_a268 (by decide) (by decide) (by show _ ≤ 3; omega) | exact dz_rgs hr_a268 (by omega)) (by first | exact hr_a269 | exact dz_rgm hr_a269 (by omega) (by omega) | exact dz_pmr hr_a269 (by decide) (by omega) (by omega) (by omega) | exact dz_ptr hr_a269 (by decide) (by decide) (by omega) | exact dz_ptr hr_a269 (by decide) (by decide) (by show _ ≤ 3; omega) | exact dz_rgs hr_a269 (by omega)) (by first | exact hr_a309 | exact dz_rgm hr_a309 (by omega) (by omega) | exact dz_pmr hr_a309 (by decide) (by omega) (by omega) (by omega) | exact dz_ptr hr_a309 (by decide) (by decide) (by omega) | exact dz_ptr hr_a309 (by decide) (by decide) (by show _ ≤ 3; omega) | exact dz_rgs hr_a309 (by omega))) (fun r h => ?_)
    obtain ⟨g0, g1, g2, g3, g4, g5⟩ := h
    exact ⟨(by first | assumption | omega), (by first | assumption | omega), (by first | assumption | omega), (by first | assumption | omega), (by first | assumption | omega), (by first | exact g5 | exact dz_rgm g5 (by omega) (by omega))⟩
  · skip
    have o0 : c248_pots.toInt = (4 : Int) := o0
    have o1 : c261_many.toInt = (2 : Int) := o1
    have o2 : c261_swapsAPot.toInt = (1 : Int) := o2
    have o3 : c267_total.toInt = (16 : Int) := o3
    refine dz_Tw (t285_X9_sizeOfPart_g24 fu hfu c248_pots c261_many c261_swapsAPot a265 c267_total a268 a269 n269 n308 n309 v1 c307_queued a308 a309 (by first | assumption | omega) (by first | assumption | omega) (by first | assumption | omega) (by first | assumption | omega) (by first | assumption | omega) (by first | assumption | omega) (by first | assumption | omega) (by first | assumption | omega) (by first | assumption | omega) (by first | assumption | omega) (by first | assumption | omega) (by first | assumption | omega) (by first | assumption | omega) (by first | assumption | omega) (by first | assumption | omega) (by first | assumption | omega) (by first | assumption | omega) (by first | assumption | omega) (by first | assumption | omega) (by first | assumption | omega) (by first | assumption | omega) (by first | assumption | omega) (by first | exact hr_a265 | exact dz_rgm hr_a265 (by omega) (by omega) | exact dz_pmr hr_a265 (by decide) (by omega) (by omega) (by omega) | exact dz_ptr hr_a265 (by decide) (by decide) (by omega) | exact dz_ptr hr_a265 (by decide) (by decide) (by show _ ≤ 4; omega) | exact dz_rgs hr_a265 (by omega)) (by first | exact hr_a268 | exact dz_rgm hr_a268 (by omega) (by omega) | exact dz_pmr hr_a268 (by decide) (by omega) (by omega) (by omega) | exact dz_ptr hr_a268 (by decide) (by decide) (by omega) | exact dz_ptr hr_a268 (by decide) (by decide) (by show _ ≤ 4; omega) | exact dz_rgs hr_a268 (by omega)) (by first | exact hr_a269 | exact dz_rgm hr_a269 (by omega) (by omega) | exact dz_pmr hr_a269 (by decide) (by omega) (by omega) (by omega) | exact dz_ptr hr_a269 (by decide) (by decide) (by omega) | exact dz_ptr hr_a269 (by decide) (by decide) (by show _ ≤ 4; omega) | exact dz_rgs hr_a269 (by omega)) (by first | exact hr_a309 | exact dz_rgm hr_a309 (by omega) (by omega) | exact dz_pmr hr_a309 (by decide) (by omega) (by omega) (by omega) | exact dz_ptr hr_a309 (by decide) (by decide) (by omega) | exact dz_ptr hr_a309 (by decide) (by decide) (by show _ ≤ 4; omega) | exact dz_rgs hr_a309 (by omega))) (fun r h => ?_)
    obtain ⟨g0, g1, g2, g3, g4, g5⟩ := h
    exact ⟨(by first | assumption | omega), (by first | assumption | omega), (by first | assumption | omega), (by first | assumption | omega), (by first | assumption | omega), (by first | exact g5 | exact dz_rgm g5 (by omega) (by omega))⟩
  · skip
    have o0 : c248_pots.toInt = (0 : Int) := o0
    have o1 : c261_many.toInt = (6 : Int) := o1
    have o2 : c261_swapsAPot.toInt = (3 : Int) := o2
    have o3 : c267_total.toInt = (1 : Int) := o3
    refine dz_Tw (t285_X9_sizeOfPart_g30 fu hfu c248_pots c261_many c261_swapsAPot a265 c267_total a268 a269 n269 n308 n309 v1 c307_queued a308 a309 (by first | assumption | omega) (by first | assumption | omega) (by first | assumption | omega) (by first | assumption | omega) (by first | assumption | omega) (by first | assumption | omega) (by first | assumption | omega) (by first | assumption | omega) (by first | assumption | omega) (by first | assumption | omega) (by first | assumption | omega) (by first | assumption | omega) (by first | assumption | omega) (by first | assumption | omega) (by first | assumption | omega) (by first | assumption | omega) (by first | assumption | omega) (by first | assumption | omega) (by first | assumption | omega) (by first | assumption | omega) (by first | assumption | omega) (by first | assumption | omega) (by first | exact hr_a265 | exact dz_rgm hr_a265 (by omega) (by omega) | exact dz_pmr hr_a265 (by decide) (by omega) (by omega) (by omega) | exact dz_ptr hr_a265 (by decide) (by decide) (by omega) | exact dz_ptr hr_a265 (by decide) (by decide) (by show _ ≤ 0; omega) | exact dz_rgs hr_a265 (by omega)) (by first | exact hr_a269 | exact dz_rgm hr_a269 (by omega) (by omega) | exact dz_pmr hr_a269 (by decide) (by omega) (by omega) (by omega) | exact dz_ptr hr_a269 (by decide) (by decide) (by omega) | exact dz_ptr hr_a269 (by decide) (by decide) (by show _ ≤ 0; omega) | exact dz_rgs hr_a269 (by omega)) (by first | exact hr_a309 | exact dz_rgm hr_a309 (by omega) (by omega) | exact dz_pmr hr_a309 (by decide) (by omega) (by omega) (by omega) | exact dz_ptr hr_a309 (by decide) (by decide) (by omega) | exact dz_ptr hr_a309 (by decide) (by decide) (by show _ ≤ 0; omega) | exact dz_rgs hr_a309 (by omega))) (fun r h => ?_)
    obtain ⟨g0, g1, g2, g3, g4, g5⟩ := h
    exact ⟨(by first | assumption | omega), (by first | assumption | omega), (by first | assumption | omega), (by first | assumption | omega), (by first | assumption | omega), (by first | exact g5 | exact dz_rgm g5 (by omega) (by omega))⟩
  · skip
    have o0 : c248_pots.toInt = (1 : Int) := o0
    have o1 : c261_many.toInt = (6 : Int) := o1
    have o2 : c261_swapsAPot.toInt = (3 : Int) := o2
    have o3 : c267_total.toInt = (6 : Int) := o3
    refine dz_Tw (t285_X9_sizeOfPart_g31 fu hfu c248_pots c261_many c261_swapsAPot a265 c267_total a268 a269 n269 n308 n309 v1 c307_queued a308 a309 (by first | assumption | omega) (by first | assumption | omega) (by first | assumption | omega) (by first | assumption | omega) (by first | assumption | omega) (by first | assumption | omega) (by first | assumption | omega) (by first | assumption | omega) (by first | assumption | omega) (by first | assumption | omega) (by first | assumption | omega) (by first | assumption | omega) (by first | assumption | omega) (by first | assumption | omega) (by first | assumption | omega) (by first | assumption | omega) (by first | assumption | omega) (by first | assumption | omega) (by first | assumption | omega) (by first | assumption | omega) (by first | assumption | omega) (by first | assumption | omega) (by first | exact hr_a265 | exact dz_rgm hr_a265 (by omega) (by omega) | exact dz_pmr hr_a265 (by decide) (by omega) (by omega) (by omega) | exact dz_ptr hr_a265 (by decide) (by decide) (by omega) | exact dz_ptr hr_a265 (by decide) (by decide) (by show _ ≤ 1; omega) | exact dz_rgs hr_a265 (by omega)) (by first | exact hr_a268 | exact dz_rgm hr_a268 (by omega) (by omega) | exact dz_pmr hr_a268 (by decide) (by omega) (by omega) (by omega) | exact dz_ptr hr_a268 (by decide) (by decide) (by omega) | exact dz_ptr hr_a268 (by decide) (by decide) (by show _ ≤ 1; omega) | exact dz_rgs hr_a268 (by omega)) (by first | exact hr_a269 | exact dz_rgm hr_a269 (by omega) (by omega) | exact dz_pmr hr_a269 (by decide) (by omega) (by omega) (by omega) | exact dz_ptr hr_a269 (by decide) (by decide) (by omega) | exact dz_ptr hr_a269 (by decide) (by decide) (by show _ ≤ 1; omega) | exact dz_rgs hr_a269 (by omega)) (by first | exact hr_a309 | exact dz_rgm hr_a309 (by omega) (by omega) | exact dz_pmr hr_a309 (by decide) (by omega) (by omega) (by omega) | exact dz_ptr hr_a309 (by decide) (by decide) (by omega) | exact dz_ptr hr_a309 (by decide) (by decide) (by show _ ≤ 1; omega) | exact dz_rgs hr_a309 (by omega))) (fun r h => ?_)
    obtain ⟨g0, g1, g2, g3, g4, g5⟩ := h
    exact ⟨(by first | assumption | omega), (by first | assumption | omega), (by first | assumption | omega), (by first | assumption | omega), (by first | assumption | omega), (by first | exact g5 | exact dz_rgm g5 (by omega) (by omega))⟩
  · skip
    have o0 : c248_pots.toInt = (2 : Int) := o0
    have o1 : c261_many.toInt = (6 : Int) := o1
    have o2 : c261_swapsAPot.toInt = (3 : Int) := o2
    have o3 : c267_total.toInt = (36 : Int) := o3
    refine dz_Tw (t285_X9_sizeOfPart_g32 fu hfu c248_pots c261_many c261_swapsAPot a265 c267_total a268 a269 n269 n308 n309 v1 c307_queued a308 a309 (by first | assumption | omega) (by first | assumption | omega) (by first | assumption | omega) (by first | assumption | omega) (by first | assumption | omega) (by first | assumption | omega) (by first | assumption | omega) (by first | assumption | omega) (by first | assumption | omega) (by first | assumption | omega) (by first | assumption | omega) (by first | assumption | omega) (by first | assumption | omega) (by first | assumption | omega) (by first | assumption | omega) (by first | assumption | omega) (by first | assumption | omega) (by first | assumption | omega) (by first | assumption | omega) (by first | assumption | omega) (by first | assumption | omega) (by first | assumption | omega) (by first | exact hr_a265 | exact dz_rgm hr_a265 (by omega) (by omega) | exact dz_pmr hr_a265 (by decide) (by omega) (by omega) (by omega) | exact dz_ptr hr_a265 (by decide) (by decide) (by omega) | exact dz_ptr hr_a265 (by decide) (by decide) (by show _ ≤ 2; omega) | exact dz_rgs hr_a265 (by omega)) (by first | exact hr_a268 | exact dz_rgm hr_a268 (by omega) (by omega) | exact dz_pmr hr_a268 (by decide) (by omega) (by omega) (by omega) | exact dz_ptr hr_a268 (by decide) (by decide) (by omega) | exact dz_ptr hr_a268 (by decide) (by decide) (by show _ ≤ 2; omega) | exact dz_rgs hr_a268 (by omega)) (by first | exact hr_a269 | exact dz_rgm hr_a269 (by omega) (by omega) | exact dz_pmr hr_a269 (by decide) (by omega) (by omega) (by omega) | exact dz_ptr hr_a269 (by decide) (by decide) (by omega) | exact dz_ptr hr_a269 (by decide) (by decide) (by show _ ≤ 2; omega) | exact dz_rgs hr_a269 (by omega)) (by first | exact hr_a309 | exact dz_rgm hr_a309 (by omega) (by omega) | exact dz_pmr hr_a309 (by decide) (by omega) (by omega) (by omega) | exact dz_ptr hr_a309 (by decide) (by decide) (by omega) | exact dz_ptr hr_a309 (by decide) (by decide) (by show _ ≤ 2; omega) | exact dz_rgs hr_a309 (by omega))) (fun r h => ?_)
    obtain ⟨g0, g1, g2, g3, g4, g5⟩ := h
    exact ⟨(by first | assumption | omega), (by first | assumption | omega), (by first | assumption | omega), (by first | assumption | omega), (by first | assumption | omega), (by first | exact g5 | exact dz_rgm g5 (by omega) (by omega))⟩
  · skip
    have o0 : c248_pots.toInt = (3 : Int) := o0
    have o1 : c261_many.toInt = (6 : Int) := o1
    have o2 : c261_swapsAPot.toInt = (3 : Int) := o2
    have o3 : c267_total.toInt = (216 : Int) := o3
    refine dz_Tw (t285_X9_sizeOfPart_g33 fu hfu c248_pots c261_many c261_swapsAPot a265 c267_total a268 a269 n269 n308 n309 v1 c307_queued a308 a309 (by first | assumption | omega) (by first | assumption | omega) (by first | assumption | omega) (by first | assumption | omega) (by first | assumption | omega) (by first | assumption | omega) (by first | assumption | omega) (by first | assumption | omega) (by first | assumption | omega) (by first | assumption | omega) (by first | assumption | omega) (by first | assumption | omega) (by first | assumption | omega) (by first | assumption | omega) (by first | assumption | omega) (by first | assumption | omega) (by first | assumption | omega) (by first | assumption | omega) (by first | assumption | omega) (by first | assumption | omega) (by first | assumption | omega) (by first | assumption | omega) (by first | exact hr_a265 | exact dz_rgm hr_a265 (by omega) (by omega) | exact dz_pmr hr_a265 (by decide) (by omega) (by omega) (by omega) | exact dz_ptr hr_a265 (by decide) (by decide) (by omega) | exact dz_ptr hr_a265 (by decide) (by decide) (by show _ ≤ 3; omega) | exact dz_rgs hr_a265 (by omega)) (by first | exact hr_a268 | exact dz_rgm hr_a268 (by omega) (by omega) | exact dz_pmr hr_a268 (by decide) (by omega) (by omega) (by omega) | exact dz_ptr hr_a268 (by decide) (by decide) (by omega) | exact dz_ptr hr_a268 (by decide) (by decide) (by show _ ≤ 3; omega) | exact dz_rgs hr_a268 (by omega)) (by first | exact hr_a269 | exact dz_rgm hr_a269 (by omega) (by omega) | exact dz_pmr hr_a269 (by decide) (by omega) (by omega) (by omega) | exact dz_ptr hr_a269 (by decide) (by decide) (by omega) | exact dz_ptr hr_a269 (by decide) (by decide) (by show _ ≤ 3; omega) | exact dz_rgs hr_a269 (by omega)) (by first | exact hr_a309 | exact dz_rgm hr_a309 (by omega) (by omega) | exact dz_pmr hr_a309 (by decide) (by omega) (by omega) (by omega) | exact dz_ptr hr_a309 (by decide) (by decide) (by omega) | exact dz_ptr hr_a309 (by decide) (by decide) (by show _ ≤ 3; omega) | exact dz_rgs hr_a309 (by omega))) (fun r h => ?_)
    obtain ⟨g0, g1, g2, g3, g4, g5⟩ := h
    exact ⟨(by first | assumption | omega), (by first | assumption | omega), (by first | assumption | omega), (by first | assumption | omega), (by first | assumption | omega), (by first | exact g5 | exact dz_rgm g5 (by omega) (by omega))⟩
  · skip
    have o0 : c248_pots.toInt = (4 : Int) := o0
    have o1 : c261_many.toInt = (6 : Int) := o1
    have o2 : c261_swapsAPot.toInt = (3 : Int) := o2
    have o3 : c267_total.toInt = (1296 : Int) := o3
    refine dz_Tw (t285_X9_sizeOfPart_g34 fu hfu c248_pots c261_many c261_swapsAPot a265 c267_total a268 a269 n269 n308 n309 v1 c307_queued a308 a309 (by first | assumption | omega) (by first | assumption | omega) (by first | assumption | omega) (by first | assumption | omega) (by first | assumption | omega) (by first | assumption | omega) (by first | assumption | omega) (by first | assumption | omega) (by first | assumption | omega) (by first | assumption | omega) (by first | assumption | omega) (by first | assumption | omega) (by first | assumption | omega) (by first | assumption | omega) (by first | assumption | omega) (by first | assumption | omega) (by first | assumption | omega) (by first | assumption | omega) (by first | assumption | omega) (by first | assumption | omega) (by first | assumption | omega) (by first | assumption | omega) (by first | exact hr_a265 | exact dz_rgm hr_a265 (by omega) (by omega) | exact dz_pmr hr_a265 (by decide) (by omega) (by omega) (by omega) | exact dz_ptr hr_a265 (by decide) (by decide) (by omega) | exact dz_ptr hr_a265 (by decide) (by decide) (by show _ ≤ 4; omega) | exact dz_rgs hr_a265 (by omega)) (by first | exact hr_a268 | exact dz_rgm hr_a268 (by omega) (by omega) | exact dz_pmr hr_a268 (by decide) (by omega) (by omega) (by omega) | exact dz_ptr hr_a268 (by decide) (by decide) (by omega) | exact dz_ptr hr_a268 (by decide) (by decide) (by show _ ≤ 4; omega) | exact dz_rgs hr_a268 (by omega)) (by first | exact hr_a269 | exact dz_rgm hr_a269 (by omega) (by omega) | exact dz_pmr hr_a269 (by decide) (by omega) (by omega) (by omega) | exact dz_ptr hr_a269 (by decide) (by decide) (by omega) | exact dz_ptr hr_a269 (by decide) (by decide) (by show _ ≤ 4; omega) | exact dz_rgs hr_a269 (by omega)) (by first | exact hr_a309 | exact dz_rgm hr_a309 (by omega) (by omega) | exact dz_pmr hr_a309 (by decide) (by omega) (by omega) (by omega) | exact dz_ptr hr_a309 (by decide) (by decide) (by omega) | exact dz_ptr hr_a309 (by decide) (by decide) (by show _ ≤ 4; omega) | exact dz_rgs hr_a309 (by omega))) (fun r h => ?_)
    obtain ⟨g0, g1, g2, g3, g4, g5⟩ := h
    exact ⟨(by first | assumption | omega), (by first | assumption | omega), (by first | assumption | omega), (by first | assumption | omega), (by first | assumption | omega), (by first | exact g5 | exact dz_rgm g5 (by omega) (by omega))⟩
  · skip
    have o0 : c248_pots.toInt = (0 : Int) := o0
    have o1 : c261_many.toInt = (24 : Int) := o1
    have o2 : c261_swapsAPot.toInt = (6 : Int) := o2
    have o3 : c267_total.toInt = (1 : Int) := o3
    refine dz_Tw (t285_X9_sizeOfPart_g40 fu hfu c248_pots c261_many c261_swapsAPot a265 c267_total a268 a269 n269 n308 n309 v1 c307_queued a308 a309 (by first | assumption | omega) (by first | assumption | omega) (by first | assumption | omega) (by first | assumption | omega) (by first | assumption | omega) (by first | assumption | omega) (by first | assumption | omega) (by first | assumption | omega) (by first | assumption | omega) (by first | assumption | omega) (by first | assumption | omega) (by first | assumption | omega) (by first | assumption | omega) (by first | assumption | omega) (by first | assumption | omega) (by first | assumption | omega) (by first | assumption | omega) (by first | assumption | omega) (by first | assumption | omega) (by first | assumption | omega) (by first | assumption | omega) (by first | assumption | omega) (by first | exact hr_a265 | exact dz_rgm hr_a265 (by omega) (by omega) | exact dz_pmr hr_a265 (by decide) (by omega) (by omega) (by omega) | exact dz_ptr hr_a265 (by decide) (by decide) (by omega) | exact dz_ptr hr_a265 (by decide) (by decide) (by show _ ≤ 0; omega) | exact dz_rgs hr_a265 (by omega)) (by first | exact hr_a269 | exact dz_rgm hr_a269 (by omega) (by omega) | exact dz_pmr hr_a269 (by decide) (by omega) (by omega) (by omega) | exact dz_ptr hr_a269 (by decide) (by decide) (by omega) | exact dz_ptr hr_a269 (by decide) (by decide) (by show _ ≤ 0; omega) | exact dz_rgs hr_a269 (by omega)) (by first | exact hr_a309 | exact dz_rgm hr_a309 (by omega) (by omega) | exact dz_pmr hr_a309 (by decide) (by omega) (by omega) (by omega) | exact dz_ptr hr_a309 (by decide) (by decide) (by omega) | exact dz_ptr hr_a309 (by decide) (by decide) (by show _ ≤ 0; omega) | exact dz_rgs hr_a309 (by omega))) (fun r h => ?_)
    obtain ⟨g0, g1, g2, g3, g4, g5⟩ := h
    exact ⟨(by first | assumption | omega), (by first | assumption | omega), (by first | assumption | omega), (by first | assumption | omega), (by first | assumption | omega), (by first | exact g5 | exact dz_rgm g5 (by omega) (by omega))⟩
  · skip
    have o0 : c248_pots.toInt = (1 : Int) := o0
    have o1 : c261_many.toInt = (24 : Int) := o1
    have o2 : c261_swapsAPot.toInt = (6 : Int) := o2
    have o3 : c267_total.toInt = (24 : Int) := o3
    refine dz_Tw (t285_X9_sizeOfPart_g41 fu hfu c248_pots c261_many c261_swapsAPot a265 c267_total a268 a269 n269 n308 n309 v1 c307_queued a308 a309 (by first | assumption | omega) (by first | assumption | omega) (by first | assumption | omega) (by first | assumption | omega) (by first | assumption | omega) (by first | assumption | omega) (by first | assumption | omega) (by first | assumption | omega) (by first | assumption | omega) (by first | assumption | omega) (by first | assumption | omega) (by first | assumption | omega) (by first | assumption | omega) (by first | assumption | omega) (by first | assumption | omega) (by first | assumption | omega) (by first | assumption | omega) (by first | assumption | omega) (by first | assumption | omega) (by first | assumption | omega) (by first | assumption | omega) (by first | assumption | omega) (by first | exact hr_a265 | exact dz_rgm hr_a265 (by omega) (by omega) | exact dz_pmr hr_a265 (by decide) (by omega) (by omega) (by omega) | exact dz_ptr hr_a265 (by decide) (by decide) (by omega) | exact dz_ptr hr_a265 (by decide) (by decide) (by show _ ≤ 1; omega) | exact dz_rgs hr_a265 (by omega)) (by first | exact hr_a268 | exact dz_rgm hr_a268 (by omega) (by omega) | exact dz_pmr hr_a268 (by decide) (by omega) (by omega) (by omega) | exact dz_ptr hr_a268 (by decide) (by decide) (by omega) | exact dz_ptr hr_a268 (by decide) (by decide) (by show _ ≤ 1; omega) | exact dz_rgs hr_a268 (by omega)) (by first | exact hr_a269 | exact dz_rgm hr_a269 (by omega) (by omega) | exact dz_pmr hr_a269 (by decide) (by omega) (by omega) (by omega) | exact dz_ptr hr_a269 (by decide) (by decide) (by omega) | exact dz_ptr hr_a269 (by decide) (by decide) (by show _ ≤ 1; omega) | exact dz_rgs hr_a269 (by omega)) (by first | exact hr_a309 | exact dz_rgm hr_a309 (by omega) (by omega) | exact dz_pmr hr_a309 (by decide) (by omega) (by omega) (by omega) | exact dz_ptr hr_a309 (by decide) (by decide) (by omega) | exact dz_ptr hr_a309 (by decide) (by decide) (by show _ ≤ 1; omega) | exact dz_rgs hr_a309 (by omega))) (fun r h => ?_)
    obtain ⟨g0, g1, g2, g3, g4, g5⟩ := h
    exact ⟨(by first | assumption | omega), (by first | assumption | omega), (by first | assumption | omega), (by first | assumption | omega), (by first | assumption | omega), (by first | exact g5 | exact dz_rgm g5 (by omega) (by omega))⟩
  · skip
    have o0 : c248_pots.toInt = (2 : Int) := o0
    have o1 : c261_many.toInt = (24 : Int) := o1
    have o2 : c261_swapsAPot.toInt = (6 : Int) := o2
    have o3 : c267_total.toInt = (576 : Int) := o3
    refine dz_Tw (t285_X9_sizeOfPart_g42 fu hfu c248_pots c261_many c261_swapsAPot a265 c267_total a268 a269 n269 n308 n309 v1 c307_queued a308 a309 (by first | assumption | omega) (by first | assumption | omega) (by first | assumption | omega) (by first | assumption | omega) (by first | assumption | omega) (by first | assumption | omega) (by first | assumption | omega) (by first | assumption | omega) (by first | assumption | omega) (by first | assumption | omega) (by first | assumption | omega) (by first | assumption | omega) (by first | assumption | omega) (by first | assumption | omega) (by first | assumption | omega) (by first | assumption | omega) (by first | assumption | omega) (by first | assumption | omega) (by first | assumption | omega) (by first | assumption | omega) (by first | assumption | omega) (by first | assumption | omega) (by first | exact hr_a265 | exact dz_rgm hr_a265 (by omega) (by omega) | exact dz_pmr hr_a265 (by decide) (by omega) (by omega) (by omega) | exact dz_ptr hr_a265 (by decide) (by decide) (by omega) | exact dz_ptr hr_a265 (by decide) (by decide) (by show _ ≤ 2; omega) | exact dz_rgs hr_a265 (by omega)) (by first | exact hr_a268 | exact dz_rgm hr_a268 (by omega) (by omega) | exact dz_pmr hr_a268 (by decide) (by omega) (by omega) (by omega) | exact dz_ptr hr_a268 (by decide) (by decide) (by omega) | exact dz_ptr hr_a268 (by decide) (by decide) (by show _ ≤ 2; omega) | exact dz_rgs hr_a268 (by omega)) (by first | exact hr_a269 | exact dz_rgm hr_a269 (by omega) (by omega) | exact dz_pmr hr_a269 (by decide) (by omega) (by omega) (by omega) | exact dz_ptr hr_a269 (by decide) (by decide) (by omega) | exact dz_ptr hr_a269 (by decide) (by decide) (by show _ ≤ 2; omega) | exact dz_rgs hr_a269 (by omega)) (by first | exact hr_a309 | exact dz_rgm hr_a309 (by omega) (by omega) | exact dz_pmr hr_a309 (by decide) (by omega) (by omega) (by omega) | exact dz_ptr hr_a309 (by decide) (by decide) (by omega) | exact dz_ptr hr_a309 (by decide) (by decide) (by show _ ≤ 2; omega) | exact dz_rgs hr_a309 (by omega))) (fun r h => ?_)
    obtain ⟨g0, g1, g2, g3, g4, g5⟩ := h
    exact ⟨(by first | assumption | omega), (by first | assumption | omega), (by first | assumption | omega), (by first | assumption | omega), (by first | assumption | omega), (by first | exact g5 | exact dz_rgm g5 (by omega) (by omega))⟩
  · skip
    have o0 : c248_pots.toInt = (3 : Int) := o0
    have o1 : c261_many.toInt = (24 : Int) := o1
    have o2 : c261_swapsAPot.toInt = (6 : Int) := o2
    have o3 : c267_total.toInt = (13824 : Int) := o3
    refine dz_Tw (t285_X9_sizeOfPart_g43 fu hfu c248_pots c261_many c261_swapsAPot a265 c267_total a268 a269 n269 n308 n309 v1 c307_queued a308 a309 (by first | assumption | omega) (by first | assumption | omega) (by first | assumption | omega) (by first | assumption | omega) (by first | assumption | omega) (by first | assumption | omega) (by first | assumption | omega) (by first | assumption | omega) (by first | assumption | omega) (by first | assumption | omega) (by first | assumption | omega) (by first | assumption | omega) (by first | assumption | omega) (by first | assumption | omega) (by first | assumption | omega) (by first | assumption | omega) (by first | assumption | omega) (by first | assumption | omega) (by first | assumption | omega) (by first | assumption | omega) (by first | assumption | omega) (by first | assumption | omega) (by first | exact hr_a265 | exact dz_rgm hr_a265 (by omega) (by omega) | exact dz_pmr hr_a265 (by decide) (by omega) (by omega) (by omega) | exact dz_ptr hr_a265 (by decide) (by decide) (by omega) | exact dz_ptr hr_a265 (by decide) (by decide) (by show _ ≤ 3; omega) | exact dz_rgs hr_a265 (by omega)) (by first | exact hr_a268 | exact dz_rgm hr_a268 (by omega) (by omega) | exact dz_pmr hr_a268 (by decide) (by omega) (by omega) (by omega) | exact dz_ptr hr_a268 (by decide) (by decide) (by omega) | exact dz_ptr hr_a268 (by decide) (by decide) (by show _ ≤ 3; omega) | exact dz_rgs hr_a268 (by omega)) (by first | exact hr_a269 | exact dz_rgm hr_a269 (by omega) (by omega) | exact dz_pmr hr_a269 (by decide) (by omega) (by omega) (by omega) | exact dz_ptr hr_a269 (by decide) (by decide) (by omega) | exact dz_ptr hr_a269 (by decide) (by decide) (by show _ ≤ 3; omega) | exact dz_rgs hr_a269 (by omega)) (by first | exact hr_a309 | exact dz_rgm hr_a309 (by omega) (by omega) | exact dz_pmr hr_a309 (by decide) (by omega) (by omega) (by omega) | exact dz_ptr hr_a309 (by decide) (by decide) (by omega) | exact dz_ptr hr_a309 (by decide) (by decide) (by show _ ≤ 3; omega) | exact dz_rgs hr_a309 (by omega))) (fun r h => ?_)
    obtain ⟨g0, g1, g2, g3, g4, g5⟩ := h
    exact ⟨(by first | assumption | omega), (by first | assumption | omega), (by first | assumption | omega), (by first | assumption | omega), (by first | assumption | omega), (by first | exact g5 | exact dz_rgm g5 (by omega) (by omega))⟩
abbrev p286_X9_findParts_s (fu : Nat) (κ : Nat) (U : Nat) (c248_pots : Int32) (c261_many : Int32) (c261_swapsAPot : Int32) (a265 : Nat → Int32) (c267_total : Int32) (c267_lawfulOnes : Int32) (a268 : Nat → Int32) (a269 : Nat → Int32) (n269 : Nat) (a270 : Nat → Int32) (n270 : Nat) (gh_n308 : Nat) (k : Nat) : Prop :=
  (∀ (v1 : Int32) (sl : Nat) (c307_done : Int32) (c307_partsFresh : Int32) (c307_manyParts : Int32) (c307_firstPart : Int32) (c307_greatestPart : Int32) (c307_queued : Int32) (a308 : Nat → Int32) (n308 : Nat) (a309 : Nat → Int32) (n309 : Nat), v1.toInt ≤ 13824 → 0 ≤ v1.toInt → ((sl : Nat) : Int) ≤ 27648 → c307_done.toInt ≤ (-1) → (-1) ≤ c307_done.toInt → c307_partsFresh.toInt ≤ 0 → 0 ≤ c307_partsFresh.toInt → c307_manyParts.toInt ≤ 13824 → 0 ≤ c307_manyParts.toInt → c307_firstPart.toInt ≤ 13824 → (-13824) ≤ c307_firstPart.toInt → c307_greatestPart.toInt ≤ 13824 → 0 ≤ c307_greatestPart.toInt → c307_queued.toInt ≤ 13824 → 0 ≤ c307_queued.toInt → ((n308 : Nat) : Int) ≤ 13824 → 1 ≤ ((n308 : Nat) : Int) → ((n309 : Nat) : Int) ≤ 13824 → 1 ≤ ((n309 : Nat) : Int) → ((n308 : Nat) : Int) ≤ ((n309 : Nat) : Int) → ((n309 : Nat) : Int) ≤ ((n308 : Nat) : Int) → ((sl : Nat) : Int) ≤ ((U : Nat) : Int) → c267_lawfulOnes.toInt ≤ ((n308 : Nat) : Int) → c267_total.toInt ≤ ((n308 : Nat) : Int) → c307_firstPart.toInt ≤ c307_greatestPart.toInt → c307_manyParts.toInt ≤ ((n269 : Nat) : Int) → c307_manyParts.toInt ≤ ((n308 : Nat) : Int) → c307_manyParts.toInt ≤ c267_lawfulOnes.toInt → c307_manyParts.toInt ≤ v1.toInt → v1.toInt ≤ ((n269 : Nat) : Int) → v1.toInt ≤ ((n308 : Nat) : Int) → v1.toInt ≤ c267_lawfulOnes.toInt → dz_rg a309 c307_queued.toInt.toNat 0 (((dz_kt κ : Nat) : Int) - 1) → ((gh_n308 : Nat) : Int) ≤ ((n308 : Nat) : Int) → 0 + 0 + (13824 - v1.toInt) * 14 + 7 ≤ ((k : Nat) : Int) → dz_T ((F286_X9_findParts fu U c248_pots c261_many c261_swapsAPot a265 c267_total c267_lawfulOnes a268 a269 n269 a270 n270 k).1 v1 sl c307_done c307_partsFresh c307_manyParts c307_firstPart c307_greatestPart c307_queued a308 n308 a309 n309) (fun r => r.1.toInt ≤ 5 ∧ (-1) ≤ r.1.toInt ∧ r.2.2.2.2.2.1.toInt ≤ 13824 ∧ 0 ≤ r.2.2.2.2.2.1.toInt ∧ ((r.2.2.2.2.2.2.2.1 : Nat) : Int) ≤ 13824 ∧ 1 ≤ ((r.2.2.2.2.2.2.2.1 : Nat) : Int) ∧ ((r.2.2.2.2.2.2.2.2.2 : Nat) : Int) ≤ 13824 ∧ 1 ≤ ((r.2.2.2.2.2.2.2.2.2 : Nat) : Int) ∧ ((r.2.2.2.2.2.2.2.1 : Nat) : Int) ≤ ((r.2.2.2.2.2.2.2.2.2 : Nat) : Int) ∧ ((r.2.2.2.2.2.2.2.2.2 : Nat) : Int) ≤ ((r.2.2.2.2.2.2.2.1 : Nat) : Int) ∧ (((dz_kt κ : Nat) : Int) ≤ ((r.2.2.2.2.2.2.2.1 : Nat) : Int)) ∧ (((gh_n308 : Nat) : Int) ≤ ((r.2.2.2.2.2.2.2.1 : Nat) : Int))))
set_option maxHeartbeats 1000000 in
set_option maxRecDepth 10000 in
theorem t286_X9_findParts_h1_s (fu : Nat) (hfu : 1000000000000 ≤ fu) (κ : Nat) (hκ : κ < 14) (U : Nat) (c248_pots : Int32) (c261_many : Int32) (c261_swapsAPot : Int32) (a265 : Nat → Int32) (c267_total : Int32) (c267_lawfulOnes : Int32) (a268 : Nat → Int32) (a269 : Nat → Int32) (n269 : Nat) (a270 : Nat → Int32) (n270 : Nat) (gh_n308 : Nat) (p0 : c248_pots.toInt ≤ 4) (p1 : 0 ≤ c248_pots.toInt) (p2 : c261_many.toInt ≤ 24) (p3 : 0 ≤ c261_many.toInt) (p4 : c261_swapsAPot.toInt ≤ 6) (p5 : 0 ≤ c261_swapsAPot.toInt) (p6 : c267_total.toInt ≤ 13824) (p7 : 1 ≤ c267_total.toInt) (p8 : c267_lawfulOnes.toInt ≤ 13824) (p9 : 0 ≤ c267_lawfulOnes.toInt) (p10 : ((n269 : Nat) : Int) ≤ 13824) (p11 : 1 ≤ ((n269 : Nat) : Int)) (p12 : ((n270 : Nat) : Int) ≤ 13824) (p13 : 1 ≤ ((n270 : Nat) : Int)) (p14 : c267_total.toInt ≤ ((n269 : Nat) : Int)) (p15 : c267_total.toInt ≤ ((n270 : Nat) : Int)) (p16 : c267_lawfulOnes.toInt ≤ c267_total.toInt) (p17 : c267_lawfulOnes.toInt ≤ ((n270 : Nat) : Int)) (p18 : ((n269 : Nat) : Int) ≤ ((n270 : Nat) : Int)) (p19 : ((n270 : Nat) : Int) ≤ ((n269 : Nat) : Int)) (hr_a265 : dz_rt a265 (dz_kr κ) (dz_kw κ) 0 (((dz_kr κ : Nat) : Int) - 1)) (hr_a268 : dz_pt a268 (dz_kS κ)) (hr_a269 : dz_rg a269 n269 0 1023) (hr_a270 : dz_rg a270 c267_lawfulOnes.toInt.toNat 0 (((dz_kt κ : Nat) : Int) - 1)) (o2 : c248_pots.toInt = ((dz_kp κ : Nat) : Int)) (o3 : c261_many.toInt = ((dz_kr κ : Nat) : Int)) (o4 : c261_swapsAPot.toInt = ((dz_kw κ : Nat) : Int)) (o5 : c267_total.toInt = ((dz_kt κ : Nat) : Int)) (k : Nat) (ih : ∀ j9, j9 < k → p286_X9_findParts_s fu κ U c248_pots c261_many c261_swapsAPot a265 c267_total c267_lawfulOnes a268 a269 n269 a270 n270 gh_n308 j9) : ∀ (v1 : Int32) (sl : Nat) (c307_done : Int32) (c307_partsFresh : Int32) (c307_manyParts : Int32) (c307_firstPart : Int32) (c307_greatestPart : Int32) (c307_queued : Int32) (a308 : Nat → Int32) (n308 : Nat) (a309 : Nat → Int32) (n309 : Nat), v1.toInt ≤ 13824 → 0 ≤ v1.toInt → ((sl : Nat) : Int) ≤ 27648 → c307_done.toInt ≤ (-1) → (-1) ≤ c307_done.toInt → c307_partsFresh.toInt ≤ 0 → 0 ≤ c307_partsFresh.toInt → c307_manyParts.toInt ≤ 13824 → 0 ≤ c307_manyParts.toInt → c307_firstPart.toInt ≤ 13824 → (-13824) ≤ c307_firstPart.toInt → c307_greatestPart.toInt ≤ 13824 → 0 ≤ c307_greatestPart.toInt → c307_queued.toInt ≤ 13824 → 0 ≤ c307_queued.toInt → ((n308 : Nat) : Int) ≤ 13824 → 1 ≤ ((n308 : Nat) : Int) → ((n309 : Nat) : Int) ≤ 13824 → 1 ≤ ((n309 : Nat) : Int) → ((n308 : Nat) : Int) ≤ ((n309 : Nat) : Int) → ((n309 : Nat) : Int) ≤ ((n308 : Nat) : Int) → ((sl : Nat) : Int) ≤ ((U : Nat) : Int) → c267_lawfulOnes.toInt ≤ ((n308 : Nat) : Int) → c267_total.toInt ≤ ((n308 : Nat) : Int) → c307_firstPart.toInt ≤ c307_greatestPart.toInt → c307_manyParts.toInt ≤ ((n269 : Nat) : Int) → c307_manyParts.toInt ≤ ((n308 : Nat) : Int) → c307_manyParts.toInt ≤ c267_lawfulOnes.toInt → c307_manyParts.toInt ≤ v1.toInt → v1.toInt ≤ ((n269 : Nat) : Int) → v1.toInt ≤ ((n308 : Nat) : Int) → v1.toInt ≤ c267_lawfulOnes.toInt → dz_rg a309 c307_queued.toInt.toNat 0 (((dz_kt κ : Nat) : Int) - 1) → ((gh_n308 : Nat) : Int) ≤ ((n308 : Nat) : Int) → 0 + 0 + (13824 - v1.toInt) * 14 + 7 ≤ ((k : Nat) : Int) → dz_T ((F286_X9_findParts fu U c248_pots c261_many c261_swapsAPot a265 c267_total c267_lawfulOnes a268 a269 n269 a270 n270 k).1 v1 sl c307_done c307_partsFresh c307_manyParts c307_firstPart c307_greatestPart c307_queued a308 n308 a309 n309) (fun r => r.1.toInt ≤ 5 ∧ (-1) ≤ r.1.toInt ∧ r.2.2.2.2.2.1.toInt ≤ 13824 ∧ 0 ≤ r.2.2.2.2.2.1.toInt ∧ ((r.2.2.2.2.2.2.2.1 : Nat) : Int) ≤ 13824 ∧ 1 ≤ ((r.2.2.2.2.2.2.2.1 : Nat) : Int) ∧ ((r.2.2.2.2.2.2.2.2.2 : Nat) : Int) ≤ 13824 ∧ 1 ≤ ((r.2.2.2.2.2.2.2.2.2 : Nat) : Int) ∧ ((r.2.2.2.2.2.2.2.1 : Nat) : Int) ≤ ((r.2.2.2.2.2.2.2.2.2 : Nat) : Int) ∧ ((r.2.2.2.2.2.2.2.2.2 : Nat) : Int) ≤ ((r.2.2.2.2.2.2.2.1 : Nat) : Int) ∧ (((dz_kt κ : Nat) : Int) ≤ ((r.2.2.2.2.2.2.2.1 : Nat) : Int)) ∧ (((gh_n308 : Nat) : Int) ≤ ((r.2.2.2.2.2.2.2.1 : Nat) : Int))) := by
  intro v1 sl c307_done c307_partsFresh c307_manyParts c307_firstPart c307_greatestPart c307_queued a308 n308 a309 n309 i0 i1 i2 i3 i4 i5 i6 i7 i8 i9 i10 i11 i12 i13 i14 i15 i16 i17 i18 i19 i20 i21 i22 i23 i24 i25 i26 i27 i28 i29 i30 i31 hr_a309 x0 hm
  obtain ⟨k0, rfl⟩ : ∃ x, k = x + 1 := ⟨k - 1, by omega⟩
  show dz_T (s286_X9_findParts_1 fu U c248_pots c261_many c261_swapsAPot a265 c267_total c267_lawfulOnes a268 a269 n269 a270 n270 (F286_X9_findParts fu U c248_pots c261_many c261_swapsAPot a265 c267_total c267_lawfulOnes a268 a269 n269 a270 n270 k0).2.1 (F286_X9_findParts fu U c248_pots c261_many c261_swapsAPot a265 c267_total c267_lawfulOnes a268 a269 n269 a270 n270 k0).2.2  v1 sl c307_done c307_partsFresh c307_manyParts c307_firstPart c307_greatestPart c307_queued a308 n308 a309 n309) _
  unfold s286_X9_findParts_1
  refine dz_Tg (by omega) ?_
  refine dz_Tle (fun h1 => ?_) (fun h1 => ?_)
  · skip
    have e2 := dz_l1
    refine dz_Ts ?_
    dsimp only
    exact ⟨(by first | assumption | omega), i4, i13, i14, i15, i16, i17, i18, i19, i20, (by omega), (by omega)⟩
  · skip
    refine dz_Tin (by omega) (by omega) ?_
    have e3 := dz_rgat (hr_a270) (i := v1) (by omega) (by omega)
    have e4 := dz_kt4 hκ
    refine dz_Tin (by omega) (by omega) ?_
    have e5 := dz_l0
    refine dz_Teq (fun h6 => ?_) (fun h6 => ?_)
    · skip
      refine dz_Tin (by omega) (by omega) ?_
      refine dz_Tb (t285_X9_sizeOfPart_s fu hfu κ hκ _ _ _ _ _ _ _ _ _ _ _ _ _ _ p0 p1 p2 p3 p4 p5 p6 p7 p10 p11 i15 i16 i17 i18 i13 i14 p14 i19 i20 (by omega) (by omega) (by omega) i23 (hr_a265) (hr_a268) (hr_a269) (hr_a309) o2 o3 o4 o5) (fun r1 q => ?_)
      obtain ⟨q1_0, q1_1, q1_2, q1_3, q1_4, qa1_3⟩ := q
      refine dz_Teq (fun h7 => ?_) (fun h7 => ?_)
      · skip
        obtain ⟨k1, rfl⟩ : ∃ x, k0 = x + 1 := ⟨k0 - 1, by omega⟩
        show dz_T (s286_X9_findParts_3 fu U c248_pots c261_many c261_swapsAPot a265 c267_total c267_lawfulOnes a268 a269 n269 a270 n270 (F286_X9_findParts fu U c248_pots c261_many c261_swapsAPot a265 c267_total c267_lawfulOnes a268 a269 n269 a270 n270 k1).2.1 v1 r1.1 r1.1 sl c307_done c307_partsFresh c307_manyParts c307_firstPart c307_greatestPart r1.2.1 r1.2.2.1 n308 r1.2.2.2 n309) _
        unfold s286_X9_findParts_3
        refine dz_Tg (by omega) ?_
        obtain ⟨k2, rfl⟩ : ∃ x, k1 = x + 1 := ⟨k1 - 1, by omega⟩
        show dz_T (s286_X9_findParts_2 fu U c248_pots c261_many c261_swapsAPot a265 c267_total c267_lawfulOnes a268 a269 n269 a270 n270 (F286_X9_findParts fu U c248_pots c261_many c261_swapsAPot a265 c267_total c267_lawfulOnes a268 a269 n269 a270 n270 k2).1 v1 sl c307_done c307_partsFresh (c307_manyParts + (1 : Int32)) r1.1 (if (c307_greatestPart < r1.1) then r1.1 else c307_greatestPart) r1.2.1 r1.2.2.1 n308 r1.2.2.2 n309) _
        unfold s286_X9_findParts_2
        refine dz_Tg (by omega) ?_
        have e8 := dz_l1
        have e9 := dz_add (a := v1) (b := (1 : Int32)) (by omega) (by omega)
        have e10 := dz_add (a := c307_manyParts) (b := (1 : Int32)) (by omega) (by omega)
        have e11 := dz_max (a := c307_greatestPart) (b := r1.1)
        exact (ih k2 (by omega)) (v1 + (1 : Int32)) sl c307_done c307_partsFresh (c307_manyParts + (1 : Int32)) r1.1 (if (c307_greatestPart < r1.1) then r1.1 else c307_greatestPart) r1.2.1 r1.2.2.1 n308 r1.2.2.2 n309 (by omega) (by omega) i2 i3 i4 i5 i6 (by omega) (by omega) q1_0 q1_1 (by omega) (by omega) q1_2 q1_3 i15 i16 i17 i18 i19 i20 i21 i22 i23 (by omega) (by omega) (by omega) (by omega) (by omega) (by omega) (by omega) (by omega) (qa1_3) (by omega) (by omega)
      · skip
        obtain ⟨k3, rfl⟩ : ∃ x, k0 = x + 1 := ⟨k0 - 1, by omega⟩
        show dz_T (s286_X9_findParts_3 fu U c248_pots c261_many c261_swapsAPot a265 c267_total c267_lawfulOnes a268 a269 n269 a270 n270 (F286_X9_findParts fu U c248_pots c261_many c261_swapsAPot a265 c267_total c267_lawfulOnes a268 a269 n269 a270 n270 k3).2.1 v1 r1.1 c307_firstPart sl c307_done c307_partsFresh c307_manyParts c307_firstPart c307_greatestPart r1.2.1 r1.2.2.1 n308 r1.2.2.2 n309) _
        unfold s286_X9_findParts_3
        refine dz_Tg (by omega) ?_
        obtain ⟨k4, rfl⟩ : ∃ x, k3 = x + 1 := ⟨k3 - 1, by omega⟩
        show dz_T (s286_X9_findParts_2 fu U c248_pots c261_many c261_swapsAPot a265 c267_total c267_lawfulOnes a268 a269 n269 a270 n270 (F286_X9_findParts fu U c248_pots c261_many c261_swapsAPot a265 c267_total c267_lawfulOnes a268 a269 n269 a270 n270 k4).1 v1 sl c307_done c307_partsFresh (c307_manyParts + (1 : Int32)) c307_firstPart (if (c307_greatestPart < r1.1) then r1.1 else c307_greatestPart) r1.2.1 r1.2.2.1 n308 r1.2.2.2 n309) _
        unfold s286_X9_findParts_2
        refine dz_Tg (by omega) ?_
        have e12 := dz_l1
        have e13 := dz_add (a := v1) (b := (1 : Int32)) (by omega) (by omega)
        have e14 := dz_add (a := c307_manyParts) (b := (1 : Int32)) (by omega) (by omega)
        have e15 := dz_max (a := c307_greatestPart) (b := r1.1)
        exact (ih k4 (by omega)) (v1 + (1 : Int32)) sl c307_done c307_partsFresh (c307_manyParts + (1 : Int32)) c307_firstPart (if (c307_greatestPart < r1.1) then r1.1 else c307_greatestPart) r1.2.1 r1.2.2.1 n308 r1.2.2.2 n309 (by omega) (by omega) i2 i3 i4 i5 i6 (by omega) (by omega) i9 i10 (by omega) (by omega) q1_2 q1_3 i15 i16 i17 i18 i19 i20 i21 i22 i23 (by omega) (by omega) (by omega) (by omega) (by omega) (by omega) (by omega) (by omega) (qa1_3) (by omega) (by omega)
    · skip
      obtain ⟨k5, rfl⟩ : ∃ x, k0 = x + 1 := ⟨k0 - 1, by omega⟩
      show dz_T (s286_X9_findParts_2 fu U c248_pots c261_many c261_swapsAPot a265 c267_total c267_lawfulOnes a268 a269 n269 a270 n270 (F286_X9_findParts fu U c248_pots c261_many c261_swapsAPot a265 c267_total c267_lawfulOnes a268 a269 n269 a270 n270 k5).1 v1 sl c307_done c307_partsFresh c307_manyParts c307_firstPart c307_greatestPart c307_queued a308 n308 a309 n309) _
      unfold s286_X9_findParts_2
      refine dz_Tg (by omega) ?_
      have e16 := dz_l1
      have e17 := dz_add (a := v1) (b := (1 : Int32)) (by omega) (by omega)
      exact (ih k5 (by omega)) (v1 + (1 : Int32)) sl c307_done c307_partsFresh c307_manyParts c307_firstPart c307_greatestPart c307_queued a308 n308 a309 n309 (by omega) (by omega) i2 i3 i4 i5 i6 i7 i8 i9 i10 i11 i12 i13 i14 i15 i16 i17 i18 i19 i20 i21 i22 i23 i24 i25 i26 i27 (by omega) (by omega) (by omega) (by omega) (hr_a309) (by omega) (by omega)
theorem t286_X9_findParts_I_s (fu : Nat) (hfu : 1000000000000 ≤ fu) (κ : Nat) (hκ : κ < 14) (U : Nat) (c248_pots : Int32) (c261_many : Int32) (c261_swapsAPot : Int32) (a265 : Nat → Int32) (c267_total : Int32) (c267_lawfulOnes : Int32) (a268 : Nat → Int32) (a269 : Nat → Int32) (n269 : Nat) (a270 : Nat → Int32) (n270 : Nat) (gh_n308 : Nat) (p0 : c248_pots.toInt ≤ 4) (p1 : 0 ≤ c248_pots.toInt) (p2 : c261_many.toInt ≤ 24) (p3 : 0 ≤ c261_many.toInt) (p4 : c261_swapsAPot.toInt ≤ 6) (p5 : 0 ≤ c261_swapsAPot.toInt) (p6 : c267_total.toInt ≤ 13824) (p7 : 1 ≤ c267_total.toInt) (p8 : c267_lawfulOnes.toInt ≤ 13824) (p9 : 0 ≤ c267_lawfulOnes.toInt) (p10 : ((n269 : Nat) : Int) ≤ 13824) (p11 : 1 ≤ ((n269 : Nat) : Int)) (p12 : ((n270 : Nat) : Int) ≤ 13824) (p13 : 1 ≤ ((n270 : Nat) : Int)) (p14 : c267_total.toInt ≤ ((n269 : Nat) : Int)) (p15 : c267_total.toInt ≤ ((n270 : Nat) : Int)) (p16 : c267_lawfulOnes.toInt ≤ c267_total.toInt) (p17 : c267_lawfulOnes.toInt ≤ ((n270 : Nat) : Int)) (p18 : ((n269 : Nat) : Int) ≤ ((n270 : Nat) : Int)) (p19 : ((n270 : Nat) : Int) ≤ ((n269 : Nat) : Int)) (hr_a265 : dz_rt a265 (dz_kr κ) (dz_kw κ) 0 (((dz_kr κ : Nat) : Int) - 1)) (hr_a268 : dz_pt a268 (dz_kS κ)) (hr_a269 : dz_rg a269 n269 0 1023) (hr_a270 : dz_rg a270 c267_lawfulOnes.toInt.toNat 0 (((dz_kt κ : Nat) : Int) - 1)) (o2 : c248_pots.toInt = ((dz_kp κ : Nat) : Int)) (o3 : c261_many.toInt = ((dz_kr κ : Nat) : Int)) (o4 : c261_swapsAPot.toInt = ((dz_kw κ : Nat) : Int)) (o5 : c267_total.toInt = ((dz_kt κ : Nat) : Int)) (k : Nat) : p286_X9_findParts_s fu κ U c248_pots c261_many c261_swapsAPot a265 c267_total c267_lawfulOnes a268 a269 n269 a270 n270 gh_n308 k := by
  induction k using Nat.strongRecOn with
  | _ k ih => exact t286_X9_findParts_h1_s fu hfu κ hκ U c248_pots c261_many c261_swapsAPot a265 c267_total c267_lawfulOnes a268 a269 n269 a270 n270 gh_n308 p0 p1 p2 p3 p4 p5 p6 p7 p8 p9 p10 p11 p12 p13 p14 p15 p16 p17 p18 p19 hr_a265 hr_a268 hr_a269 hr_a270 o2 o3 o4 o5 k ih
set_option maxHeartbeats 1000000 in
set_option maxRecDepth 10000 in
theorem t286_X9_findParts_E_s (fu : Nat) (hfu : 1000000000000 ≤ fu) (κ : Nat) (hκ : κ < 14) (U : Nat) (c248_pots : Int32) (c261_many : Int32) (c261_swapsAPot : Int32) (a265 : Nat → Int32) (c267_total : Int32) (c267_lawfulOnes : Int32) (a268 : Nat → Int32) (a269 : Nat → Int32) (n269 : Nat) (a270 : Nat → Int32) (n270 : Nat) (c307_done : Int32) (c307_partsFresh : Int32) (c307_manyParts : Int32) (c307_firstPart : Int32) (c307_greatestPart : Int32) (c307_queued : Int32) (a308 : Nat → Int32) (n308 : Nat) (a309 : Nat → Int32) (n309 : Nat) (p0 : c248_pots.toInt ≤ 4) (p1 : 0 ≤ c248_pots.toInt) (p2 : c261_many.toInt ≤ 24) (p3 : 0 ≤ c261_many.toInt) (p4 : c261_swapsAPot.toInt ≤ 6) (p5 : 0 ≤ c261_swapsAPot.toInt) (p6 : c267_total.toInt ≤ 13824) (p7 : 1 ≤ c267_total.toInt) (p8 : c267_lawfulOnes.toInt ≤ 13824) (p9 : 0 ≤ c267_lawfulOnes.toInt) (p10 : ((n269 : Nat) : Int) ≤ 13824) (p11 : 1 ≤ ((n269 : Nat) : Int)) (p12 : ((n270 : Nat) : Int) ≤ 13824) (p13 : 1 ≤ ((n270 : Nat) : Int)) (p14 : c307_done.toInt ≤ 5) (p15 : (-1) ≤ c307_done.toInt) (p16 : c307_queued.toInt ≤ 13824) (p17 : 0 ≤ c307_queued.toInt) (p18 : ((n308 : Nat) : Int) ≤ 13824) (p19 : 1 ≤ ((n308 : Nat) : Int)) (p20 : ((n309 : Nat) : Int) ≤ 13824) (p21 : 1 ≤ ((n309 : Nat) : Int)) (p22 : c267_total.toInt ≤ ((n269 : Nat) : Int)) (p23 : c267_total.toInt ≤ ((n270 : Nat) : Int)) (p24 : c267_lawfulOnes.toInt ≤ c267_total.toInt) (p25 : c267_lawfulOnes.toInt ≤ ((n270 : Nat) : Int)) (p26 : ((n308 : Nat) : Int) ≤ ((n309 : Nat) : Int)) (p27 : ((n309 : Nat) : Int) ≤ ((n308 : Nat) : Int)) (p28 : ((n269 : Nat) : Int) ≤ ((n270 : Nat) : Int)) (p29 : ((n270 : Nat) : Int) ≤ ((n269 : Nat) : Int)) (hr_a265 : dz_rt a265 (dz_kr κ) (dz_kw κ) 0 (((dz_kr κ : Nat) : Int) - 1)) (hr_a268 : dz_pt a268 (dz_kS κ)) (hr_a269 : dz_rg a269 n269 0 1023) (hr_a270 : dz_rg a270 c267_lawfulOnes.toInt.toNat 0 (((dz_kt κ : Nat) : Int) - 1)) (o0 : dz_needC c267_total n308 ≤ U) (o1 : c307_partsFresh.toInt = 0 ∨ ((dz_kt κ : Nat) : Int) ≤ n308) (o2 : c248_pots.toInt = ((dz_kp κ : Nat) : Int)) (o3 : c261_many.toInt = ((dz_kr κ : Nat) : Int)) (o4 : c261_swapsAPot.toInt = ((dz_kw κ : Nat) : Int)) (o5 : c267_total.toInt = ((dz_kt κ : Nat) : Int)) (kv : Nat) (hkv : 1000000000000 ≤ kv) : dz_T (s286_X9_findParts_0 fu U c248_pots c261_many c261_swapsAPot a265 c267_total c267_lawfulOnes a268 a269 n269 a270 n270 (F286_X9_findParts fu U c248_pots c261_many c261_swapsAPot a265 c267_total c267_lawfulOnes a268 a269 n269 a270 n270 kv).1  c307_done c307_partsFresh c307_manyParts c307_firstPart c307_greatestPart c307_queued a308 n308 a309 n309) (fun r => r.1.toInt ≤ 5 ∧ (-1) ≤ r.1.toInt ∧ r.2.2.2.2.2.1.toInt ≤ 13824 ∧ 0 ≤ r.2.2.2.2.2.1.toInt ∧ ((r.2.2.2.2.2.2.2.1 : Nat) : Int) ≤ 13824 ∧ 1 ≤ ((r.2.2.2.2.2.2.2.1 : Nat) : Int) ∧ ((r.2.2.2.2.2.2.2.2.2 : Nat) : Int) ≤ 13824 ∧ 1 ≤ ((r.2.2.2.2.2.2.2.2.2 : Nat) : Int) ∧ ((r.2.2.2.2.2.2.2.1 : Nat) : Int) ≤ ((r.2.2.2.2.2.2.2.2.2 : Nat) : Int) ∧ ((r.2.2.2.2.2.2.2.2.2 : Nat) : Int) ≤ ((r.2.2.2.2.2.2.2.1 : Nat) : Int) ∧ (((dz_kt κ : Nat) : Int) ≤ ((r.2.2.2.2.2.2.2.1 : Nat) : Int)) ∧ (((n308 : Nat) : Int) ≤ ((r.2.2.2.2.2.2.2.1 : Nat) : Int))) := by
  unfold s286_X9_findParts_0
  have e1 := dz_l0
  refine dz_Teq (fun h2 => ?_) (fun h2 => ?_)
  · skip
    have e3 := dz_needCb (total := c267_total) (n := n308) (by omega) (by omega)
    refine dz_Tg (by omega) ?_
    refine dz_Tb (t282_X9_clearRows_s fu hfu κ hκ _ _ _ _ _ _ _ p6 p7 p14 p15 p18 p19 p20 p21 p26 p27 ((by first | exact Nat.le_refl _ | assumption)) o5) (fun r1 q => ?_)
    obtain ⟨q1_0, q1_1, q1_2, q1_3, q1_4, q1_5, q1_6, q1_7, q1_8, q1_9, q1_10, qo1_0⟩ := q
    exact (t286_X9_findParts_I_s fu hfu κ hκ U c248_pots c261_many c261_swapsAPot a265 c267_total c267_lawfulOnes a268 a269 n269 a270 n270 n308 p0 p1 p2 p3 p4 p5 p6 p7 p8 p9 p10 p11 p12 p13 p22 p23 p24 p25 p28 p29 hr_a265 hr_a268 hr_a269 hr_a270 o2 o3 o4 o5 kv) (0 : Int32) (0 + (dz_needC c267_total n308)) r1.1 c307_partsFresh (0 : Int32) (0 : Int32) (0 : Int32) (0 : Int32) r1.2.1 r1.2.2.1 r1.2.2.2.1 r1.2.2.2.2 (by omega) (by omega) (by omega) q1_0 q1_1 (by first | assumption | omega) (by first | assumption | omega) (by omega) (by omega) (by omega) (by omega) (by omega) (by omega) (by omega) (by omega) q1_2 q1_3 q1_4 q1_5 q1_8 q1_9 (by omega) (by first | assumption | omega) q1_10 (by omega) (by omega) (by omega) (by omega) (by omega) (by omega) (by omega) (by omega) (dz_rgz (by omega)) (by omega) (by omega)
  · skip
    refine dz_Ts ?_
    dsimp only
    exact ⟨p14, p15, p16, p17, p18, p19, p20, p21, p26, p27, (by omega), (by omega)⟩
theorem t286_X9_findParts_s (fu : Nat) (hfu : 1000000000000 ≤ fu) (κ : Nat) (hκ : κ < 14) (U : Nat) (c248_pots : Int32) (c261_many : Int32) (c261_swapsAPot : Int32) (a265 : Nat → Int32) (c267_total : Int32) (c267_lawfulOnes : Int32) (a268 : Nat → Int32) (a269 : Nat → Int32) (n269 : Nat) (a270 : Nat → Int32) (n270 : Nat) (c307_done : Int32) (c307_partsFresh : Int32) (c307_manyParts : Int32) (c307_firstPart : Int32) (c307_greatestPart : Int32) (c307_queued : Int32) (a308 : Nat → Int32) (n308 : Nat) (a309 : Nat → Int32) (n309 : Nat) (p0 : c248_pots.toInt ≤ 4) (p1 : 0 ≤ c248_pots.toInt) (p2 : c261_many.toInt ≤ 24) (p3 : 0 ≤ c261_many.toInt) (p4 : c261_swapsAPot.toInt ≤ 6) (p5 : 0 ≤ c261_swapsAPot.toInt) (p6 : c267_total.toInt ≤ 13824) (p7 : 1 ≤ c267_total.toInt) (p8 : c267_lawfulOnes.toInt ≤ 13824) (p9 : 0 ≤ c267_lawfulOnes.toInt) (p10 : ((n269 : Nat) : Int) ≤ 13824) (p11 : 1 ≤ ((n269 : Nat) : Int)) (p12 : ((n270 : Nat) : Int) ≤ 13824) (p13 : 1 ≤ ((n270 : Nat) : Int)) (p14 : c307_done.toInt ≤ 5) (p15 : (-1) ≤ c307_done.toInt) (p16 : c307_queued.toInt ≤ 13824) (p17 : 0 ≤ c307_queued.toInt) (p18 : ((n308 : Nat) : Int) ≤ 13824) (p19 : 1 ≤ ((n308 : Nat) : Int)) (p20 : ((n309 : Nat) : Int) ≤ 13824) (p21 : 1 ≤ ((n309 : Nat) : Int)) (p22 : c267_total.toInt ≤ ((n269 : Nat) : Int)) (p23 : c267_total.toInt ≤ ((n270 : Nat) : Int)) (p24 : c267_lawfulOnes.toInt ≤ c267_total.toInt) (p25 : c267_lawfulOnes.toInt ≤ ((n270 : Nat) : Int)) (p26 : ((n308 : Nat) : Int) ≤ ((n309 : Nat) : Int)) (p27 : ((n309 : Nat) : Int) ≤ ((n308 : Nat) : Int)) (p28 : ((n269 : Nat) : Int) ≤ ((n270 : Nat) : Int)) (p29 : ((n270 : Nat) : Int) ≤ ((n269 : Nat) : Int)) (hr_a265 : dz_rt a265 (dz_kr κ) (dz_kw κ) 0 (((dz_kr κ : Nat) : Int) - 1)) (hr_a268 : dz_pt a268 (dz_kS κ)) (hr_a269 : dz_rg a269 n269 0 1023) (hr_a270 : dz_rg a270 c267_lawfulOnes.toInt.toNat 0 (((dz_kt κ : Nat) : Int) - 1)) (o0 : dz_needC c267_total n308 ≤ U) (o1 : c307_partsFresh.toInt = 0 ∨ ((dz_kt κ : Nat) : Int) ≤ n308) (o2 : c248_pots.toInt = ((dz_kp κ : Nat) : Int)) (o3 : c261_many.toInt = ((dz_kr κ : Nat) : Int)) (o4 : c261_swapsAPot.toInt = ((dz_kw κ : Nat) : Int)) (o5 : c267_total.toInt = ((dz_kt κ : Nat) : Int)) : dz_T (f286_X9_findParts fu U c248_pots c261_many c261_swapsAPot a265 c267_total c267_lawfulOnes a268 a269 n269 a270 n270 c307_done c307_partsFresh c307_manyParts c307_firstPart c307_greatestPart c307_queued a308 n308 a309 n309) (fun r => r.1.toInt ≤ 5 ∧ (-1) ≤ r.1.toInt ∧ r.2.2.2.2.2.1.toInt ≤ 13824 ∧ 0 ≤ r.2.2.2.2.2.1.toInt ∧ ((r.2.2.2.2.2.2.2.1 : Nat) : Int) ≤ 13824 ∧ 1 ≤ ((r.2.2.2.2.2.2.2.1 : Nat) : Int) ∧ ((r.2.2.2.2.2.2.2.2.2 : Nat) : Int) ≤ 13824 ∧ 1 ≤ ((r.2.2.2.2.2.2.2.2.2 : Nat) : Int) ∧ ((r.2.2.2.2.2.2.2.1 : Nat) : Int) ≤ ((r.2.2.2.2.2.2.2.2.2 : Nat) : Int) ∧ ((r.2.2.2.2.2.2.2.2.2 : Nat) : Int) ≤ ((r.2.2.2.2.2.2.2.1 : Nat) : Int) ∧ (((dz_kt κ : Nat) : Int) ≤ ((r.2.2.2.2.2.2.2.1 : Nat) : Int)) ∧ (((n308 : Nat) : Int) ≤ ((r.2.2.2.2.2.2.2.1 : Nat) : Int))) :=
  t286_X9_findParts_E_s fu hfu κ hκ U c248_pots c261_many c261_swapsAPot a265 c267_total c267_lawfulOnes a268 a269 n269 a270 n270 c307_done c307_partsFresh c307_manyParts c307_firstPart c307_greatestPart c307_queued a308 n308 a309 n309 p0 p1 p2 p3 p4 p5 p6 p7 p8 p9 p10 p11 p12 p13 p14 p15 p16 p17 p18 p19 p20 p21 p22 p23 p24 p25 p26 p27 p28 p29 hr_a265 hr_a268 hr_a269 hr_a270 o0 o1 o2 o3 o4 o5 fu hfu
set_option maxHeartbeats 1000000 in
set_option maxRecDepth 10000 in
theorem t287_X9_howManyParts_s (fu : Nat) (hfu : 1000000000000 ≤ fu) (κ : Nat) (hκ : κ < 14) (U : Nat) (c248_pots : Int32) (c261_many : Int32) (c261_swapsAPot : Int32) (a265 : Nat → Int32) (c267_total : Int32) (c267_lawfulOnes : Int32) (a268 : Nat → Int32) (a269 : Nat → Int32) (n269 : Nat) (a270 : Nat → Int32) (n270 : Nat) (c307_done : Int32) (c307_partsFresh : Int32) (c307_manyParts : Int32) (c307_firstPart : Int32) (c307_greatestPart : Int32) (c307_queued : Int32) (a308 : Nat → Int32) (n308 : Nat) (a309 : Nat → Int32) (n309 : Nat) (p0 : c248_pots.toInt ≤ 4) (p1 : 0 ≤ c248_pots.toInt) (p2 : c261_many.toInt ≤ 24) (p3 : 0 ≤ c261_many.toInt) (p4 : c261_swapsAPot.toInt ≤ 6) (p5 : 0 ≤ c261_swapsAPot.toInt) (p6 : c267_total.toInt ≤ 13824) (p7 : 1 ≤ c267_total.toInt) (p8 : c267_lawfulOnes.toInt ≤ 13824) (p9 : 0 ≤ c267_lawfulOnes.toInt) (p10 : ((n269 : Nat) : Int) ≤ 13824) (p11 : 1 ≤ ((n269 : Nat) : Int)) (p12 : ((n270 : Nat) : Int) ≤ 13824) (p13 : 1 ≤ ((n270 : Nat) : Int)) (p14 : c307_done.toInt ≤ 5) (p15 : (-1) ≤ c307_done.toInt) (p16 : c307_queued.toInt ≤ 13824) (p17 : 0 ≤ c307_queued.toInt) (p18 : ((n308 : Nat) : Int) ≤ 13824) (p19 : 1 ≤ ((n308 : Nat) : Int)) (p20 : ((n309 : Nat) : Int) ≤ 13824) (p21 : 1 ≤ ((n309 : Nat) : Int)) (p22 : c267_total.toInt ≤ ((n269 : Nat) : Int)) (p23 : c267_total.toInt ≤ ((n270 : Nat) : Int)) (p24 : c267_lawfulOnes.toInt ≤ c267_total.toInt) (p25 : c267_lawfulOnes.toInt ≤ ((n270 : Nat) : Int)) (p26 : ((n308 : Nat) : Int) ≤ ((n309 : Nat) : Int)) (p27 : ((n309 : Nat) : Int) ≤ ((n308 : Nat) : Int)) (p28 : ((n269 : Nat) : Int) ≤ ((n270 : Nat) : Int)) (p29 : ((n270 : Nat) : Int) ≤ ((n269 : Nat) : Int)) (hr_a265 : dz_rt a265 (dz_kr κ) (dz_kw κ) 0 (((dz_kr κ : Nat) : Int) - 1)) (hr_a268 : dz_pt a268 (dz_kS κ)) (hr_a269 : dz_rg a269 n269 0 1023) (hr_a270 : dz_rg a270 c267_lawfulOnes.toInt.toNat 0 (((dz_kt κ : Nat) : Int) - 1)) (o0 : dz_needC c267_total n308 ≤ U) (o1 : c307_partsFresh.toInt = 0 ∨ ((dz_kt κ : Nat) : Int) ≤ n308) (o2 : c248_pots.toInt = ((dz_kp κ : Nat) : Int)) (o3 : c261_many.toInt = ((dz_kr κ : Nat) : Int)) (o4 : c261_swapsAPot.toInt = ((dz_kw κ : Nat) : Int)) (o5 : c267_total.toInt = ((dz_kt κ : Nat) : Int)) : dz_T (f287_X9_howManyParts fu U c248_pots c261_many c261_swapsAPot a265 c267_total c267_lawfulOnes a268 a269 n269 a270 n270 c307_done c307_partsFresh c307_manyParts c307_firstPart c307_greatestPart c307_queued a308 n308 a309 n309) (fun r => r.2.1.toInt ≤ 5 ∧ (-1) ≤ r.2.1.toInt ∧ r.2.2.2.2.2.2.1.toInt ≤ 13824 ∧ 0 ≤ r.2.2.2.2.2.2.1.toInt ∧ ((r.2.2.2.2.2.2.2.2.1 : Nat) : Int) ≤ 13824 ∧ 1 ≤ ((r.2.2.2.2.2.2.2.2.1 : Nat) : Int) ∧ ((r.2.2.2.2.2.2.2.2.2.2 : Nat) : Int) ≤ 13824 ∧ 1 ≤ ((r.2.2.2.2.2.2.2.2.2.2 : Nat) : Int) ∧ r.1.toInt ≤ r.2.2.2.1.toInt ∧ ((r.2.2.2.2.2.2.2.2.2.2 : Nat) : Int) ≤ ((r.2.2.2.2.2.2.2.2.1 : Nat) : Int) ∧ r.2.2.2.1.toInt ≤ r.1.toInt ∧ ((r.2.2.2.2.2.2.2.2.1 : Nat) : Int) ≤ ((r.2.2.2.2.2.2.2.2.2.2 : Nat) : Int) ∧ (((dz_kt κ : Nat) : Int) ≤ ((r.2.2.2.2.2.2.2.2.1 : Nat) : Int)) ∧ (((n308 : Nat) : Int) ≤ ((r.2.2.2.2.2.2.2.2.1 : Nat) : Int))) := by
  unfold f287_X9_howManyParts s287_X9_howManyParts_0
  have e1 := dz_needCb (total := c267_total) (n := n308) (by omega) (by omega)
  refine dz_Tg (by omega) ?_
  refine dz_Tb (t286_X9_findParts_s fu hfu κ hκ _ _ _ _ _ _ _ _ _ _ _ _ _ _ _ _ _ _ _ _ _ _ p0 p1 p2 p3 p4 p5 p6 p7 p8 p9 p10 p11 p12 p13 p14 p15 p16 p17 p18 p19 p20 p21 p22 p23 p24 p25 p26 p27 p28 p29 (hr_a265) (hr_a268) (hr_a269) (hr_a270) ((by first | exact Nat.le_refl _ | assumption)) o1 o2 o3 o4 o5) (fun r1 q => ?_)
  obtain ⟨q1_0, q1_1, q1_2, q1_3, q1_4, q1_5, q1_6, q1_7, q1_8, q1_9, qo1_0, qo1_1⟩ := q
  refine dz_Ts ?_
  dsimp only
  exact ⟨q1_0, q1_1, q1_2, q1_3, q1_4, q1_5, q1_6, q1_7, (by first | assumption | omega), q1_9, (by first | assumption | omega), q1_8, (by omega), (by omega)⟩
set_option maxHeartbeats 1000000 in
set_option maxRecDepth 10000 in
theorem t288_X9_sizeOfFirstPart_s (fu : Nat) (hfu : 1000000000000 ≤ fu) (κ : Nat) (hκ : κ < 14) (U : Nat) (c248_pots : Int32) (c261_many : Int32) (c261_swapsAPot : Int32) (a265 : Nat → Int32) (c267_total : Int32) (c267_lawfulOnes : Int32) (a268 : Nat → Int32) (a269 : Nat → Int32) (n269 : Nat) (a270 : Nat → Int32) (n270 : Nat) (c307_done : Int32) (c307_partsFresh : Int32) (c307_manyParts : Int32) (c307_firstPart : Int32) (c307_greatestPart : Int32) (c307_queued : Int32) (a308 : Nat → Int32) (n308 : Nat) (a309 : Nat → Int32) (n309 : Nat) (p0 : c248_pots.toInt ≤ 4) (p1 : 0 ≤ c248_pots.toInt) (p2 : c261_many.toInt ≤ 24) (p3 : 0 ≤ c261_many.toInt) (p4 : c261_swapsAPot.toInt ≤ 6) (p5 : 0 ≤ c261_swapsAPot.toInt) (p6 : c267_total.toInt ≤ 13824) (p7 : 1 ≤ c267_total.toInt) (p8 : c267_lawfulOnes.toInt ≤ 13824) (p9 : 0 ≤ c267_lawfulOnes.toInt) (p10 : ((n269 : Nat) : Int) ≤ 13824) (p11 : 1 ≤ ((n269 : Nat) : Int)) (p12 : ((n270 : Nat) : Int) ≤ 13824) (p13 : 1 ≤ ((n270 : Nat) : Int)) (p14 : c307_done.toInt ≤ 5) (p15 : (-1) ≤ c307_done.toInt) (p16 : c307_queued.toInt ≤ 13824) (p17 : 0 ≤ c307_queued.toInt) (p18 : ((n308 : Nat) : Int) ≤ 13824) (p19 : 1 ≤ ((n308 : Nat) : Int)) (p20 : ((n309 : Nat) : Int) ≤ 13824) (p21 : 1 ≤ ((n309 : Nat) : Int)) (p22 : c267_total.toInt ≤ ((n269 : Nat) : Int)) (p23 : c267_total.toInt ≤ ((n270 : Nat) : Int)) (p24 : c267_lawfulOnes.toInt ≤ c267_total.toInt) (p25 : c267_lawfulOnes.toInt ≤ ((n270 : Nat) : Int)) (p26 : ((n308 : Nat) : Int) ≤ ((n309 : Nat) : Int)) (p27 : ((n309 : Nat) : Int) ≤ ((n308 : Nat) : Int)) (p28 : ((n269 : Nat) : Int) ≤ ((n270 : Nat) : Int)) (p29 : ((n270 : Nat) : Int) ≤ ((n269 : Nat) : Int)) (hr_a265 : dz_rt a265 (dz_kr κ) (dz_kw κ) 0 (((dz_kr κ : Nat) : Int) - 1)) (hr_a268 : dz_pt a268 (dz_kS κ)) (hr_a269 : dz_rg a269 n269 0 1023) (hr_a270 : dz_rg a270 c267_lawfulOnes.toInt.toNat 0 (((dz_kt κ : Nat) : Int) - 1)) (o0 : dz_needC c267_total n308 ≤ U) (o1 : c307_partsFresh.toInt = 0 ∨ ((dz_kt κ : Nat) : Int) ≤ n308) (o2 : c248_pots.toInt = ((dz_kp κ : Nat) : Int)) (o3 : c261_many.toInt = ((dz_kr κ : Nat) : Int)) (o4 : c261_swapsAPot.toInt = ((dz_kw κ : Nat) : Int)) (o5 : c267_total.toInt = ((dz_kt κ : Nat) : Int)) : dz_T (f288_X9_sizeOfFirstPart fu U c248_pots c261_many c261_swapsAPot a265 c267_total c267_lawfulOnes a268 a269 n269 a270 n270 c307_done c307_partsFresh c307_manyParts c307_firstPart c307_greatestPart c307_queued a308 n308 a309 n309) (fun r => r.2.1.toInt ≤ 5 ∧ (-1) ≤ r.2.1.toInt ∧ r.2.2.2.2.2.2.1.toInt ≤ 13824 ∧ 0 ≤ r.2.2.2.2.2.2.1.toInt ∧ ((r.2.2.2.2.2.2.2.2.1 : Nat) : Int) ≤ 13824 ∧ 1 ≤ ((r.2.2.2.2.2.2.2.2.1 : Nat) : Int) ∧ ((r.2.2.2.2.2.2.2.2.2.2 : Nat) : Int) ≤ 13824 ∧ 1 ≤ ((r.2.2.2.2.2.2.2.2.2.2 : Nat) : Int) ∧ r.1.toInt ≤ r.2.2.2.2.1.toInt ∧ ((r.2.2.2.2.2.2.2.2.2.2 : Nat) : Int) ≤ ((r.2.2.2.2.2.2.2.2.1 : Nat) : Int) ∧ r.2.2.2.2.1.toInt ≤ r.1.toInt ∧ ((r.2.2.2.2.2.2.2.2.1 : Nat) : Int) ≤ ((r.2.2.2.2.2.2.2.2.2.2 : Nat) : Int) ∧ (((dz_kt κ : Nat) : Int) ≤ ((r.2.2.2.2.2.2.2.2.1 : Nat) : Int)) ∧ (((n308 : Nat) : Int) ≤ ((r.2.2.2.2.2.2.2.2.1 : Nat) : Int))) := by
  unfold f288_X9_sizeOfFirstPart s288_X9_sizeOfFirstPart_0
  have e1 := dz_needCb (total := c267_total) (n := n308) (by omega) (by omega)
  refine dz_Tg (by omega) ?_
  refine dz_Tb (t286_X9_findParts_s fu hfu κ hκ _ _ _ _ _ _ _ _ _ _ _ _ _ _ _ _ _ _ _ _ _ _ p0 p1 p2 p3 p4 p5 p6 p7 p8 p9 p10 p11 p12 p13 p14 p15 p16 p17 p18 p19 p20 p21 p22 p23 p24 p25 p26 p27 p28 p29 (hr_a265) (hr_a268) (hr_a269) (hr_a270) ((by first | exact Nat.le_refl _ | assumption)) o1 o2 o3 o4 o5) (fun r1 q => ?_)
  obtain ⟨q1_0, q1_1, q1_2, q1_3, q1_4, q1_5, q1_6, q1_7, q1_8, q1_9, qo1_0, qo1_1⟩ := q
  refine dz_Ts ?_
  dsimp only
  exact ⟨q1_0, q1_1, q1_2, q1_3, q1_4, q1_5, q1_6, q1_7, (by first | assumption | omega), q1_9, (by first | assumption | omega), q1_8, (by omega), (by omega)⟩
set_option maxHeartbeats 1000000 in
set_option maxRecDepth 10000 in
theorem t289_X9_sizeOfGreatestPart_s (fu : Nat) (hfu : 1000000000000 ≤ fu) (κ : Nat) (hκ : κ < 14) (U : Nat) (c248_pots : Int32) (c261_many : Int32) (c261_swapsAPot : Int32) (a265 : Nat → Int32) (c267_total : Int32) (c267_lawfulOnes : Int32) (a268 : Nat → Int32) (a269 : Nat → Int32) (n269 : Nat) (a270 : Nat → Int32) (n270 : Nat) (c307_done : Int32) (c307_partsFresh : Int32) (c307_manyParts : Int32) (c307_firstPart : Int32) (c307_greatestPart : Int32) (c307_queued : Int32) (a308 : Nat → Int32) (n308 : Nat) (a309 : Nat → Int32) (n309 : Nat) (p0 : c248_pots.toInt ≤ 4) (p1 : 0 ≤ c248_pots.toInt) (p2 : c261_many.toInt ≤ 24) (p3 : 0 ≤ c261_many.toInt) (p4 : c261_swapsAPot.toInt ≤ 6) (p5 : 0 ≤ c261_swapsAPot.toInt) (p6 : c267_total.toInt ≤ 13824) (p7 : 1 ≤ c267_total.toInt) (p8 : c267_lawfulOnes.toInt ≤ 13824) (p9 : 0 ≤ c267_lawfulOnes.toInt) (p10 : ((n269 : Nat) : Int) ≤ 13824) (p11 : 1 ≤ ((n269 : Nat) : Int)) (p12 : ((n270 : Nat) : Int) ≤ 13824) (p13 : 1 ≤ ((n270 : Nat) : Int)) (p14 : c307_done.toInt ≤ 5) (p15 : (-1) ≤ c307_done.toInt) (p16 : c307_queued.toInt ≤ 13824) (p17 : 0 ≤ c307_queued.toInt) (p18 : ((n308 : Nat) : Int) ≤ 13824) (p19 : 1 ≤ ((n308 : Nat) : Int)) (p20 : ((n309 : Nat) : Int) ≤ 13824) (p21 : 1 ≤ ((n309 : Nat) : Int)) (p22 : c267_total.toInt ≤ ((n269 : Nat) : Int)) (p23 : c267_total.toInt ≤ ((n270 : Nat) : Int)) (p24 : c267_lawfulOnes.toInt ≤ c267_total.toInt) (p25 : c267_lawfulOnes.toInt ≤ ((n270 : Nat) : Int)) (p26 : ((n308 : Nat) : Int) ≤ ((n309 : Nat) : Int)) (p27 : ((n309 : Nat) : Int) ≤ ((n308 : Nat) : Int)) (p28 : ((n269 : Nat) : Int) ≤ ((n270 : Nat) : Int)) (p29 : ((n270 : Nat) : Int) ≤ ((n269 : Nat) : Int)) (hr_a265 : dz_rt a265 (dz_kr κ) (dz_kw κ) 0 (((dz_kr κ : Nat) : Int) - 1)) (hr_a268 : dz_pt a268 (dz_kS κ)) (hr_a269 : dz_rg a269 n269 0 1023) (hr_a270 : dz_rg a270 c267_lawfulOnes.toInt.toNat 0 (((dz_kt κ : Nat) : Int) - 1)) (o0 : dz_needC c267_total n308 ≤ U) (o1 : c307_partsFresh.toInt = 0 ∨ ((dz_kt κ : Nat) : Int) ≤ n308) (o2 : c248_pots.toInt = ((dz_kp κ : Nat) : Int)) (o3 : c261_many.toInt = ((dz_kr κ : Nat) : Int)) (o4 : c261_swapsAPot.toInt = ((dz_kw κ : Nat) : Int)) (o5 : c267_total.toInt = ((dz_kt κ : Nat) : Int)) : dz_T (f289_X9_sizeOfGreatestPart fu U c248_pots c261_many c261_swapsAPot a265 c267_total c267_lawfulOnes a268 a269 n269 a270 n270 c307_done c307_partsFresh c307_manyParts c307_firstPart c307_greatestPart c307_queued a308 n308 a309 n309) (fun r => r.2.1.toInt ≤ 5 ∧ (-1) ≤ r.2.1.toInt ∧ r.2.2.2.2.2.2.1.toInt ≤ 13824 ∧ 0 ≤ r.2.2.2.2.2.2.1.toInt ∧ ((r.2.2.2.2.2.2.2.2.1 : Nat) : Int) ≤ 13824 ∧ 1 ≤ ((r.2.2.2.2.2.2.2.2.1 : Nat) : Int) ∧ ((r.2.2.2.2.2.2.2.2.2.2 : Nat) : Int) ≤ 13824 ∧ 1 ≤ ((r.2.2.2.2.2.2.2.2.2.2 : Nat) : Int) ∧ r.1.toInt ≤ r.2.2.2.2.2.1.toInt ∧ ((r.2.2.2.2.2.2.2.2.2.2 : Nat) : Int) ≤ ((r.2.2.2.2.2.2.2.2.1 : Nat) : Int) ∧ r.2.2.2.2.2.1.toInt ≤ r.1.toInt ∧ ((r.2.2.2.2.2.2.2.2.1 : Nat) : Int) ≤ ((r.2.2.2.2.2.2.2.2.2.2 : Nat) : Int) ∧ (((dz_kt κ : Nat) : Int) ≤ ((r.2.2.2.2.2.2.2.2.1 : Nat) : Int)) ∧ (((n308 : Nat) : Int) ≤ ((r.2.2.2.2.2.2.2.2.1 : Nat) : Int))) := by
  unfold f289_X9_sizeOfGreatestPart s289_X9_sizeOfGreatestPart_0
  have e1 := dz_needCb (total := c267_total) (n := n308) (by omega) (by omega)
  refine dz_Tg (by omega) ?_
  refine dz_Tb (t286_X9_findParts_s fu hfu κ hκ _ _ _ _ _ _ _ _ _ _ _ _ _ _ _ _ _ _ _ _ _ _ p0 p1 p2 p3 p4 p5 p6 p7 p8 p9 p10 p11 p12 p13 p14 p15 p16 p17 p18 p19 p20 p21 p22 p23 p24 p25 p26 p27 p28 p29 (hr_a265) (hr_a268) (hr_a269) (hr_a270) ((by first | exact Nat.le_refl _ | assumption)) o1 o2 o3 o4 o5) (fun r1 q => ?_)
  obtain ⟨q1_0, q1_1, q1_2, q1_3, q1_4, q1_5, q1_6, q1_7, q1_8, q1_9, qo1_0, qo1_1⟩ := q
  refine dz_Ts ?_
  dsimp only
  exact ⟨q1_0, q1_1, q1_2, q1_3, q1_4, q1_5, q1_6, q1_7, (by first | assumption | omega), q1_9, (by first | assumption | omega), q1_8, (by omega), (by omega)⟩
set_option maxHeartbeats 1000000 in
set_option maxRecDepth 10000 in
theorem t290_X11_parts_s (fu : Nat) (hfu : 1000000000000 ≤ fu) (κ : Nat) (hκ : κ < 14) (U : Nat) (c248_pots : Int32) (c261_many : Int32) (c261_swapsAPot : Int32) (a265 : Nat → Int32) (c267_total : Int32) (c267_lawfulOnes : Int32) (a268 : Nat → Int32) (a269 : Nat → Int32) (n269 : Nat) (a270 : Nat → Int32) (n270 : Nat) (v1 : Int32) (c307_done : Int32) (c307_partsFresh : Int32) (c307_manyParts : Int32) (c307_firstPart : Int32) (c307_greatestPart : Int32) (c307_queued : Int32) (a308 : Nat → Int32) (n308 : Nat) (a309 : Nat → Int32) (n309 : Nat) (p0 : c248_pots.toInt ≤ 4) (p1 : 0 ≤ c248_pots.toInt) (p2 : c261_many.toInt ≤ 24) (p3 : 0 ≤ c261_many.toInt) (p4 : c261_swapsAPot.toInt ≤ 6) (p5 : 0 ≤ c261_swapsAPot.toInt) (p6 : c267_total.toInt ≤ 13824) (p7 : 1 ≤ c267_total.toInt) (p8 : c267_lawfulOnes.toInt ≤ 13824) (p9 : 0 ≤ c267_lawfulOnes.toInt) (p10 : ((n269 : Nat) : Int) ≤ 13824) (p11 : 1 ≤ ((n269 : Nat) : Int)) (p12 : ((n270 : Nat) : Int) ≤ 13824) (p13 : 1 ≤ ((n270 : Nat) : Int)) (p14 : c307_done.toInt ≤ 5) (p15 : (-1) ≤ c307_done.toInt) (p16 : c307_queued.toInt ≤ 13824) (p17 : 0 ≤ c307_queued.toInt) (p18 : ((n308 : Nat) : Int) ≤ 13824) (p19 : 1 ≤ ((n308 : Nat) : Int)) (p20 : ((n309 : Nat) : Int) ≤ 13824) (p21 : 1 ≤ ((n309 : Nat) : Int)) (p22 : c267_total.toInt ≤ ((n269 : Nat) : Int)) (p23 : c267_total.toInt ≤ ((n270 : Nat) : Int)) (p24 : c267_lawfulOnes.toInt ≤ c267_total.toInt) (p25 : c267_lawfulOnes.toInt ≤ ((n270 : Nat) : Int)) (p26 : ((n308 : Nat) : Int) ≤ ((n309 : Nat) : Int)) (p27 : ((n309 : Nat) : Int) ≤ ((n308 : Nat) : Int)) (p28 : ((n269 : Nat) : Int) ≤ ((n270 : Nat) : Int)) (p29 : ((n270 : Nat) : Int) ≤ ((n269 : Nat) : Int)) (hr_a265 : dz_rt a265 (dz_kr κ) (dz_kw κ) 0 (((dz_kr κ : Nat) : Int) - 1)) (hr_a268 : dz_pt a268 (dz_kS κ)) (hr_a269 : dz_rg a269 n269 0 1023) (hr_a270 : dz_rg a270 c267_lawfulOnes.toInt.toNat 0 (((dz_kt κ : Nat) : Int) - 1)) (o0 : dz_needC c267_total n308 ≤ U) (o1 : c307_partsFresh.toInt = 0 ∨ ((dz_kt κ : Nat) : Int) ≤ n308) (o2 : c307_done.toInt = -1 ∨ ((dz_kt κ : Nat) : Int) ≤ n308) (o3 : c248_pots.toInt = ((dz_kp κ : Nat) : Int)) (o4 : c261_many.toInt = ((dz_kr κ : Nat) : Int)) (o5 : c261_swapsAPot.toInt = ((dz_kw κ : Nat) : Int)) (o6 : c267_total.toInt = ((dz_kt κ : Nat) : Int)) : dz_T (f290_X11_parts fu U c248_pots c261_many c261_swapsAPot a265 c267_total c267_lawfulOnes a268 a269 n269 a270 n270 v1 c307_done c307_partsFresh c307_manyParts c307_firstPart c307_greatestPart c307_queued a308 n308 a309 n309) (fun r => r.2.1.toInt ≤ 5 ∧ (-1) ≤ r.2.1.toInt ∧ r.2.2.2.2.2.2.1.toInt ≤ 13824 ∧ 0 ≤ r.2.2.2.2.2.2.1.toInt ∧ ((r.2.2.2.2.2.2.2.2.1 : Nat) : Int) ≤ 13824 ∧ 1 ≤ ((r.2.2.2.2.2.2.2.2.1 : Nat) : Int) ∧ ((r.2.2.2.2.2.2.2.2.2.2 : Nat) : Int) ≤ 13824 ∧ 1 ≤ ((r.2.2.2.2.2.2.2.2.2.2 : Nat) : Int) ∧ ((r.2.2.2.2.2.2.2.2.2.2 : Nat) : Int) ≤ ((r.2.2.2.2.2.2.2.2.1 : Nat) : Int) ∧ ((r.2.2.2.2.2.2.2.2.1 : Nat) : Int) ≤ ((r.2.2.2.2.2.2.2.2.2.2 : Nat) : Int) ∧ (r.2.2.1.toInt = 0 ∨ ((dz_kt κ : Nat) : Int) ≤ ((r.2.2.2.2.2.2.2.2.1 : Nat) : Int)) ∧ ((v1.toInt < 0 ∨ 2 < v1.toInt) ∨ ((dz_kt κ : Nat) : Int) ≤ ((r.2.2.2.2.2.2.2.2.1 : Nat) : Int)) ∧ (r.2.1.toInt = -1 ∨ ((dz_kt κ : Nat) : Int) ≤ ((r.2.2.2.2.2.2.2.2.1 : Nat) : Int)) ∧ (((n308 : Nat) : Int) ≤ ((r.2.2.2.2.2.2.2.2.1 : Nat) : Int))) := by
  unfold f290_X11_parts s290_X11_parts_0
  have e1 := dz_l0
  refine dz_Teq (fun h2 => ?_) (fun h2 => ?_)
  · skip
    have e3 := dz_needCb (total := c267_total) (n := n308) (by omega) (by omega)
    refine dz_Tg (by omega) ?_
    refine dz_Tb (t287_X9_howManyParts_s fu hfu κ hκ _ _ _ _ _ _ _ _ _ _ _ _ _ _ _ _ _ _ _ _ _ _ p0 p1 p2 p3 p4 p5 p6 p7 p8 p9 p10 p11 p12 p13 p14 p15 p16 p17 p18 p19 p20 p21 p22 p23 p24 p25 p26 p27 p28 p29 (hr_a265) (hr_a268) (hr_a269) (hr_a270) ((by first | exact Nat.le_refl _ | assumption)) o1 o3 o4 o5 o6) (fun r1 q => ?_)
    obtain ⟨q1_0, q1_1, q1_2, q1_3, q1_4, q1_5, q1_6, q1_7, q1_8, q1_9, q1_10, q1_11, qo1_0, qo1_1⟩ := q
    refine dz_Ts ?_
    dsimp only
    exact ⟨q1_0, q1_1, q1_2, q1_3, q1_4, q1_5, q1_6, q1_7, q1_9, q1_11, (by omega), (by omega), (by omega), (by omega)⟩
  · skip
    have e4 := dz_l1
    refine dz_Teq (fun h5 => ?_) (fun h5 => ?_)
    · skip
      have e6 := dz_needCb (total := c267_total) (n := n308) (by omega) (by omega)
      refine dz_Tg (by omega) ?_
      refine dz_Tb (t288_X9_sizeOfFirstPart_s fu hfu κ hκ _ _ _ _ _ _ _ _ _ _ _ _ _ _ _ _ _ _ _ _ _ _ p0 p1 p2 p3 p4 p5 p6 p7 p8 p9 p10 p11 p12 p13 p14 p15 p16 p17 p18 p19 p20 p21 p22 p23 p24 p25 p26 p27 p28 p29 (hr_a265) (hr_a268) (hr_a269) (hr_a270) ((by first | exact Nat.le_refl _ | assumption)) o1 o3 o4 o5 o6) (fun r2 q => ?_)
      obtain ⟨q2_0, q2_1, q2_2, q2_3, q2_4, q2_5, q2_6, q2_7, q2_8, q2_9, q2_10, q2_11, qo2_0, qo2_1⟩ := q
      refine dz_Ts ?_
      dsimp only
      exact ⟨q2_0, q2_1, q2_2, q2_3, q2_4, q2_5, q2_6, q2_7, q2_9, q2_11, (by omega), (by omega), (by omega), (by omega)⟩
    · skip
      have e7 := dz_l2
      refine dz_Teq (fun h8 => ?_) (fun h8 => ?_)
      · skip
        have e9 := dz_needCb (total := c267_total) (n := n308) (by omega) (by omega)
        refine dz_Tg (by omega) ?_
        refine dz_Tb (t289_X9_sizeOfGreatestPart_s fu hfu κ hκ _ _ _ _ _ _ _ _ _ _ _ _ _ _ _ _ _ _ _ _ _ _ p0 p1 p2 p3 p4 p5 p6 p7 p8 p9 p10 p11 p12 p13 p14 p15 p16 p17 p18 p19 p20 p21 p22 p23 p24 p25 p26 p27 p28 p29 (hr_a265) (hr_a268) (hr_a269) (hr_a270) ((by first | exact Nat.le_refl _ | assumption)) o1 o3 o4 o5 o6) (fun r3 q => ?_)
        obtain ⟨q3_0, q3_1, q3_2, q3_3, q3_4, q3_5, q3_6, q3_7, q3_8, q3_9, q3_10, q3_11, qo3_0, qo3_1⟩ := q
        refine dz_Ts ?_
        dsimp only
        exact ⟨q3_0, q3_1, q3_2, q3_3, q3_4, q3_5, q3_6, q3_7, q3_9, q3_11, (by omega), (by omega), (by omega), (by omega)⟩
      · skip
        have e10 := dz_lm1
        refine dz_Ts ?_
        dsimp only
        exact ⟨p14, p15, p16, p17, p18, p19, p20, p21, p27, p26, (by omega), (by omega), (by omega), (by omega)⟩
abbrev p291_X9_pass_g20 (fu : Nat) (c248_pots : Int32) (c261_many : Int32) (c261_swapsAPot : Int32) (a265 : Nat → Int32) (a268 : Nat → Int32) (a269 : Nat → Int32) (n269 : Nat) (n309 : Nat) (k : Nat) : Prop :=
  (∀ (v1 : Int32) (v2 : Int32) (v3 : Int32) (a309 : Nat → Int32), v1.toInt ≤ 0 → 0 ≤ v1.toInt → v3.toInt ≤ 0 → 0 ≤ v3.toInt → 0 + 0 + (0 - v3.toInt) * 42 + 7 ≤ ((k : Nat) : Int) → dz_T ((F291_X9_pass fu c248_pots c261_many c261_swapsAPot a265 a268 a269 n269 n309 k).1 v1 v2 v3 a309) (fun r => True))
set_option maxHeartbeats 1000000 in
set_option maxRecDepth 10000 in
theorem t291_X9_pass_h1_g20 (fu : Nat) (hfu : 1000000000000 ≤ fu) (c248_pots : Int32) (c261_many : Int32) (c261_swapsAPot : Int32) (a265 : Nat → Int32) (a268 : Nat → Int32) (a269 : Nat → Int32) (n269 : Nat) (n309 : Nat) (p0 : c248_pots.toInt ≤ 0) (p1 : 0 ≤ c248_pots.toInt) (p2 : c261_many.toInt ≤ 2) (p3 : 2 ≤ c261_many.toInt) (p4 : c261_swapsAPot.toInt ≤ 1) (p5 : 1 ≤ c261_swapsAPot.toInt) (p6 : ((n269 : Nat) : Int) ≤ 13824) (p7 : 1 ≤ ((n269 : Nat) : Int)) (p8 : ((n309 : Nat) : Int) ≤ 13824) (p9 : 1 ≤ ((n309 : Nat) : Int)) (p10 : 1 ≤ ((n309 : Nat) : Int)) (p11 : 1 ≤ ((n269 : Nat) : Int)) (hr_a265 : dz_rt a265 2 1 0 1) (hr_a269 : dz_rg a269 n269 0 1023) (k : Nat) (ih : ∀ j9, j9 < k → p291_X9_pass_g20 fu c248_pots c261_many c261_swapsAPot a265 a268 a269 n269 n309 j9) : ∀ (v1 : Int32) (v2 : Int32) (v3 : Int32) (a309 : Nat → Int32), v1.toInt ≤ 0 → 0 ≤ v1.toInt → v3.toInt ≤ 0 → 0 ≤ v3.toInt → 0 + 0 + (0 - v3.toInt) * 42 + 7 ≤ ((k : Nat) : Int) → dz_T ((F291_X9_pass fu c248_pots c261_many c261_swapsAPot a265 a268 a269 n269 n309 k).1 v1 v2 v3 a309) (fun r => True) := by
  intro v1 v2 v3 a309 i0 i1 i2 i3 hm
  obtain ⟨k0, rfl⟩ : ∃ x, k = x + 1 := ⟨k - 1, by omega⟩
  show dz_T (s291_X9_pass_1 fu c248_pots c261_many c261_swapsAPot a265 a268 a269 n269 n309 (F291_X9_pass fu c248_pots c261_many c261_swapsAPot a265 a268 a269 n269 n309 k0).2.1  v1 v2 v3 a309) _
  unfold s291_X9_pass_1
  refine dz_Tle (fun h1 => ?_) (fun h1 => ?_)
  · skip
    exact dz_Ts trivial
  · skip
    exfalso; omega
theorem t291_X9_pass_I_g20 (fu : Nat) (hfu : 1000000000000 ≤ fu) (c248_pots : Int32) (c261_many : Int32) (c261_swapsAPot : Int32) (a265 : Nat → Int32) (a268 : Nat → Int32) (a269 : Nat → Int32) (n269 : Nat) (n309 : Nat) (p0 : c248_pots.toInt ≤ 0) (p1 : 0 ≤ c248_pots.toInt) (p2 : c261_many.toInt ≤ 2) (p3 : 2 ≤ c261_many.toInt) (p4 : c261_swapsAPot.toInt ≤ 1) (p5 : 1 ≤ c261_swapsAPot.toInt) (p6 : ((n269 : Nat) : Int) ≤ 13824) (p7 : 1 ≤ ((n269 : Nat) : Int)) (p8 : ((n309 : Nat) : Int) ≤ 13824) (p9 : 1 ≤ ((n309 : Nat) : Int)) (p10 : 1 ≤ ((n309 : Nat) : Int)) (p11 : 1 ≤ ((n269 : Nat) : Int)) (hr_a265 : dz_rt a265 2 1 0 1) (hr_a269 : dz_rg a269 n269 0 1023) (k : Nat) : p291_X9_pass_g20 fu c248_pots c261_many c261_swapsAPot a265 a268 a269 n269 n309 k := by
  induction k using Nat.strongRecOn with
  | _ k ih => exact t291_X9_pass_h1_g20 fu hfu c248_pots c261_many c261_swapsAPot a265 a268 a269 n269 n309 p0 p1 p2 p3 p4 p5 p6 p7 p8 p9 p10 p11 hr_a265 hr_a269 k ih
set_option maxHeartbeats 1000000 in
set_option maxRecDepth 10000 in
theorem t291_X9_pass_E_g20 (fu : Nat) (hfu : 1000000000000 ≤ fu) (c248_pots : Int32) (c261_many : Int32) (c261_swapsAPot : Int32) (a265 : Nat → Int32) (a268 : Nat → Int32) (a269 : Nat → Int32) (n269 : Nat) (n309 : Nat) (v1 : Int32) (v2 : Int32) (a309 : Nat → Int32) (p0 : c248_pots.toInt ≤ 0) (p1 : 0 ≤ c248_pots.toInt) (p2 : c261_many.toInt ≤ 2) (p3 : 2 ≤ c261_many.toInt) (p4 : c261_swapsAPot.toInt ≤ 1) (p5 : 1 ≤ c261_swapsAPot.toInt) (p6 : ((n269 : Nat) : Int) ≤ 13824) (p7 : 1 ≤ ((n269 : Nat) : Int)) (p8 : ((n309 : Nat) : Int) ≤ 13824) (p9 : 1 ≤ ((n309 : Nat) : Int)) (p10 : 0 ≤ v1.toInt) (p11 : v1.toInt ≤ 0) (p12 : 1 ≤ ((n309 : Nat) : Int)) (p13 : 1 ≤ ((n269 : Nat) : Int)) (hr_a265 : dz_rt a265 2 1 0 1) (hr_a269 : dz_rg a269 n269 0 1023) (kv : Nat) (hkv : 1000000000000 ≤ kv) : dz_T (s291_X9_pass_0 fu c248_pots c261_many c261_swapsAPot a265 a268 a269 n269 n309 (F291_X9_pass fu c248_pots c261_many c261_swapsAPot a265 a268 a269 n269 n309 kv).1  v1 v2 a309) (fun r => True) := by
  unfold s291_X9_pass_0
  have e1 := dz_l0
  exact (t291_X9_pass_I_g20 fu hfu c248_pots c261_many c261_swapsAPot a265 a268 a269 n269 n309 p0 p1 p2 p3 p4 p5 p6 p7 p8 p9 p12 p13 hr_a265 hr_a269 kv) v1 v2 (0 : Int32) a309 p11 p10 (by omega) (by omega) (by omega)
theorem t291_X9_pass_g20 (fu : Nat) (hfu : 1000000000000 ≤ fu) (c248_pots : Int32) (c261_many : Int32) (c261_swapsAPot : Int32) (a265 : Nat → Int32) (a268 : Nat → Int32) (a269 : Nat → Int32) (n269 : Nat) (n309 : Nat) (v1 : Int32) (v2 : Int32) (a309 : Nat → Int32) (p0 : c248_pots.toInt ≤ 0) (p1 : 0 ≤ c248_pots.toInt) (p2 : c261_many.toInt ≤ 2) (p3 : 2 ≤ c261_many.toInt) (p4 : c261_swapsAPot.toInt ≤ 1) (p5 : 1 ≤ c261_swapsAPot.toInt) (p6 : ((n269 : Nat) : Int) ≤ 13824) (p7 : 1 ≤ ((n269 : Nat) : Int)) (p8 : ((n309 : Nat) : Int) ≤ 13824) (p9 : 1 ≤ ((n309 : Nat) : Int)) (p10 : 0 ≤ v1.toInt) (p11 : v1.toInt ≤ 0) (p12 : 1 ≤ ((n309 : Nat) : Int)) (p13 : 1 ≤ ((n269 : Nat) : Int)) (hr_a265 : dz_rt a265 2 1 0 1) (hr_a269 : dz_rg a269 n269 0 1023) : dz_T (f291_X9_pass fu c248_pots c261_many c261_swapsAPot a265 a268 a269 n269 n309 v1 v2 a309) (fun r => True) :=
  t291_X9_pass_E_g20 fu hfu c248_pots c261_many c261_swapsAPot a265 a268 a269 n269 n309 v1 v2 a309 p0 p1 p2 p3 p4 p5 p6 p7 p8 p9 p10 p11 p12 p13 hr_a265 hr_a269 fu hfu
abbrev p291_X9_pass_g21 (fu : Nat) (c248_pots : Int32) (c261_many : Int32) (c261_swapsAPot : Int32) (a265 : Nat → Int32) (a268 : Nat → Int32) (a269 : Nat → Int32) (n269 : Nat) (n309 : Nat) (k : Nat) : Prop :=
  (∀ (v1 : Int32) (v2 : Int32) (v3 : Int32) (a309 : Nat → Int32), v1.toInt ≤ 1 → 0 ≤ v1.toInt → v3.toInt ≤ 1 → 0 ≤ v3.toInt → 0 + 0 + (1 - v3.toInt) * 56 + 7 ≤ ((k : Nat) : Int) → dz_T ((F291_X9_pass fu c248_pots c261_many c261_swapsAPot a265 a268 a269 n269 n309 k).1 v1 v2 v3 a309) (fun r => True)) ∧ (∀ (v1 : Int32) (v2 : Int32) (v3 : Int32) (v4 : Int32) (v5 : Int32) (v6 : Int32) (v7 : Int32) (a309 : Nat → Int32), v1.toInt ≤ 1 → 0 ≤ v1.toInt → v3.toInt ≤ 0 → 0 ≤ v3.toInt → v4.toInt ≤ 1 → 1 ≤ v4.toInt → v5.toInt ≤ 1 → 0 ≤ v5.toInt → v6.toInt ≤ 1 → 0 ≤ v6.toInt → v7.toInt ≤ 1 → 0 ≤ v7.toInt → v5.toInt ≤ v1.toInt → v6.toInt ≤ v1.toInt → ((v3.toInt = 0 ∧ v4.toInt = 1 ∧ v5.toInt = v1.toInt % 2 ∧ v6.toInt = v1.toInt - v5.toInt * 1)) → 0 + 0 + ((1 - v3.toInt) - 1) * 56 + 0 + (1 - v7.toInt) * 14 + 14 ≤ ((k : Nat) : Int) → dz_T ((F291_X9_pass fu c248_pots c261_many c261_swapsAPot a265 a268 a269 n269 n309 k).2.1 v1 v2 v3 v4 v5 v6 v7 a309) (fun r => True))
set_option maxHeartbeats 1000000 in
set_option maxRecDepth 10000 in
theorem t291_X9_pass_h1_g21 (fu : Nat) (hfu : 1000000000000 ≤ fu) (c248_pots : Int32) (c261_many : Int32) (c261_swapsAPot : Int32) (a265 : Nat → Int32) (a268 : Nat → Int32) (a269 : Nat → Int32) (n269 : Nat) (n309 : Nat) (p0 : c248_pots.toInt ≤ 1) (p1 : 1 ≤ c248_pots.toInt) (p2 : c261_many.toInt ≤ 2) (p3 : 2 ≤ c261_many.toInt) (p4 : c261_swapsAPot.toInt ≤ 1) (p5 : 1 ≤ c261_swapsAPot.toInt) (p6 : ((n269 : Nat) : Int) ≤ 13824) (p7 : 1 ≤ ((n269 : Nat) : Int)) (p8 : ((n309 : Nat) : Int) ≤ 13824) (p9 : 1 ≤ ((n309 : Nat) : Int)) (p10 : 2 ≤ ((n309 : Nat) : Int)) (p11 : 2 ≤ ((n269 : Nat) : Int)) (hr_a265 : dz_rt a265 2 1 0 1) (hr_a268 : dz_pt a268 [1]) (hr_a269 : dz_rg a269 n269 0 1023) (k : Nat) (ih : ∀ j9, j9 < k → p291_X9_pass_g21 fu c248_pots c261_many c261_swapsAPot a265 a268 a269 n269 n309 j9) : ∀ (v1 : Int32) (v2 : Int32) (v3 : Int32) (a309 : Nat → Int32), v1.toInt ≤ 1 → 0 ≤ v1.toInt → v3.toInt ≤ 1 → 0 ≤ v3.toInt → 0 + 0 + (1 - v3.toInt) * 56 + 7 ≤ ((k : Nat) : Int) → dz_T ((F291_X9_pass fu c248_pots c261_many c261_swapsAPot a265 a268 a269 n269 n309 k).1 v1 v2 v3 a309) (fun r => True) := by
  intro v1 v2 v3 a309 i0 i1 i2 i3 hm
  obtain ⟨k0, rfl⟩ : ∃ x, k = x + 1 := ⟨k - 1, by omega⟩
  show dz_T (s291_X9_pass_1 fu c248_pots c261_many c261_swapsAPot a265 a268 a269 n269 n309 (F291_X9_pass fu c248_pots c261_many c261_swapsAPot a265 a268 a269 n269 n309 k0).2.1  v1 v2 v3 a309) _
  unfold s291_X9_pass_1
  rcases (show v3.toInt = 0 ∨ v3.toInt = 1 by omega) with hs | hs
  · skip
    refine dz_Tle (fun h1 => ?_) (fun h1 => ?_)
    · skip
      exfalso; omega
    · skip
      refine dz_Tin (by omega) (by omega) ?_
      refine dz_Tbe (show f141_X2_rankIn fu c261_many a268 v1 v3 = (if dz_in v3 4 then (if ((a268 v3.toNatClampNeg) ≤ (0 : Int32)) then (some (0 : Int32)) else (if (c261_many ≤ (0 : Int32)) then (some (0 : Int32)) else (if (¬ ((a268 v3.toNatClampNeg) = (0 : Int32))) then (if (¬ (c261_many = (0 : Int32))) then (some (dz_rem (v1 / (a268 v3.toNatClampNeg)) c261_many)) else none) else none))) else none) from rfl) ?_
      refine dz_Tinb (by omega) (by omega) ?_
      have e2 := dz_ptat (hr_a268) (i := v3) (x := 1) 0 (by omega) (by decide)
      have e3 := dz_l0
      refine dz_Tleb (fun h4 => ?_) (fun h4 => ?_)
      · skip
        exfalso; omega
      · skip
        refine dz_Tleb (fun h5 => ?_) (fun h5 => ?_)
        · skip
          exfalso; omega
        · skip
          refine dz_Tzb (by omega) ?_
          refine dz_Tzb (by omega) ?_
          refine dz_Tsb ?_
          have e6 := dz_div1 (a := v1) (b := (a268 v3.toNatClampNeg)) (by omega) (by omega)
          have e7 := dz_remn (a := (v1 / (a268 v3.toNatClampNeg))) (b := c261_many) 2 (by omega) (by omega) (by omega)
          have e8 := dz_mulr (a := (dz_rem (v1 / (a268 v3.toNatClampNeg)) c261_many)) (b := (a268 v3.toNatClampNeg)) 1 (by omega) (by omega) (by omega)
          have e9 := dz_sub (a := v1) (b := ((dz_rem (v1 / (a268 v3.toNatClampNeg)) c261_many) * (a268 v3.toNatClampNeg))) (by omega) (by omega)
          exact (ih k0 (by omega)).2 v1 v2 v3 (a268 v3.toNatClampNeg) (dz_rem (v1 / (a268 v3.toNatClampNeg)) c261_many) (v1 - ((dz_rem (v1 / (a268 v3.toNatClampNeg)) c261_many) * (a268 v3.toNatClampNeg))) (0 : Int32) a309 i0 i1 (by first | assumption | omega) i3 (by omega) (by omega) (by omega) (by omega) (by omega) (by omega) (by omega) (by omega) (by omega) (by omega) (by omega) (by omega)
  · skip
    refine dz_Tle (fun h10 => ?_) (fun h10 => ?_)
    · skip
      exact dz_Ts trivial
    · skip
      exfalso; omega
set_option maxHeartbeats 1000000 in
set_option maxRecDepth 10000 in
theorem t291_X9_pass_h2_g21 (fu : Nat) (hfu : 1000000000000 ≤ fu) (c248_pots : Int32) (c261_many : Int32) (c261_swapsAPot : Int32) (a265 : Nat → Int32) (a268 : Nat → Int32) (a269 : Nat → Int32) (n269 : Nat) (n309 : Nat) (p0 : c248_pots.toInt ≤ 1) (p1 : 1 ≤ c248_pots.toInt) (p2 : c261_many.toInt ≤ 2) (p3 : 2 ≤ c261_many.toInt) (p4 : c261_swapsAPot.toInt ≤ 1) (p5 : 1 ≤ c261_swapsAPot.toInt) (p6 : ((n269 : Nat) : Int) ≤ 13824) (p7 : 1 ≤ ((n269 : Nat) : Int)) (p8 : ((n309 : Nat) : Int) ≤ 13824) (p9 : 1 ≤ ((n309 : Nat) : Int)) (p10 : 2 ≤ ((n309 : Nat) : Int)) (p11 : 2 ≤ ((n269 : Nat) : Int)) (hr_a265 : dz_rt a265 2 1 0 1) (hr_a268 : dz_pt a268 [1]) (hr_a269 : dz_rg a269 n269 0 1023) (k : Nat) (ih : ∀ j9, j9 < k → p291_X9_pass_g21 fu c248_pots c261_many c261_swapsAPot a265 a268 a269 n269 n309 j9) : ∀ (v1 : Int32) (v2 : Int32) (v3 : Int32) (v4 : Int32) (v5 : Int32) (v6 : Int32) (v7 : Int32) (a309 : Nat → Int32), v1.toInt ≤ 1 → 0 ≤ v1.toInt → v3.toInt ≤ 0 → 0 ≤ v3.toInt → v4.toInt ≤ 1 → 1 ≤ v4.toInt → v5.toInt ≤ 1 → 0 ≤ v5.toInt → v6.toInt ≤ 1 → 0 ≤ v6.toInt → v7.toInt ≤ 1 → 0 ≤ v7.toInt → v5.toInt ≤ v1.toInt → v6.toInt ≤ v1.toInt → ((v3.toInt = 0 ∧ v4.toInt = 1 ∧ v5.toInt = v1.toInt % 2 ∧ v6.toInt = v1.toInt - v5.toInt * 1)) → 0 + 0 + ((1 - v3.toInt) - 1) * 56 + 0 + (1 - v7.toInt) * 14 + 14 ≤ ((k : Nat) : Int) → dz_T ((F291_X9_pass fu c248_pots c261_many c261_swapsAPot a265 a268 a269 n269 n309 k).2.1 v1 v2 v3 v4 v5 v6 v7 a309) (fun r => True) := by
  intro v1 v2 v3 v4 v5 v6 v7 a309 i0 i1 i2 i3 i4 i5 i6 i7 i8 i9 i10 i11 i12 i13 x0 hm
  obtain ⟨k0, rfl⟩ : ∃ x, k = x + 1 := ⟨k - 1, by omega⟩
  show dz_T (s291_X9_pass_2 fu c248_pots c261_many c261_swapsAPot a265 a268 a269 n269 n309 (F291_X9_pass fu c248_pots c261_many c261_swapsAPot a265 a268 a269 n269 n309 k0).1 (F291_X9_pass fu c248_pots c261_many c261_swapsAPot a265 a268 a269 n269 n309 k0).2.2  v1 v2 v3 v4 v5 v6 v7 a309) _
  unfold s291_X9_pass_2
  have hs : v3.toInt = 0 := by omega
  refine dz_Tle (fun h1 => ?_) (fun h1 => ?_)
  · skip
    have e2 := dz_l1
    have e3 := dz_add (a := v3) (b := (1 : Int32)) (by omega) (by omega)
    exact (ih k0 (by omega)).1 v1 v2 (v3 + (1 : Int32)) a309 i0 i1 (by omega) (by omega) (by omega)
  · skip
    have e4 := dz_l6
    have e5 := dz_mulr (a := v5) (b := (6 : Int32)) 6 (by omega) (by omega) (by omega)
    have e6 := dz_add (a := (v5 * (6 : Int32))) (b := v7) (by omega) (by omega)
    refine dz_Tin (by omega) (by omega) ?_
    have e7 := dz_rtat (hr_a265) (x := v5) (y := v7) (by omega) (by omega) (by omega) (by omega) (by omega)
    have e8 := dz_mulr (a := (a265 ((v5 * (6 : Int32)) + v7).toNatClampNeg)) (b := v4) 1 (by omega) (by omega) (by omega)
    have e9 := dz_add (a := v6) (b := ((a265 ((v5 * (6 : Int32)) + v7).toNatClampNeg) * v4)) (by omega) (by omega)
    refine dz_Tin (by omega) (by omega) ?_
    have e10 := dz_rgat (hr_a269) (i := (v6 + ((a265 ((v5 * (6 : Int32)) + v7).toNatClampNeg) * v4))) (by omega) (by omega)
    have e11 := dz_l0
    refine dz_Teq (fun h12 => ?_) (fun h12 => ?_)
    · skip
      obtain ⟨k1, rfl⟩ : ∃ x, k0 = x + 1 := ⟨k0 - 1, by omega⟩
      show dz_T (s291_X9_pass_3 fu c248_pots c261_many c261_swapsAPot a265 a268 a269 n269 n309 (F291_X9_pass fu c248_pots c261_many c261_swapsAPot a265 a268 a269 n269 n309 k1).2.1 v1 v2 v3 v4 v5 v6 v7 (v6 + ((a265 ((v5 * (6 : Int32)) + v7).toNatClampNeg) * v4)) a309) _
      unfold s291_X9_pass_3
      refine dz_Tin (by omega) (by omega) ?_
      refine dz_Tin (by omega) (by omega) ?_
      have e13 := dz_l1
      have e14 := dz_add (a := v7) (b := (1 : Int32)) (by omega) (by omega)
      exact (ih k1 (by omega)).2 v1 v2 v3 v4 v5 v6 (v7 + (1 : Int32)) (upd a309 (v6 + ((a265 ((v5 * (6 : Int32)) + v7).toNatClampNeg) * v4)).toNatClampNeg ((a309 (v6 + ((a265 ((v5 * (6 : Int32)) + v7).toNatClampNeg) * v4)).toNatClampNeg) + v2)) i0 i1 i2 i3 i4 i5 i6 i7 i8 i9 (by omega) (by omega) i12 i13 (by omega) (by omega)
    · skip
      obtain ⟨k2, rfl⟩ : ∃ x, k0 = x + 1 := ⟨k0 - 1, by omega⟩
      show dz_T (s291_X9_pass_3 fu c248_pots c261_many c261_swapsAPot a265 a268 a269 n269 n309 (F291_X9_pass fu c248_pots c261_many c261_swapsAPot a265 a268 a269 n269 n309 k2).2.1 v1 v2 v3 v4 v5 v6 v7 v1 a309) _
      unfold s291_X9_pass_3
      refine dz_Tin (by omega) (by omega) ?_
      refine dz_Tin (by omega) (by omega) ?_
      have e15 := dz_l1
      have e16 := dz_add (a := v7) (b := (1 : Int32)) (by omega) (by omega)
      exact (ih k2 (by omega)).2 v1 v2 v3 v4 v5 v6 (v7 + (1 : Int32)) (upd a309 v1.toNatClampNeg ((a309 v1.toNatClampNeg) + v2)) i0 i1 i2 i3 i4 i5 i6 i7 i8 i9 (by omega) (by omega) i12 i13 (by omega) (by omega)
theorem t291_X9_pass_I_g21 (fu : Nat) (hfu : 1000000000000 ≤ fu) (c248_pots : Int32) (c261_many : Int32) (c261_swapsAPot : Int32) (a265 : Nat → Int32) (a268 : Nat → Int32) (a269 : Nat → Int32) (n269 : Nat) (n309 : Nat) (p0 : c248_pots.toInt ≤ 1) (p1 : 1 ≤ c248_pots.toInt) (p2 : c261_many.toInt ≤ 2) (p3 : 2 ≤ c261_many.toInt) (p4 : c261_swapsAPot.toInt ≤ 1) (p5 : 1 ≤ c261_swapsAPot.toInt) (p6 : ((n269 : Nat) : Int) ≤ 13824) (p7 : 1 ≤ ((n269 : Nat) : Int)) (p8 : ((n309 : Nat) : Int) ≤ 13824) (p9 : 1 ≤ ((n309 : Nat) : Int)) (p10 : 2 ≤ ((n309 : Nat) : Int)) (p11 : 2 ≤ ((n269 : Nat) : Int)) (hr_a265 : dz_rt a265 2 1 0 1) (hr_a268 : dz_pt a268 [1]) (hr_a269 : dz_rg a269 n269 0 1023) (k : Nat) : p291_X9_pass_g21 fu c248_pots c261_many c261_swapsAPot a265 a268 a269 n269 n309 k := by
  induction k using Nat.strongRecOn with
  | _ k ih => exact ⟨t291_X9_pass_h1_g21 fu hfu c248_pots c261_many c261_swapsAPot a265 a268 a269 n269 n309 p0 p1 p2 p3 p4 p5 p6 p7 p8 p9 p10 p11 hr_a265 hr_a268 hr_a269 k ih, t291_X9_pass_h2_g21 fu hfu c248_pots c261_many c261_swapsAPot a265 a268 a269 n269 n309 p0 p1 p2 p3 p4 p5 p6 p7 p8 p9 p10 p11 hr_a265 hr_a268 hr_a269 k ih⟩
set_option maxHeartbeats 1000000 in
set_option maxRecDepth 10000 in
theorem t291_X9_pass_E_g21 (fu : Nat) (hfu : 1000000000000 ≤ fu) (c248_pots : Int32) (c261_many : Int32) (c261_swapsAPot : Int32) (a265 : Nat → Int32) (a268 : Nat → Int32) (a269 : Nat → Int32) (n269 : Nat) (n309 : Nat) (v1 : Int32) (v2 : Int32) (a309 : Nat → Int32) (p0 : c248_pots.toInt ≤ 1) (p1 : 1 ≤ c248_pots.toInt) (p2 : c261_many.toInt ≤ 2) (p3 : 2 ≤ c261_many.toInt) (p4 : c261_swapsAPot.toInt ≤ 1) (p5 : 1 ≤ c261_swapsAPot.toInt) (p6 : ((n269 : Nat) : Int) ≤ 13824) (p7 : 1 ≤ ((n269 : Nat) : Int)) (p8 : ((n309 : Nat) : Int) ≤ 13824) (p9 : 1 ≤ ((n309 : Nat) : Int)) (p10 : 0 ≤ v1.toInt) (p11 : v1.toInt ≤ 1) (p12 : 2 ≤ ((n309 : Nat) : Int)) (p13 : 2 ≤ ((n269 : Nat) : Int)) (hr_a265 : dz_rt a265 2 1 0 1) (hr_a268 : dz_pt a268 [1]) (hr_a269 : dz_rg a269 n269 0 1023) (kv : Nat) (hkv : 1000000000000 ≤ kv) : dz_T (s291_X9_pass_0 fu c248_pots c261_many c261_swapsAPot a265 a268 a269 n269 n309 (F291_X9_pass fu c248_pots c261_many c261_swapsAPot a265 a268 a269 n269 n309 kv).1  v1 v2 a309) (fun r => True) := by
  unfold s291_X9_pass_0
  have e1 := dz_l0
  exact (t291_X9_pass_I_g21 fu hfu c248_pots c261_many c261_swapsAPot a265 a268 a269 n269 n309 p0 p1 p2 p3 p4 p5 p6 p7 p8 p9 p12 p13 hr_a265 hr_a268 hr_a269 kv).1 v1 v2 (0 : Int32) a309 p11 p10 (by omega) (by omega) (by omega)
theorem t291_X9_pass_g21 (fu : Nat) (hfu : 1000000000000 ≤ fu) (c248_pots : Int32) (c261_many : Int32) (c261_swapsAPot : Int32) (a265 : Nat → Int32) (a268 : Nat → Int32) (a269 : Nat → Int32) (n269 : Nat) (n309 : Nat) (v1 : Int32) (v2 : Int32) (a309 : Nat → Int32) (p0 : c248_pots.toInt ≤ 1) (p1 : 1 ≤ c248_pots.toInt) (p2 : c261_many.toInt ≤ 2) (p3 : 2 ≤ c261_many.toInt) (p4 : c261_swapsAPot.toInt ≤ 1) (p5 : 1 ≤ c261_swapsAPot.toInt) (p6 : ((n269 : Nat) : Int) ≤ 13824) (p7 : 1 ≤ ((n269 : Nat) : Int)) (p8 : ((n309 : Nat) : Int) ≤ 13824) (p9 : 1 ≤ ((n309 : Nat) : Int)) (p10 : 0 ≤ v1.toInt) (p11 : v1.toInt ≤ 1) (p12 : 2 ≤ ((n309 : Nat) : Int)) (p13 : 2 ≤ ((n269 : Nat) : Int)) (hr_a265 : dz_rt a265 2 1 0 1) (hr_a268 : dz_pt a268 [1]) (hr_a269 : dz_rg a269 n269 0 1023) : dz_T (f291_X9_pass fu c248_pots c261_many c261_swapsAPot a265 a268 a269 n269 n309 v1 v2 a309) (fun r => True) :=
  t291_X9_pass_E_g21 fu hfu c248_pots c261_many c261_swapsAPot a265 a268 a269 n269 n309 v1 v2 a309 p0 p1 p2 p3 p4 p5 p6 p7 p8 p9 p10 p11 p12 p13 hr_a265 hr_a268 hr_a269 fu hfu
abbrev p291_X9_pass_g22 (fu : Nat) (c248_pots : Int32) (c261_many : Int32) (c261_swapsAPot : Int32) (a265 : Nat → Int32) (a268 : Nat → Int32) (a269 : Nat → Int32) (n269 : Nat) (n309 : Nat) (k : Nat) : Prop :=
  (∀ (v1 : Int32) (v2 : Int32) (v3 : Int32) (a309 : Nat → Int32), v1.toInt ≤ 3 → 0 ≤ v1.toInt → v3.toInt ≤ 2 → 0 ≤ v3.toInt → 0 + 0 + (2 - v3.toInt) * 56 + 7 ≤ ((k : Nat) : Int) → dz_T ((F291_X9_pass fu c248_pots c261_many c261_swapsAPot a265 a268 a269 n269 n309 k).1 v1 v2 v3 a309) (fun r => True)) ∧ (∀ (v1 : Int32) (v2 : Int32) (v3 : Int32) (v4 : Int32) (v5 : Int32) (v6 : Int32) (v7 : Int32) (a309 : Nat → Int32), v1.toInt ≤ 3 → 0 ≤ v1.toInt → v3.toInt ≤ 1 → 0 ≤ v3.toInt → v4.toInt ≤ 2 → 1 ≤ v4.toInt → v5.toInt ≤ 1 → 0 ≤ v5.toInt → v6.toInt ≤ 3 → (-2) ≤ v6.toInt → v7.toInt ≤ 1 → 0 ≤ v7.toInt → v5.toInt ≤ v1.toInt → v6.toInt ≤ v1.toInt → v1.toInt ≤ v6.toInt + 2 → v3.toInt ≤ v6.toInt + 2 → ((v3.toInt = 0 ∧ v4.toInt = 2 ∧ v5.toInt = v1.toInt / 2 % 2 ∧ v6.toInt = v1.toInt - v5.toInt * 2) ∨ (v3.toInt = 1 ∧ v4.toInt = 1 ∧ v5.toInt = v1.toInt % 2 ∧ v6.toInt = v1.toInt - v5.toInt * 1)) → 0 + 0 + ((2 - v3.toInt) - 1) * 56 + 0 + (1 - v7.toInt) * 14 + 14 ≤ ((k : Nat) : Int) → dz_T ((F291_X9_pass fu c248_pots c261_many c261_swapsAPot a265 a268 a269 n269 n309 k).2.1 v1 v2 v3 v4 v5 v6 v7 a309) (fun r => True))
set_option maxHeartbeats 1000000 in
set_option maxRecDepth 10000 in
theorem t291_X9_pass_h1_g22 (fu : Nat) (hfu : 1000000000000 ≤ fu) (c248_pots : Int32) (c261_many : Int32) (c261_swapsAPot : Int32) (a265 : Nat → Int32) (a268 : Nat → Int32) (a269 : Nat → Int32) (n269 : Nat) (n309 : Nat) (p0 : c248_pots.toInt ≤ 2) (p1 : 2 ≤ c248_pots.toInt) (p2 : c261_many.toInt ≤ 2) (p3 : 2 ≤ c261_many.toInt) (p4 : c261_swapsAPot.toInt ≤ 1) (p5 : 1 ≤ c261_swapsAPot.toInt) (p6 : ((n269 : Nat) : Int) ≤ 13824) (p7 : 1 ≤ ((n269 : Nat) : Int)) (p8 : ((n309 : Nat) : Int) ≤ 13824) (p9 : 1 ≤ ((n309 : Nat) : Int)) (p10 : 4 ≤ ((n309 : Nat) : Int)) (p11 : 4 ≤ ((n269 : Nat) : Int)) (hr_a265 : dz_rt a265 2 1 0 1) (hr_a268 : dz_pt a268 [2, 1]) (hr_a269 : dz_rg a269 n269 0 1023) (k : Nat) (ih : ∀ j9, j9 < k → p291_X9_pass_g22 fu c248_pots c261_many c261_swapsAPot a265 a268 a269 n269 n309 j9) : ∀ (v1 : Int32) (v2 : Int32) (v3 : Int32) (a309 : Nat → Int32), v1.toInt ≤ 3 → 0 ≤ v1.toInt → v3.toInt ≤ 2 → 0 ≤ v3.toInt → 0 + 0 + (2 - v3.toInt) * 56 + 7 ≤ ((k : Nat) : Int) → dz_T ((F291_X9_pass fu c248_pots c261_many c261_swapsAPot a265 a268 a269 n269 n309 k).1 v1 v2 v3 a309) (fun r => True) := by
  intro v1 v2 v3 a309 i0 i1 i2 i3 hm
  obtain ⟨k0, rfl⟩ : ∃ x, k = x + 1 := ⟨k - 1, by omega⟩
  show dz_T (s291_X9_pass_1 fu c248_pots c261_many c261_swapsAPot a265 a268 a269 n269 n309 (F291_X9_pass fu c248_pots c261_many c261_swapsAPot a265 a268 a269 n269 n309 k0).2.1  v1 v2 v3 a309) _
  unfold s291_X9_pass_1
  rcases (show v3.toInt = 0 ∨ v3.toInt = 1 ∨ v3.toInt = 2 by omega) with hs | hs | hs
  · skip
    refine dz_Tle (fun h1 => ?_) (fun h1 => ?_)
    · skip
      exfalso; omega
    · skip
      refine dz_Tin (by omega) (by omega) ?_
      refine dz_Tbe (show f141_X2_rankIn fu c261_many a268 v1 v3 = (if dz_in v3 4 then (if ((a268 v3.toNatClampNeg) ≤ (0 : Int32)) then (some (0 : Int32)) else (if (c261_many ≤ (0 : Int32)) then (some (0 : Int32)) else (if (¬ ((a268 v3.toNatClampNeg) = (0 : Int32))) then (if (¬ (c261_many = (0 : Int32))) then (some (dz_rem (v1 / (a268 v3.toNatClampNeg)) c261_many)) else none) else none))) else none) from rfl) ?_
      refine dz_Tinb (by omega) (by omega) ?_
      have e2 := dz_ptat (hr_a268) (i := v3) (x := 2) 0 (by omega) (by decide)
      have e3 := dz_l0
      refine dz_Tleb (fun h4 => ?_) (fun h4 => ?_)
      · skip
        exfalso; omega
      · skip
        refine dz_Tleb (fun h5 => ?_) (fun h5 => ?_)
        · skip
          exfalso; omega
        · skip
          refine dz_Tzb (by omega) ?_
          refine dz_Tzb (by omega) ?_
          refine dz_Tsb ?_
          have e6 := dz_divn (a := v1) (b := (a268 v3.toNatClampNeg)) 2 (by omega) (by omega) (by omega)
          have e7 := dz_remn (a := (v1 / (a268 v3.toNatClampNeg))) (b := c261_many) 2 (by omega) (by omega) (by omega)
          have e8 := dz_mulr (a := (dz_rem (v1 / (a268 v3.toNatClampNeg)) c261_many)) (b := (a268 v3.toNatClampNeg)) 2 (by omega) (by omega) (by omega)
          have e9 := dz_sub (a := v1) (b := ((dz_rem (v1 / (a268 v3.toNatClampNeg)) c261_many) * (a268 v3.toNatClampNeg))) (by omega) (by omega)
          exact (ih k0 (by omega)).2 v1 v2 v3 (a268 v3.toNatClampNeg) (dz_rem (v1 / (a268 v3.toNatClampNeg)) c261_many) (v1 - ((dz_rem (v1 / (a268 v3.toNatClampNeg)) c261_many) * (a268 v3.toNatClampNeg))) (0 : Int32) a309 i0 i1 (by first | assumption | omega) i3 (by omega) (by omega) (by omega) (by omega) (by omega) (by omega) (by omega) (by omega) (by omega) (by omega) (by omega) (by omega) (by omega) (by omega)
  · skip
    refine dz_Tle (fun h10 => ?_) (fun h10 => ?_)
    · skip
      exfalso; omega
    · skip
      refine dz_Tin (by omega) (by omega) ?_
      refine dz_Tbe (show f141_X2_rankIn fu c261_many a268 v1 v3 = (if dz_in v3 4 then (if ((a268 v3.toNatClampNeg) ≤ (0 : Int32)) then (some (0 : Int32)) else (if (c261_many ≤ (0 : Int32)) then (some (0 : Int32)) else (if (¬ ((a268 v3.toNatClampNeg) = (0 : Int32))) then (if (¬ (c261_many = (0 : Int32))) then (some (dz_rem (v1 / (a268 v3.toNatClampNeg)) c261_many)) else none) else none))) else none) from rfl) ?_
      refine dz_Tinb (by omega) (by omega) ?_
      have e11 := dz_ptat (hr_a268) (i := v3) (x := 1) 1 (by omega) (by decide)
      have e12 := dz_l0
      refine dz_Tleb (fun h13 => ?_) (fun h13 => ?_)
      · skip
        exfalso; omega
      · skip
        refine dz_Tleb (fun h14 => ?_) (fun h14 => ?_)
        · skip
          exfalso; omega
        · skip
          refine dz_Tzb (by omega) ?_
          refine dz_Tzb (by omega) ?_
          refine dz_Tsb ?_
          have e15 := dz_div1 (a := v1) (b := (a268 v3.toNatClampNeg)) (by omega) (by omega)
          have e16 := dz_remn (a := (v1 / (a268 v3.toNatClampNeg))) (b := c261_many) 2 (by omega) (by omega) (by omega)
          have e17 := dz_mulr (a := (dz_rem (v1 / (a268 v3.toNatClampNeg)) c261_many)) (b := (a268 v3.toNatClampNeg)) 1 (by omega) (by omega) (by omega)
          have e18 := dz_sub (a := v1) (b := ((dz_rem (v1 / (a268 v3.toNatClampNeg)) c261_many) * (a268 v3.toNatClampNeg))) (by omega) (by omega)
          exact (ih k0 (by omega)).2 v1 v2 v3 (a268 v3.toNatClampNeg) (dz_rem (v1 / (a268 v3.toNatClampNeg)) c261_many) (v1 - ((dz_rem (v1 / (a268 v3.toNatClampNeg)) c261_many) * (a268 v3.toNatClampNeg))) (0 : Int32) a309 i0 i1 (by first | assumption | omega) i3 (by omega) (by omega) (by omega) (by omega) (by omega) (by omega) (by omega) (by omega) (by omega) (by omega) (by omega) (by omega) (by omega) (by omega)
  · skip
    refine dz_Tle (fun h19 => ?_) (fun h19 => ?_)
    · skip
      exact dz_Ts trivial
    · skip
      exfalso; omega
set_option maxHeartbeats 1000000 in
set_option maxRecDepth 10000 in
theorem t291_X9_pass_h2_g22 (fu : Nat) (hfu : 1000000000000 ≤ fu) (c248_pots : Int32) (c261_many : Int32) (c261_swapsAPot : Int32) (a265 : Nat → Int32) (a268 : Nat → Int32) (a269 : Nat → Int32) (n269 : Nat) (n309 : Nat) (p0 : c248_pots.toInt ≤ 2) (p1 : 2 ≤ c248_pots.toInt) (p2 : c261_many.toInt ≤ 2) (p3 : 2 ≤ c261_many.toInt) (p4 : c261_swapsAPot.toInt ≤ 1) (p5 : 1 ≤ c261_swapsAPot.toInt) (p6 : ((n269 : Nat) : Int) ≤ 13824) (p7 : 1 ≤ ((n269 : Nat) : Int)) (p8 : ((n309 : Nat) : Int) ≤ 13824) (p9 : 1 ≤ ((n309 : Nat) : Int)) (p10 : 4 ≤ ((n309 : Nat) : Int)) (p11 : 4 ≤ ((n269 : Nat) : Int)) (hr_a265 : dz_rt a265 2 1 0 1) (hr_a268 : dz_pt a268 [2, 1]) (hr_a269 : dz_rg a269 n269 0 1023) (k : Nat) (ih : ∀ j9, j9 < k → p291_X9_pass_g22 fu c248_pots c261_many c261_swapsAPot a265 a268 a269 n269 n309 j9) : ∀ (v1 : Int32) (v2 : Int32) (v3 : Int32) (v4 : Int32) (v5 : Int32) (v6 : Int32) (v7 : Int32) (a309 : Nat → Int32), v1.toInt ≤ 3 → 0 ≤ v1.toInt → v3.toInt ≤ 1 → 0 ≤ v3.toInt → v4.toInt ≤ 2 → 1 ≤ v4.toInt → v5.toInt ≤ 1 → 0 ≤ v5.toInt → v6.toInt ≤ 3 → (-2) ≤ v6.toInt → v7.toInt ≤ 1 → 0 ≤ v7.toInt → v5.toInt ≤ v1.toInt → v6.toInt ≤ v1.toInt → v1.toInt ≤ v6.toInt + 2 → v3.toInt ≤ v6.toInt + 2 → ((v3.toInt = 0 ∧ v4.toInt = 2 ∧ v5.toInt = v1.toInt / 2 % 2 ∧ v6.toInt = v1.toInt - v5.toInt * 2) ∨ (v3.toInt = 1 ∧ v4.toInt = 1 ∧ v5.toInt = v1.toInt % 2 ∧ v6.toInt = v1.toInt - v5.toInt * 1)) → 0 + 0 + ((2 - v3.toInt) - 1) * 56 + 0 + (1 - v7.toInt) * 14 + 14 ≤ ((k : Nat) : Int) → dz_T ((F291_X9_pass fu c248_pots c261_many c261_swapsAPot a265 a268 a269 n269 n309 k).2.1 v1 v2 v3 v4 v5 v6 v7 a309) (fun r => True) := by
  intro v1 v2 v3 v4 v5 v6 v7 a309 i0 i1 i2 i3 i4 i5 i6 i7 i8 i9 i10 i11 i12 i13 i14 i15 x0 hm
  obtain ⟨k0, rfl⟩ : ∃ x, k = x + 1 := ⟨k - 1, by omega⟩
  show dz_T (s291_X9_pass_2 fu c248_pots c261_many c261_swapsAPot a265 a268 a269 n269 n309 (F291_X9_pass fu c248_pots c261_many c261_swapsAPot a265 a268 a269 n269 n309 k0).1 (F291_X9_pass fu c248_pots c261_many c261_swapsAPot a265 a268 a269 n269 n309 k0).2.2  v1 v2 v3 v4 v5 v6 v7 a309) _
  unfold s291_X9_pass_2
  rcases (show v3.toInt = 0 ∨ v3.toInt = 1 by omega) with hs | hs
  · skip
    refine dz_Tle (fun h1 => ?_) (fun h1 => ?_)
    · skip
      have e2 := dz_l1
      have e3 := dz_add (a := v3) (b := (1 : Int32)) (by omega) (by omega)
      exact (ih k0 (by omega)).1 v1 v2 (v3 + (1 : Int32)) a309 i0 i1 (by omega) (by omega) (by omega)
    · skip
      have e4 := dz_l6
      have e5 := dz_mulr (a := v5) (b := (6 : Int32)) 6 (by omega) (by omega) (by omega)
      have e6 := dz_add (a := (v5 * (6 : Int32))) (b := v7) (by omega) (by omega)
      refine dz_Tin (by omega) (by omega) ?_
      have e7 := dz_rtat (hr_a265) (x := v5) (y := v7) (by omega) (by omega) (by omega) (by omega) (by omega)
      have e8 := dz_mulr (a := (a265 ((v5 * (6 : Int32)) + v7).toNatClampNeg)) (b := v4) 2 (by omega) (by omega) (by omega)
      have e9 := dz_add (a := v6) (b := ((a265 ((v5 * (6 : Int32)) + v7).toNatClampNeg) * v4)) (by omega) (by omega)
      refine dz_Tin (by omega) (by omega) ?_
      have e10 := dz_rgat (hr_a269) (i := (v6 + ((a265 ((v5 * (6 : Int32)) + v7).toNatClampNeg) * v4))) (by omega) (by omega)
      have e11 := dz_l0
      refine dz_Teq (fun h12 => ?_) (fun h12 => ?_)
      · skip
        obtain ⟨k1, rfl⟩ : ∃ x, k0 = x + 1 := ⟨k0 - 1, by omega⟩
        show dz_T (s291_X9_pass_3 fu c248_pots c261_many c261_swapsAPot a265 a268 a269 n269 n309 (F291_X9_pass fu c248_pots c261_many c261_swapsAPot a265 a268 a269 n269 n309 k1).2.1 v1 v2 v3 v4 v5 v6 v7 (v6 + ((a265 ((v5 * (6 : Int32)) + v7).toNatClampNeg) * v4)) a309) _
        unfold s291_X9_pass_3
        refine dz_Tin (by omega) (by omega) ?_
        refine dz_Tin (by omega) (by omega) ?_
        have e13 := dz_l1
        have e14 := dz_add (a := v7) (b := (1 : Int32)) (by omega) (by omega)
        exact (ih k1 (by omega)).2 v1 v2 v3 v4 v5 v6 (v7 + (1 : Int32)) (upd a309 (v6 + ((a265 ((v5 * (6 : Int32)) + v7).toNatClampNeg) * v4)).toNatClampNeg ((a309 (v6 + ((a265 ((v5 * (6 : Int32)) + v7).toNatClampNeg) * v4)).toNatClampNeg) + v2)) i0 i1 i2 i3 i4 i5 i6 i7 i8 i9 (by omega) (by omega) i12 i13 i14 i15 (by omega) (by omega)
      · skip
        obtain ⟨k2, rfl⟩ : ∃ x, k0 = x + 1 := ⟨k0 - 1, by omega⟩
        show dz_T (s291_X9_pass_3 fu c248_pots c261_many c261_swapsAPot a265 a268 a269 n269 n309 (F291_X9_pass fu c248_pots c261_many c261_swapsAPot a265 a268 a269 n269 n309 k2).2.1 v1 v2 v3 v4 v5 v6 v7 v1 a309) _
        unfold s291_X9_pass_3
        refine dz_Tin (by omega) (by omega) ?_
        refine dz_Tin (by omega) (by omega) ?_
        have e15 := dz_l1
        have e16 := dz_add (a := v7) (b := (1 : Int32)) (by omega) (by omega)
        exact (ih k2 (by omega)).2 v1 v2 v3 v4 v5 v6 (v7 + (1 : Int32)) (upd a309 v1.toNatClampNeg ((a309 v1.toNatClampNeg) + v2)) i0 i1 i2 i3 i4 i5 i6 i7 i8 i9 (by omega) (by omega) i12 i13 i14 i15 (by omega) (by omega)
  · skip
    refine dz_Tle (fun h17 => ?_) (fun h17 => ?_)
    · skip
      have e18 := dz_l1
      have e19 := dz_add (a := v3) (b := (1 : Int32)) (by omega) (by omega)
      exact (ih k0 (by omega)).1 v1 v2 (v3 + (1 : Int32)) a309 i0 i1 (by omega) (by omega) (by omega)
    · skip
      have e20 := dz_l6
      have e21 := dz_mulr (a := v5) (b := (6 : Int32)) 6 (by omega) (by omega) (by omega)
      have e22 := dz_add (a := (v5 * (6 : Int32))) (b := v7) (by omega) (by omega)
      refine dz_Tin (by omega) (by omega) ?_
      have e23 := dz_rtat (hr_a265) (x := v5) (y := v7) (by omega) (by omega) (by omega) (by omega) (by omega)
      have e24 := dz_mulr (a := (a265 ((v5 * (6 : Int32)) + v7).toNatClampNeg)) (b := v4) 1 (by omega) (by omega) (by omega)
      have e25 := dz_add (a := v6) (b := ((a265 ((v5 * (6 : Int32)) + v7).toNatClampNeg) * v4)) (by omega) (by omega)
      refine dz_Tin (by omega) (by omega) ?_
      have e26 := dz_rgat (hr_a269) (i := (v6 + ((a265 ((v5 * (6 : Int32)) + v7).toNatClampNeg) * v4))) (by omega) (by omega)
      have e27 := dz_l0
      refine dz_Teq (fun h28 => ?_) (fun h28 => ?_)
      · skip
        obtain ⟨k3, rfl⟩ : ∃ x, k0 = x + 1 := ⟨k0 - 1, by omega⟩
        show dz_T (s291_X9_pass_3 fu c248_pots c261_many c261_swapsAPot a265 a268 a269 n269 n309 (F291_X9_pass fu c248_pots c261_many c261_swapsAPot a265 a268 a269 n269 n309 k3).2.1 v1 v2 v3 v4 v5 v6 v7 (v6 + ((a265 ((v5 * (6 : Int32)) + v7).toNatClampNeg) * v4)) a309) _
        unfold s291_X9_pass_3
        refine dz_Tin (by omega) (by omega) ?_
        refine dz_Tin (by omega) (by omega) ?_
        have e29 := dz_l1
        have e30 := dz_add (a := v7) (b := (1 : Int32)) (by omega) (by omega)
        exact (ih k3 (by omega)).2 v1 v2 v3 v4 v5 v6 (v7 + (1 : Int32)) (upd a309 (v6 + ((a265 ((v5 * (6 : Int32)) + v7).toNatClampNeg) * v4)).toNatClampNeg ((a309 (v6 + ((a265 ((v5 * (6 : Int32)) + v7).toNatClampNeg) * v4)).toNatClampNeg) + v2)) i0 i1 i2 i3 i4 i5 i6 i7 i8 i9 (by omega) (by omega) i12 i13 i14 i15 (by omega) (by omega)
      · skip
        obtain ⟨k4, rfl⟩ : ∃ x, k0 = x + 1 := ⟨k0 - 1, by omega⟩
        show dz_T (s291_X9_pass_3 fu c248_pots c261_many c261_swapsAPot a265 a268 a269 n269 n309 (F291_X9_pass fu c248_pots c261_many c261_swapsAPot a265 a268 a269 n269 n309 k4).2.1 v1 v2 v3 v4 v5 v6 v7 v1 a309) _
        unfold s291_X9_pass_3
        refine dz_Tin (by omega) (by omega) ?_
        refine dz_Tin (by omega) (by omega) ?_
        have e31 := dz_l1
        have e32 := dz_add (a := v7) (b := (1 : Int32)) (by omega) (by omega)
        exact (ih k4 (by omega)).2 v1 v2 v3 v4 v5 v6 (v7 + (1 : Int32)) (upd a309 v1.toNatClampNeg ((a309 v1.toNatClampNeg) + v2)) i0 i1 i2 i3 i4 i5 i6 i7 i8 i9 (by omega) (by omega) i12 i13 i14 i15 (by omega) (by omega)
theorem t291_X9_pass_I_g22 (fu : Nat) (hfu : 1000000000000 ≤ fu) (c248_pots : Int32) (c261_many : Int32) (c261_swapsAPot : Int32) (a265 : Nat → Int32) (a268 : Nat → Int32) (a269 : Nat → Int32) (n269 : Nat) (n309 : Nat) (p0 : c248_pots.toInt ≤ 2) (p1 : 2 ≤ c248_pots.toInt) (p2 : c261_many.toInt ≤ 2) (p3 : 2 ≤ c261_many.toInt) (p4 : c261_swapsAPot.toInt ≤ 1) (p5 : 1 ≤ c261_swapsAPot.toInt) (p6 : ((n269 : Nat) : Int) ≤ 13824) (p7 : 1 ≤ ((n269 : Nat) : Int)) (p8 : ((n309 : Nat) : Int) ≤ 13824) (p9 : 1 ≤ ((n309 : Nat) : Int)) (p10 : 4 ≤ ((n309 : Nat) : Int)) (p11 : 4 ≤ ((n269 : Nat) : Int)) (hr_a265 : dz_rt a265 2 1 0 1) (hr_a268 : dz_pt a268 [2, 1]) (hr_a269 : dz_rg a269 n269 0 1023) (k : Nat) : p291_X9_pass_g22 fu c248_pots c261_many c261_swapsAPot a265 a268 a269 n269 n309 k := by
  induction k using Nat.strongRecOn with
  | _ k ih => exact ⟨t291_X9_pass_h1_g22 fu hfu c248_pots c261_many c261_swapsAPot a265 a268 a269 n269 n309 p0 p1 p2 p3 p4 p5 p6 p7 p8 p9 p10 p11 hr_a265 hr_a268 hr_a269 k ih, t291_X9_pass_h2_g22 fu hfu c248_pots c261_many c261_swapsAPot a265 a268 a269 n269 n309 p0 p1 p2 p3 p4 p5 p6 p7 p8 p9 p10 p11 hr_a265 hr_a268 hr_a269 k ih⟩
set_option maxHeartbeats 1000000 in
set_option maxRecDepth 10000 in
theorem t291_X9_pass_E_g22 (fu : Nat) (hfu : 1000000000000 ≤ fu) (c248_pots : Int32) (c261_many : Int32) (c261_swapsAPot : Int32) (a265 : Nat → Int32) (a268 : Nat → Int32) (a269 : Nat → Int32) (n269 : Nat) (n309 : Nat) (v1 : Int32) (v2 : Int32) (a309 : Nat → Int32) (p0 : c248_pots.toInt ≤ 2) (p1 : 2 ≤ c248_pots.toInt) (p2 : c261_many.toInt ≤ 2) (p3 : 2 ≤ c261_many.toInt) (p4 : c261_swapsAPot.toInt ≤ 1) (p5 : 1 ≤ c261_swapsAPot.toInt) (p6 : ((n269 : Nat) : Int) ≤ 13824) (p7 : 1 ≤ ((n269 : Nat) : Int)) (p8 : ((n309 : Nat) : Int) ≤ 13824) (p9 : 1 ≤ ((n309 : Nat) : Int)) (p10 : 0 ≤ v1.toInt) (p11 : v1.toInt ≤ 3) (p12 : 4 ≤ ((n309 : Nat) : Int)) (p13 : 4 ≤ ((n269 : Nat) : Int)) (hr_a265 : dz_rt a265 2 1 0 1) (hr_a268 : dz_pt a268 [2, 1]) (hr_a269 : dz_rg a269 n269 0 1023) (kv : Nat) (hkv : 1000000000000 ≤ kv) : dz_T (s291_X9_pass_0 fu c248_pots c261_many c261_swapsAPot a265 a268 a269 n269 n309 (F291_X9_pass fu c248_pots c261_many c261_swapsAPot a265 a268 a269 n269 n309 kv).1  v1 v2 a309) (fun r => True) := by
  unfold s291_X9_pass_0
  have e1 := dz_l0
  exact (t291_X9_pass_I_g22 fu hfu c248_pots c261_many c261_swapsAPot a265 a268 a269 n269 n309 p0 p1 p2 p3 p4 p5 p6 p7 p8 p9 p12 p13 hr_a265 hr_a268 hr_a269 kv).1 v1 v2 (0 : Int32) a309 p11 p10 (by omega) (by omega) (by omega)
theorem t291_X9_pass_g22 (fu : Nat) (hfu : 1000000000000 ≤ fu) (c248_pots : Int32) (c261_many : Int32) (c261_swapsAPot : Int32) (a265 : Nat → Int32) (a268 : Nat → Int32) (a269 : Nat → Int32) (n269 : Nat) (n309 : Nat) (v1 : Int32) (v2 : Int32) (a309 : Nat → Int32) (p0 : c248_pots.toInt ≤ 2) (p1 : 2 ≤ c248_pots.toInt) (p2 : c261_many.toInt ≤ 2) (p3 : 2 ≤ c261_many.toInt) (p4 : c261_swapsAPot.toInt ≤ 1) (p5 : 1 ≤ c261_swapsAPot.toInt) (p6 : ((n269 : Nat) : Int) ≤ 13824) (p7 : 1 ≤ ((n269 : Nat) : Int)) (p8 : ((n309 : Nat) : Int) ≤ 13824) (p9 : 1 ≤ ((n309 : Nat) : Int)) (p10 : 0 ≤ v1.toInt) (p11 : v1.toInt ≤ 3) (p12 : 4 ≤ ((n309 : Nat) : Int)) (p13 : 4 ≤ ((n269 : Nat) : Int)) (hr_a265 : dz_rt a265 2 1 0 1) (hr_a268 : dz_pt a268 [2, 1]) (hr_a269 : dz_rg a269 n269 0 1023) : dz_T (f291_X9_pass fu c248_pots c261_many c261_swapsAPot a265 a268 a269 n269 n309 v1 v2 a309) (fun r => True) :=
  t291_X9_pass_E_g22 fu hfu c248_pots c261_many c261_swapsAPot a265 a268 a269 n269 n309 v1 v2 a309 p0 p1 p2 p3 p4 p5 p6 p7 p8 p9 p10 p11 p12 p13 hr_a265 hr_a268 hr_a269 fu hfu
abbrev p291_X9_pass_g23 (fu : Nat) (c248_pots : Int32) (c261_many : Int32) (c261_swapsAPot : Int32) (a265 : Nat → Int32) (a268 : Nat → Int32) (a269 : Nat → Int32) (n269 : Nat) (n309 : Nat) (k : Nat) : Prop :=
  (∀ (v1 : Int32) (v2 : Int32) (v3 : Int32) (a309 : Nat → Int32), v1.toInt ≤ 7 → 0 ≤ v1.toInt → v3.toInt ≤ 3 → 0 ≤ v3.toInt → 0 + 0 + (3 - v3.toInt) * 56 + 7 ≤ ((k : Nat) : Int) → dz_T ((F291_X9_pass fu c248_pots c261_many c261_swapsAPot a265 a268 a269 n269 n309 k).1 v1 v2 v3 a309) (fun r => True)) ∧ (∀ (v1 : Int32) (v2 : Int32) (v3 : Int32) (v4 : Int32) (v5 : Int32) (v6 : Int32) (v7 : Int32) (a309 : Nat → Int32), v1.toInt ≤ 7 → 0 ≤ v1.toInt → v3.toInt ≤ 2 → 0 ≤ v3.toInt → v4.toInt ≤ 4 → 1 ≤ v4.toInt → v5.toInt ≤ 1 → 0 ≤ v5.toInt → v6.toInt ≤ 7 → (-4) ≤ v6.toInt → v7.toInt ≤ 1 → 0 ≤ v7.toInt → v5.toInt ≤ v1.toInt → v6.toInt ≤ v1.toInt → v1.toInt ≤ v6.toInt + 4 → v3.toInt ≤ v6.toInt + 4 → ((v3.toInt = 0 ∧ v4.toInt = 4 ∧ v5.toInt = v1.toInt / 4 % 2 ∧ v6.toInt = v1.toInt - v5.toInt * 4) ∨ (v3.toInt = 1 ∧ v4.toInt = 2 ∧ v5.toInt = v1.toInt / 2 % 2 ∧ v6.toInt = v1.toInt - v5.toInt * 2) ∨ (v3.toInt = 2 ∧ v4.toInt = 1 ∧ v5.toInt = v1.toInt % 2 ∧ v6.toInt = v1.toInt - v5.toInt * 1)) → 0 + 0 + ((3 - v3.toInt) - 1) * 56 + 0 + (1 - v7.toInt) * 14 + 14 ≤ ((k : Nat) : Int) → dz_T ((F291_X9_pass fu c248_pots c261_many c261_swapsAPot a265 a268 a269 n269 n309 k).2.1 v1 v2 v3 v4 v5 v6 v7 a309) (fun r => True))
set_option maxHeartbeats 1000000 in
set_option maxRecDepth 10000 in
theorem t291_X9_pass_h1_g23 (fu : Nat) (hfu : 1000000000000 ≤ fu) (c248_pots : Int32) (c261_many : Int32) (c261_swapsAPot : Int32) (a265 : Nat → Int32) (a268 : Nat → Int32) (a269 : Nat → Int32) (n269 : Nat) (n309 : Nat) (p0 : c248_pots.toInt ≤ 3) (p1 : 3 ≤ c248_pots.toInt) (p2 : c261_many.toInt ≤ 2) (p3 : 2 ≤ c261_many.toInt) (p4 : c261_swapsAPot.toInt ≤ 1) (p5 : 1 ≤ c261_swapsAPot.toInt) (p6 : ((n269 : Nat) : Int) ≤ 13824) (p7 : 1 ≤ ((n269 : Nat) : Int)) (p8 : ((n309 : Nat) : Int) ≤ 13824) (p9 : 1 ≤ ((n309 : Nat) : Int)) (p10 : 8 ≤ ((n309 : Nat) : Int)) (p11 : 8 ≤ ((n269 : Nat) : Int)) (hr_a265 : dz_rt a265 2 1 0 1) (hr_a268 : dz_pt a268 [4, 2, 1]) (hr_a269 : dz_rg a269 n269 0 1023) (k : Nat) (ih : ∀ j9, j9 < k → p291_X9_pass_g23 fu c248_pots c261_many c261_swapsAPot a265 a268 a269 n269 n309 j9) : ∀ (v1 : Int32) (v2 : Int32) (v3 : Int32) (a309 : Nat → Int32), v1.toInt ≤ 7 → 0 ≤ v1.toInt → v3.toInt ≤ 3 → 0 ≤ v3.toInt → 0 + 0 + (3 - v3.toInt) * 56 + 7 ≤ ((k : Nat) : Int) → dz_T ((F291_X9_pass fu c248_pots c261_many c261_swapsAPot a265 a268 a269 n269 n309 k).1 v1 v2 v3 a309) (fun r => True) := by
  intro v1 v2 v3 a309 i0 i1 i2 i3 hm
  obtain ⟨k0, rfl⟩ : ∃ x, k = x + 1 := ⟨k - 1, by omega⟩
  show dz_T (s291_X9_pass_1 fu c248_pots c261_many c261_swapsAPot a265 a268 a269 n269 n309 (F291_X9_pass fu c248_pots c261_many c261_swapsAPot a265 a268 a269 n269 n309 k0).2.1  v1 v2 v3 a309) _
  unfold s291_X9_pass_1
  rcases (show v3.toInt = 0 ∨ v3.toInt = 1 ∨ v3.toInt = 2 ∨ v3.toInt = 3 by omega) with hs | hs | hs | hs
  · skip
    refine dz_Tle (fun h1 => ?_) (fun h1 => ?_)
    · skip
      exfalso; omega
    · skip
      refine dz_Tin (by omega) (by omega) ?_
      refine dz_Tbe (show f141_X2_rankIn fu c261_many a268 v1 v3 = (if dz_in v3 4 then (if ((a268 v3.toNatClampNeg) ≤ (0 : Int32)) then (some (0 : Int32)) else (if (c261_many ≤ (0 : Int32)) then (some (0 : Int32)) else (if (¬ ((a268 v3.toNatClampNeg) = (0 : Int32))) then (if (¬ (c261_many = (0 : Int32))) then (some (dz_rem (v1 / (a268 v3.toNatClampNeg)) c261_many)) else none) else none))) else none) from rfl) ?_
      refine dz_Tinb (by omega) (by omega) ?_
      have e2 := dz_ptat (hr_a268) (i := v3) (x := 4) 0 (by omega) (by decide)
      have e3 := dz_l0
      refine dz_Tleb (fun h4 => ?_) (fun h4 => ?_)
      · skip
        exfalso; omega
      · skip
        refine dz_Tleb (fun h5 => ?_) (fun h5 => ?_)
        · skip
          exfalso; omega
        · skip
          refine dz_Tzb (by omega) ?_
          refine dz_Tzb (by omega) ?_
          refine dz_Tsb ?_
          have e6 := dz_divn (a := v1) (b := (a268 v3.toNatClampNeg)) 4 (by omega) (by omega) (by omega)
          have e7 := dz_remn (a := (v1 / (a268 v3.toNatClampNeg))) (b := c261_many) 2 (by omega) (by omega) (by omega)
          have e8 := dz_mulr (a := (dz_rem (v1 / (a268 v3.toNatClampNeg)) c261_many)) (b := (a268 v3.toNatClampNeg)) 4 (by omega) (by omega) (by omega)
          have e9 := dz_sub (a := v1) (b := ((dz_rem (v1 / (a268 v3.toNatClampNeg)) c261_many) * (a268 v3.toNatClampNeg))) (by omega) (by omega)
          exact (ih k0 (by omega)).2 v1 v2 v3 (a268 v3.toNatClampNeg) (dz_rem (v1 / (a268 v3.toNatClampNeg)) c261_many) (v1 - ((dz_rem (v1 / (a268 v3.toNatClampNeg)) c261_many) * (a268 v3.toNatClampNeg))) (0 : Int32) a309 i0 i1 (by first | assumption | omega) i3 (by omega) (by omega) (by omega) (by omega) (by omega) (by omega) (by omega) (by omega) (by omega) (by omega) (by omega) (by omega) (by omega) (by omega)
  · skip
    refine dz_Tle (fun h10 => ?_) (fun h10 => ?_)
    · skip
      exfalso; omega
    · skip
      refine dz_Tin (by omega) (by omega) ?_
      refine dz_Tbe (show f141_X2_rankIn fu c261_many a268 v1 v3 = (if dz_in v3 4 then (if ((a268 v3.toNatClampNeg) ≤ (0 : Int32)) then (some (0 : Int32)) else (if (c261_many ≤ (0 : Int32)) then (some (0 : Int32)) else (if (¬ ((a268 v3.toNatClampNeg) = (0 : Int32))) then (if (¬ (c261_many = (0 : Int32))) then (some (dz_rem (v1 / (a268 v3.toNatClampNeg)) c261_many)) else none) else none))) else none) from rfl) ?_
      refine dz_Tinb (by omega) (by omega) ?_
      have e11 := dz_ptat (hr_a268) (i := v3) (x := 2) 1 (by omega) (by decide)
      have e12 := dz_l0
      refine dz_Tleb (fun h13 => ?_) (fun h13 => ?_)
      · skip
        exfalso; omega
      · skip
        refine dz_Tleb (fun h14 => ?_) (fun h14 => ?_)
        · skip
          exfalso; omega
        · skip
          refine dz_Tzb (by omega) ?_
          refine dz_Tzb (by omega) ?_
          refine dz_Tsb ?_
          have e15 := dz_divn (a := v1) (b := (a268 v3.toNatClampNeg)) 2 (by omega) (by omega) (by omega)
          have e16 := dz_remn (a := (v1 / (a268 v3.toNatClampNeg))) (b := c261_many) 2 (by omega) (by omega) (by omega)
          have e17 := dz_mulr (a := (dz_rem (v1 / (a268 v3.toNatClampNeg)) c261_many)) (b := (a268 v3.toNatClampNeg)) 2 (by omega) (by omega) (by omega)
          have e18 := dz_sub (a := v1) (b := ((dz_rem (v1 / (a268 v3.toNatClampNeg)) c261_many) * (a268 v3.toNatClampNeg))) (by omega) (by omega)
          exact (ih k0 (by omega)).2 v1 v2 v3 (a268 v3.toNatClampNeg) (dz_rem (v1 / (a268 v3.toNatClampNeg)) c261_many) (v1 - ((dz_rem (v1 / (a268 v3.toNatClampNeg)) c261_many) * (a268 v3.toNatClampNeg))) (0 : Int32) a309 i0 i1 (by first | assumption | omega) i3 (by omega) (by omega) (by omega) (by omega) (by omega) (by omega) (by omega) (by omega) (by omega) (by omega) (by omega) (by omega) (by omega) (by omega)
  · skip
    refine dz_Tle (fun h19 => ?_) (fun h19 => ?_)
    · skip
      exfalso; omega
    · skip
      refine dz_Tin (by omega) (by omega) ?_
      refine dz_Tbe (show f141_X2_rankIn fu c261_many a268 v1 v3 = (if dz_in v3 4 then (if ((a268 v3.toNatClampNeg) ≤ (0 : Int32)) then (some (0 : Int32)) else (if (c261_many ≤ (0 : Int32)) then (some (0 : Int32)) else (if (¬ ((a268 v3.toNatClampNeg) = (0 : Int32))) then (if (¬ (c261_many = (0 : Int32))) then (some (dz_rem (v1 / (a268 v3.toNatClampNeg)) c261_many)) else none) else none))) else none) from rfl) ?_
      refine dz_Tinb (by omega) (by omega) ?_
      have e20 := dz_ptat (hr_a268) (i := v3) (x := 1) 2 (by omega) (by decide)
      have e21 := dz_l0
      refine dz_Tleb (fun h22 => ?_) (fun h22 => ?_)
      · skip
        exfalso; omega
      · skip
        refine dz_Tleb (fun h23 => ?_) (fun h23 => ?_)
        · skip
          exfalso; omega
        · skip
          refine dz_Tzb (by omega) ?_
          refine dz_Tzb (by omega) ?_
          refine dz_Tsb ?_
          have e24 := dz_div1 (a := v1) (b := (a268 v3.toNatClampNeg)) (by omega) (by omega)
          have e25 := dz_remn (a := (v1 / (a268 v3.toNatClampNeg))) (b := c261_many) 2 (by omega) (by omega) (by omega)
          have e26 := dz_mulr (a := (dz_rem (v1 / (a268 v3.toNatClampNeg)) c261_many)) (b := (a268 v3.toNatClampNeg)) 1 (by omega) (by omega) (by omega)
          have e27 := dz_sub (a := v1) (b := ((dz_rem (v1 / (a268 v3.toNatClampNeg)) c261_many) * (a268 v3.toNatClampNeg))) (by omega) (by omega)
          exact (ih k0 (by omega)).2 v1 v2 v3 (a268 v3.toNatClampNeg) (dz_rem (v1 / (a268 v3.toNatClampNeg)) c261_many) (v1 - ((dz_rem (v1 / (a268 v3.toNatClampNeg)) c261_many) * (a268 v3.toNatClampNeg))) (0 : Int32) a309 i0 i1 (by first | assumption | omega) i3 (by omega) (by omega) (by omega) (by omega) (by omega) (by omega) (by omega) (by omega) (by omega) (by omega) (by omega) (by omega) (by omega) (by omega)
  · skip
    refine dz_Tle (fun h28 => ?_) (fun h28 => ?_)
    · skip
      exact dz_Ts trivial
    · skip
      exfalso; omega
set_option maxHeartbeats 1000000 in
set_option maxRecDepth 10000 in
theorem t291_X9_pass_h2_g23 (fu : Nat) (hfu : 1000000000000 ≤ fu) (c248_pots : Int32) (c261_many : Int32) (c261_swapsAPot : Int32) (a265 : Nat → Int32) (a268 : Nat → Int32) (a269 : Nat → Int32) (n269 : Nat) (n309 : Nat) (p0 : c248_pots.toInt ≤ 3) (p1 : 3 ≤ c248_pots.toInt) (p2 : c261_many.toInt ≤ 2) (p3 : 2 ≤ c261_many.toInt) (p4 : c261_swapsAPot.toInt ≤ 1) (p5 : 1 ≤ c261_swapsAPot.toInt) (p6 : ((n269 : Nat) : Int) ≤ 13824) (p7 : 1 ≤ ((n269 : Nat) : Int)) (p8 : ((n309 : Nat) : Int) ≤ 13824) (p9 : 1 ≤ ((n309 : Nat) : Int)) (p10 : 8 ≤ ((n309 : Nat) : Int)) (p11 : 8 ≤ ((n269 : Nat) : Int)) (hr_a265 : dz_rt a265 2 1 0 1) (hr_a268 : dz_pt a268 [4, 2, 1]) (hr_a269 : dz_rg a269 n269 0 1023) (k : Nat) (ih : ∀ j9, j9 < k → p291_X9_pass_g23 fu c248_pots c261_many c261_swapsAPot a265 a268 a269 n269 n309 j9) : ∀ (v1 : Int32) (v2 : Int32) (v3 : Int32) (v4 : Int32) (v5 : Int32) (v6 : Int32) (v7 : Int32) (a309 : Nat → Int32), v1.toInt ≤ 7 → 0 ≤ v1.toInt → v3.toInt ≤ 2 → 0 ≤ v3.toInt → v4.toInt ≤ 4 → 1 ≤ v4.toInt → v5.toInt ≤ 1 → 0 ≤ v5.toInt → v6.toInt ≤ 7 → (-4) ≤ v6.toInt → v7.toInt ≤ 1 → 0 ≤ v7.toInt → v5.toInt ≤ v1.toInt → v6.toInt ≤ v1.toInt → v1.toInt ≤ v6.toInt + 4 → v3.toInt ≤ v6.toInt + 4 → ((v3.toInt = 0 ∧ v4.toInt = 4 ∧ v5.toInt = v1.toInt / 4 % 2 ∧ v6.toInt = v1.toInt - v5.toInt * 4) ∨ (v3.toInt = 1 ∧ v4.toInt = 2 ∧ v5.toInt = v1.toInt / 2 % 2 ∧ v6.toInt = v1.toInt - v5.toInt * 2) ∨ (v3.toInt = 2 ∧ v4.toInt = 1 ∧ v5.toInt = v1.toInt % 2 ∧ v6.toInt = v1.toInt - v5.toInt * 1)) → 0 + 0 + ((3 - v3.toInt) - 1) * 56 + 0 + (1 - v7.toInt) * 14 + 14 ≤ ((k : Nat) : Int) → dz_T ((F291_X9_pass fu c248_pots c261_many c261_swapsAPot a265 a268 a269 n269 n309 k).2.1 v1 v2 v3 v4 v5 v6 v7 a309) (fun r => True) := by
  intro v1 v2 v3 v4 v5 v6 v7 a309 i0 i1 i2 i3 i4 i5 i6 i7 i8 i9 i10 i11 i12 i13 i14 i15 x0 hm
  obtain ⟨k0, rfl⟩ : ∃ x, k = x + 1 := ⟨k - 1, by omega⟩
  show dz_T (s291_X9_pass_2 fu c248_pots c261_many c261_swapsAPot a265 a268 a269 n269 n309 (F291_X9_pass fu c248_pots c261_many c261_swapsAPot a265 a268 a269 n269 n309 k0).1 (F291_X9_pass fu c248_pots c261_many c261_swapsAPot a265 a268 a269 n269 n309 k0).2.2  v1 v2 v3 v4 v5 v6 v7 a309) _
  unfold s291_X9_pass_2
  rcases (show v3.toInt = 0 ∨ v3.toInt = 1 ∨ v3.toInt = 2 by omega) with hs | hs | hs
  · skip
    refine dz_Tle (fun h1 => ?_) (fun h1 => ?_)
    · skip
      have e2 := dz_l1
      have e3 := dz_add (a := v3) (b := (1 : Int32)) (by omega) (by omega)
      exact (ih k0 (by omega)).1 v1 v2 (v3 + (1 : Int32)) a309 i0 i1 (by omega) (by omega) (by omega)
    · skip
      have e4 := dz_l6
      have e5 := dz_mulr (a := v5) (b := (6 : Int32)) 6 (by omega) (by omega) (by omega)
      have e6 := dz_add (a := (v5 * (6 : Int32))) (b := v7) (by omega) (by omega)
      refine dz_Tin (by omega) (by omega) ?_
      have e7 := dz_rtat (hr_a265) (x := v5) (y := v7) (by omega) (by omega) (by omega) (by omega) (by omega)
      have e8 := dz_mulr (a := (a265 ((v5 * (6 : Int32)) + v7).toNatClampNeg)) (b := v4) 4 (by omega) (by omega) (by omega)
      have e9 := dz_add (a := v6) (b := ((a265 ((v5 * (6 : Int32)) + v7).toNatClampNeg) * v4)) (by omega) (by omega)
      refine dz_Tin (by omega) (by omega) ?_
      have e10 := dz_rgat (hr_a269) (i := (v6 + ((a265 ((v5 * (6 : Int32)) + v7).toNatClampNeg) * v4))) (by omega) (by omega)
      have e11 := dz_l0
      refine dz_Teq (fun h12 => ?_) (fun h12 => ?_)
      · skip
        obtain ⟨k1, rfl⟩ : ∃ x, k0 = x + 1 := ⟨k0 - 1, by omega⟩
        show dz_T (s291_X9_pass_3 fu c248_pots c261_many c261_swapsAPot a265 a268 a269 n269 n309 (F291_X9_pass fu c248_pots c261_many c261_swapsAPot a265 a268 a269 n269 n309 k1).2.1 v1 v2 v3 v4 v5 v6 v7 (v6 + ((a265 ((v5 * (6 : Int32)) + v7).toNatClampNeg) * v4)) a309) _
        unfold s291_X9_pass_3
        refine dz_Tin (by omega) (by omega) ?_
        refine dz_Tin (by omega) (by omega) ?_
        have e13 := dz_l1
        have e14 := dz_add (a := v7) (b := (1 : Int32)) (by omega) (by omega)
        exact (ih k1 (by omega)).2 v1 v2 v3 v4 v5 v6 (v7 + (1 : Int32)) (upd a309 (v6 + ((a265 ((v5 * (6 : Int32)) + v7).toNatClampNeg) * v4)).toNatClampNeg ((a309 (v6 + ((a265 ((v5 * (6 : Int32)) + v7).toNatClampNeg) * v4)).toNatClampNeg) + v2)) i0 i1 i2 i3 i4 i5 i6 i7 i8 i9 (by omega) (by omega) i12 i13 i14 i15 (by omega) (by omega)
      · skip
        obtain ⟨k2, rfl⟩ : ∃ x, k0 = x + 1 := ⟨k0 - 1, by omega⟩
        show dz_T (s291_X9_pass_3 fu c248_pots c261_many c261_swapsAPot a265 a268 a269 n269 n309 (F291_X9_pass fu c248_pots c261_many c261_swapsAPot a265 a268 a269 n269 n309 k2).2.1 v1 v2 v3 v4 v5 v6 v7 v1 a309) _
        unfold s291_X9_pass_3
        refine dz_Tin (by omega) (by omega) ?_
        refine dz_Tin (by omega) (by omega) ?_
        have e15 := dz_l1
        have e16 := dz_add (a := v7) (b := (1 : Int32)) (by omega) (by omega)
        exact (ih k2 (by omega)).2 v1 v2 v3 v4 v5 v6 (v7 + (1 : Int32)) (upd a309 v1.toNatClampNeg ((a309 v1.toNatClampNeg) + v2)) i0 i1 i2 i3 i4 i5 i6 i7 i8 i9 (by omega) (by omega) i12 i13 i14 i15 (by omega) (by omega)
  · skip
    refine dz_Tle (fun h17 => ?_) (fun h17 => ?_)
    · skip
      have e18 := dz_l1
      have e19 := dz_add (a := v3) (b := (1 : Int32)) (by omega) (by omega)
      exact (ih k0 (by omega)).1 v1 v2 (v3 + (1 : Int32)) a309 i0 i1 (by omega) (by omega) (by omega)
    · skip
      have e20 := dz_l6
      have e21 := dz_mulr (a := v5) (b := (6 : Int32)) 6 (by omega) (by omega) (by omega)
      have e22 := dz_add (a := (v5 * (6 : Int32))) (b := v7) (by omega) (by omega)
      refine dz_Tin (by omega) (by omega) ?_
      have e23 := dz_rtat (hr_a265) (x := v5) (y := v7) (by omega) (by omega) (by omega) (by omega) (by omega)
      have e24 := dz_mulr (a := (a265 ((v5 * (6 : Int32)) + v7).toNatClampNeg)) (b := v4) 2 (by omega) (by omega) (by omega)
      have e25 := dz_add (a := v6) (b := ((a265 ((v5 * (6 : Int32)) + v7).toNatClampNeg) * v4)) (by omega) (by omega)
      refine dz_Tin (by omega) (by omega) ?_
      have e26 := dz_rgat (hr_a269) (i := (v6 + ((a265 ((v5 * (6 : Int32)) + v7).toNatClampNeg) * v4))) (by omega) (by omega)
      have e27 := dz_l0
      refine dz_Teq (fun h28 => ?_) (fun h28 => ?_)
      · skip
        obtain ⟨k3, rfl⟩ : ∃ x, k0 = x + 1 := ⟨k0 - 1, by omega⟩
        show dz_T (s291_X9_pass_3 fu c248_pots c261_many c261_swapsAPot a265 a268 a269 n269 n309 (F291_X9_pass fu c248_pots c261_many c261_swapsAPot a265 a268 a269 n269 n309 k3).2.1 v1 v2 v3 v4 v5 v6 v7 (v6 + ((a265 ((v5 * (6 : Int32)) + v7).toNatClampNeg) * v4)) a309) _
        unfold s291_X9_pass_3
        refine dz_Tin (by omega) (by omega) ?_
        refine dz_Tin (by omega) (by omega) ?_
        have e29 := dz_l1
        have e30 := dz_add (a := v7) (b := (1 : Int32)) (by omega) (by omega)
        exact (ih k3 (by omega)).2 v1 v2 v3 v4 v5 v6 (v7 + (1 : Int32)) (upd a309 (v6 + ((a265 ((v5 * (6 : Int32)) + v7).toNatClampNeg) * v4)).toNatClampNeg ((a309 (v6 + ((a265 ((v5 * (6 : Int32)) + v7).toNatClampNeg) * v4)).toNatClampNeg) + v2)) i0 i1 i2 i3 i4 i5 i6 i7 i8 i9 (by omega) (by omega) i12 i13 i14 i15 (by omega) (by omega)
      · skip
        obtain ⟨k4, rfl⟩ : ∃ x, k0 = x + 1 := ⟨k0 - 1, by omega⟩
        show dz_T (s291_X9_pass_3 fu c248_pots c261_many c261_swapsAPot a265 a268 a269 n269 n309 (F291_X9_pass fu c248_pots c261_many c261_swapsAPot a265 a268 a269 n269 n309 k4).2.1 v1 v2 v3 v4 v5 v6 v7 v1 a309) _
        unfold s291_X9_pass_3
        refine dz_Tin (by omega) (by omega) ?_
        refine dz_Tin (by omega) (by omega) ?_
        have e31 := dz_l1
        have e32 := dz_add (a := v7) (b := (1 : Int32)) (by omega) (by omega)
        exact (ih k4 (by omega)).2 v1 v2 v3 v4 v5 v6 (v7 + (1 : Int32)) (upd a309 v1.toNatClampNeg ((a309 v1.toNatClampNeg) + v2)) i0 i1 i2 i3 i4 i5 i6 i7 i8 i9 (by omega) (by omega) i12 i13 i14 i15 (by omega) (by omega)
  · skip
    refine dz_Tle (fun h33 => ?_) (fun h33 => ?_)
    · skip
      have e34 := dz_l1
      have e35 := dz_add (a := v3) (b := (1 : Int32)) (by omega) (by omega)
      exact (ih k0 (by omega)).1 v1 v2 (v3 + (1 : Int32)) a309 i0 i1 (by omega) (by omega) (by omega)
    · skip
      have e36 := dz_l6
      have e37 := dz_mulr (a := v5) (b := (6 : Int32)) 6 (by omega) (by omega) (by omega)
      have e38 := dz_add (a := (v5 * (6 : Int32))) (b := v7) (by omega) (by omega)
      refine dz_Tin (by omega) (by omega) ?_
      have e39 := dz_rtat (hr_a265) (x := v5) (y := v7) (by omega) (by omega) (by omega) (by omega) (by omega)
      have e40 := dz_mulr (a := (a265 ((v5 * (6 : Int32)) + v7).toNatClampNeg)) (b := v4) 1 (by omega) (by omega) (by omega)
      have e41 := dz_add (a := v6) (b := ((a265 ((v5 * (6 : Int32)) + v7).toNatClampNeg) * v4)) (by omega) (by omega)
      refine dz_Tin (by omega) (by omega) ?_
      have e42 := dz_rgat (hr_a269) (i := (v6 + ((a265 ((v5 * (6 : Int32)) + v7).toNatClampNeg) * v4))) (by omega) (by omega)
      have e43 := dz_l0
      refine dz_Teq (fun h44 => ?_) (fun h44 => ?_)
      · skip
        obtain ⟨k5, rfl⟩ : ∃ x, k0 = x + 1 := ⟨k0 - 1, by omega⟩
        show dz_T (s291_X9_pass_3 fu c248_pots c261_many c261_swapsAPot a265 a268 a269 n269 n309 (F291_X9_pass fu c248_pots c261_many c261_swapsAPot a265 a268 a269 n269 n309 k5).2.1 v1 v2 v3 v4 v5 v6 v7 (v6 + ((a265 ((v5 * (6 : Int32)) + v7).toNatClampNeg) * v4)) a309) _
        unfold s291_X9_pass_3
        refine dz_Tin (by omega) (by omega) ?_
        refine dz_Tin (by omega) (by omega) ?_
        have e45 := dz_l1
        have e46 := dz_add (a := v7) (b := (1 : Int32)) (by omega) (by omega)
        exact (ih k5 (by omega)).2 v1 v2 v3 v4 v5 v6 (v7 + (1 : Int32)) (upd a309 (v6 + ((a265 ((v5 * (6 : Int32)) + v7).toNatClampNeg) * v4)).toNatClampNeg ((a309 (v6 + ((a265 ((v5 * (6 : Int32)) + v7).toNatClampNeg) * v4)).toNatClampNeg) + v2)) i0 i1 i2 i3 i4 i5 i6 i7 i8 i9 (by omega) (by omega) i12 i13 i14 i15 (by omega) (by omega)
      · skip
        obtain ⟨k6, rfl⟩ : ∃ x, k0 = x + 1 := ⟨k0 - 1, by omega⟩
        show dz_T (s291_X9_pass_3 fu c248_pots c261_many c261_swapsAPot a265 a268 a269 n269 n309 (F291_X9_pass fu c248_pots c261_many c261_swapsAPot a265 a268 a269 n269 n309 k6).2.1 v1 v2 v3 v4 v5 v6 v7 v1 a309) _
        unfold s291_X9_pass_3
        refine dz_Tin (by omega) (by omega) ?_
        refine dz_Tin (by omega) (by omega) ?_
        have e47 := dz_l1
        have e48 := dz_add (a := v7) (b := (1 : Int32)) (by omega) (by omega)
        exact (ih k6 (by omega)).2 v1 v2 v3 v4 v5 v6 (v7 + (1 : Int32)) (upd a309 v1.toNatClampNeg ((a309 v1.toNatClampNeg) + v2)) i0 i1 i2 i3 i4 i5 i6 i7 i8 i9 (by omega) (by omega) i12 i13 i14 i15 (by omega) (by omega)
theorem t291_X9_pass_I_g23 (fu : Nat) (hfu : 1000000000000 ≤ fu) (c248_pots : Int32) (c261_many : Int32) (c261_swapsAPot : Int32) (a265 : Nat → Int32) (a268 : Nat → Int32) (a269 : Nat → Int32) (n269 : Nat) (n309 : Nat) (p0 : c248_pots.toInt ≤ 3) (p1 : 3 ≤ c248_pots.toInt) (p2 : c261_many.toInt ≤ 2) (p3 : 2 ≤ c261_many.toInt) (p4 : c261_swapsAPot.toInt ≤ 1) (p5 : 1 ≤ c261_swapsAPot.toInt) (p6 : ((n269 : Nat) : Int) ≤ 13824) (p7 : 1 ≤ ((n269 : Nat) : Int)) (p8 : ((n309 : Nat) : Int) ≤ 13824) (p9 : 1 ≤ ((n309 : Nat) : Int)) (p10 : 8 ≤ ((n309 : Nat) : Int)) (p11 : 8 ≤ ((n269 : Nat) : Int)) (hr_a265 : dz_rt a265 2 1 0 1) (hr_a268 : dz_pt a268 [4, 2, 1]) (hr_a269 : dz_rg a269 n269 0 1023) (k : Nat) : p291_X9_pass_g23 fu c248_pots c261_many c261_swapsAPot a265 a268 a269 n269 n309 k := by
  induction k using Nat.strongRecOn with
  | _ k ih => exact ⟨t291_X9_pass_h1_g23 fu hfu c248_pots c261_many c261_swapsAPot a265 a268 a269 n269 n309 p0 p1 p2 p3 p4 p5 p6 p7 p8 p9 p10 p11 hr_a265 hr_a268 hr_a269 k ih, t291_X9_pass_h2_g23 fu hfu c248_pots c261_many c261_swapsAPot a265 a268 a269 n269 n309 p0 p1 p2 p3 p4 p5 p6 p7 p8 p9 p10 p11 hr_a265 hr_a268 hr_a269 k ih⟩
set_option maxHeartbeats 1000000 in
set_option maxRecDepth 10000 in
theorem t291_X9_pass_E_g23 (fu : Nat) (hfu : 1000000000000 ≤ fu) (c248_pots : Int32) (c261_many : Int32) (c261_swapsAPot : Int32) (a265 : Nat → Int32) (a268 : Nat → Int32) (a269 : Nat → Int32) (n269 : Nat) (n309 : Nat) (v1 : Int32) (v2 : Int32) (a309 : Nat → Int32) (p0 : c248_pots.toInt ≤ 3) (p1 : 3 ≤ c248_pots.toInt) (p2 : c261_many.toInt ≤ 2) (p3 : 2 ≤ c261_many.toInt) (p4 : c261_swapsAPot.toInt ≤ 1) (p5 : 1 ≤ c261_swapsAPot.toInt) (p6 : ((n269 : Nat) : Int) ≤ 13824) (p7 : 1 ≤ ((n269 : Nat) : Int)) (p8 : ((n309 : Nat) : Int) ≤ 13824) (p9 : 1 ≤ ((n309 : Nat) : Int)) (p10 : 0 ≤ v1.toInt) (p11 : v1.toInt ≤ 7) (p12 : 8 ≤ ((n309 : Nat) : Int)) (p13 : 8 ≤ ((n269 : Nat) : Int)) (hr_a265 : dz_rt a265 2 1 0 1) (hr_a268 : dz_pt a268 [4, 2, 1]) (hr_a269 : dz_rg a269 n269 0 1023) (kv : Nat) (hkv : 1000000000000 ≤ kv) : dz_T (s291_X9_pass_0 fu c248_pots c261_many c261_swapsAPot a265 a268 a269 n269 n309 (F291_X9_pass fu c248_pots c261_many c261_swapsAPot a265 a268 a269 n269 n309 kv).1  v1 v2 a309) (fun r => True) := by
  unfold s291_X9_pass_0
  have e1 := dz_l0
  exact (t291_X9_pass_I_g23 fu hfu c248_pots c261_many c261_swapsAPot a265 a268 a269 n269 n309 p0 p1 p2 p3 p4 p5 p6 p7 p8 p9 p12 p13 hr_a265 hr_a268 hr_a269 kv).1 v1 v2 (0 : Int32) a309 p11 p10 (by omega) (by omega) (by omega)
theorem t291_X9_pass_g23 (fu : Nat) (hfu : 1000000000000 ≤ fu) (c248_pots : Int32) (c261_many : Int32) (c261_swapsAPot : Int32) (a265 : Nat → Int32) (a268 : Nat → Int32) (a269 : Nat → Int32) (n269 : Nat) (n309 : Nat) (v1 : Int32) (v2 : Int32) (a309 : Nat → Int32) (p0 : c248_pots.toInt ≤ 3) (p1 : 3 ≤ c248_pots.toInt) (p2 : c261_many.toInt ≤ 2) (p3 : 2 ≤ c261_many.toInt) (p4 : c261_swapsAPot.toInt ≤ 1) (p5 : 1 ≤ c261_swapsAPot.toInt) (p6 : ((n269 : Nat) : Int) ≤ 13824) (p7 : 1 ≤ ((n269 : Nat) : Int)) (p8 : ((n309 : Nat) : Int) ≤ 13824) (p9 : 1 ≤ ((n309 : Nat) : Int)) (p10 : 0 ≤ v1.toInt) (p11 : v1.toInt ≤ 7) (p12 : 8 ≤ ((n309 : Nat) : Int)) (p13 : 8 ≤ ((n269 : Nat) : Int)) (hr_a265 : dz_rt a265 2 1 0 1) (hr_a268 : dz_pt a268 [4, 2, 1]) (hr_a269 : dz_rg a269 n269 0 1023) : dz_T (f291_X9_pass fu c248_pots c261_many c261_swapsAPot a265 a268 a269 n269 n309 v1 v2 a309) (fun r => True) :=
  t291_X9_pass_E_g23 fu hfu c248_pots c261_many c261_swapsAPot a265 a268 a269 n269 n309 v1 v2 a309 p0 p1 p2 p3 p4 p5 p6 p7 p8 p9 p10 p11 p12 p13 hr_a265 hr_a268 hr_a269 fu hfu
