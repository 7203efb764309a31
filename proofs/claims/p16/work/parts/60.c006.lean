set_option maxHeartbeats 1000000 in
set_option maxRecDepth 10000 in
theorem t162_X2_groupIn_g41 (fu : Nat) (hfu : 1000000000000 ≤ fu) (c248_groups : Int32) (c261_many : Int32) (a262 : Nat → Int32) (a268 : Nat → Int32) (v1 : Int32) (v2 : Int32) (p0 : c248_groups.toInt ≤ 4) (p1 : 4 ≤ c248_groups.toInt) (p2 : c261_many.toInt ≤ 24) (p3 : 24 ≤ c261_many.toInt) (p4 : 0 ≤ v1.toInt) (p5 : v1.toInt ≤ 13823) (p6 : 0 ≤ v2.toInt) (p7 : v2.toInt ≤ 3) (hr_a262 : dz_rg a262 96 0 3) (hr_a268 : dz_pt a268 [1]) : dz_T (f162_X2_groupIn fu c248_groups c261_many a262 a268 v1 v2) (fun r => r.toInt ≤ 3 ∧ 0 ≤ r.toInt) := by
  unfold f162_X2_groupIn s162_X2_groupIn_0
  refine dz_Tbe (show f160_X3_potOf fu c248_groups v2 = (if (c248_groups ≤ (0 : Int32)) then (some (0 : Int32)) else (if (¬ (c248_groups = (0 : Int32))) then (some (v2 / c248_groups)) else none)) from rfl) ?_
  have e1 := dz_l0
  refine dz_Tleb (fun h2 => ?_) (fun h2 => ?_)
  · skip
    exfalso; omega
  · skip
    refine dz_Tzb (by omega) ?_
    refine dz_Tsb ?_
    refine dz_Tbe (show f141_X2_rankIn fu c261_many a268 v1 (v2 / c248_groups) = (if dz_in (v2 / c248_groups) 4 then (if ((a268 (v2 / c248_groups).toNatClampNeg) ≤ (0 : Int32)) then (some (0 : Int32)) else (if (c261_many ≤ (0 : Int32)) then (some (0 : Int32)) else (if (¬ ((a268 (v2 / c248_groups).toNatClampNeg) = (0 : Int32))) then (if (¬ (c261_many = (0 : Int32))) then (some (dz_rem (v1 / (a268 (v2 / c248_groups).toNatClampNeg)) c261_many)) else none) else none))) else none) from rfl) ?_
    have e3 := dz_divn (a := v2) (b := c248_groups) 4 (by omega) (by omega) (by omega)
    refine dz_Tinb (by omega) (by omega) ?_
    have e4 := dz_ptat (hr_a268) (i := (v2 / c248_groups)) (x := 1) 0 (by omega) (by decide)
    refine dz_Tleb (fun h5 => ?_) (fun h5 => ?_)
    · skip
      exfalso; omega
    · skip
      refine dz_Tleb (fun h6 => ?_) (fun h6 => ?_)
      · skip
        exfalso; omega
      · skip
        refine dz_Tzb (by omega) ?_
        refine dz_Tzb (by omega) ?_
        refine dz_Tsb ?_
        refine dz_Tbe (show f161_X3_placeOf fu c248_groups v2 = (if (c248_groups ≤ (0 : Int32)) then (some (0 : Int32)) else (if (¬ (c248_groups = (0 : Int32))) then (some (dz_rem v2 c248_groups)) else none)) from rfl) ?_
        refine dz_Tleb (fun h7 => ?_) (fun h7 => ?_)
        · skip
          exfalso; omega
        · skip
          refine dz_Tzb (by omega) ?_
          refine dz_Tsb ?_
          have e8 := dz_divn (a := v1) (b := (a268 (v2 / c248_groups).toNatClampNeg)) 1 (by omega) (by omega) (by omega)
          have e9 := dz_remn (a := (v1 / (a268 (v2 / c248_groups).toNatClampNeg))) (b := c261_many) 24 (by omega) (by omega) (by omega)
          have e10 := dz_remn (a := v2) (b := c248_groups) 4 (by omega) (by omega) (by omega)
          refine dz_Tb (t130_X4_groupAt fu hfu _ _ _ (by omega) (by omega) (by omega) (by omega) (hr_a262)) (fun r4 q => ?_)
          obtain ⟨q4_0, q4_1⟩ := q
          exact dz_Ts ⟨q4_0, q4_1⟩
set_option maxHeartbeats 1000000 in
set_option maxRecDepth 10000 in
theorem t162_X2_groupIn_g42 (fu : Nat) (hfu : 1000000000000 ≤ fu) (c248_groups : Int32) (c261_many : Int32) (a262 : Nat → Int32) (a268 : Nat → Int32) (v1 : Int32) (v2 : Int32) (p0 : c248_groups.toInt ≤ 4) (p1 : 4 ≤ c248_groups.toInt) (p2 : c261_many.toInt ≤ 24) (p3 : 24 ≤ c261_many.toInt) (p4 : 0 ≤ v1.toInt) (p5 : v1.toInt ≤ 13823) (p6 : 0 ≤ v2.toInt) (p7 : v2.toInt ≤ 7) (hr_a262 : dz_rg a262 96 0 3) (hr_a268 : dz_pt a268 [24, 1]) : dz_T (f162_X2_groupIn fu c248_groups c261_many a262 a268 v1 v2) (fun r => r.toInt ≤ 3 ∧ 0 ≤ r.toInt) := by
  unfold f162_X2_groupIn s162_X2_groupIn_0
  refine dz_Tbe (show f160_X3_potOf fu c248_groups v2 = (if (c248_groups ≤ (0 : Int32)) then (some (0 : Int32)) else (if (¬ (c248_groups = (0 : Int32))) then (some (v2 / c248_groups)) else none)) from rfl) ?_
  have e1 := dz_l0
  refine dz_Tleb (fun h2 => ?_) (fun h2 => ?_)
  · skip
    exfalso; omega
  · skip
    refine dz_Tzb (by omega) ?_
    refine dz_Tsb ?_
    refine dz_Tbe (show f141_X2_rankIn fu c261_many a268 v1 (v2 / c248_groups) = (if dz_in (v2 / c248_groups) 4 then (if ((a268 (v2 / c248_groups).toNatClampNeg) ≤ (0 : Int32)) then (some (0 : Int32)) else (if (c261_many ≤ (0 : Int32)) then (some (0 : Int32)) else (if (¬ ((a268 (v2 / c248_groups).toNatClampNeg) = (0 : Int32))) then (if (¬ (c261_many = (0 : Int32))) then (some (dz_rem (v1 / (a268 (v2 / c248_groups).toNatClampNeg)) c261_many)) else none) else none))) else none) from rfl) ?_
    have e3 := dz_divn (a := v2) (b := c248_groups) 4 (by omega) (by omega) (by omega)
    refine dz_Tinb (by omega) (by omega) ?_
    have e4 := dz_ptrg (hr_a268) (i := (v2 / c248_groups)) 1 24 (by decide) (by omega) (by show _ < ((2 : Nat) : Int); omega)
    refine dz_Tleb (fun h5 => ?_) (fun h5 => ?_)
    · skip
      exfalso; omega
    · skip
      refine dz_Tleb (fun h6 => ?_) (fun h6 => ?_)
      · skip
        exfalso; omega
      · skip
        refine dz_Tzb (by omega) ?_
        refine dz_Tzb (by omega) ?_
        refine dz_Tsb ?_
        refine dz_Tbe (show f161_X3_placeOf fu c248_groups v2 = (if (c248_groups ≤ (0 : Int32)) then (some (0 : Int32)) else (if (¬ (c248_groups = (0 : Int32))) then (some (dz_rem v2 c248_groups)) else none)) from rfl) ?_
        refine dz_Tleb (fun h7 => ?_) (fun h7 => ?_)
        · skip
          exfalso; omega
        · skip
          refine dz_Tzb (by omega) ?_
          refine dz_Tsb ?_
          have e8 := dz_divq (a := v1) (b := (a268 (v2 / c248_groups).toNatClampNeg)) 1 13823 (by omega) (by omega) (by omega) (by omega)
          have e9 := dz_remn (a := (v1 / (a268 (v2 / c248_groups).toNatClampNeg))) (b := c261_many) 24 (by omega) (by omega) (by omega)
          have e10 := dz_remn (a := v2) (b := c248_groups) 4 (by omega) (by omega) (by omega)
          refine dz_Tb (t130_X4_groupAt fu hfu _ _ _ (by omega) (by omega) (by omega) (by omega) (hr_a262)) (fun r4 q => ?_)
          obtain ⟨q4_0, q4_1⟩ := q
          exact dz_Ts ⟨q4_0, q4_1⟩
set_option maxHeartbeats 1000000 in
set_option maxRecDepth 10000 in
theorem t162_X2_groupIn_g43 (fu : Nat) (hfu : 1000000000000 ≤ fu) (c248_groups : Int32) (c261_many : Int32) (a262 : Nat → Int32) (a268 : Nat → Int32) (v1 : Int32) (v2 : Int32) (p0 : c248_groups.toInt ≤ 4) (p1 : 4 ≤ c248_groups.toInt) (p2 : c261_many.toInt ≤ 24) (p3 : 24 ≤ c261_many.toInt) (p4 : 0 ≤ v1.toInt) (p5 : v1.toInt ≤ 13823) (p6 : 0 ≤ v2.toInt) (p7 : v2.toInt ≤ 11) (hr_a262 : dz_rg a262 96 0 3) (hr_a268 : dz_pt a268 [576, 24, 1]) : dz_T (f162_X2_groupIn fu c248_groups c261_many a262 a268 v1 v2) (fun r => r.toInt ≤ 3 ∧ 0 ≤ r.toInt) := by
  unfold f162_X2_groupIn s162_X2_groupIn_0
  refine dz_Tbe (show f160_X3_potOf fu c248_groups v2 = (if (c248_groups ≤ (0 : Int32)) then (some (0 : Int32)) else (if (¬ (c248_groups = (0 : Int32))) then (some (v2 / c248_groups)) else none)) from rfl) ?_
  have e1 := dz_l0
  refine dz_Tleb (fun h2 => ?_) (fun h2 => ?_)
  · skip
    exfalso; omega
  · skip
    refine dz_Tzb (by omega) ?_
    refine dz_Tsb ?_
    refine dz_Tbe (show f141_X2_rankIn fu c261_many a268 v1 (v2 / c248_groups) = (if dz_in (v2 / c248_groups) 4 then (if ((a268 (v2 / c248_groups).toNatClampNeg) ≤ (0 : Int32)) then (some (0 : Int32)) else (if (c261_many ≤ (0 : Int32)) then (some (0 : Int32)) else (if (¬ ((a268 (v2 / c248_groups).toNatClampNeg) = (0 : Int32))) then (if (¬ (c261_many = (0 : Int32))) then (some (dz_rem (v1 / (a268 (v2 / c248_groups).toNatClampNeg)) c261_many)) else none) else none))) else none) from rfl) ?_
    have e3 := dz_divn (a := v2) (b := c248_groups) 4 (by omega) (by omega) (by omega)
    refine dz_Tinb (by omega) (by omega) ?_
    have e4 := dz_ptrg (hr_a268) (i := (v2 / c248_groups)) 1 576 (by decide) (by omega) (by show _ < ((3 : Nat) : Int); omega)
    refine dz_Tleb (fun h5 => ?_) (fun h5 => ?_)
    · skip
      exfalso; omega
    · skip
      refine dz_Tleb (fun h6 => ?_) (fun h6 => ?_)
      · skip
        exfalso; omega
      · skip
        refine dz_Tzb (by omega) ?_
        refine dz_Tzb (by omega) ?_
        refine dz_Tsb ?_
        refine dz_Tbe (show f161_X3_placeOf fu c248_groups v2 = (if (c248_groups ≤ (0 : Int32)) then (some (0 : Int32)) else (if (¬ (c248_groups = (0 : Int32))) then (some (dz_rem v2 c248_groups)) else none)) from rfl) ?_
        refine dz_Tleb (fun h7 => ?_) (fun h7 => ?_)
        · skip
          exfalso; omega
        · skip
          refine dz_Tzb (by omega) ?_
          refine dz_Tsb ?_
          have e8 := dz_divq (a := v1) (b := (a268 (v2 / c248_groups).toNatClampNeg)) 1 13823 (by omega) (by omega) (by omega) (by omega)
          have e9 := dz_remn (a := (v1 / (a268 (v2 / c248_groups).toNatClampNeg))) (b := c261_many) 24 (by omega) (by omega) (by omega)
          have e10 := dz_remn (a := v2) (b := c248_groups) 4 (by omega) (by omega) (by omega)
          refine dz_Tb (t130_X4_groupAt fu hfu _ _ _ (by omega) (by omega) (by omega) (by omega) (hr_a262)) (fun r4 q => ?_)
          obtain ⟨q4_0, q4_1⟩ := q
          exact dz_Ts ⟨q4_0, q4_1⟩
set_option maxHeartbeats 1000000 in
theorem t162_X2_groupIn_s (fu : Nat) (hfu : 1000000000000 ≤ fu) (κ : Nat) (hκ : κ < 14) (c248_groups : Int32) (c261_many : Int32) (a262 : Nat → Int32) (a268 : Nat → Int32) (v1 : Int32) (v2 : Int32) (p0 : c248_groups.toInt ≤ 4) (p1 : 2 ≤ c248_groups.toInt) (p2 : c261_many.toInt ≤ 24) (p3 : 0 ≤ c261_many.toInt) (p4 : 0 ≤ v1.toInt) (p5 : v1.toInt ≤ 13823) (p6 : 0 ≤ v2.toInt) (p7 : v2.toInt ≤ 11) (hr_a262 : dz_rg a262 96 0 3) (hr_a268 : dz_pt a268 (dz_kS κ)) (o0 : v2.toInt ≤ ((dz_km κ : Nat) : Int) - 1) (o1 : c248_groups.toInt = ((dz_kg κ : Nat) : Int)) (o2 : c261_many.toInt = ((dz_kr κ : Nat) : Int)) : dz_T (f162_X2_groupIn fu c248_groups c261_many a262 a268 v1 v2) (fun r => r.toInt ≤ 3 ∧ 0 ≤ r.toInt) := by
  rcases (show κ = 0 ∨ κ = 1 ∨ κ = 2 ∨ κ = 3 ∨ κ = 4 ∨ κ = 5 ∨ κ = 6 ∨ κ = 7 ∨ κ = 8 ∨ κ = 9 ∨ κ = 10 ∨ κ = 11 ∨ κ = 12 ∨ κ = 13 by omega) with rfl | rfl | rfl | rfl | rfl | rfl | rfl | rfl | rfl | rfl | rfl | rfl | rfl | rfl
  · skip
    have o0 : v2.toInt ≤ (0 : Int) - 1 := o0
    have o1 : c248_groups.toInt = (2 : Int) := o1
    have o2 : c261_many.toInt = (2 : Int) := o2
    refine dz_Tw (t162_X2_groupIn_g20 fu hfu c248_groups c261_many a262 a268 v1 v2 (by first | assumption | omega) (by first | assumption | omega) (by first | assumption | omega) (by first | assumption | omega) (by first | assumption | omega) (by first | assumption | omega) (by first | assumption | omega) (by first | assumption | omega) (by first | exact hr_a262 | exact dz_rgm hr_a262 (by omega) (by omega) | exact dz_pmr hr_a262 (by decide) (by omega) (by omega) (by omega) | exact dz_ptr hr_a262 (by decide) (by decide) (by omega) | exact dz_ptr hr_a262 (by decide) (by decide) (by show _ ≤ 0; omega) | exact dz_rgs hr_a262 (by omega))) (fun r h => ?_)
    exact ⟨(by first | assumption | omega), (by first | assumption | omega)⟩
  · skip
    have o0 : v2.toInt ≤ (2 : Int) - 1 := o0
    have o1 : c248_groups.toInt = (2 : Int) := o1
    have o2 : c261_many.toInt = (2 : Int) := o2
    refine dz_Tw (t162_X2_groupIn_g21 fu hfu c248_groups c261_many a262 a268 v1 v2 (by first | assumption | omega) (by first | assumption | omega) (by first | assumption | omega) (by first | assumption | omega) (by first | assumption | omega) (by first | assumption | omega) (by first | assumption | omega) (by first | assumption | omega) (by first | exact hr_a262 | exact dz_rgm hr_a262 (by omega) (by omega) | exact dz_pmr hr_a262 (by decide) (by omega) (by omega) (by omega) | exact dz_ptr hr_a262 (by decide) (by decide) (by omega) | exact dz_ptr hr_a262 (by decide) (by decide) (by show _ ≤ 1; omega) | exact dz_rgs hr_a262 (by omega)) (by first | exact hr_a268 | exact dz_rgm hr_a268 (by omega) (by omega) | exact dz_pmr hr_a268 (by decide) (by omega) (by omega) (by omega) | exact dz_ptr hr_a268 (by decide) (by decide) (by omega) | exact dz_ptr hr_a268 (by decide) (by decide) (by show _ ≤ 1; omega) | exact dz_rgs hr_a268 (by omega))) (fun r h => ?_)
    obtain ⟨g0, g1⟩ := h
    exact ⟨(by first | assumption | omega), (by first | assumption | omega)⟩
  · skip
    have o0 : v2.toInt ≤ (4 : Int) - 1 := o0
    have o1 : c248_groups.toInt = (2 : Int) := o1
    have o2 : c261_many.toInt = (2 : Int) := o2
    refine dz_Tw (t162_X2_groupIn_g22 fu hfu c248_groups c261_many a262 a268 v1 v2 (by first | assumption | omega) (by first | assumption | omega) (by first | assumption | omega) (by first | assumption | omega) (by first | assumption | omega) (by first | assumption | omega) (by first | assumption | omega) (by first | assumption | omega) (by first | exact hr_a262 | exact dz_rgm hr_a262 (by omega) (by omega) | exact dz_pmr hr_a262 (by decide) (by omega) (by omega) (by omega) | exact dz_ptr hr_a262 (by decide) (by decide) (by omega) | exact dz_ptr hr_a262 (by decide) (by decide) (by show _ ≤ 2; omega) | exact dz_rgs hr_a262 (by omega)) (by first | exact hr_a268 | exact dz_rgm hr_a268 (by omega) (by omega) | exact dz_pmr hr_a268 (by decide) (by omega) (by omega) (by omega) | exact dz_ptr hr_a268 (by decide) (by decide) (by omega) | exact dz_ptr hr_a268 (by decide) (by decide) (by show _ ≤ 2; omega) | exact dz_rgs hr_a268 (by omega))) (fun r h => ?_)
    obtain ⟨g0, g1⟩ := h
    exact ⟨(by first | assumption | omega), (by first | assumption | omega)⟩
  · skip
    have o0 : v2.toInt ≤ (6 : Int) - 1 := o0
    have o1 : c248_groups.toInt = (2 : Int) := o1
    have o2 : c261_many.toInt = (2 : Int) := o2
    refine dz_Tw (t162_X2_groupIn_g23 fu hfu c248_groups c261_many a262 a268 v1 v2 (by first | assumption | omega) (by first | assumption | omega) (by first | assumption | omega) (by first | assumption | omega) (by first | assumption | omega) (by first | assumption | omega) (by first | assumption | omega) (by first | assumption | omega) (by first | exact hr_a262 | exact dz_rgm hr_a262 (by omega) (by omega) | exact dz_pmr hr_a262 (by decide) (by omega) (by omega) (by omega) | exact dz_ptr hr_a262 (by decide) (by decide) (by omega) | exact dz_ptr hr_a262 (by decide) (by decide) (by show _ ≤ 3; omega) | exact dz_rgs hr_a262 (by omega)) (by first | exact hr_a268 | exact dz_rgm hr_a268 (by omega) (by omega) | exact dz_pmr hr_a268 (by decide) (by omega) (by omega) (by omega) | exact dz_ptr hr_a268 (by decide) (by decide) (by omega) | exact dz_ptr hr_a268 (by decide) (by decide) (by show _ ≤ 3; omega) | exact dz_rgs hr_a268 (by omega))) (fun r h => ?_)
    obtain ⟨g0, g1⟩ := h
    exact ⟨(by first | assumption | omega), (by first | assumption | omega)⟩
  · skip
    have o0 : v2.toInt ≤ (8 : Int) - 1 := o0
    have o1 : c248_groups.toInt = (2 : Int) := o1
    have o2 : c261_many.toInt = (2 : Int) := o2
    refine dz_Tw (t162_X2_groupIn_g24 fu hfu c248_groups c261_many a262 a268 v1 v2 (by first | assumption | omega) (by first | assumption | omega) (by first | assumption | omega) (by first | assumption | omega) (by first | assumption | omega) (by first | assumption | omega) (by first | assumption | omega) (by first | assumption | omega) (by first | exact hr_a262 | exact dz_rgm hr_a262 (by omega) (by omega) | exact dz_pmr hr_a262 (by decide) (by omega) (by omega) (by omega) | exact dz_ptr hr_a262 (by decide) (by decide) (by omega) | exact dz_ptr hr_a262 (by decide) (by decide) (by show _ ≤ 4; omega) | exact dz_rgs hr_a262 (by omega)) (by first | exact hr_a268 | exact dz_rgm hr_a268 (by omega) (by omega) | exact dz_pmr hr_a268 (by decide) (by omega) (by omega) (by omega) | exact dz_ptr hr_a268 (by decide) (by decide) (by omega) | exact dz_ptr hr_a268 (by decide) (by decide) (by show _ ≤ 4; omega) | exact dz_rgs hr_a268 (by omega))) (fun r h => ?_)
    obtain ⟨g0, g1⟩ := h
    exact ⟨(by first | assumption | omega), (by first | assumption | omega)⟩
  · skip
    have o0 : v2.toInt ≤ (0 : Int) - 1 := o0
    have o1 : c248_groups.toInt = (3 : Int) := o1
    have o2 : c261_many.toInt = (6 : Int) := o2
    refine dz_Tw (t162_X2_groupIn_g30 fu hfu c248_groups c261_many a262 a268 v1 v2 (by first | assumption | omega) (by first | assumption | omega) (by first | assumption | omega) (by first | assumption | omega) (by first | assumption | omega) (by first | assumption | omega) (by first | assumption | omega) (by first | assumption | omega) (by first | exact hr_a262 | exact dz_rgm hr_a262 (by omega) (by omega) | exact dz_pmr hr_a262 (by decide) (by omega) (by omega) (by omega) | exact dz_ptr hr_a262 (by decide) (by decide) (by omega) | exact dz_ptr hr_a262 (by decide) (by decide) (by show _ ≤ 0; omega) | exact dz_rgs hr_a262 (by omega))) (fun r h => ?_)
    exact ⟨(by first | assumption | omega), (by first | assumption | omega)⟩
  · skip
    have o0 : v2.toInt ≤ (3 : Int) - 1 := o0
    have o1 : c248_groups.toInt = (3 : Int) := o1
    have o2 : c261_many.toInt = (6 : Int) := o2
    refine dz_Tw (t162_X2_groupIn_g31 fu hfu c248_groups c261_many a262 a268 v1 v2 (by first | assumption | omega) (by first | assumption | omega) (by first | assumption | omega) (by first | assumption | omega) (by first | assumption | omega) (by first | assumption | omega) (by first | assumption | omega) (by first | assumption | omega) (by first | exact hr_a262 | exact dz_rgm hr_a262 (by omega) (by omega) | exact dz_pmr hr_a262 (by decide) (by omega) (by omega) (by omega) | exact dz_ptr hr_a262 (by decide) (by decide) (by omega) | exact dz_ptr hr_a262 (by decide) (by decide) (by show _ ≤ 1; omega) | exact dz_rgs hr_a262 (by omega)) (by first | exact hr_a268 | exact dz_rgm hr_a268 (by omega) (by omega) | exact dz_pmr hr_a268 (by decide) (by omega) (by omega) (by omega) | exact dz_ptr hr_a268 (by decide) (by decide) (by omega) | exact dz_ptr hr_a268 (by decide) (by decide) (by show _ ≤ 1; omega) | exact dz_rgs hr_a268 (by omega))) (fun r h => ?_)
    obtain ⟨g0, g1⟩ := h
    exact ⟨(by first | assumption | omega), (by first | assumption | omega)⟩
  · skip
    have o0 : v2.toInt ≤ (6 : Int) - 1 := o0
    have o1 : c248_groups.toInt = (3 : Int) := o1
    have o2 : c261_many.toInt = (6 : Int) := o2
    refine dz_Tw (t162_X2_groupIn_g32 fu hfu c248_groups c261_many a262 a268 v1 v2 (by first | assumption | omega) (by first | assumption | omega) (by first | assumption | omega) (by first | assumption | omega) (by first | assumption | omega) (by first | assumption | omega) (by first | assumption | omega) (by first | assumption | omega) (by first | exact hr_a262 | exact dz_rgm hr_a262 (by omega) (by omega) | exact dz_pmr hr_a262 (by decide) (by omega) (by omega) (by omega) | exact dz_ptr hr_a262 (by decide) (by decide) (by omega) | exact dz_ptr hr_a262 (by decide) (by decide) (by show _ ≤ 2; omega) | exact dz_rgs hr_a262 (by omega)) (by first | exact hr_a268 | exact dz_rgm hr_a268 (by omega) (by omega) | exact dz_pmr hr_a268 (by decide) (by omega) (by omega) (by omega) | exact dz_ptr hr_a268 (by decide) (by decide) (by omega) | exact dz_ptr hr_a268 (by decide) (by decide) (by show _ ≤ 2; omega) | exact dz_rgs hr_a268 (by omega))) (fun r h => ?_)
    obtain ⟨g0, g1⟩ := h
    exact ⟨(by first | assumption | omega), (by first | assumption | omega)⟩
  · skip
    have o0 : v2.toInt ≤ (9 : Int) - 1 := o0
    have o1 : c248_groups.toInt = (3 : Int) := o1
    have o2 : c261_many.toInt = (6 : Int) := o2
    refine dz_Tw (t162_X2_groupIn_g33 fu hfu c248_groups c261_many a262 a268 v1 v2 (by first | assumption | omega) (by first | assumption | omega) (by first | assumption | omega) (by first | assumption | omega) (by first | assumption | omega) (by first | assumption | omega) (by first | assumption | omega) (by first | assumption | omega) (by first | exact hr_a262 | exact dz_rgm hr_a262 (by omega) (by omega) | exact dz_pmr hr_a262 (by decide) (by omega) (by omega) (by omega) | exact dz_ptr hr_a262 (by decide) (by decide) (by omega) | exact dz_ptr hr_a262 (by decide) (by decide) (by show _ ≤ 3; omega) | exact dz_rgs hr_a262 (by omega)) (by first | exact hr_a268 | exact dz_rgm hr_a268 (by omega) (by omega) | exact dz_pmr hr_a268 (by decide) (by omega) (by omega) (by omega) | exact dz_ptr hr_a268 (by decide) (by decide) (by omega) | exact dz_ptr hr_a268 (by decide) (by decide) (by show _ ≤ 3; omega) | exact dz_rgs hr_a268 (by omega))) (fun r h => ?_)
    obtain ⟨g0, g1⟩ := h
    exact ⟨(by first | assumption | omega), (by first | assumption | omega)⟩
  · skip
    have o0 : v2.toInt ≤ (12 : Int) - 1 := o0
    have o1 : c248_groups.toInt = (3 : Int) := o1
    have o2 : c261_many.toInt = (6 : Int) := o2
    refine dz_Tw (t162_X2_groupIn_g34 fu hfu c248_groups c261_many a262 a268 v1 v2 (by first | assumption | omega) (by first | assumption | omega) (by first | assumption | omega) (by first | assumption | omega) (by first | assumption | omega) (by first | assumption | omega) (by first | assumption | omega) (by first | assumption | omega) (by first | exact hr_a262 | exact dz_rgm hr_a262 (by omega) (by omega) | exact dz_pmr hr_a262 (by decide) (by omega) (by omega) (by omega) | exact dz_ptr hr_a262 (by decide) (by decide) (by omega) | exact dz_ptr hr_a262 (by decide) (by decide) (by show _ ≤ 4; omega) | exact dz_rgs hr_a262 (by omega)) (by first | exact hr_a268 | exact dz_rgm hr_a268 (by omega) (by omega) | exact dz_pmr hr_a268 (by decide) (by omega) (by omega) (by omega) | exact dz_ptr hr_a268 (by decide) (by decide) (by omega) | exact dz_ptr hr_a268 (by decide) (by decide) (by show _ ≤ 4; omega) | exact dz_rgs hr_a268 (by omega))) (fun r h => ?_)
    obtain ⟨g0, g1⟩ := h
    exact ⟨(by first | assumption | omega), (by first | assumption | omega)⟩
  · skip
    have o0 : v2.toInt ≤ (0 : Int) - 1 := o0
    have o1 : c248_groups.toInt = (4 : Int) := o1
    have o2 : c261_many.toInt = (24 : Int) := o2
    refine dz_Tw (t162_X2_groupIn_g40 fu hfu c248_groups c261_many a262 a268 v1 v2 (by first | assumption | omega) (by first | assumption | omega) (by first | assumption | omega) (by first | assumption | omega) (by first | assumption | omega) (by first | assumption | omega) (by first | assumption | omega) (by first | assumption | omega) (by first | exact hr_a262 | exact dz_rgm hr_a262 (by omega) (by omega) | exact dz_pmr hr_a262 (by decide) (by omega) (by omega) (by omega) | exact dz_ptr hr_a262 (by decide) (by decide) (by omega) | exact dz_ptr hr_a262 (by decide) (by decide) (by show _ ≤ 0; omega) | exact dz_rgs hr_a262 (by omega))) (fun r h => ?_)
    exact ⟨(by first | assumption | omega), (by first | assumption | omega)⟩
  · skip
    have o0 : v2.toInt ≤ (4 : Int) - 1 := o0
    have o1 : c248_groups.toInt = (4 : Int) := o1
    have o2 : c261_many.toInt = (24 : Int) := o2
    refine dz_Tw (t162_X2_groupIn_g41 fu hfu c248_groups c261_many a262 a268 v1 v2 (by first | assumption | omega) (by first | assumption | omega) (by first | assumption | omega) (by first | assumption | omega) (by first | assumption | omega) (by first | assumption | omega) (by first | assumption | omega) (by first | assumption | omega) (by first | exact hr_a262 | exact dz_rgm hr_a262 (by omega) (by omega) | exact dz_pmr hr_a262 (by decide) (by omega) (by omega) (by omega) | exact dz_ptr hr_a262 (by decide) (by decide) (by omega) | exact dz_ptr hr_a262 (by decide) (by decide) (by show _ ≤ 1; omega) | exact dz_rgs hr_a262 (by omega)) (by first | exact hr_a268 | exact dz_rgm hr_a268 (by omega) (by omega) | exact dz_pmr hr_a268 (by decide) (by omega) (by omega) (by omega) | exact dz_ptr hr_a268 (by decide) (by decide) (by omega) | exact dz_ptr hr_a268 (by decide) (by decide) (by show _ ≤ 1; omega) | exact dz_rgs hr_a268 (by omega))) (fun r h => ?_)
    obtain ⟨g0, g1⟩ := h
    exact ⟨(by first | assumption | omega), (by first | assumption | omega)⟩
  · skip
    have o0 : v2.toInt ≤ (8 : Int) - 1 := o0
    have o1 : c248_groups.toInt = (4 : Int) := o1
    have o2 : c261_many.toInt = (24 : Int) := o2
    refine dz_Tw (t162_X2_groupIn_g42 fu hfu c248_groups c261_many a262 a268 v1 v2 (by first | assumption | omega) (by first | assumption | omega) (by first | assumption | omega) (by first | assumption | omega) (by first | assumption | omega) (by first | assumption | omega) (by first | assumption | omega) (by first | assumption | omega) (by first | exact hr_a262 | exact dz_rgm hr_a262 (by omega) (by omega) | exact dz_pmr hr_a262 (by decide) (by omega) (by omega) (by omega) | exact dz_ptr hr_a262 (by decide) (by decide) (by omega) | exact dz_ptr hr_a262 (by decide) (by decide) (by show _ ≤ 2; omega) | exact dz_rgs hr_a262 (by omega)) (by first | exact hr_a268 | exact dz_rgm hr_a268 (by omega) (by omega) | exact dz_pmr hr_a268 (by decide) (by omega) (by omega) (by omega) | exact dz_ptr hr_a268 (by decide) (by decide) (by omega) | exact dz_ptr hr_a268 (by decide) (by decide) (by show _ ≤ 2; omega) | exact dz_rgs hr_a268 (by omega))) (fun r h => ?_)
    obtain ⟨g0, g1⟩ := h
    exact ⟨(by first | assumption | omega), (by first | assumption | omega)⟩
  · skip
    have o0 : v2.toInt ≤ (12 : Int) - 1 := o0
    have o1 : c248_groups.toInt = (4 : Int) := o1
    have o2 : c261_many.toInt = (24 : Int) := o2
    refine dz_Tw (t162_X2_groupIn_g43 fu hfu c248_groups c261_many a262 a268 v1 v2 (by first | assumption | omega) (by first | assumption | omega) (by first | assumption | omega) (by first | assumption | omega) (by first | assumption | omega) (by first | assumption | omega) (by first | assumption | omega) (by first | assumption | omega) (by first | exact hr_a262 | exact dz_rgm hr_a262 (by omega) (by omega) | exact dz_pmr hr_a262 (by decide) (by omega) (by omega) (by omega) | exact dz_ptr hr_a262 (by decide) (by decide) (by omega) | exact dz_ptr hr_a262 (by decide) (by decide) (by show _ ≤ 3; omega) | exact dz_rgs hr_a262 (by omega)) (by first | exact hr_a268 | exact dz_rgm hr_a268 (by omega) (by omega) | exact dz_pmr hr_a268 (by decide) (by omega) (by omega) (by omega) | exact dz_ptr hr_a268 (by decide) (by decide) (by omega) | exact dz_ptr hr_a268 (by decide) (by decide) (by show _ ≤ 3; omega) | exact dz_rgs hr_a268 (by omega))) (fun r h => ?_)
    obtain ⟨g0, g1⟩ := h
    exact ⟨(by first | assumption | omega), (by first | assumption | omega)⟩
set_option maxHeartbeats 1000000 in
set_option maxRecDepth 10000 in
theorem t163_X11_draw_s (fu : Nat) (hfu : 1000000000000 ≤ fu) (κ : Nat) (hκ : κ < 14) (c248_groups : Int32) (c248_teams : Int32) (c261_many : Int32) (a262 : Nat → Int32) (c267_lawfulOnes : Int32) (a268 : Nat → Int32) (a270 : Nat → Int32) (n270 : Nat) (v1 : Int32) (v2 : Int32) (p0 : c248_groups.toInt ≤ 4) (p1 : 2 ≤ c248_groups.toInt) (p2 : c248_teams.toInt ≤ 12) (p3 : 0 ≤ c248_teams.toInt) (p4 : c261_many.toInt ≤ 24) (p5 : 0 ≤ c261_many.toInt) (p6 : c267_lawfulOnes.toInt ≤ 13824) (p7 : 0 ≤ c267_lawfulOnes.toInt) (p8 : ((n270 : Nat) : Int) ≤ 13824) (p9 : 1 ≤ ((n270 : Nat) : Int)) (p10 : c267_lawfulOnes.toInt ≤ ((n270 : Nat) : Int)) (hr_a262 : dz_rg a262 96 0 3) (hr_a268 : dz_pt a268 (dz_kS κ)) (hr_a270 : dz_rg a270 c267_lawfulOnes.toInt.toNat 0 (((dz_kt κ : Nat) : Int) - 1)) (o0 : c248_groups.toInt = ((dz_kg κ : Nat) : Int)) (o1 : c248_teams.toInt = ((dz_km κ : Nat) : Int)) (o2 : c261_many.toInt = ((dz_kr κ : Nat) : Int)) : dz_T (f163_X11_draw fu c248_groups c248_teams c261_many a262 c267_lawfulOnes a268 a270 n270 v1 v2) (fun r => r.toInt ≤ 3 ∧ (-1) ≤ r.toInt ∧ r.toInt ≤ c248_teams.toInt + 2 ∧ r.toInt ≤ c267_lawfulOnes.toInt + 2) := by
  unfold f163_X11_draw s163_X11_draw_0
  have e1 := dz_l0
  refine dz_Tlt (fun h2 => ?_) (fun h2 => ?_)
  · skip
    have e3 := dz_lm1
    exact dz_Ts ⟨(by omega), (by omega), (by omega), (by omega)⟩
  · skip
    refine dz_Tle (fun h4 => ?_) (fun h4 => ?_)
    · skip
      have e5 := dz_lm1
      exact dz_Ts ⟨(by omega), (by omega), (by omega), (by omega)⟩
    · skip
      refine dz_Tbe (show f159_X11_isTeam fu c248_teams v2 = (if (v2 < (0 : Int32)) then (some (0 : Int32)) else (if (c248_teams ≤ v2) then (some (0 : Int32)) else (some (1 : Int32)))) from rfl) ?_
      refine dz_Tltb (fun h6 => ?_) (fun h6 => ?_)
      · skip
        refine dz_Tsb ?_
        refine dz_Teq (fun h7 => ?_) (fun h7 => ?_)
        · skip
          have e8 := dz_lm1
          exact dz_Ts ⟨(by omega), (by omega), (by omega), (by omega)⟩
        · skip
          exfalso; omega
      · skip
        refine dz_Tleb (fun h9 => ?_) (fun h9 => ?_)
        · skip
          refine dz_Tsb ?_
          refine dz_Teq (fun h10 => ?_) (fun h10 => ?_)
          · skip
            have e11 := dz_lm1
            exact dz_Ts ⟨(by omega), (by omega), (by omega), (by omega)⟩
          · skip
            exfalso; omega
        · skip
          refine dz_Tsb ?_
          have e12 := dz_l1
          refine dz_Teq (fun h13 => ?_) (fun h13 => ?_)
          · skip
            exfalso; omega
          · skip
            refine dz_Tin (by omega) (by omega) ?_
            have e14 := dz_rgat (hr_a270) (i := v1) (by omega) (by omega)
            have e15 := dz_kt4 hκ
            refine dz_Tb (t162_X2_groupIn_s fu hfu κ hκ _ _ _ _ _ _ p0 p1 p4 p5 (by omega) (by omega) (by first | assumption | omega) (by first | assumption | omega) (hr_a262) (hr_a268) (by first | assumption | omega) o0 o2) (fun r2 q => ?_)
            obtain ⟨q2_0, q2_1⟩ := q
            exact dz_Ts ⟨q2_0, (by first | assumption | omega), (by first | assumption | omega), (by first | assumption | omega)⟩
set_option maxHeartbeats 1000000 in
set_option maxRecDepth 10000 in
theorem t167_X11_order_s (fu : Nat) (hfu : 1000000000000 ≤ fu) (κ : Nat) (hκ : κ < 14) (c248_pots : Int32) (v1 : Int32) (c73_nearestArrangement : Int32) (c274_out : Int32) (a275 : Nat → Int32) (a277 : Nat → Int32) (c280_fresh : Int32) (c310_fresh : Int32) (c313_fresh : Int32) (c319_fresh : Int32) (c322_fresh : Int32) (c325_fresh : Int32) (p0 : c248_pots.toInt ≤ 4) (p1 : 0 ≤ c248_pots.toInt) (p2 : c274_out.toInt ≤ 12) (p3 : 0 ≤ c274_out.toInt) (p4 : c280_fresh.toInt ≤ 1) (p5 : 0 ≤ c280_fresh.toInt) (hr_a275 : dz_pm a275 (dz_kp κ)) (hr_a277 : dz_rg a277 12 (-1) 3) (o0 : c248_pots.toInt = ((dz_kp κ : Nat) : Int)) (o1 : c274_out.toInt ≤ ((dz_km κ : Nat) : Int)) : dz_T (f167_X11_order fu c248_pots v1 c73_nearestArrangement c274_out a275 a277 c280_fresh c310_fresh c313_fresh c319_fresh c322_fresh c325_fresh) (fun r => r.1.toInt ≤ 1 ∧ 0 ≤ r.1.toInt ∧ r.2.2.1.toInt ≤ 12 ∧ 0 ≤ r.2.2.1.toInt ∧ r.2.2.2.2.2.1.toInt ≤ 1 ∧ 0 ≤ r.2.2.2.2.2.1.toInt ∧ r.2.2.1.toInt ≤ c274_out.toInt ∧ dz_pm r.2.2.2.1 (dz_kp κ) ∧ dz_rg r.2.2.2.2.1 12 (-1) 3 ∧ (r.2.2.2.2.2.1.toInt = 0 ∨ r.2.2.2.2.2.1.toInt = c280_fresh.toInt)) := by
  unfold f167_X11_order s167_X11_order_0
  refine dz_Tb (t166_X11_readTurns_m fu hfu _ _ _ (dz_kp κ) (dz_kp4 hκ) (by omega) (hr_a275)) (fun r1 q => ?_)
  obtain ⟨q1_0, q1_1, qa1_1⟩ := q
  have e1 := dz_l0
  refine dz_Teq (fun h2 => ?_) (fun h2 => ?_)
  · skip
    refine dz_Ts ?_
    dsimp only
    exact ⟨(by omega), (by omega), p2, p3, p4, p5, (by first | assumption | omega), (qa1_1), (hr_a277), (by omega)⟩
  · skip
    refine dz_Tb (t145_X8_empty fu hfu _ _ p2 p3 (hr_a277)) (fun r2 q => ?_)
    obtain ⟨q2_0, q2_1, qa2_1⟩ := q
    refine dz_Tb (t149_X11_startChanged fu hfu _ _ _ _ _ ) (fun r3 _ => ?_)
    have e3 := dz_l1
    have e4 := dz_lm3
    refine dz_Ts ?_
    dsimp only
    exact ⟨(by omega), (by omega), (by first | assumption | omega), q2_1, (by omega), (by omega), (by first | assumption | omega), (qa1_1), (qa2_1), (by omega)⟩
set_option maxHeartbeats 1000000 in
set_option maxRecDepth 10000 in
theorem t166_X11_readTurns_E (fu : Nat) (hfu : 1000000000000 ≤ fu) (v0 : Int32) (v1 : Int32) (a275 : Nat → Int32) (p0 : 0 ≤ v1.toInt) (p1 : v1.toInt ≤ 4) (hr_a275 : dz_rg a275 4 0 3) (kv : Nat) (hkv : 1000000000000 ≤ kv) : dz_T (s166_X11_readTurns_0 fu (F166_X11_readTurns fu kv).1  v0 v1 a275) (fun r => r.1.toInt ≤ 1 ∧ 0 ≤ r.1.toInt ∧ dz_rg r.2 4 0 3) := by
  unfold s166_X11_readTurns_0
  obtain ⟨k1, rfl⟩ : ∃ x, kv = x + 1 := ⟨kv - 1, by omega⟩
  show dz_T (s166_X11_readTurns_1 fu (F166_X11_readTurns fu k1).1 (F166_X11_readTurns fu k1).2 v0 v1 (0 : Int32) (0 : Int32) a275) _
  unfold s166_X11_readTurns_1
  have e1 := dz_l0
  refine dz_Tle (fun h2 => ?_) (fun h2 => ?_)
  · skip
    have e3 := dz_l1
    have e4 := dz_l31
    have e5 := dz_andr (a := v1) (b := (31 : Int32)) (by omega)
    have e6 := dz_andl (a := v1) (b := (31 : Int32)) (by omega)
    have e7 := dz_shl1 (b := v1) 0 0 (by omega) (by omega) (by omega)
    have e8 := dz_sub (a := ((1 : Int32) <<< (v1 &&& (31 : Int32)))) (b := (1 : Int32)) (by omega) (by omega)
    refine dz_Teq (fun h9 => ?_) (fun h9 => ?_)
    · skip
      obtain ⟨k2, rfl⟩ : ∃ x, k1 = x + 1 := ⟨k1 - 1, by omega⟩
      show dz_T (s166_X11_readTurns_2 fu (F166_X11_readTurns fu k2).2 v0 v1 (0 : Int32) a275) _
      unfold s166_X11_readTurns_2
      refine dz_Tle (fun h10 => ?_) (fun h10 => ?_)
      · skip
        refine dz_Ts ?_
        dsimp only
        exact ⟨(by omega), (by omega), (hr_a275)⟩
      · skip
        exfalso; omega
    · skip
      exfalso; omega
  · skip
    obtain ⟨k3, rfl⟩ : ∃ x, k1 = x + 1 := ⟨k1 - 1, by omega⟩
    show dz_T (s166_X11_readTurns_1 fu (F166_X11_readTurns fu k3).1 (F166_X11_readTurns fu k3).2 v0 v1 ((0 : Int32) ||| ((1 : Int32) <<< (((dz_ush v0 ((2 : Int32) * (0 : Int32))) &&& (3 : Int32)) &&& (31 : Int32)))) ((0 : Int32) + (1 : Int32)) a275) _
    unfold s166_X11_readTurns_1
    have e11 := dz_l1
    have e12 := dz_add (a := (0 : Int32)) (b := (1 : Int32)) (by omega) (by omega)
    refine dz_Tle (fun h13 => ?_) (fun h13 => ?_)
    · skip
      have e14 := dz_l2
      have e15 := dz_mull (a := (2 : Int32)) (b := (0 : Int32)) 2 (by omega) (by omega) (by omega)
      have e16 := dz_l3
      have e17 := dz_andr (a := (dz_ush v0 ((2 : Int32) * (0 : Int32)))) (b := (3 : Int32)) (by omega)
      have e18 := dz_l31
      have e19 := dz_andr (a := ((dz_ush v0 ((2 : Int32) * (0 : Int32))) &&& (3 : Int32))) (b := (31 : Int32)) (by omega)
      have e20 := dz_andl (a := ((dz_ush v0 ((2 : Int32) * (0 : Int32))) &&& (3 : Int32))) (b := (31 : Int32)) (by omega)
      have e21 := dz_shl1 (b := ((dz_ush v0 ((2 : Int32) * (0 : Int32))) &&& (3 : Int32))) 0 3 (by omega) (by omega) (by omega)
      have e22 := dz_orb (a := (0 : Int32)) (b := ((1 : Int32) <<< (((dz_ush v0 ((2 : Int32) * (0 : Int32))) &&& (3 : Int32)) &&& (31 : Int32)))) 4 (by omega) (by omega) (by omega) (by omega) (by omega)
      have e23 := dz_andr (a := v1) (b := (31 : Int32)) (by omega)
      have e24 := dz_andl (a := v1) (b := (31 : Int32)) (by omega)
      have e25 := dz_shl1 (b := v1) 1 1 (by omega) (by omega) (by omega)
      have e26 := dz_sub (a := ((1 : Int32) <<< (v1 &&& (31 : Int32)))) (b := (1 : Int32)) (by omega) (by omega)
      refine dz_Teq (fun h27 => ?_) (fun h27 => ?_)
      · skip
        obtain ⟨k4, rfl⟩ : ∃ x, k3 = x + 1 := ⟨k3 - 1, by omega⟩
        show dz_T (s166_X11_readTurns_2 fu (F166_X11_readTurns fu k4).2 v0 v1 (0 : Int32) a275) _
        unfold s166_X11_readTurns_2
        refine dz_Tle (fun h28 => ?_) (fun h28 => ?_)
        · skip
          exfalso; omega
        · skip
          have e29 := dz_l4
          refine dz_Tle (fun h30 => ?_) (fun h30 => ?_)
          · skip
            exfalso; omega
          · skip
            refine dz_Tin (by omega) (by omega) ?_
            obtain ⟨k5, rfl⟩ : ∃ x, k4 = x + 1 := ⟨k4 - 1, by omega⟩
            show dz_T (s166_X11_readTurns_2 fu (F166_X11_readTurns fu k5).2 v0 v1 ((0 : Int32) + (1 : Int32)) (upd a275 (0 : Int32).toNatClampNeg ((dz_ush v0 ((2 : Int32) * (0 : Int32))) &&& (3 : Int32)))) _
            unfold s166_X11_readTurns_2
            refine dz_Tle (fun h31 => ?_) (fun h31 => ?_)
            · skip
              refine dz_Ts ?_
              dsimp only
              exact ⟨(by omega), (by omega), (dz_rgu (hr_a275) (by omega) (by omega))⟩
            · skip
              exfalso; omega
      · skip
        refine dz_Ts ?_
        dsimp only
        exact ⟨(by omega), (by omega), (hr_a275)⟩
    · skip
      obtain ⟨k6, rfl⟩ : ∃ x, k3 = x + 1 := ⟨k3 - 1, by omega⟩
      show dz_T (s166_X11_readTurns_1 fu (F166_X11_readTurns fu k6).1 (F166_X11_readTurns fu k6).2 v0 v1 (((0 : Int32) ||| ((1 : Int32) <<< (((dz_ush v0 ((2 : Int32) * (0 : Int32))) &&& (3 : Int32)) &&& (31 : Int32)))) ||| ((1 : Int32) <<< (((dz_ush v0 ((2 : Int32) * ((0 : Int32) + (1 : Int32)))) &&& (3 : Int32)) &&& (31 : Int32)))) (((0 : Int32) + (1 : Int32)) + (1 : Int32)) a275) _
      unfold s166_X11_readTurns_1
      have e32 := dz_add (a := ((0 : Int32) + (1 : Int32))) (b := (1 : Int32)) (by omega) (by omega)
      refine dz_Tle (fun h33 => ?_) (fun h33 => ?_)
      · skip
        have e34 := dz_l2
        have e35 := dz_mull (a := (2 : Int32)) (b := (0 : Int32)) 2 (by omega) (by omega) (by omega)
        have e36 := dz_l3
        have e37 := dz_andr (a := (dz_ush v0 ((2 : Int32) * (0 : Int32)))) (b := (3 : Int32)) (by omega)
        have e38 := dz_l31
        have e39 := dz_andr (a := ((dz_ush v0 ((2 : Int32) * (0 : Int32))) &&& (3 : Int32))) (b := (31 : Int32)) (by omega)
        have e40 := dz_andl (a := ((dz_ush v0 ((2 : Int32) * (0 : Int32))) &&& (3 : Int32))) (b := (31 : Int32)) (by omega)
        have e41 := dz_shl1 (b := ((dz_ush v0 ((2 : Int32) * (0 : Int32))) &&& (3 : Int32))) 0 3 (by omega) (by omega) (by omega)
        have e42 := dz_orb (a := (0 : Int32)) (b := ((1 : Int32) <<< (((dz_ush v0 ((2 : Int32) * (0 : Int32))) &&& (3 : Int32)) &&& (31 : Int32)))) 4 (by omega) (by omega) (by omega) (by omega) (by omega)
        have e43 := dz_mull (a := (2 : Int32)) (b := ((0 : Int32) + (1 : Int32))) 2 (by omega) (by omega) (by omega)
        have e44 := dz_ushc (a := v0) (b := ((2 : Int32) * ((0 : Int32) + (1 : Int32)))) 2 (by omega) (by omega) (by omega)
        have e45 := dz_andr (a := (dz_ush v0 ((2 : Int32) * ((0 : Int32) + (1 : Int32))))) (b := (3 : Int32)) (by omega)
        have e46 := dz_andl (a := (dz_ush v0 ((2 : Int32) * ((0 : Int32) + (1 : Int32))))) (b := (3 : Int32)) (by omega)
        have e47 := dz_andr (a := ((dz_ush v0 ((2 : Int32) * ((0 : Int32) + (1 : Int32)))) &&& (3 : Int32))) (b := (31 : Int32)) (by omega)
        have e48 := dz_andl (a := ((dz_ush v0 ((2 : Int32) * ((0 : Int32) + (1 : Int32)))) &&& (3 : Int32))) (b := (31 : Int32)) (by omega)
        have e49 := dz_shl1 (b := ((dz_ush v0 ((2 : Int32) * ((0 : Int32) + (1 : Int32)))) &&& (3 : Int32))) 0 3 (by omega) (by omega) (by omega)
        have e50 := dz_orb (a := ((0 : Int32) ||| ((1 : Int32) <<< (((dz_ush v0 ((2 : Int32) * (0 : Int32))) &&& (3 : Int32)) &&& (31 : Int32))))) (b := ((1 : Int32) <<< (((dz_ush v0 ((2 : Int32) * ((0 : Int32) + (1 : Int32)))) &&& (3 : Int32)) &&& (31 : Int32)))) 4 (by omega) (by omega) (by omega) (by omega) (by omega)
        have e51 := dz_andr (a := v1) (b := (31 : Int32)) (by omega)
        have e52 := dz_andl (a := v1) (b := (31 : Int32)) (by omega)
        have e53 := dz_shl1 (b := v1) 2 2 (by omega) (by omega) (by omega)
        have e54 := dz_sub (a := ((1 : Int32) <<< (v1 &&& (31 : Int32)))) (b := (1 : Int32)) (by omega) (by omega)
        refine dz_Teq (fun h55 => ?_) (fun h55 => ?_)
        · skip
          obtain ⟨k7, rfl⟩ : ∃ x, k6 = x + 1 := ⟨k6 - 1, by omega⟩
          show dz_T (s166_X11_readTurns_2 fu (F166_X11_readTurns fu k7).2 v0 v1 (0 : Int32) a275) _
          unfold s166_X11_readTurns_2
          refine dz_Tle (fun h56 => ?_) (fun h56 => ?_)
          · skip
            exfalso; omega
          · skip
            have e57 := dz_l4
            refine dz_Tle (fun h58 => ?_) (fun h58 => ?_)
            · skip
              exfalso; omega
            · skip
              refine dz_Tin (by omega) (by omega) ?_
              obtain ⟨k8, rfl⟩ : ∃ x, k7 = x + 1 := ⟨k7 - 1, by omega⟩
              show dz_T (s166_X11_readTurns_2 fu (F166_X11_readTurns fu k8).2 v0 v1 ((0 : Int32) + (1 : Int32)) (upd a275 (0 : Int32).toNatClampNeg ((dz_ush v0 ((2 : Int32) * (0 : Int32))) &&& (3 : Int32)))) _
              unfold s166_X11_readTurns_2
              refine dz_Tle (fun h59 => ?_) (fun h59 => ?_)
              · skip
                exfalso; omega
              · skip
                refine dz_Tle (fun h60 => ?_) (fun h60 => ?_)
                · skip
                  exfalso; omega
                · skip
                  refine dz_Tin (by omega) (by omega) ?_
                  obtain ⟨k9, rfl⟩ : ∃ x, k8 = x + 1 := ⟨k8 - 1, by omega⟩
                  show dz_T (s166_X11_readTurns_2 fu (F166_X11_readTurns fu k9).2 v0 v1 (((0 : Int32) + (1 : Int32)) + (1 : Int32)) (upd (upd a275 (0 : Int32).toNatClampNeg ((dz_ush v0 ((2 : Int32) * (0 : Int32))) &&& (3 : Int32))) ((0 : Int32) + (1 : Int32)).toNatClampNeg ((dz_ush v0 ((2 : Int32) * ((0 : Int32) + (1 : Int32)))) &&& (3 : Int32)))) _
                  unfold s166_X11_readTurns_2
                  refine dz_Tle (fun h61 => ?_) (fun h61 => ?_)
                  · skip
                    refine dz_Ts ?_
                    dsimp only
                    exact ⟨(by omega), (by omega), (dz_rgu (dz_rgu (hr_a275) (by omega) (by omega)) (by omega) (by omega))⟩
                  · skip
                    exfalso; omega
        · skip
          refine dz_Ts ?_
          dsimp only
          exact ⟨(by omega), (by omega), (hr_a275)⟩
      · skip
        obtain ⟨k10, rfl⟩ : ∃ x, k6 = x + 1 := ⟨k6 - 1, by omega⟩
        show dz_T (s166_X11_readTurns_1 fu (F166_X11_readTurns fu k10).1 (F166_X11_readTurns fu k10).2 v0 v1 ((((0 : Int32) ||| ((1 : Int32) <<< (((dz_ush v0 ((2 : Int32) * (0 : Int32))) &&& (3 : Int32)) &&& (31 : Int32)))) ||| ((1 : Int32) <<< (((dz_ush v0 ((2 : Int32) * ((0 : Int32) + (1 : Int32)))) &&& (3 : Int32)) &&& (31 : Int32)))) ||| ((1 : Int32) <<< (((dz_ush v0 ((2 : Int32) * (((0 : Int32) + (1 : Int32)) + (1 : Int32)))) &&& (3 : Int32)) &&& (31 : Int32)))) ((((0 : Int32) + (1 : Int32)) + (1 : Int32)) + (1 : Int32)) a275) _
        unfold s166_X11_readTurns_1
        have e62 := dz_add (a := (((0 : Int32) + (1 : Int32)) + (1 : Int32))) (b := (1 : Int32)) (by omega) (by omega)
        refine dz_Tle (fun h63 => ?_) (fun h63 => ?_)
        · skip
          have e64 := dz_l2
          have e65 := dz_mull (a := (2 : Int32)) (b := (0 : Int32)) 2 (by omega) (by omega) (by omega)
          have e66 := dz_l3
          have e67 := dz_andr (a := (dz_ush v0 ((2 : Int32) * (0 : Int32)))) (b := (3 : Int32)) (by omega)
          have e68 := dz_l31
          have e69 := dz_andr (a := ((dz_ush v0 ((2 : Int32) * (0 : Int32))) &&& (3 : Int32))) (b := (31 : Int32)) (by omega)
          have e70 := dz_andl (a := ((dz_ush v0 ((2 : Int32) * (0 : Int32))) &&& (3 : Int32))) (b := (31 : Int32)) (by omega)
          have e71 := dz_shl1 (b := ((dz_ush v0 ((2 : Int32) * (0 : Int32))) &&& (3 : Int32))) 0 3 (by omega) (by omega) (by omega)
          have e72 := dz_orb (a := (0 : Int32)) (b := ((1 : Int32) <<< (((dz_ush v0 ((2 : Int32) * (0 : Int32))) &&& (3 : Int32)) &&& (31 : Int32)))) 4 (by omega) (by omega) (by omega) (by omega) (by omega)
          have e73 := dz_mull (a := (2 : Int32)) (b := ((0 : Int32) + (1 : Int32))) 2 (by omega) (by omega) (by omega)
          have e74 := dz_ushc (a := v0) (b := ((2 : Int32) * ((0 : Int32) + (1 : Int32)))) 2 (by omega) (by omega) (by omega)
          have e75 := dz_andr (a := (dz_ush v0 ((2 : Int32) * ((0 : Int32) + (1 : Int32))))) (b := (3 : Int32)) (by omega)
          have e76 := dz_andl (a := (dz_ush v0 ((2 : Int32) * ((0 : Int32) + (1 : Int32))))) (b := (3 : Int32)) (by omega)
          have e77 := dz_andr (a := ((dz_ush v0 ((2 : Int32) * ((0 : Int32) + (1 : Int32)))) &&& (3 : Int32))) (b := (31 : Int32)) (by omega)
          have e78 := dz_andl (a := ((dz_ush v0 ((2 : Int32) * ((0 : Int32) + (1 : Int32)))) &&& (3 : Int32))) (b := (31 : Int32)) (by omega)
          have e79 := dz_shl1 (b := ((dz_ush v0 ((2 : Int32) * ((0 : Int32) + (1 : Int32)))) &&& (3 : Int32))) 0 3 (by omega) (by omega) (by omega)
          have e80 := dz_orb (a := ((0 : Int32) ||| ((1 : Int32) <<< (((dz_ush v0 ((2 : Int32) * (0 : Int32))) &&& (3 : Int32)) &&& (31 : Int32))))) (b := ((1 : Int32) <<< (((dz_ush v0 ((2 : Int32) * ((0 : Int32) + (1 : Int32)))) &&& (3 : Int32)) &&& (31 : Int32)))) 4 (by omega) (by omega) (by omega) (by omega) (by omega)
          have e81 := dz_mull (a := (2 : Int32)) (b := (((0 : Int32) + (1 : Int32)) + (1 : Int32))) 2 (by omega) (by omega) (by omega)
          have e82 := dz_ushc (a := v0) (b := ((2 : Int32) * (((0 : Int32) + (1 : Int32)) + (1 : Int32)))) 4 (by omega) (by omega) (by omega)
          have e83 := dz_andr (a := (dz_ush v0 ((2 : Int32) * (((0 : Int32) + (1 : Int32)) + (1 : Int32))))) (b := (3 : Int32)) (by omega)
          have e84 := dz_andl (a := (dz_ush v0 ((2 : Int32) * (((0 : Int32) + (1 : Int32)) + (1 : Int32))))) (b := (3 : Int32)) (by omega)
          have e85 := dz_andr (a := ((dz_ush v0 ((2 : Int32) * (((0 : Int32) + (1 : Int32)) + (1 : Int32)))) &&& (3 : Int32))) (b := (31 : Int32)) (by omega)
          have e86 := dz_andl (a := ((dz_ush v0 ((2 : Int32) * (((0 : Int32) + (1 : Int32)) + (1 : Int32)))) &&& (3 : Int32))) (b := (31 : Int32)) (by omega)
          have e87 := dz_shl1 (b := ((dz_ush v0 ((2 : Int32) * (((0 : Int32) + (1 : Int32)) + (1 : Int32)))) &&& (3 : Int32))) 0 3 (by omega) (by omega) (by omega)
          have e88 := dz_orb (a := (((0 : Int32) ||| ((1 : Int32) <<< (((dz_ush v0 ((2 : Int32) * (0 : Int32))) &&& (3 : Int32)) &&& (31 : Int32)))) ||| ((1 : Int32) <<< (((dz_ush v0 ((2 : Int32) * ((0 : Int32) + (1 : Int32)))) &&& (3 : Int32)) &&& (31 : Int32))))) (b := ((1 : Int32) <<< (((dz_ush v0 ((2 : Int32) * (((0 : Int32) + (1 : Int32)) + (1 : Int32)))) &&& (3 : Int32)) &&& (31 : Int32)))) 4 (by omega) (by omega) (by omega) (by omega) (by omega)
          have e89 := dz_andr (a := v1) (b := (31 : Int32)) (by omega)
          have e90 := dz_andl (a := v1) (b := (31 : Int32)) (by omega)
          have e91 := dz_shl1 (b := v1) 3 3 (by omega) (by omega) (by omega)
          have e92 := dz_sub (a := ((1 : Int32) <<< (v1 &&& (31 : Int32)))) (b := (1 : Int32)) (by omega) (by omega)
          refine dz_Teq (fun h93 => ?_) (fun h93 => ?_)
          · skip
            obtain ⟨k11, rfl⟩ : ∃ x, k10 = x + 1 := ⟨k10 - 1, by omega⟩
            show dz_T (s166_X11_readTurns_2 fu (F166_X11_readTurns fu k11).2 v0 v1 (0 : Int32) a275) _
            unfold s166_X11_readTurns_2
            refine dz_Tle (fun h94 => ?_) (fun h94 => ?_)
            · skip
              exfalso; omega
            · skip
              have e95 := dz_l4
              refine dz_Tle (fun h96 => ?_) (fun h96 => ?_)
              · skip
                exfalso; omega
              · skip
                refine dz_Tin (by omega) (by omega) ?_
                obtain ⟨k12, rfl⟩ : ∃ x, k11 = x + 1 := ⟨k11 - 1, by omega⟩
                show dz_T (s166_X11_readTurns_2 fu (F166_X11_readTurns fu k12).2 v0 v1 ((0 : Int32) + (1 : Int32)) (upd a275 (0 : Int32).toNatClampNeg ((dz_ush v0 ((2 : Int32) * (0 : Int32))) &&& (3 : Int32)))) _
                unfold s166_X11_readTurns_2
                refine dz_Tle (fun h97 => ?_) (fun h97 => ?_)
                · skip
                  exfalso; omega
                · skip
                  refine dz_Tle (fun h98 => ?_) (fun h98 => ?_)
                  · skip
                    exfalso; omega
                  · skip
                    refine dz_Tin (by omega) (by omega) ?_
                    obtain ⟨k13, rfl⟩ : ∃ x, k12 = x + 1 := ⟨k12 - 1, by omega⟩
                    show dz_T (s166_X11_readTurns_2 fu (F166_X11_readTurns fu k13).2 v0 v1 (((0 : Int32) + (1 : Int32)) + (1 : Int32)) (upd (upd a275 (0 : Int32).toNatClampNeg ((dz_ush v0 ((2 : Int32) * (0 : Int32))) &&& (3 : Int32))) ((0 : Int32) + (1 : Int32)).toNatClampNeg ((dz_ush v0 ((2 : Int32) * ((0 : Int32) + (1 : Int32)))) &&& (3 : Int32)))) _
                    unfold s166_X11_readTurns_2
                    refine dz_Tle (fun h99 => ?_) (fun h99 => ?_)
                    · skip
                      exfalso; omega
                    · skip
                      refine dz_Tle (fun h100 => ?_) (fun h100 => ?_)
                      · skip
                        exfalso; omega
                      · skip
                        refine dz_Tin (by omega) (by omega) ?_
                        obtain ⟨k14, rfl⟩ : ∃ x, k13 = x + 1 := ⟨k13 - 1, by omega⟩
                        show dz_T (s166_X11_readTurns_2 fu (F166_X11_readTurns fu k14).2 v0 v1 ((((0 : Int32) + (1 : Int32)) + (1 : Int32)) + (1 : Int32)) (upd (upd (upd a275 (0 : Int32).toNatClampNeg ((dz_ush v0 ((2 : Int32) * (0 : Int32))) &&& (3 : Int32))) ((0 : Int32) + (1 : Int32)).toNatClampNeg ((dz_ush v0 ((2 : Int32) * ((0 : Int32) + (1 : Int32)))) &&& (3 : Int32))) (((0 : Int32) + (1 : Int32)) + (1 : Int32)).toNatClampNeg ((dz_ush v0 ((2 : Int32) * (((0 : Int32) + (1 : Int32)) + (1 : Int32)))) &&& (3 : Int32)))) _
                        unfold s166_X11_readTurns_2
                        refine dz_Tle (fun h101 => ?_) (fun h101 => ?_)
                        · skip
                          refine dz_Ts ?_
                          dsimp only
                          exact ⟨(by omega), (by omega), (dz_rgu (dz_rgu (dz_rgu (hr_a275) (by omega) (by omega)) (by omega) (by omega)) (by omega) (by omega))⟩
                        · skip
                          exfalso; omega
          · skip
            refine dz_Ts ?_
            dsimp only
            exact ⟨(by omega), (by omega), (hr_a275)⟩
        · skip
          obtain ⟨k15, rfl⟩ : ∃ x, k10 = x + 1 := ⟨k10 - 1, by omega⟩
          show dz_T (s166_X11_readTurns_1 fu (F166_X11_readTurns fu k15).1 (F166_X11_readTurns fu k15).2 v0 v1 (((((0 : Int32) ||| ((1 : Int32) <<< (((dz_ush v0 ((2 : Int32) * (0 : Int32))) &&& (3 : Int32)) &&& (31 : Int32)))) ||| ((1 : Int32) <<< (((dz_ush v0 ((2 : Int32) * ((0 : Int32) + (1 : Int32)))) &&& (3 : Int32)) &&& (31 : Int32)))) ||| ((1 : Int32) <<< (((dz_ush v0 ((2 : Int32) * (((0 : Int32) + (1 : Int32)) + (1 : Int32)))) &&& (3 : Int32)) &&& (31 : Int32)))) ||| ((1 : Int32) <<< (((dz_ush v0 ((2 : Int32) * ((((0 : Int32) + (1 : Int32)) + (1 : Int32)) + (1 : Int32)))) &&& (3 : Int32)) &&& (31 : Int32)))) (((((0 : Int32) + (1 : Int32)) + (1 : Int32)) + (1 : Int32)) + (1 : Int32)) a275) _
          unfold s166_X11_readTurns_1
          have e102 := dz_add (a := ((((0 : Int32) + (1 : Int32)) + (1 : Int32)) + (1 : Int32))) (b := (1 : Int32)) (by omega) (by omega)
          refine dz_Tle (fun h103 => ?_) (fun h103 => ?_)
          · skip
            have e104 := dz_l2
            have e105 := dz_mull (a := (2 : Int32)) (b := (0 : Int32)) 2 (by omega) (by omega) (by omega)
            have e106 := dz_l3
            have e107 := dz_andr (a := (dz_ush v0 ((2 : Int32) * (0 : Int32)))) (b := (3 : Int32)) (by omega)
            have e108 := dz_l31
            have e109 := dz_andr (a := ((dz_ush v0 ((2 : Int32) * (0 : Int32))) &&& (3 : Int32))) (b := (31 : Int32)) (by omega)
            have e110 := dz_andl (a := ((dz_ush v0 ((2 : Int32) * (0 : Int32))) &&& (3 : Int32))) (b := (31 : Int32)) (by omega)
            have e111 := dz_shl1 (b := ((dz_ush v0 ((2 : Int32) * (0 : Int32))) &&& (3 : Int32))) 0 3 (by omega) (by omega) (by omega)
            have e112 := dz_orb (a := (0 : Int32)) (b := ((1 : Int32) <<< (((dz_ush v0 ((2 : Int32) * (0 : Int32))) &&& (3 : Int32)) &&& (31 : Int32)))) 4 (by omega) (by omega) (by omega) (by omega) (by omega)
            have e113 := dz_mull (a := (2 : Int32)) (b := ((0 : Int32) + (1 : Int32))) 2 (by omega) (by omega) (by omega)
            have e114 := dz_ushc (a := v0) (b := ((2 : Int32) * ((0 : Int32) + (1 : Int32)))) 2 (by omega) (by omega) (by omega)
            have e115 := dz_andr (a := (dz_ush v0 ((2 : Int32) * ((0 : Int32) + (1 : Int32))))) (b := (3 : Int32)) (by omega)
            have e116 := dz_andl (a := (dz_ush v0 ((2 : Int32) * ((0 : Int32) + (1 : Int32))))) (b := (3 : Int32)) (by omega)
            have e117 := dz_andr (a := ((dz_ush v0 ((2 : Int32) * ((0 : Int32) + (1 : Int32)))) &&& (3 : Int32))) (b := (31 : Int32)) (by omega)
            have e118 := dz_andl (a := ((dz_ush v0 ((2 : Int32) * ((0 : Int32) + (1 : Int32)))) &&& (3 : Int32))) (b := (31 : Int32)) (by omega)
            have e119 := dz_shl1 (b := ((dz_ush v0 ((2 : Int32) * ((0 : Int32) + (1 : Int32)))) &&& (3 : Int32))) 0 3 (by omega) (by omega) (by omega)
            have e120 := dz_orb (a := ((0 : Int32) ||| ((1 : Int32) <<< (((dz_ush v0 ((2 : Int32) * (0 : Int32))) &&& (3 : Int32)) &&& (31 : Int32))))) (b := ((1 : Int32) <<< (((dz_ush v0 ((2 : Int32) * ((0 : Int32) + (1 : Int32)))) &&& (3 : Int32)) &&& (31 : Int32)))) 4 (by omega) (by omega) (by omega) (by omega) (by omega)
            have e121 := dz_mull (a := (2 : Int32)) (b := (((0 : Int32) + (1 : Int32)) + (1 : Int32))) 2 (by omega) (by omega) (by omega)
            have e122 := dz_ushc (a := v0) (b := ((2 : Int32) * (((0 : Int32) + (1 : Int32)) + (1 : Int32)))) 4 (by omega) (by omega) (by omega)
            have e123 := dz_andr (a := (dz_ush v0 ((2 : Int32) * (((0 : Int32) + (1 : Int32)) + (1 : Int32))))) (b := (3 : Int32)) (by omega)
            have e124 := dz_andl (a := (dz_ush v0 ((2 : Int32) * (((0 : Int32) + (1 : Int32)) + (1 : Int32))))) (b := (3 : Int32)) (by omega)
            have e125 := dz_andr (a := ((dz_ush v0 ((2 : Int32) * (((0 : Int32) + (1 : Int32)) + (1 : Int32)))) &&& (3 : Int32))) (b := (31 : Int32)) (by omega)
            have e126 := dz_andl (a := ((dz_ush v0 ((2 : Int32) * (((0 : Int32) + (1 : Int32)) + (1 : Int32)))) &&& (3 : Int32))) (b := (31 : Int32)) (by omega)
            have e127 := dz_shl1 (b := ((dz_ush v0 ((2 : Int32) * (((0 : Int32) + (1 : Int32)) + (1 : Int32)))) &&& (3 : Int32))) 0 3 (by omega) (by omega) (by omega)
            have e128 := dz_orb (a := (((0 : Int32) ||| ((1 : Int32) <<< (((dz_ush v0 ((2 : Int32) * (0 : Int32))) &&& (3 : Int32)) &&& (31 : Int32)))) ||| ((1 : Int32) <<< (((dz_ush v0 ((2 : Int32) * ((0 : Int32) + (1 : Int32)))) &&& (3 : Int32)) &&& (31 : Int32))))) (b := ((1 : Int32) <<< (((dz_ush v0 ((2 : Int32) * (((0 : Int32) + (1 : Int32)) + (1 : Int32)))) &&& (3 : Int32)) &&& (31 : Int32)))) 4 (by omega) (by omega) (by omega) (by omega) (by omega)
            have e129 := dz_mull (a := (2 : Int32)) (b := ((((0 : Int32) + (1 : Int32)) + (1 : Int32)) + (1 : Int32))) 2 (by omega) (by omega) (by omega)
            have e130 := dz_ushc (a := v0) (b := ((2 : Int32) * ((((0 : Int32) + (1 : Int32)) + (1 : Int32)) + (1 : Int32)))) 6 (by omega) (by omega) (by omega)
            have e131 := dz_andr (a := (dz_ush v0 ((2 : Int32) * ((((0 : Int32) + (1 : Int32)) + (1 : Int32)) + (1 : Int32))))) (b := (3 : Int32)) (by omega)
            have e132 := dz_andl (a := (dz_ush v0 ((2 : Int32) * ((((0 : Int32) + (1 : Int32)) + (1 : Int32)) + (1 : Int32))))) (b := (3 : Int32)) (by omega)
            have e133 := dz_andr (a := ((dz_ush v0 ((2 : Int32) * ((((0 : Int32) + (1 : Int32)) + (1 : Int32)) + (1 : Int32)))) &&& (3 : Int32))) (b := (31 : Int32)) (by omega)
            have e134 := dz_andl (a := ((dz_ush v0 ((2 : Int32) * ((((0 : Int32) + (1 : Int32)) + (1 : Int32)) + (1 : Int32)))) &&& (3 : Int32))) (b := (31 : Int32)) (by omega)
            have e135 := dz_shl1 (b := ((dz_ush v0 ((2 : Int32) * ((((0 : Int32) + (1 : Int32)) + (1 : Int32)) + (1 : Int32)))) &&& (3 : Int32))) 0 3 (by omega) (by omega) (by omega)
            have e136 := dz_orb (a := ((((0 : Int32) ||| ((1 : Int32) <<< (((dz_ush v0 ((2 : Int32) * (0 : Int32))) &&& (3 : Int32)) &&& (31 : Int32)))) ||| ((1 : Int32) <<< (((dz_ush v0 ((2 : Int32) * ((0 : Int32) + (1 : Int32)))) &&& (3 : Int32)) &&& (31 : Int32)))) ||| ((1 : Int32) <<< (((dz_ush v0 ((2 : Int32) * (((0 : Int32) + (1 : Int32)) + (1 : Int32)))) &&& (3 : Int32)) &&& (31 : Int32))))) (b := ((1 : Int32) <<< (((dz_ush v0 ((2 : Int32) * ((((0 : Int32) + (1 : Int32)) + (1 : Int32)) + (1 : Int32)))) &&& (3 : Int32)) &&& (31 : Int32)))) 4 (by omega) (by omega) (by omega) (by omega) (by omega)
            have e137 := dz_andr (a := v1) (b := (31 : Int32)) (by omega)
            have e138 := dz_andl (a := v1) (b := (31 : Int32)) (by omega)
            have e139 := dz_shl1 (b := v1) 4 4 (by omega) (by omega) (by omega)
            have e140 := dz_sub (a := ((1 : Int32) <<< (v1 &&& (31 : Int32)))) (b := (1 : Int32)) (by omega) (by omega)
            refine dz_Teq (fun h141 => ?_) (fun h141 => ?_)
            · skip
              obtain ⟨k16, rfl⟩ : ∃ x, k15 = x + 1 := ⟨k15 - 1, by omega⟩
              show dz_T (s166_X11_readTurns_2 fu (F166_X11_readTurns fu k16).2 v0 v1 (0 : Int32) a275) _
              unfold s166_X11_readTurns_2
              refine dz_Tle (fun h142 => ?_) (fun h142 => ?_)
              · skip
                exfalso; omega
              · skip
                have e143 := dz_l4
                refine dz_Tle (fun h144 => ?_) (fun h144 => ?_)
                · skip
                  exfalso; omega
                · skip
                  refine dz_Tin (by omega) (by omega) ?_
                  obtain ⟨k17, rfl⟩ : ∃ x, k16 = x + 1 := ⟨k16 - 1, by omega⟩
                  show dz_T (s166_X11_readTurns_2 fu (F166_X11_readTurns fu k17).2 v0 v1 ((0 : Int32) + (1 : Int32)) (upd a275 (0 : Int32).toNatClampNeg ((dz_ush v0 ((2 : Int32) * (0 : Int32))) &&& (3 : Int32)))) _
                  unfold s166_X11_readTurns_2
                  refine dz_Tle (fun h145 => ?_) (fun h145 => ?_)
                  · skip
                    exfalso; omega
                  · skip
                    refine dz_Tle (fun h146 => ?_) (fun h146 => ?_)
                    · skip
                      exfalso; omega
                    · skip
                      refine dz_Tin (by omega) (by omega) ?_
                      obtain ⟨k18, rfl⟩ : ∃ x, k17 = x + 1 := ⟨k17 - 1, by omega⟩
                      show dz_T (s166_X11_readTurns_2 fu (F166_X11_readTurns fu k18).2 v0 v1 (((0 : Int32) + (1 : Int32)) + (1 : Int32)) (upd (upd a275 (0 : Int32).toNatClampNeg ((dz_ush v0 ((2 : Int32) * (0 : Int32))) &&& (3 : Int32))) ((0 : Int32) + (1 : Int32)).toNatClampNeg ((dz_ush v0 ((2 : Int32) * ((0 : Int32) + (1 : Int32)))) &&& (3 : Int32)))) _
                      unfold s166_X11_readTurns_2
                      refine dz_Tle (fun h147 => ?_) (fun h147 => ?_)
                      · skip
                        exfalso; omega
                      · skip
                        refine dz_Tle (fun h148 => ?_) (fun h148 => ?_)
                        · skip
                          exfalso; omega
                        · skip
                          refine dz_Tin (by omega) (by omega) ?_
                          obtain ⟨k19, rfl⟩ : ∃ x, k18 = x + 1 := ⟨k18 - 1, by omega⟩
                          show dz_T (s166_X11_readTurns_2 fu (F166_X11_readTurns fu k19).2 v0 v1 ((((0 : Int32) + (1 : Int32)) + (1 : Int32)) + (1 : Int32)) (upd (upd (upd a275 (0 : Int32).toNatClampNeg ((dz_ush v0 ((2 : Int32) * (0 : Int32))) &&& (3 : Int32))) ((0 : Int32) + (1 : Int32)).toNatClampNeg ((dz_ush v0 ((2 : Int32) * ((0 : Int32) + (1 : Int32)))) &&& (3 : Int32))) (((0 : Int32) + (1 : Int32)) + (1 : Int32)).toNatClampNeg ((dz_ush v0 ((2 : Int32) * (((0 : Int32) + (1 : Int32)) + (1 : Int32)))) &&& (3 : Int32)))) _
                          unfold s166_X11_readTurns_2
                          refine dz_Tle (fun h149 => ?_) (fun h149 => ?_)
                          · skip
                            exfalso; omega
                          · skip
                            refine dz_Tle (fun h150 => ?_) (fun h150 => ?_)
                            · skip
                              exfalso; omega
                            · skip
                              refine dz_Tin (by omega) (by omega) ?_
                              obtain ⟨k20, rfl⟩ : ∃ x, k19 = x + 1 := ⟨k19 - 1, by omega⟩
                              show dz_T (s166_X11_readTurns_2 fu (F166_X11_readTurns fu k20).2 v0 v1 (((((0 : Int32) + (1 : Int32)) + (1 : Int32)) + (1 : Int32)) + (1 : Int32)) (upd (upd (upd (upd a275 (0 : Int32).toNatClampNeg ((dz_ush v0 ((2 : Int32) * (0 : Int32))) &&& (3 : Int32))) ((0 : Int32) + (1 : Int32)).toNatClampNeg ((dz_ush v0 ((2 : Int32) * ((0 : Int32) + (1 : Int32)))) &&& (3 : Int32))) (((0 : Int32) + (1 : Int32)) + (1 : Int32)).toNatClampNeg ((dz_ush v0 ((2 : Int32) * (((0 : Int32) + (1 : Int32)) + (1 : Int32)))) &&& (3 : Int32))) ((((0 : Int32) + (1 : Int32)) + (1 : Int32)) + (1 : Int32)).toNatClampNeg ((dz_ush v0 ((2 : Int32) * ((((0 : Int32) + (1 : Int32)) + (1 : Int32)) + (1 : Int32)))) &&& (3 : Int32)))) _
                              unfold s166_X11_readTurns_2
                              refine dz_Tle (fun h151 => ?_) (fun h151 => ?_)
                              · skip
                                refine dz_Ts ?_
                                dsimp only
                                exact ⟨(by omega), (by omega), (dz_rgu (dz_rgu (dz_rgu (dz_rgu (hr_a275) (by omega) (by omega)) (by omega) (by omega)) (by omega) (by omega)) (by omega) (by omega))⟩
                              · skip
                                exfalso; omega
            · skip
              refine dz_Ts ?_
              dsimp only
              exact ⟨(by omega), (by omega), (hr_a275)⟩
          · skip
            exfalso; omega
theorem t166_X11_readTurns (fu : Nat) (hfu : 1000000000000 ≤ fu) (v0 : Int32) (v1 : Int32) (a275 : Nat → Int32) (p0 : 0 ≤ v1.toInt) (p1 : v1.toInt ≤ 4) (hr_a275 : dz_rg a275 4 0 3) : dz_T (f166_X11_readTurns fu v0 v1 a275) (fun r => r.1.toInt ≤ 1 ∧ 0 ≤ r.1.toInt ∧ dz_rg r.2 4 0 3) :=
  t166_X11_readTurns_E fu hfu v0 v1 a275 p0 p1 hr_a275 fu hfu
set_option maxHeartbeats 1000000 in
set_option maxRecDepth 10000 in
theorem t168_X11_arrange_s (fu : Nat) (hfu : 1000000000000 ≤ fu) (κ : Nat) (hκ : κ < 14) (c248_groups : Int32) (v1 : Int32) (c73_nearestOrder : Int32) (c274_out : Int32) (a276 : Nat → Int32) (a277 : Nat → Int32) (c310_fresh : Int32) (c313_fresh : Int32) (c319_fresh : Int32) (c322_fresh : Int32) (c325_fresh : Int32) (p0 : c248_groups.toInt ≤ 4) (p1 : 2 ≤ c248_groups.toInt) (p2 : c274_out.toInt ≤ 12) (p3 : 0 ≤ c274_out.toInt) (hr_a276 : dz_rg a276 4 0 3) (hr_a277 : dz_rg a277 12 (-1) 3) (o0 : c248_groups.toInt = ((dz_kg κ : Nat) : Int)) (o1 : c274_out.toInt ≤ ((dz_km κ : Nat) : Int)) : dz_T (f168_X11_arrange fu c248_groups v1 c73_nearestOrder c274_out a276 a277 c310_fresh c313_fresh c319_fresh c322_fresh c325_fresh) (fun r => r.1.toInt ≤ 1 ∧ 0 ≤ r.1.toInt ∧ r.2.2.1.toInt ≤ 12 ∧ 0 ≤ r.2.2.1.toInt ∧ r.2.2.1.toInt ≤ c274_out.toInt ∧ dz_rg r.2.2.2.1 4 0 3 ∧ dz_rg r.2.2.2.2.1 12 (-1) 3) := by
  unfold f168_X11_arrange s168_X11_arrange_0
  refine dz_Tb (t166_X11_readTurns fu hfu _ _ _ (by first | assumption | omega) p0 (hr_a276)) (fun r1 q => ?_)
  obtain ⟨q1_0, q1_1, qa1_1⟩ := q
  have e1 := dz_l0
  refine dz_Teq (fun h2 => ?_) (fun h2 => ?_)
  · skip
    refine dz_Ts ?_
    dsimp only
    exact ⟨(by omega), (by omega), p2, p3, (by first | assumption | omega), (qa1_1), (hr_a277)⟩
  · skip
    refine dz_Tb (t145_X8_empty fu hfu _ _ p2 p3 (hr_a277)) (fun r2 q => ?_)
    obtain ⟨q2_0, q2_1, qa2_1⟩ := q
    refine dz_Tb (t149_X11_startChanged fu hfu _ _ _ _ _ ) (fun r3 _ => ?_)
    have e3 := dz_l1
    have e4 := dz_lm3
    refine dz_Ts ?_
    dsimp only
    exact ⟨(by omega), (by omega), (by first | assumption | omega), q2_1, (by first | assumption | omega), (qa1_1), (qa2_1)⟩
set_option maxHeartbeats 1000000 in
set_option maxRecDepth 10000 in
theorem t170_X8_potInTurn_s (fu : Nat) (hfu : 1000000000000 ≤ fu) (κ : Nat) (hκ : κ < 14) (c248_groups : Int32) (c248_teams : Int32) (c274_out : Int32) (a275 : Nat → Int32) (p0 : c248_groups.toInt ≤ 4) (p1 : 2 ≤ c248_groups.toInt) (p2 : c248_teams.toInt ≤ 12) (p3 : 0 ≤ c248_teams.toInt) (p4 : c274_out.toInt ≤ 12) (p5 : 0 ≤ c274_out.toInt) (p6 : c274_out.toInt ≤ c248_teams.toInt) (hr_a275 : dz_pm a275 (dz_kp κ)) (o0 : c248_groups.toInt = ((dz_kg κ : Nat) : Int)) (o1 : c248_teams.toInt = ((dz_km κ : Nat) : Int)) (o2 : c274_out.toInt ≤ ((dz_km κ : Nat) : Int)) : dz_T (f170_X8_potInTurn fu c248_groups c248_teams c274_out a275) (fun r => r.toInt ≤ 3 ∧ (-1) ≤ r.toInt ∧ r.toInt ≤ c248_teams.toInt + 2 ∧ (r.toInt ≤ (((dz_kp κ : Nat) : Int) - 1))) := by
  unfold f170_X8_potInTurn s170_X8_potInTurn_0
  have hfull := dz_kfull hκ (o := c274_out) (g := c248_groups) (by omega) (by omega) (by omega)
  have hk4 := dz_kp4 hκ
  refine dz_Tle (fun h1 => ?_) (fun h1 => ?_)
  · skip
    have e2 := dz_lm1
    exact dz_Ts ⟨(by omega), (by omega), (by omega), (by omega)⟩
  · skip
    refine dz_Tbe (show f169_X8_fullPots fu c248_groups c274_out = (Option.bind (f160_X3_potOf fu c248_groups c274_out) (fun b2 => (some b2))) from rfl) ?_
    refine dz_Tba ?_
    refine dz_Tbe (show f160_X3_potOf fu c248_groups c274_out = (if (c248_groups ≤ (0 : Int32)) then (some (0 : Int32)) else (if (¬ (c248_groups = (0 : Int32))) then (some (c274_out / c248_groups)) else none)) from rfl) ?_
    have e3 := dz_l0
    refine dz_Tleb (fun h4 => ?_) (fun h4 => ?_)
    · skip
      exfalso; omega
    · skip
      refine dz_Tzb (by omega) ?_
      refine dz_Tsb ?_
      refine dz_Tsb ?_
      have e5 := dz_divq (a := c274_out) (b := c248_groups) 2 11 (by omega) (by omega) (by omega) (by omega)
      refine dz_Tin (by omega) (by omega) ?_
      have e6 := dz_pmat (hr_a275) (i := (c274_out / c248_groups)) (dz_kp4 hκ) (by omega) (by omega)
      have e7 := dz_kp4 hκ
      exact dz_Ts ⟨(by omega), (by omega), (by omega), (by omega)⟩
theorem t171_X10_codeOf_g21 (fu : Nat) (hfu : 1000000000000 ≤ fu) (c261_many : Int32) (a268 : Nat → Int32) (a283 : Nat → Int32) (v1 : Int32) (v2 : Int32) (p0 : c261_many.toInt ≤ 2) (p1 : 2 ≤ c261_many.toInt) (p2 : 0 ≤ v1.toInt) (p3 : v1.toInt ≤ 1) (p4 : 0 ≤ v2.toInt) (p5 : v2.toInt ≤ 0) (p6 : 0 ≤ v2.toInt) (hr_a268 : dz_pt a268 [1]) (hr_a283 : dz_pm a283 1) : dz_T (f171_X10_codeOf fu c261_many a268 a283 v1 v2) (fun r => 0 ≤ r.toInt ∧ r.toInt ≤ 1) := by
  have e : ((dz_kt 1 : Nat) : Int) = 2 := rfl
  have e1 : ((dz_kr 1 : Nat) : Int) = 2 := rfl
  have e2 : ((dz_kp 1 : Nat) : Int) = 1 := rfl
  refine dz_Tw (dz_code fu hfu 1 (by decide) c261_many a268 a283 v1 v2 (by omega) hr_a268 hr_a283 (by omega) (by omega) (by omega)) (fun r h => ?_)
  exact ⟨h.1, by omega⟩
theorem t171_X10_codeOf_g22 (fu : Nat) (hfu : 1000000000000 ≤ fu) (c261_many : Int32) (a268 : Nat → Int32) (a283 : Nat → Int32) (v1 : Int32) (v2 : Int32) (p0 : c261_many.toInt ≤ 2) (p1 : 2 ≤ c261_many.toInt) (p2 : 0 ≤ v1.toInt) (p3 : v1.toInt ≤ 3) (p4 : 0 ≤ v2.toInt) (p5 : v2.toInt ≤ 1) (p6 : 1 ≤ v2.toInt) (hr_a268 : dz_pt a268 [2, 1]) (hr_a283 : dz_pm a283 2) : dz_T (f171_X10_codeOf fu c261_many a268 a283 v1 v2) (fun r => 0 ≤ r.toInt ∧ r.toInt ≤ 3) := by
  have e : ((dz_kt 2 : Nat) : Int) = 4 := rfl
  have e1 : ((dz_kr 2 : Nat) : Int) = 2 := rfl
  have e2 : ((dz_kp 2 : Nat) : Int) = 2 := rfl
  refine dz_Tw (dz_code fu hfu 2 (by decide) c261_many a268 a283 v1 v2 (by omega) hr_a268 hr_a283 (by omega) (by omega) (by omega)) (fun r h => ?_)
  exact ⟨h.1, by omega⟩
theorem t171_X10_codeOf_g23 (fu : Nat) (hfu : 1000000000000 ≤ fu) (c261_many : Int32) (a268 : Nat → Int32) (a283 : Nat → Int32) (v1 : Int32) (v2 : Int32) (p0 : c261_many.toInt ≤ 2) (p1 : 2 ≤ c261_many.toInt) (p2 : 0 ≤ v1.toInt) (p3 : v1.toInt ≤ 7) (p4 : 0 ≤ v2.toInt) (p5 : v2.toInt ≤ 2) (p6 : 2 ≤ v2.toInt) (hr_a268 : dz_pt a268 [4, 2, 1]) (hr_a283 : dz_pm a283 3) : dz_T (f171_X10_codeOf fu c261_many a268 a283 v1 v2) (fun r => 0 ≤ r.toInt ∧ r.toInt ≤ 7) := by
  have e : ((dz_kt 3 : Nat) : Int) = 8 := rfl
  have e1 : ((dz_kr 3 : Nat) : Int) = 2 := rfl
  have e2 : ((dz_kp 3 : Nat) : Int) = 3 := rfl
  refine dz_Tw (dz_code fu hfu 3 (by decide) c261_many a268 a283 v1 v2 (by omega) hr_a268 hr_a283 (by omega) (by omega) (by omega)) (fun r h => ?_)
  exact ⟨h.1, by omega⟩
theorem t171_X10_codeOf_g24 (fu : Nat) (hfu : 1000000000000 ≤ fu) (c261_many : Int32) (a268 : Nat → Int32) (a283 : Nat → Int32) (v1 : Int32) (v2 : Int32) (p0 : c261_many.toInt ≤ 2) (p1 : 2 ≤ c261_many.toInt) (p2 : 0 ≤ v1.toInt) (p3 : v1.toInt ≤ 15) (p4 : 0 ≤ v2.toInt) (p5 : v2.toInt ≤ 3) (p6 : 3 ≤ v2.toInt) (hr_a268 : dz_pt a268 [8, 4, 2, 1]) (hr_a283 : dz_pm a283 4) : dz_T (f171_X10_codeOf fu c261_many a268 a283 v1 v2) (fun r => 0 ≤ r.toInt ∧ r.toInt ≤ 15) := by
  have e : ((dz_kt 4 : Nat) : Int) = 16 := rfl
  have e1 : ((dz_kr 4 : Nat) : Int) = 2 := rfl
  have e2 : ((dz_kp 4 : Nat) : Int) = 4 := rfl
  refine dz_Tw (dz_code fu hfu 4 (by decide) c261_many a268 a283 v1 v2 (by omega) hr_a268 hr_a283 (by omega) (by omega) (by omega)) (fun r h => ?_)
  exact ⟨h.1, by omega⟩
theorem t171_X10_codeOf_g31 (fu : Nat) (hfu : 1000000000000 ≤ fu) (c261_many : Int32) (a268 : Nat → Int32) (a283 : Nat → Int32) (v1 : Int32) (v2 : Int32) (p0 : c261_many.toInt ≤ 6) (p1 : 6 ≤ c261_many.toInt) (p2 : 0 ≤ v1.toInt) (p3 : v1.toInt ≤ 5) (p4 : 0 ≤ v2.toInt) (p5 : v2.toInt ≤ 0) (p6 : 0 ≤ v2.toInt) (hr_a268 : dz_pt a268 [1]) (hr_a283 : dz_pm a283 1) : dz_T (f171_X10_codeOf fu c261_many a268 a283 v1 v2) (fun r => 0 ≤ r.toInt ∧ r.toInt ≤ 5) := by
  have e : ((dz_kt 6 : Nat) : Int) = 6 := rfl
  have e1 : ((dz_kr 6 : Nat) : Int) = 6 := rfl
  have e2 : ((dz_kp 6 : Nat) : Int) = 1 := rfl
  refine dz_Tw (dz_code fu hfu 6 (by decide) c261_many a268 a283 v1 v2 (by omega) hr_a268 hr_a283 (by omega) (by omega) (by omega)) (fun r h => ?_)
  exact ⟨h.1, by omega⟩
theorem t171_X10_codeOf_g32 (fu : Nat) (hfu : 1000000000000 ≤ fu) (c261_many : Int32) (a268 : Nat → Int32) (a283 : Nat → Int32) (v1 : Int32) (v2 : Int32) (p0 : c261_many.toInt ≤ 6) (p1 : 6 ≤ c261_many.toInt) (p2 : 0 ≤ v1.toInt) (p3 : v1.toInt ≤ 35) (p4 : 0 ≤ v2.toInt) (p5 : v2.toInt ≤ 1) (p6 : 1 ≤ v2.toInt) (hr_a268 : dz_pt a268 [6, 1]) (hr_a283 : dz_pm a283 2) : dz_T (f171_X10_codeOf fu c261_many a268 a283 v1 v2) (fun r => 0 ≤ r.toInt ∧ r.toInt ≤ 35) := by
  have e : ((dz_kt 7 : Nat) : Int) = 36 := rfl
  have e1 : ((dz_kr 7 : Nat) : Int) = 6 := rfl
  have e2 : ((dz_kp 7 : Nat) : Int) = 2 := rfl
  refine dz_Tw (dz_code fu hfu 7 (by decide) c261_many a268 a283 v1 v2 (by omega) hr_a268 hr_a283 (by omega) (by omega) (by omega)) (fun r h => ?_)
  exact ⟨h.1, by omega⟩
theorem t171_X10_codeOf_g33 (fu : Nat) (hfu : 1000000000000 ≤ fu) (c261_many : Int32) (a268 : Nat → Int32) (a283 : Nat → Int32) (v1 : Int32) (v2 : Int32) (p0 : c261_many.toInt ≤ 6) (p1 : 6 ≤ c261_many.toInt) (p2 : 0 ≤ v1.toInt) (p3 : v1.toInt ≤ 215) (p4 : 0 ≤ v2.toInt) (p5 : v2.toInt ≤ 2) (p6 : 2 ≤ v2.toInt) (hr_a268 : dz_pt a268 [36, 6, 1]) (hr_a283 : dz_pm a283 3) : dz_T (f171_X10_codeOf fu c261_many a268 a283 v1 v2) (fun r => 0 ≤ r.toInt ∧ r.toInt ≤ 215) := by
  have e : ((dz_kt 8 : Nat) : Int) = 216 := rfl
  have e1 : ((dz_kr 8 : Nat) : Int) = 6 := rfl
  have e2 : ((dz_kp 8 : Nat) : Int) = 3 := rfl
  refine dz_Tw (dz_code fu hfu 8 (by decide) c261_many a268 a283 v1 v2 (by omega) hr_a268 hr_a283 (by omega) (by omega) (by omega)) (fun r h => ?_)
  exact ⟨h.1, by omega⟩
theorem t171_X10_codeOf_g34 (fu : Nat) (hfu : 1000000000000 ≤ fu) (c261_many : Int32) (a268 : Nat → Int32) (a283 : Nat → Int32) (v1 : Int32) (v2 : Int32) (p0 : c261_many.toInt ≤ 6) (p1 : 6 ≤ c261_many.toInt) (p2 : 0 ≤ v1.toInt) (p3 : v1.toInt ≤ 1295) (p4 : 0 ≤ v2.toInt) (p5 : v2.toInt ≤ 3) (p6 : 3 ≤ v2.toInt) (hr_a268 : dz_pt a268 [216, 36, 6, 1]) (hr_a283 : dz_pm a283 4) : dz_T (f171_X10_codeOf fu c261_many a268 a283 v1 v2) (fun r => 0 ≤ r.toInt ∧ r.toInt ≤ 1295) := by
  have e : ((dz_kt 9 : Nat) : Int) = 1296 := rfl
  have e1 : ((dz_kr 9 : Nat) : Int) = 6 := rfl
  have e2 : ((dz_kp 9 : Nat) : Int) = 4 := rfl
  refine dz_Tw (dz_code fu hfu 9 (by decide) c261_many a268 a283 v1 v2 (by omega) hr_a268 hr_a283 (by omega) (by omega) (by omega)) (fun r h => ?_)
  exact ⟨h.1, by omega⟩
theorem t171_X10_codeOf_g41 (fu : Nat) (hfu : 1000000000000 ≤ fu) (c261_many : Int32) (a268 : Nat → Int32) (a283 : Nat → Int32) (v1 : Int32) (v2 : Int32) (p0 : c261_many.toInt ≤ 24) (p1 : 24 ≤ c261_many.toInt) (p2 : 0 ≤ v1.toInt) (p3 : v1.toInt ≤ 23) (p4 : 0 ≤ v2.toInt) (p5 : v2.toInt ≤ 0) (p6 : 0 ≤ v2.toInt) (hr_a268 : dz_pt a268 [1]) (hr_a283 : dz_pm a283 1) : dz_T (f171_X10_codeOf fu c261_many a268 a283 v1 v2) (fun r => 0 ≤ r.toInt ∧ r.toInt ≤ 23) := by
  have e : ((dz_kt 11 : Nat) : Int) = 24 := rfl
  have e1 : ((dz_kr 11 : Nat) : Int) = 24 := rfl
  have e2 : ((dz_kp 11 : Nat) : Int) = 1 := rfl
  refine dz_Tw (dz_code fu hfu 11 (by decide) c261_many a268 a283 v1 v2 (by omega) hr_a268 hr_a283 (by omega) (by omega) (by omega)) (fun r h => ?_)
  exact ⟨h.1, by omega⟩
theorem t171_X10_codeOf_g42 (fu : Nat) (hfu : 1000000000000 ≤ fu) (c261_many : Int32) (a268 : Nat → Int32) (a283 : Nat → Int32) (v1 : Int32) (v2 : Int32) (p0 : c261_many.toInt ≤ 24) (p1 : 24 ≤ c261_many.toInt) (p2 : 0 ≤ v1.toInt) (p3 : v1.toInt ≤ 575) (p4 : 0 ≤ v2.toInt) (p5 : v2.toInt ≤ 1) (p6 : 1 ≤ v2.toInt) (hr_a268 : dz_pt a268 [24, 1]) (hr_a283 : dz_pm a283 2) : dz_T (f171_X10_codeOf fu c261_many a268 a283 v1 v2) (fun r => 0 ≤ r.toInt ∧ r.toInt ≤ 575) := by
  have e : ((dz_kt 12 : Nat) : Int) = 576 := rfl
  have e1 : ((dz_kr 12 : Nat) : Int) = 24 := rfl
  have e2 : ((dz_kp 12 : Nat) : Int) = 2 := rfl
  refine dz_Tw (dz_code fu hfu 12 (by decide) c261_many a268 a283 v1 v2 (by omega) hr_a268 hr_a283 (by omega) (by omega) (by omega)) (fun r h => ?_)
  exact ⟨h.1, by omega⟩
theorem t171_X10_codeOf_g43 (fu : Nat) (hfu : 1000000000000 ≤ fu) (c261_many : Int32) (a268 : Nat → Int32) (a283 : Nat → Int32) (v1 : Int32) (v2 : Int32) (p0 : c261_many.toInt ≤ 24) (p1 : 24 ≤ c261_many.toInt) (p2 : 0 ≤ v1.toInt) (p3 : v1.toInt ≤ 13823) (p4 : 0 ≤ v2.toInt) (p5 : v2.toInt ≤ 2) (p6 : 2 ≤ v2.toInt) (hr_a268 : dz_pt a268 [576, 24, 1]) (hr_a283 : dz_pm a283 3) : dz_T (f171_X10_codeOf fu c261_many a268 a283 v1 v2) (fun r => 0 ≤ r.toInt ∧ r.toInt ≤ 13823) := by
  have e : ((dz_kt 13 : Nat) : Int) = 13824 := rfl
  have e1 : ((dz_kr 13 : Nat) : Int) = 24 := rfl
  have e2 : ((dz_kp 13 : Nat) : Int) = 3 := rfl
  refine dz_Tw (dz_code fu hfu 13 (by decide) c261_many a268 a283 v1 v2 (by omega) hr_a268 hr_a283 (by omega) (by omega) (by omega)) (fun r h => ?_)
  exact ⟨h.1, by omega⟩
set_option maxHeartbeats 1000000 in
theorem t171_X10_codeOf_s (fu : Nat) (hfu : 1000000000000 ≤ fu) (κ : Nat) (hκ : κ < 14) (c261_many : Int32) (a268 : Nat → Int32) (a283 : Nat → Int32) (v1 : Int32) (v2 : Int32) (p0 : c261_many.toInt ≤ 24) (p1 : 0 ≤ c261_many.toInt) (p2 : 0 ≤ v1.toInt) (p3 : v1.toInt ≤ 13823) (p4 : 0 ≤ v2.toInt) (hr_a268 : dz_pt a268 (dz_kS κ)) (hr_a283 : dz_pm a283 (dz_kp κ)) (o0 : v1.toInt ≤ ((dz_kt κ : Nat) : Int) - 1) (o1 : v2.toInt = ((dz_kp κ : Nat) : Int) - 1) (o2 : c261_many.toInt = ((dz_kr κ : Nat) : Int)) : dz_T (f171_X10_codeOf fu c261_many a268 a283 v1 v2) (fun r => r.toInt ≤ 13823 ∧ 0 ≤ r.toInt) := by
  rcases (show κ = 0 ∨ κ = 1 ∨ κ = 2 ∨ κ = 3 ∨ κ = 4 ∨ κ = 5 ∨ κ = 6 ∨ κ = 7 ∨ κ = 8 ∨ κ = 9 ∨ κ = 10 ∨ κ = 11 ∨ κ = 12 ∨ κ = 13 by omega) with rfl | rfl | rfl | rfl | rfl | rfl | rfl | rfl | rfl | rfl | rfl | rfl | rfl | rfl
  · skip
    exfalso
    have o0 : v1.toInt ≤ (1 : Int) - 1 := o0
    have o1 : v2.toInt = (0 : Int) - 1 := o1
    have o2 : c261_many.toInt = (2 : Int) := o2
    omega
  · skip
    have o0 : v1.toInt ≤ (2 : Int) - 1 := o0
    have o1 : v2.toInt = (1 : Int) - 1 := o1
    have o2 : c261_many.toInt = (2 : Int) := o2
    refine dz_Tw (t171_X10_codeOf_g21 fu hfu c261_many a268 a283 v1 v2 (by first | assumption | omega) (by first | assumption | omega) (by first | assumption | omega) (by first | assumption | omega) (by first | assumption | omega) (by first | assumption | omega) (by first | assumption | omega) (by first | exact hr_a268 | exact dz_rgm hr_a268 (by omega) (by omega) | exact dz_pmr hr_a268 (by decide) (by omega) (by omega) (by omega) | exact dz_ptr hr_a268 (by decide) (by decide) (by omega) | exact dz_ptr hr_a268 (by decide) (by decide) (by show _ ≤ 1; omega) | exact dz_rgs hr_a268 (by omega)) (by first | exact hr_a283 | exact dz_rgm hr_a283 (by omega) (by omega) | exact dz_pmr hr_a283 (by decide) (by omega) (by omega) (by omega) | exact dz_ptr hr_a283 (by decide) (by decide) (by omega) | exact dz_ptr hr_a283 (by decide) (by decide) (by show _ ≤ 1; omega) | exact dz_rgs hr_a283 (by omega))) (fun r h => ?_)
    obtain ⟨g0, g1⟩ := h
    exact ⟨(by first | assumption | omega), (by first | assumption | omega)⟩
  · skip
    have o0 : v1.toInt ≤ (4 : Int) - 1 := o0
    have o1 : v2.toInt = (2 : Int) - 1 := o1
    have o2 : c261_many.toInt = (2 : Int) := o2
    refine dz_Tw (t171_X10_codeOf_g22 fu hfu c261_many a268 a283 v1 v2 (by first | assumption | omega) (by first | assumption | omega) (by first | assumption | omega) (by first | assumption | omega) (by first | assumption | omega) (by first | assumption | omega) (by first | assumption | omega) (by first | exact hr_a268 | exact dz_rgm hr_a268 (by omega) (by omega) | exact dz_pmr hr_a268 (by decide) (by omega) (by omega) (by omega) | exact dz_ptr hr_a268 (by decide) (by decide) (by omega) | exact dz_ptr hr_a268 (by decide) (by decide) (by show _ ≤ 2; omega) | exact dz_rgs hr_a268 (by omega)) (by first | exact hr_a283 | exact dz_rgm hr_a283 (by omega) (by omega) | exact dz_pmr hr_a283 (by decide) (by omega) (by omega) (by omega) | exact dz_ptr hr_a283 (by decide) (by decide) (by omega) | exact dz_ptr hr_a283 (by decide) (by decide) (by show _ ≤ 2; omega) | exact dz_rgs hr_a283 (by omega))) (fun r h => ?_)
    obtain ⟨g0, g1⟩ := h
    exact ⟨(by first | assumption | omega), (by first | assumption | omega)⟩
  · skip
    have o0 : v1.toInt ≤ (8 : Int) - 1 := o0
    have o1 : v2.toInt = (3 : Int) - 1 := o1
    have o2 : c261_many.toInt = (2 : Int) := o2
    refine dz_Tw (t171_X10_codeOf_g23 fu hfu c261_many a268 a283 v1 v2 (by first | assumption | omega) (by first | assumption | omega) (by first | assumption | omega) (by first | assumption | omega) (by first | assumption | omega) (by first | assumption | omega) (by first | assumption | omega) (by first | exact hr_a268 | exact dz_rgm hr_a268 (by omega) (by omega) | exact dz_pmr hr_a268 (by decide) (by omega) (by omega) (by omega) | exact dz_ptr hr_a268 (by decide) (by decide) (by omega) | exact dz_ptr hr_a268 (by decide) (by decide) (by show _ ≤ 3; omega) | exact dz_rgs hr_a268 (by omega)) (by first | exact hr_a283 | exact dz_rgm hr_a283 (by omega) (by omega) | exact dz_pmr hr_a283 (by decide) (by omega) (by omega) (by omega) | exact dz_ptr hr_a283 (by decide) (by decide) (by omega) | exact dz_ptr hr_a283 (by decide) (by decide) (by show _ ≤ 3; omega) | exact dz_rgs hr_a283 (by omega))) (fun r h => ?_)
    obtain ⟨g0, g1⟩ := h
    exact ⟨(by first | assumption | omega), (by first | assumption | omega)⟩
  · skip
    have o0 : v1.toInt ≤ (16 : Int) - 1 := o0
    have o1 : v2.toInt = (4 : Int) - 1 := o1
    have o2 : c261_many.toInt = (2 : Int) := o2
    refine dz_Tw (t171_X10_codeOf_g24 fu hfu c261_many a268 a283 v1 v2 (by first | assumption | omega) (by first | assumption | omega) (by first | assumption | omega) (by first | assumption | omega) (by first | assumption | omega) (by first | assumption | omega) (by first | assumption | omega) (by first | exact hr_a268 | exact dz_rgm hr_a268 (by omega) (by omega) | exact dz_pmr hr_a268 (by decide) (by omega) (by omega) (by omega) | exact dz_ptr hr_a268 (by decide) (by decide) (by omega) | exact dz_ptr hr_a268 (by decide) (by decide) (by show _ ≤ 4; omega) | exact dz_rgs hr_a268 (by omega)) (by first | exact hr_a283 | exact dz_rgm hr_a283 (by omega) (by omega) | exact dz_pmr hr_a283 (by decide) (by omega) (by omega) (by omega) | exact dz_ptr hr_a283 (by decide) (by decide) (by omega) | exact dz_ptr hr_a283 (by decide) (by decide) (by show _ ≤ 4; omega) | exact dz_rgs hr_a283 (by omega))) (fun r h => ?_)
    obtain ⟨g0, g1⟩ := h
    exact ⟨(by first | assumption | omega), (by first | assumption | omega)⟩
  · skip
    exfalso
    have o0 : v1.toInt ≤ (1 : Int) - 1 := o0
    have o1 : v2.toInt = (0 : Int) - 1 := o1
    have o2 : c261_many.toInt = (6 : Int) := o2
    omega
  · skip
    have o0 : v1.toInt ≤ (6 : Int) - 1 := o0
    have o1 : v2.toInt = (1 : Int) - 1 := o1
    have o2 : c261_many.toInt = (6 : Int) := o2
    refine dz_Tw (t171_X10_codeOf_g31 fu hfu c261_many a268 a283 v1 v2 (by first | assumption | omega) (by first | assumption | omega) (by first | assumption | omega) (by first | assumption | omega) (by first | assumption | omega) (by first | assumption | omega) (by first | assumption | omega) (by first | exact hr_a268 | exact dz_rgm hr_a268 (by omega) (by omega) | exact dz_pmr hr_a268 (by decide) (by omega) (by omega) (by omega) | exact dz_ptr hr_a268 (by decide) (by decide) (by omega) | exact dz_ptr hr_a268 (by decide) (by decide) (by show _ ≤ 1; omega) | exact dz_rgs hr_a268 (by omega)) (by first | exact hr_a283 | exact dz_rgm hr_a283 (by omega) (by omega) | exact dz_pmr hr_a283 (by decide) (by omega) (by omega) (by omega) | exact dz_ptr hr_a283 (by decide) (by decide) (by omega) | exact dz_ptr hr_a283 (by decide) (by decide) (by show _ ≤ 1; omega) | exact dz_rgs hr_a283 (by omega))) (fun r h => ?_)
    obtain ⟨g0, g1⟩ := h
    exact ⟨(by first | assumption | omega), (by first | assumption | omega)⟩
  · skip
    have o0 : v1.toInt ≤ (36 : Int) - 1 := o0
    have o1 : v2.toInt = (2 : Int) - 1 := o1
    have o2 : c261_many.toInt = (6 : Int) := o2
    refine dz_Tw (t171_X10_codeOf_g32 fu hfu c261_many a268 a283 v1 v2 (by first | assumption | omega) (by first | assumption | omega) (by first | assumption | omega) (by first | assumption | omega) (by first | assumption | omega) (by first | assumption | omega) (by first | assumption | omega) (by first | exact hr_a268 | exact dz_rgm hr_a268 (by omega) (by omega) | exact dz_pmr hr_a268 (by decide) (by omega) (by omega) (by omega) | exact dz_ptr hr_a268 (by decide) (by decide) (by omega) | exact dz_ptr hr_a268 (by decide) (by decide) (by show _ ≤ 2; omega) | exact dz_rgs hr_a268 (by omega)) (by first | exact hr_a283 | exact dz_rgm hr_a283 (by omega) (by omega) | exact dz_pmr hr_a283 (by decide) (by omega) (by omega) (by omega) | exact dz_ptr hr_a283 (by decide) (by decide) (by omega) | exact dz_ptr hr_a283 (by decide) (by decide) (by show _ ≤ 2; omega) | exact dz_rgs hr_a283 (by omega))) (fun r h => ?_)
    obtain ⟨g0, g1⟩ := h
    exact ⟨(by first | assumption | omega), (by first | assumption | omega)⟩
  · skip
    have o0 : v1.toInt ≤ (216 : Int) - 1 := o0
    have o1 : v2.toInt = (3 : Int) - 1 := o1
    have o2 : c261_many.toInt = (6 : Int) := o2
    refine dz_Tw (t171_X10_codeOf_g33 fu hfu c261_many a268 a283 v1 v2 (by first | assumption | omega) (by first | assumption | omega) (by first | assumption | omega) (by first | assumption | omega) (by first | assumption | omega) (by first | assumption | omega) (by first | assumption | omega) (by first | exact hr_a268 | exact dz_rgm hr_a268 (by omega) (by omega) | exact dz_pmr hr_a268 (by decide) (by omega) (by omega) (by omega) | exact dz_ptr hr_a268 (by decide) (by decide) (by omega) | exact dz_ptr hr_a268 (by decide) (by decide) (by show _ ≤ 3; omega) | exact dz_rgs hr_a268 (by omega)) (by first | exact hr_a283 | exact dz_rgm hr_a283 (by omega) (by omega) | exact dz_pmr hr_a283 (by decide) (by omega) (by omega) (by omega) | exact dz_ptr hr_a283 (by decide) (by decide) (by omega) | exact dz_ptr hr_a283 (by decide) (by decide) (by show _ ≤ 3; omega) | exact dz_rgs hr_a283 (by omega))) (fun r h => ?_)
    obtain ⟨g0, g1⟩ := h
    exact ⟨(by first | assumption | omega), (by first | assumption | omega)⟩
  · skip
    have o0 : v1.toInt ≤ (1296 : Int) - 1 := o0
    have o1 : v2.toInt = (4 : Int) - 1 := o1
    have o2 : c261_many.toInt = (6 : Int) := o2
    refine dz_Tw (t171_X10_codeOf_g34 fu hfu c261_many a268 a283 v1 v2 (by first | assumption | omega) (by first | assumption | omega) (by first | assumption | omega) (by first | assumption | omega) (by first | assumption | omega) (by first | assumption | omega) (by first | assumption | omega) (by first | exact hr_a268 | exact dz_rgm hr_a268 (by omega) (by omega) | exact dz_pmr hr_a268 (by decide) (by omega) (by omega) (by omega) | exact dz_ptr hr_a268 (by decide) (by decide) (by omega) | exact dz_ptr hr_a268 (by decide) (by decide) (by show _ ≤ 4; omega) | exact dz_rgs hr_a268 (by omega)) (by first | exact hr_a283 | exact dz_rgm hr_a283 (by omega) (by omega) | exact dz_pmr hr_a283 (by decide) (by omega) (by omega) (by omega) | exact dz_ptr hr_a283 (by decide) (by decide) (by omega) | exact dz_ptr hr_a283 (by decide) (by decide) (by show _ ≤ 4; omega) | exact dz_rgs hr_a283 (by omega))) (fun r h => ?_)
    obtain ⟨g0, g1⟩ := h
    exact ⟨(by first | assumption | omega), (by first | assumption | omega)⟩
  · skip
    exfalso
    have o0 : v1.toInt ≤ (1 : Int) - 1 := o0
    have o1 : v2.toInt = (0 : Int) - 1 := o1
    have o2 : c261_many.toInt = (24 : Int) := o2
    omega
  · skip
    have o0 : v1.toInt ≤ (24 : Int) - 1 := o0
    have o1 : v2.toInt = (1 : Int) - 1 := o1
    have o2 : c261_many.toInt = (24 : Int) := o2
    refine dz_Tw (t171_X10_codeOf_g41 fu hfu c261_many a268 a283 v1 v2 (by first | assumption | omega) (by first | assumption | omega) (by first | assumption | omega) (by first | assumption | omega) (by first | assumption | omega) (by first | assumption | omega) (by first | assumption | omega) (by first | exact hr_a268 | exact dz_rgm hr_a268 (by omega) (by omega) | exact dz_pmr hr_a268 (by decide) (by omega) (by omega) (by omega) | exact dz_ptr hr_a268 (by decide) (by decide) (by omega) | exact dz_ptr hr_a268 (by decide) (by decide) (by show _ ≤ 1; omega) | exact dz_rgs hr_a268 (by omega)) (by first | exact hr_a283 | exact dz_rgm hr_a283 (by omega) (by omega) | exact dz_pmr hr_a283 (by decide) (by omega) (by omega) (by omega) | exact dz_ptr hr_a283 (by decide) (by decide) (by omega) | exact dz_ptr hr_a283 (by decide) (by decide) (by show _ ≤ 1; omega) | exact dz_rgs hr_a283 (by omega))) (fun r h => ?_)
    obtain ⟨g0, g1⟩ := h
    exact ⟨(by first | assumption | omega), (by first | assumption | omega)⟩
  · skip
    have o0 : v1.toInt ≤ (576 : Int) - 1 := o0
    have o1 : v2.toInt = (2 : Int) - 1 := o1
    have o2 : c261_many.toInt = (24 : Int) := o2
    refine dz_Tw (t171_X10_codeOf_g42 fu hfu c261_many a268 a283 v1 v2 (by first | assumption | omega) (by first | assumption | omega) (by first | assumption | omega) (by first | assumption | omega) (by first | assumption | omega) (by first | assumption | omega) (by first | assumption | omega) (by first | exact hr_a268 | exact dz_rgm hr_a268 (by omega) (by omega) | exact dz_pmr hr_a268 (by decide) (by omega) (by omega) (by omega) | exact dz_ptr hr_a268 (by decide) (by decide) (by omega) | exact dz_ptr hr_a268 (by decide) (by decide) (by show _ ≤ 2; omega) | exact dz_rgs hr_a268 (by omega)) (by first | exact hr_a283 | exact dz_rgm hr_a283 (by omega) (by omega) | exact dz_pmr hr_a283 (by decide) (by omega) (by omega) (by omega) | exact dz_ptr hr_a283 (by decide) (by decide) (by omega) | exact dz_ptr hr_a283 (by decide) (by decide) (by show _ ≤ 2; omega) | exact dz_rgs hr_a283 (by omega))) (fun r h => ?_)
    obtain ⟨g0, g1⟩ := h
    exact ⟨(by first | assumption | omega), (by first | assumption | omega)⟩
  · skip
    have o0 : v1.toInt ≤ (13824 : Int) - 1 := o0
    have o1 : v2.toInt = (3 : Int) - 1 := o1
    have o2 : c261_many.toInt = (24 : Int) := o2
    refine dz_Tw (t171_X10_codeOf_g43 fu hfu c261_many a268 a283 v1 v2 (by first | assumption | omega) (by first | assumption | omega) (by first | assumption | omega) (by first | assumption | omega) (by first | assumption | omega) (by first | assumption | omega) (by first | assumption | omega) (by first | exact hr_a268 | exact dz_rgm hr_a268 (by omega) (by omega) | exact dz_pmr hr_a268 (by decide) (by omega) (by omega) (by omega) | exact dz_ptr hr_a268 (by decide) (by decide) (by omega) | exact dz_ptr hr_a268 (by decide) (by decide) (by show _ ≤ 3; omega) | exact dz_rgs hr_a268 (by omega)) (by first | exact hr_a283 | exact dz_rgm hr_a283 (by omega) (by omega) | exact dz_pmr hr_a283 (by decide) (by omega) (by omega) (by omega) | exact dz_ptr hr_a283 (by decide) (by decide) (by omega) | exact dz_ptr hr_a283 (by decide) (by decide) (by show _ ≤ 3; omega) | exact dz_rgs hr_a283 (by omega))) (fun r h => ?_)
    obtain ⟨g0, g1⟩ := h
    exact ⟨(by first | assumption | omega), (by first | assumption | omega)⟩
abbrev p172_X10_fillLast_g21 (fu : Nat) (c248_pots : Int32) (c261_many : Int32) (c267_total : Int32) (a268 : Nat → Int32) (a269 : Nat → Int32) (n269 : Nat) (a282 : Nat → Int32) (a283 : Nat → Int32) (k : Nat) : Prop :=
  (∀ (v1 : Int32) (v2 : Int32) (v3 : Int32) (v4 : Int32) (a281 : Nat → Int32), v1.toInt ≤ 0 → 0 ≤ v1.toInt → v2.toInt ≤ 2 → 2 ≤ v2.toInt → v3.toInt ≤ 1 → 1 ≤ v3.toInt → v4.toInt ≤ 1 → 0 ≤ v4.toInt → dz_rg a281 601 0 16777215 → 0 + 0 + (1 - v4.toInt) * 64 + 8 ≤ ((k : Nat) : Int) → dz_T ((F172_X10_fillLast fu c248_pots c261_many c267_total a268 a269 n269 a282 a283 k).1 v1 v2 v3 v4 a281) (fun r => dz_rg r 601 0 16777215)) ∧ (∀ (v1 : Int32) (v2 : Int32) (v3 : Int32) (v4 : Int32) (v5 : Int32) (v6 : Int32) (v7 : Int32) (a281 : Nat → Int32), v1.toInt ≤ 0 → 0 ≤ v1.toInt → v2.toInt ≤ 2 → 2 ≤ v2.toInt → v3.toInt ≤ 1 → 1 ≤ v3.toInt → v4.toInt ≤ 0 → 0 ≤ v4.toInt → v5.toInt ≤ 1 → 0 ≤ v5.toInt → v6.toInt ≤ 1 → 0 ≤ v6.toInt → v7.toInt ≤ 1 → 0 ≤ v7.toInt → v6.toInt ≤ v5.toInt → v6.toInt ≤ v7.toInt → v7.toInt ≤ v5.toInt → dz_rg a281 601 0 16777215 → 0 + 0 + ((1 - v4.toInt) - 1) * 64 + 0 + (1 - v7.toInt) * 16 + 16 ≤ ((k : Nat) : Int) → dz_T ((F172_X10_fillLast fu c248_pots c261_many c267_total a268 a269 n269 a282 a283 k).2.1 v1 v2 v3 v4 v5 v6 v7 a281) (fun r => dz_rg r 601 0 16777215))
set_option maxHeartbeats 1000000 in
set_option maxRecDepth 10000 in
theorem t172_X10_fillLast_h1_g21 (fu : Nat) (hfu : 1000000000000 ≤ fu) (c248_pots : Int32) (c261_many : Int32) (c267_total : Int32) (a268 : Nat → Int32) (a269 : Nat → Int32) (n269 : Nat) (a282 : Nat → Int32) (a283 : Nat → Int32) (p0 : c248_pots.toInt ≤ 1) (p1 : 1 ≤ c248_pots.toInt) (p2 : c261_many.toInt ≤ 2) (p3 : 2 ≤ c261_many.toInt) (p4 : c267_total.toInt ≤ 2) (p5 : 2 ≤ c267_total.toInt) (p6 : ((n269 : Nat) : Int) ≤ 13824) (p7 : 1 ≤ ((n269 : Nat) : Int)) (p8 : c267_total.toInt ≤ ((n269 : Nat) : Int)) (hr_a268 : dz_pt a268 [1]) (hr_a269 : dz_rg a269 n269 0 1023) (hr_a282 : dz_pt a282 [0, 1]) (hr_a283 : dz_pm a283 1) (o0 : 1 ≤ c248_pots.toInt) (k : Nat) (ih : ∀ j9, j9 < k → p172_X10_fillLast_g21 fu c248_pots c261_many c267_total a268 a269 n269 a282 a283 j9) : ∀ (v1 : Int32) (v2 : Int32) (v3 : Int32) (v4 : Int32) (a281 : Nat → Int32), v1.toInt ≤ 0 → 0 ≤ v1.toInt → v2.toInt ≤ 2 → 2 ≤ v2.toInt → v3.toInt ≤ 1 → 1 ≤ v3.toInt → v4.toInt ≤ 1 → 0 ≤ v4.toInt → dz_rg a281 601 0 16777215 → 0 + 0 + (1 - v4.toInt) * 64 + 8 ≤ ((k : Nat) : Int) → dz_T ((F172_X10_fillLast fu c248_pots c261_many c267_total a268 a269 n269 a282 a283 k).1 v1 v2 v3 v4 a281) (fun r => dz_rg r 601 0 16777215) := by
  intro v1 v2 v3 v4 a281 i0 i1 i2 i3 i4 i5 i6 i7 hr_a281 hm
  obtain ⟨k0, rfl⟩ : ∃ x, k = x + 1 := ⟨k - 1, by omega⟩
  show dz_T (s172_X10_fillLast_1 fu c248_pots c261_many c267_total a268 a269 n269 a282 a283 (F172_X10_fillLast fu c248_pots c261_many c267_total a268 a269 n269 a282 a283 k0).2.1  v1 v2 v3 v4 a281) _
  unfold s172_X10_fillLast_1
  have e1 := dz_l1
  have e2 := dz_add (a := v1) (b := (1 : Int32)) (by omega) (by omega)
  refine dz_Tin (by omega) (by omega) ?_
  have e3 := dz_ptat (hr_a282) (i := (v1 + (1 : Int32))) (x := 1) 1 (by omega) (by decide)
  refine dz_Tle (fun h4 => ?_) (fun h4 => ?_)
  · skip
    exact dz_Ts (hr_a281)
  · skip
    refine dz_Tin (by omega) (by omega) ?_
    have e5 := dz_ptat (hr_a282) (i := v1) (x := 0) 0 (by omega) (by decide)
    have e6 := dz_sub (a := v4) (b := (a282 v1.toNatClampNeg)) (by omega) (by omega)
    refine dz_Tb (t171_X10_codeOf_g21 fu hfu _ _ _ _ _ p2 p3 (by omega) (by omega) i1 i0 i1 (hr_a268) (hr_a283)) (fun r1 q => ?_)
    obtain ⟨q1_0, q1_1⟩ := q
    have e7 := dz_l0
    exact (ih k0 (by omega)).2 v1 v2 v3 v4 r1 (0 : Int32) (0 : Int32) a281 i0 i1 i2 i3 i4 i5 (by first | assumption | omega) i7 q1_1 q1_0 (by omega) (by omega) (by omega) (by omega) (by omega) (by omega) (by omega) (hr_a281) (by omega)
set_option maxHeartbeats 1000000 in
set_option maxRecDepth 10000 in
theorem t172_X10_fillLast_h2_g21 (fu : Nat) (hfu : 1000000000000 ≤ fu) (c248_pots : Int32) (c261_many : Int32) (c267_total : Int32) (a268 : Nat → Int32) (a269 : Nat → Int32) (n269 : Nat) (a282 : Nat → Int32) (a283 : Nat → Int32) (p0 : c248_pots.toInt ≤ 1) (p1 : 1 ≤ c248_pots.toInt) (p2 : c261_many.toInt ≤ 2) (p3 : 2 ≤ c261_many.toInt) (p4 : c267_total.toInt ≤ 2) (p5 : 2 ≤ c267_total.toInt) (p6 : ((n269 : Nat) : Int) ≤ 13824) (p7 : 1 ≤ ((n269 : Nat) : Int)) (p8 : c267_total.toInt ≤ ((n269 : Nat) : Int)) (hr_a268 : dz_pt a268 [1]) (hr_a269 : dz_rg a269 n269 0 1023) (hr_a282 : dz_pt a282 [0, 1]) (hr_a283 : dz_pm a283 1) (o0 : 1 ≤ c248_pots.toInt) (k : Nat) (ih : ∀ j9, j9 < k → p172_X10_fillLast_g21 fu c248_pots c261_many c267_total a268 a269 n269 a282 a283 j9) : ∀ (v1 : Int32) (v2 : Int32) (v3 : Int32) (v4 : Int32) (v5 : Int32) (v6 : Int32) (v7 : Int32) (a281 : Nat → Int32), v1.toInt ≤ 0 → 0 ≤ v1.toInt → v2.toInt ≤ 2 → 2 ≤ v2.toInt → v3.toInt ≤ 1 → 1 ≤ v3.toInt → v4.toInt ≤ 0 → 0 ≤ v4.toInt → v5.toInt ≤ 1 → 0 ≤ v5.toInt → v6.toInt ≤ 1 → 0 ≤ v6.toInt → v7.toInt ≤ 1 → 0 ≤ v7.toInt → v6.toInt ≤ v5.toInt → v6.toInt ≤ v7.toInt → v7.toInt ≤ v5.toInt → dz_rg a281 601 0 16777215 → 0 + 0 + ((1 - v4.toInt) - 1) * 64 + 0 + (1 - v7.toInt) * 16 + 16 ≤ ((k : Nat) : Int) → dz_T ((F172_X10_fillLast fu c248_pots c261_many c267_total a268 a269 n269 a282 a283 k).2.1 v1 v2 v3 v4 v5 v6 v7 a281) (fun r => dz_rg r 601 0 16777215) := by
  intro v1 v2 v3 v4 v5 v6 v7 a281 i0 i1 i2 i3 i4 i5 i6 i7 i8 i9 i10 i11 i12 i13 i14 i15 i16 hr_a281 hm
  obtain ⟨k0, rfl⟩ : ∃ x, k = x + 1 := ⟨k - 1, by omega⟩
  show dz_T (s172_X10_fillLast_2 fu c248_pots c261_many c267_total a268 a269 n269 a282 a283 (F172_X10_fillLast fu c248_pots c261_many c267_total a268 a269 n269 a282 a283 k0).2.2.1 (F172_X10_fillLast fu c248_pots c261_many c267_total a268 a269 n269 a282 a283 k0).2.2.2  v1 v2 v3 v4 v5 v6 v7 a281) _
  unfold s172_X10_fillLast_2
  refine dz_Tle (fun h1 => ?_) (fun h1 => ?_)
  · skip
    exfalso; omega
  · skip
    refine dz_Tin (by omega) (by omega) ?_
    have e2 := dz_rgat (hr_a269) (i := v5) (by omega) (by omega)
    have e3 := dz_l0
    refine dz_Teq (fun h4 => ?_) (fun h4 => ?_)
    · skip
      obtain ⟨k1, rfl⟩ : ∃ x, k0 = x + 1 := ⟨k0 - 1, by omega⟩
      show dz_T (s172_X10_fillLast_4 fu c248_pots c261_many c267_total a268 a269 n269 a282 a283 (F172_X10_fillLast fu c248_pots c261_many c267_total a268 a269 n269 a282 a283 k1).2.1 (F172_X10_fillLast fu c248_pots c261_many c267_total a268 a269 n269 a282 a283 k1).2.2.1 v1 v2 v3 v4 v5 (v6 ||| ((1 : Int32) <<< (v7 &&& (31 : Int32)))) v7 a281) _
      unfold s172_X10_fillLast_4
      have e5 := dz_add (a := v5) (b := v3) (by omega) (by omega)
      refine dz_Tlt (fun h6 => ?_) (fun h6 => ?_)
      · skip
        have e7 := dz_l1
        have e8 := dz_l31
        have e9 := dz_andr (a := v7) (b := (31 : Int32)) (by omega)
        have e10 := dz_andl (a := v7) (b := (31 : Int32)) (by omega)
        have e11 := dz_shl1 (b := v7) 0 0 (by omega) (by omega) (by omega)
        have e12 := dz_orb (a := v6) (b := ((1 : Int32) <<< (v7 &&& (31 : Int32)))) 1 (by omega) (by omega) (by omega) (by omega) (by omega)
        have e13 := dz_add (a := v7) (b := (1 : Int32)) (by omega) (by omega)
        exact (ih k1 (by omega)).2 v1 v2 v3 v4 (v5 + v3) (v6 ||| ((1 : Int32) <<< (v7 &&& (31 : Int32)))) (v7 + (1 : Int32)) a281 i0 i1 i2 i3 i4 i5 i6 i7 (by omega) (by omega) (by omega) (by omega) (by omega) (by omega) (by omega) (by omega) (by omega) (hr_a281) (by omega)
      · skip
        obtain ⟨k2, rfl⟩ : ∃ x, k1 = x + 1 := ⟨k1 - 1, by omega⟩
        show dz_T (s172_X10_fillLast_3 fu c248_pots c261_many c267_total a268 a269 n269 a282 a283 (F172_X10_fillLast fu c248_pots c261_many c267_total a268 a269 n269 a282 a283 k2).1 v1 v2 v3 v4 (v6 ||| ((1 : Int32) <<< (v7 &&& (31 : Int32)))) a281) _
        unfold s172_X10_fillLast_3
        refine dz_Tin (by omega) (by omega) ?_
        have e14 := dz_l1
        have e15 := dz_add (a := v4) (b := (1 : Int32)) (by omega) (by omega)
        have e16 := dz_l31
        have e17 := dz_andr (a := v7) (b := (31 : Int32)) (by omega)
        have e18 := dz_andl (a := v7) (b := (31 : Int32)) (by omega)
        have e19 := dz_shl1 (b := v7) 0 1 (by omega) (by omega) (by omega)
        have e20 := dz_orb (a := v6) (b := ((1 : Int32) <<< (v7 &&& (31 : Int32)))) 2 (by omega) (by omega) (by omega) (by omega) (by omega)
        exact (ih k2 (by omega)).1 v1 v2 v3 (v4 + (1 : Int32)) (upd a281 v4.toNatClampNeg (v6 ||| ((1 : Int32) <<< (v7 &&& (31 : Int32))))) i0 i1 i2 i3 i4 i5 (by omega) (by omega) (dz_rgu (hr_a281) (by omega) (by omega)) (by omega)
    · skip
      obtain ⟨k3, rfl⟩ : ∃ x, k0 = x + 1 := ⟨k0 - 1, by omega⟩
      show dz_T (s172_X10_fillLast_4 fu c248_pots c261_many c267_total a268 a269 n269 a282 a283 (F172_X10_fillLast fu c248_pots c261_many c267_total a268 a269 n269 a282 a283 k3).2.1 (F172_X10_fillLast fu c248_pots c261_many c267_total a268 a269 n269 a282 a283 k3).2.2.1 v1 v2 v3 v4 v5 v6 v7 a281) _
      unfold s172_X10_fillLast_4
      have e21 := dz_add (a := v5) (b := v3) (by omega) (by omega)
      refine dz_Tlt (fun h22 => ?_) (fun h22 => ?_)
      · skip
        have e23 := dz_l1
        have e24 := dz_add (a := v7) (b := (1 : Int32)) (by omega) (by omega)
        exact (ih k3 (by omega)).2 v1 v2 v3 v4 (v5 + v3) v6 (v7 + (1 : Int32)) a281 i0 i1 i2 i3 i4 i5 i6 i7 (by omega) (by omega) i10 i11 (by omega) (by omega) (by omega) (by omega) (by omega) (hr_a281) (by omega)
      · skip
        obtain ⟨k4, rfl⟩ : ∃ x, k3 = x + 1 := ⟨k3 - 1, by omega⟩
        show dz_T (s172_X10_fillLast_3 fu c248_pots c261_many c267_total a268 a269 n269 a282 a283 (F172_X10_fillLast fu c248_pots c261_many c267_total a268 a269 n269 a282 a283 k4).1 v1 v2 v3 v4 v6 a281) _
        unfold s172_X10_fillLast_3
        refine dz_Tin (by omega) (by omega) ?_
        have e25 := dz_l1
        have e26 := dz_add (a := v4) (b := (1 : Int32)) (by omega) (by omega)
        exact (ih k4 (by omega)).1 v1 v2 v3 (v4 + (1 : Int32)) (upd a281 v4.toNatClampNeg v6) i0 i1 i2 i3 i4 i5 (by omega) (by omega) (dz_rgu (hr_a281) (by omega) (by omega)) (by omega)
theorem t172_X10_fillLast_I_g21 (fu : Nat) (hfu : 1000000000000 ≤ fu) (c248_pots : Int32) (c261_many : Int32) (c267_total : Int32) (a268 : Nat → Int32) (a269 : Nat → Int32) (n269 : Nat) (a282 : Nat → Int32) (a283 : Nat → Int32) (p0 : c248_pots.toInt ≤ 1) (p1 : 1 ≤ c248_pots.toInt) (p2 : c261_many.toInt ≤ 2) (p3 : 2 ≤ c261_many.toInt) (p4 : c267_total.toInt ≤ 2) (p5 : 2 ≤ c267_total.toInt) (p6 : ((n269 : Nat) : Int) ≤ 13824) (p7 : 1 ≤ ((n269 : Nat) : Int)) (p8 : c267_total.toInt ≤ ((n269 : Nat) : Int)) (hr_a268 : dz_pt a268 [1]) (hr_a269 : dz_rg a269 n269 0 1023) (hr_a282 : dz_pt a282 [0, 1]) (hr_a283 : dz_pm a283 1) (o0 : 1 ≤ c248_pots.toInt) (k : Nat) : p172_X10_fillLast_g21 fu c248_pots c261_many c267_total a268 a269 n269 a282 a283 k := by
  induction k using Nat.strongRecOn with
  | _ k ih => exact ⟨t172_X10_fillLast_h1_g21 fu hfu c248_pots c261_many c267_total a268 a269 n269 a282 a283 p0 p1 p2 p3 p4 p5 p6 p7 p8 hr_a268 hr_a269 hr_a282 hr_a283 o0 k ih, t172_X10_fillLast_h2_g21 fu hfu c248_pots c261_many c267_total a268 a269 n269 a282 a283 p0 p1 p2 p3 p4 p5 p6 p7 p8 hr_a268 hr_a269 hr_a282 hr_a283 o0 k ih⟩
set_option maxHeartbeats 1000000 in
set_option maxRecDepth 10000 in
theorem t172_X10_fillLast_E_g21 (fu : Nat) (hfu : 1000000000000 ≤ fu) (c248_pots : Int32) (c261_many : Int32) (c267_total : Int32) (a268 : Nat → Int32) (a269 : Nat → Int32) (n269 : Nat) (a282 : Nat → Int32) (a283 : Nat → Int32) (a281 : Nat → Int32) (p0 : c248_pots.toInt ≤ 1) (p1 : 1 ≤ c248_pots.toInt) (p2 : c261_many.toInt ≤ 2) (p3 : 2 ≤ c261_many.toInt) (p4 : c267_total.toInt ≤ 2) (p5 : 2 ≤ c267_total.toInt) (p6 : ((n269 : Nat) : Int) ≤ 13824) (p7 : 1 ≤ ((n269 : Nat) : Int)) (p8 : c267_total.toInt ≤ ((n269 : Nat) : Int)) (hr_a268 : dz_pt a268 [1]) (hr_a269 : dz_rg a269 n269 0 1023) (hr_a282 : dz_pt a282 [0, 1]) (hr_a283 : dz_pm a283 1) (hr_a281 : dz_rg a281 601 0 16777215) (o0 : 1 ≤ c248_pots.toInt) (kv : Nat) (hkv : 1000000000000 ≤ kv) : dz_T (s172_X10_fillLast_0 fu c248_pots c261_many c267_total a268 a269 n269 a282 a283 (F172_X10_fillLast fu c248_pots c261_many c267_total a268 a269 n269 a282 a283 kv).1  a281) (fun r => dz_rg r 601 0 16777215) := by
  unfold s172_X10_fillLast_0
  have e1 := dz_l1
  have e2 := dz_sub (a := c248_pots) (b := (1 : Int32)) (by omega) (by omega)
  refine dz_Tin (by omega) (by omega) ?_
  have e3 := dz_pmat (hr_a283) (i := (c248_pots - (1 : Int32))) (by decide) (by omega) (by omega)
  refine dz_Tin (by omega) (by omega) ?_
  refine dz_Tin (by omega) (by omega) ?_
  have e4 := dz_ptat (hr_a268) (i := (a283 (c248_pots - (1 : Int32)).toNatClampNeg)) (x := 1) 0 (by omega) (by decide)
  have e5 := dz_ptat (hr_a282) (i := (c248_pots - (1 : Int32))) (x := 0) 0 (by omega) (by decide)
  exact (t172_X10_fillLast_I_g21 fu hfu c248_pots c261_many c267_total a268 a269 n269 a282 a283 p0 p1 p2 p3 p4 p5 p6 p7 p8 hr_a268 hr_a269 hr_a282 hr_a283 o0 kv).1 (c248_pots - (1 : Int32)) c261_many (a268 (a283 (c248_pots - (1 : Int32)).toNatClampNeg).toNatClampNeg) (a282 (c248_pots - (1 : Int32)).toNatClampNeg) a281 (by omega) (by omega) p2 p3 (by omega) (by omega) (by omega) (by omega) (hr_a281) (by omega)
theorem t172_X10_fillLast_g21 (fu : Nat) (hfu : 1000000000000 ≤ fu) (c248_pots : Int32) (c261_many : Int32) (c267_total : Int32) (a268 : Nat → Int32) (a269 : Nat → Int32) (n269 : Nat) (a282 : Nat → Int32) (a283 : Nat → Int32) (a281 : Nat → Int32) (p0 : c248_pots.toInt ≤ 1) (p1 : 1 ≤ c248_pots.toInt) (p2 : c261_many.toInt ≤ 2) (p3 : 2 ≤ c261_many.toInt) (p4 : c267_total.toInt ≤ 2) (p5 : 2 ≤ c267_total.toInt) (p6 : ((n269 : Nat) : Int) ≤ 13824) (p7 : 1 ≤ ((n269 : Nat) : Int)) (p8 : c267_total.toInt ≤ ((n269 : Nat) : Int)) (hr_a268 : dz_pt a268 [1]) (hr_a269 : dz_rg a269 n269 0 1023) (hr_a282 : dz_pt a282 [0, 1]) (hr_a283 : dz_pm a283 1) (hr_a281 : dz_rg a281 601 0 16777215) (o0 : 1 ≤ c248_pots.toInt) : dz_T (f172_X10_fillLast fu c248_pots c261_many c267_total a268 a269 n269 a282 a283 a281) (fun r => dz_rg r 601 0 16777215) :=
  t172_X10_fillLast_E_g21 fu hfu c248_pots c261_many c267_total a268 a269 n269 a282 a283 a281 p0 p1 p2 p3 p4 p5 p6 p7 p8 hr_a268 hr_a269 hr_a282 hr_a283 hr_a281 o0 fu hfu
abbrev p172_X10_fillLast_g22 (fu : Nat) (c248_pots : Int32) (c261_many : Int32) (c267_total : Int32) (a268 : Nat → Int32) (a269 : Nat → Int32) (n269 : Nat) (a282 : Nat → Int32) (a283 : Nat → Int32) (k : Nat) : Prop :=
  (∀ (v1 : Int32) (v2 : Int32) (v3 : Int32) (v4 : Int32) (a281 : Nat → Int32), v1.toInt ≤ 1 → 1 ≤ v1.toInt → v2.toInt ≤ 2 → 2 ≤ v2.toInt → v3.toInt ≤ 2 → 1 ≤ v3.toInt → v4.toInt ≤ 3 → 1 ≤ v4.toInt → dz_rg a281 601 0 16777215 → 0 + 0 + (3 - v4.toInt) * 80 + 8 ≤ ((k : Nat) : Int) → dz_T ((F172_X10_fillLast fu c248_pots c261_many c267_total a268 a269 n269 a282 a283 k).1 v1 v2 v3 v4 a281) (fun r => dz_rg r 601 0 16777215)) ∧ (∀ (v1 : Int32) (v2 : Int32) (v3 : Int32) (v4 : Int32) (v5 : Int32) (v6 : Int32) (v7 : Int32) (a281 : Nat → Int32), v1.toInt ≤ 1 → 1 ≤ v1.toInt → v2.toInt ≤ 2 → 2 ≤ v2.toInt → v3.toInt ≤ 2 → 1 ≤ v3.toInt → v4.toInt ≤ 2 → 1 ≤ v4.toInt → v5.toInt ≤ 3 → 0 ≤ v5.toInt → v6.toInt ≤ 3 → 0 ≤ v6.toInt → v7.toInt ≤ 2 → 0 ≤ v7.toInt → v7.toInt ≤ v5.toInt → v6.toInt ≤ v5.toInt + 2 → v6.toInt ≤ v7.toInt + 2 → dz_rg a281 601 0 16777215 → 0 + 0 + ((3 - v4.toInt) - 1) * 80 + 0 + (2 - v7.toInt) * 16 + 16 ≤ ((k : Nat) : Int) → dz_T ((F172_X10_fillLast fu c248_pots c261_many c267_total a268 a269 n269 a282 a283 k).2.1 v1 v2 v3 v4 v5 v6 v7 a281) (fun r => dz_rg r 601 0 16777215))
set_option maxHeartbeats 1000000 in
set_option maxRecDepth 10000 in
theorem t172_X10_fillLast_h1_g22 (fu : Nat) (hfu : 1000000000000 ≤ fu) (c248_pots : Int32) (c261_many : Int32) (c267_total : Int32) (a268 : Nat → Int32) (a269 : Nat → Int32) (n269 : Nat) (a282 : Nat → Int32) (a283 : Nat → Int32) (p0 : c248_pots.toInt ≤ 2) (p1 : 2 ≤ c248_pots.toInt) (p2 : c261_many.toInt ≤ 2) (p3 : 2 ≤ c261_many.toInt) (p4 : c267_total.toInt ≤ 4) (p5 : 4 ≤ c267_total.toInt) (p6 : ((n269 : Nat) : Int) ≤ 13824) (p7 : 1 ≤ ((n269 : Nat) : Int)) (p8 : c267_total.toInt ≤ ((n269 : Nat) : Int)) (hr_a268 : dz_pt a268 [2, 1]) (hr_a269 : dz_rg a269 n269 0 1023) (hr_a282 : dz_pt a282 [0, 1, 3]) (hr_a283 : dz_pm a283 2) (o0 : 1 ≤ c248_pots.toInt) (k : Nat) (ih : ∀ j9, j9 < k → p172_X10_fillLast_g22 fu c248_pots c261_many c267_total a268 a269 n269 a282 a283 j9) : ∀ (v1 : Int32) (v2 : Int32) (v3 : Int32) (v4 : Int32) (a281 : Nat → Int32), v1.toInt ≤ 1 → 1 ≤ v1.toInt → v2.toInt ≤ 2 → 2 ≤ v2.toInt → v3.toInt ≤ 2 → 1 ≤ v3.toInt → v4.toInt ≤ 3 → 1 ≤ v4.toInt → dz_rg a281 601 0 16777215 → 0 + 0 + (3 - v4.toInt) * 80 + 8 ≤ ((k : Nat) : Int) → dz_T ((F172_X10_fillLast fu c248_pots c261_many c267_total a268 a269 n269 a282 a283 k).1 v1 v2 v3 v4 a281) (fun r => dz_rg r 601 0 16777215) := by
  intro v1 v2 v3 v4 a281 i0 i1 i2 i3 i4 i5 i6 i7 hr_a281 hm
  obtain ⟨k0, rfl⟩ : ∃ x, k = x + 1 := ⟨k - 1, by omega⟩
  show dz_T (s172_X10_fillLast_1 fu c248_pots c261_many c267_total a268 a269 n269 a282 a283 (F172_X10_fillLast fu c248_pots c261_many c267_total a268 a269 n269 a282 a283 k0).2.1  v1 v2 v3 v4 a281) _
  unfold s172_X10_fillLast_1
  have e1 := dz_l1
  have e2 := dz_add (a := v1) (b := (1 : Int32)) (by omega) (by omega)
  refine dz_Tin (by omega) (by omega) ?_
  have e3 := dz_ptat (hr_a282) (i := (v1 + (1 : Int32))) (x := 3) 2 (by omega) (by decide)
  refine dz_Tle (fun h4 => ?_) (fun h4 => ?_)
  · skip
    exact dz_Ts (hr_a281)
  · skip
    refine dz_Tin (by omega) (by omega) ?_
    have e5 := dz_ptat (hr_a282) (i := v1) (x := 1) 1 (by omega) (by decide)
    have e6 := dz_sub (a := v4) (b := (a282 v1.toNatClampNeg)) (by omega) (by omega)
    refine dz_Tb (t171_X10_codeOf_g22 fu hfu _ _ _ _ _ p2 p3 (by omega) (by omega) (by first | assumption | omega) i0 i1 (hr_a268) (hr_a283)) (fun r1 q => ?_)
    obtain ⟨q1_0, q1_1⟩ := q
    have e7 := dz_l0
    exact (ih k0 (by omega)).2 v1 v2 v3 v4 r1 (0 : Int32) (0 : Int32) a281 i0 i1 i2 i3 i4 i5 (by first | assumption | omega) i7 q1_1 q1_0 (by omega) (by omega) (by omega) (by omega) (by omega) (by omega) (by omega) (hr_a281) (by omega)
set_option maxHeartbeats 1000000 in
set_option maxRecDepth 10000 in
theorem t172_X10_fillLast_h2_g22 (fu : Nat) (hfu : 1000000000000 ≤ fu) (c248_pots : Int32) (c261_many : Int32) (c267_total : Int32) (a268 : Nat → Int32) (a269 : Nat → Int32) (n269 : Nat) (a282 : Nat → Int32) (a283 : Nat → Int32) (p0 : c248_pots.toInt ≤ 2) (p1 : 2 ≤ c248_pots.toInt) (p2 : c261_many.toInt ≤ 2) (p3 : 2 ≤ c261_many.toInt) (p4 : c267_total.toInt ≤ 4) (p5 : 4 ≤ c267_total.toInt) (p6 : ((n269 : Nat) : Int) ≤ 13824) (p7 : 1 ≤ ((n269 : Nat) : Int)) (p8 : c267_total.toInt ≤ ((n269 : Nat) : Int)) (hr_a268 : dz_pt a268 [2, 1]) (hr_a269 : dz_rg a269 n269 0 1023) (hr_a282 : dz_pt a282 [0, 1, 3]) (hr_a283 : dz_pm a283 2) (o0 : 1 ≤ c248_pots.toInt) (k : Nat) (ih : ∀ j9, j9 < k → p172_X10_fillLast_g22 fu c248_pots c261_many c267_total a268 a269 n269 a282 a283 j9) : ∀ (v1 : Int32) (v2 : Int32) (v3 : Int32) (v4 : Int32) (v5 : Int32) (v6 : Int32) (v7 : Int32) (a281 : Nat → Int32), v1.toInt ≤ 1 → 1 ≤ v1.toInt → v2.toInt ≤ 2 → 2 ≤ v2.toInt → v3.toInt ≤ 2 → 1 ≤ v3.toInt → v4.toInt ≤ 2 → 1 ≤ v4.toInt → v5.toInt ≤ 3 → 0 ≤ v5.toInt → v6.toInt ≤ 3 → 0 ≤ v6.toInt → v7.toInt ≤ 2 → 0 ≤ v7.toInt → v7.toInt ≤ v5.toInt → v6.toInt ≤ v5.toInt + 2 → v6.toInt ≤ v7.toInt + 2 → dz_rg a281 601 0 16777215 → 0 + 0 + ((3 - v4.toInt) - 1) * 80 + 0 + (2 - v7.toInt) * 16 + 16 ≤ ((k : Nat) : Int) → dz_T ((F172_X10_fillLast fu c248_pots c261_many c267_total a268 a269 n269 a282 a283 k).2.1 v1 v2 v3 v4 v5 v6 v7 a281) (fun r => dz_rg r 601 0 16777215) := by
  intro v1 v2 v3 v4 v5 v6 v7 a281 i0 i1 i2 i3 i4 i5 i6 i7 i8 i9 i10 i11 i12 i13 i14 i15 i16 hr_a281 hm
  obtain ⟨k0, rfl⟩ : ∃ x, k = x + 1 := ⟨k - 1, by omega⟩
  show dz_T (s172_X10_fillLast_2 fu c248_pots c261_many c267_total a268 a269 n269 a282 a283 (F172_X10_fillLast fu c248_pots c261_many c267_total a268 a269 n269 a282 a283 k0).2.2.1 (F172_X10_fillLast fu c248_pots c261_many c267_total a268 a269 n269 a282 a283 k0).2.2.2  v1 v2 v3 v4 v5 v6 v7 a281) _
  unfold s172_X10_fillLast_2
  refine dz_Tle (fun h1 => ?_) (fun h1 => ?_)
  · skip
    obtain ⟨k1, rfl⟩ : ∃ x, k0 = x + 1 := ⟨k0 - 1, by omega⟩
    show dz_T (s172_X10_fillLast_3 fu c248_pots c261_many c267_total a268 a269 n269 a282 a283 (F172_X10_fillLast fu c248_pots c261_many c267_total a268 a269 n269 a282 a283 k1).1 v1 v2 v3 v4 v6 a281) _
    unfold s172_X10_fillLast_3
    refine dz_Tin (by omega) (by omega) ?_
    have e2 := dz_l1
    have e3 := dz_add (a := v4) (b := (1 : Int32)) (by omega) (by omega)
    exact (ih k1 (by omega)).1 v1 v2 v3 (v4 + (1 : Int32)) (upd a281 v4.toNatClampNeg v6) i0 i1 i2 i3 i4 i5 (by omega) (by omega) (dz_rgu (hr_a281) (by omega) (by omega)) (by omega)
  · skip
    refine dz_Tin (by omega) (by omega) ?_
    have e4 := dz_rgat (hr_a269) (i := v5) (by omega) (by omega)
    have e5 := dz_l0
    refine dz_Teq (fun h6 => ?_) (fun h6 => ?_)
    · skip
      obtain ⟨k2, rfl⟩ : ∃ x, k0 = x + 1 := ⟨k0 - 1, by omega⟩
      show dz_T (s172_X10_fillLast_4 fu c248_pots c261_many c267_total a268 a269 n269 a282 a283 (F172_X10_fillLast fu c248_pots c261_many c267_total a268 a269 n269 a282 a283 k2).2.1 (F172_X10_fillLast fu c248_pots c261_many c267_total a268 a269 n269 a282 a283 k2).2.2.1 v1 v2 v3 v4 v5 (v6 ||| ((1 : Int32) <<< (v7 &&& (31 : Int32)))) v7 a281) _
      unfold s172_X10_fillLast_4
      have e7 := dz_add (a := v5) (b := v3) (by omega) (by omega)
      refine dz_Tlt (fun h8 => ?_) (fun h8 => ?_)
      · skip
        have e9 := dz_l1
        have e10 := dz_l31
        have e11 := dz_andr (a := v7) (b := (31 : Int32)) (by omega)
        have e12 := dz_andl (a := v7) (b := (31 : Int32)) (by omega)
        have e13 := dz_shl1 (b := v7) 0 1 (by omega) (by omega) (by omega)
        have e14 := dz_orb (a := v6) (b := ((1 : Int32) <<< (v7 &&& (31 : Int32)))) 2 (by omega) (by omega) (by omega) (by omega) (by omega)
        have e15 := dz_add (a := v7) (b := (1 : Int32)) (by omega) (by omega)
        exact (ih k2 (by omega)).2 v1 v2 v3 v4 (v5 + v3) (v6 ||| ((1 : Int32) <<< (v7 &&& (31 : Int32)))) (v7 + (1 : Int32)) a281 i0 i1 i2 i3 i4 i5 i6 i7 (by omega) (by omega) (by omega) (by omega) (by omega) (by omega) (by omega) (by omega) (by omega) (hr_a281) (by omega)
      · skip
        obtain ⟨k3, rfl⟩ : ∃ x, k2 = x + 1 := ⟨k2 - 1, by omega⟩
        show dz_T (s172_X10_fillLast_3 fu c248_pots c261_many c267_total a268 a269 n269 a282 a283 (F172_X10_fillLast fu c248_pots c261_many c267_total a268 a269 n269 a282 a283 k3).1 v1 v2 v3 v4 (v6 ||| ((1 : Int32) <<< (v7 &&& (31 : Int32)))) a281) _
        unfold s172_X10_fillLast_3
        refine dz_Tin (by omega) (by omega) ?_
        have e16 := dz_l1
        have e17 := dz_add (a := v4) (b := (1 : Int32)) (by omega) (by omega)
        have e18 := dz_l31
        have e19 := dz_andr (a := v7) (b := (31 : Int32)) (by omega)
        have e20 := dz_andl (a := v7) (b := (31 : Int32)) (by omega)
        have e21 := dz_shl1 (b := v7) 0 1 (by omega) (by omega) (by omega)
        have e22 := dz_orb (a := v6) (b := ((1 : Int32) <<< (v7 &&& (31 : Int32)))) 2 (by omega) (by omega) (by omega) (by omega) (by omega)
        exact (ih k3 (by omega)).1 v1 v2 v3 (v4 + (1 : Int32)) (upd a281 v4.toNatClampNeg (v6 ||| ((1 : Int32) <<< (v7 &&& (31 : Int32))))) i0 i1 i2 i3 i4 i5 (by omega) (by omega) (dz_rgu (hr_a281) (by omega) (by omega)) (by omega)
    · skip
      obtain ⟨k4, rfl⟩ : ∃ x, k0 = x + 1 := ⟨k0 - 1, by omega⟩
      show dz_T (s172_X10_fillLast_4 fu c248_pots c261_many c267_total a268 a269 n269 a282 a283 (F172_X10_fillLast fu c248_pots c261_many c267_total a268 a269 n269 a282 a283 k4).2.1 (F172_X10_fillLast fu c248_pots c261_many c267_total a268 a269 n269 a282 a283 k4).2.2.1 v1 v2 v3 v4 v5 v6 v7 a281) _
      unfold s172_X10_fillLast_4
      have e23 := dz_add (a := v5) (b := v3) (by omega) (by omega)
      refine dz_Tlt (fun h24 => ?_) (fun h24 => ?_)
      · skip
        have e25 := dz_l1
        have e26 := dz_add (a := v7) (b := (1 : Int32)) (by omega) (by omega)
        exact (ih k4 (by omega)).2 v1 v2 v3 v4 (v5 + v3) v6 (v7 + (1 : Int32)) a281 i0 i1 i2 i3 i4 i5 i6 i7 (by omega) (by omega) i10 i11 (by omega) (by omega) (by omega) (by omega) (by omega) (hr_a281) (by omega)
      · skip
        obtain ⟨k5, rfl⟩ : ∃ x, k4 = x + 1 := ⟨k4 - 1, by omega⟩
        show dz_T (s172_X10_fillLast_3 fu c248_pots c261_many c267_total a268 a269 n269 a282 a283 (F172_X10_fillLast fu c248_pots c261_many c267_total a268 a269 n269 a282 a283 k5).1 v1 v2 v3 v4 v6 a281) _
        unfold s172_X10_fillLast_3
        refine dz_Tin (by omega) (by omega) ?_
        have e27 := dz_l1
        have e28 := dz_add (a := v4) (b := (1 : Int32)) (by omega) (by omega)
        exact (ih k5 (by omega)).1 v1 v2 v3 (v4 + (1 : Int32)) (upd a281 v4.toNatClampNeg v6) i0 i1 i2 i3 i4 i5 (by omega) (by omega) (dz_rgu (hr_a281) (by omega) (by omega)) (by omega)
theorem t172_X10_fillLast_I_g22 (fu : Nat) (hfu : 1000000000000 ≤ fu) (c248_pots : Int32) (c261_many : Int32) (c267_total : Int32) (a268 : Nat → Int32) (a269 : Nat → Int32) (n269 : Nat) (a282 : Nat → Int32) (a283 : Nat → Int32) (p0 : c248_pots.toInt ≤ 2) (p1 : 2 ≤ c248_pots.toInt) (p2 : c261_many.toInt ≤ 2) (p3 : 2 ≤ c261_many.toInt) (p4 : c267_total.toInt ≤ 4) (p5 : 4 ≤ c267_total.toInt) (p6 : ((n269 : Nat) : Int) ≤ 13824) (p7 : 1 ≤ ((n269 : Nat) : Int)) (p8 : c267_total.toInt ≤ ((n269 : Nat) : Int)) (hr_a268 : dz_pt a268 [2, 1]) (hr_a269 : dz_rg a269 n269 0 1023) (hr_a282 : dz_pt a282 [0, 1, 3]) (hr_a283 : dz_pm a283 2) (o0 : 1 ≤ c248_pots.toInt) (k : Nat) : p172_X10_fillLast_g22 fu c248_pots c261_many c267_total a268 a269 n269 a282 a283 k := by
  induction k using Nat.strongRecOn with
  | _ k ih => exact ⟨t172_X10_fillLast_h1_g22 fu hfu c248_pots c261_many c267_total a268 a269 n269 a282 a283 p0 p1 p2 p3 p4 p5 p6 p7 p8 hr_a268 hr_a269 hr_a282 hr_a283 o0 k ih, t172_X10_fillLast_h2_g22 fu hfu c248_pots c261_many c267_total a268 a269 n269 a282 a283 p0 p1 p2 p3 p4 p5 p6 p7 p8 hr_a268 hr_a269 hr_a282 hr_a283 o0 k ih⟩
set_option maxHeartbeats 1000000 in
set_option maxRecDepth 10000 in
theorem t172_X10_fillLast_E_g22 (fu : Nat) (hfu : 1000000000000 ≤ fu) (c248_pots : Int32) (c261_many : Int32) (c267_total : Int32) (a268 : Nat → Int32) (a269 : Nat → Int32) (n269 : Nat) (a282 : Nat → Int32) (a283 : Nat → Int32) (a281 : Nat → Int32) (p0 : c248_pots.toInt ≤ 2) (p1 : 2 ≤ c248_pots.toInt) (p2 : c261_many.toInt ≤ 2) (p3 : 2 ≤ c261_many.toInt) (p4 : c267_total.toInt ≤ 4) (p5 : 4 ≤ c267_total.toInt) (p6 : ((n269 : Nat) : Int) ≤ 13824) (p7 : 1 ≤ ((n269 : Nat) : Int)) (p8 : c267_total.toInt ≤ ((n269 : Nat) : Int)) (hr_a268 : dz_pt a268 [2, 1]) (hr_a269 : dz_rg a269 n269 0 1023) (hr_a282 : dz_pt a282 [0, 1, 3]) (hr_a283 : dz_pm a283 2) (hr_a281 : dz_rg a281 601 0 16777215) (o0 : 1 ≤ c248_pots.toInt) (kv : Nat) (hkv : 1000000000000 ≤ kv) : dz_T (s172_X10_fillLast_0 fu c248_pots c261_many c267_total a268 a269 n269 a282 a283 (F172_X10_fillLast fu c248_pots c261_many c267_total a268 a269 n269 a282 a283 kv).1  a281) (fun r => dz_rg r 601 0 16777215) := by
  unfold s172_X10_fillLast_0
  have e1 := dz_l1
  have e2 := dz_sub (a := c248_pots) (b := (1 : Int32)) (by omega) (by omega)
  refine dz_Tin (by omega) (by omega) ?_
  have e3 := dz_pmat (hr_a283) (i := (c248_pots - (1 : Int32))) (by decide) (by omega) (by omega)
  refine dz_Tin (by omega) (by omega) ?_
  refine dz_Tin (by omega) (by omega) ?_
  have e4 := dz_ptrg (hr_a268) (i := (a283 (c248_pots - (1 : Int32)).toNatClampNeg)) 1 2 (by decide) (by omega) (by show _ < ((2 : Nat) : Int); omega)
  have e5 := dz_ptat (hr_a282) (i := (c248_pots - (1 : Int32))) (x := 1) 1 (by omega) (by decide)
  exact (t172_X10_fillLast_I_g22 fu hfu c248_pots c261_many c267_total a268 a269 n269 a282 a283 p0 p1 p2 p3 p4 p5 p6 p7 p8 hr_a268 hr_a269 hr_a282 hr_a283 o0 kv).1 (c248_pots - (1 : Int32)) c261_many (a268 (a283 (c248_pots - (1 : Int32)).toNatClampNeg).toNatClampNeg) (a282 (c248_pots - (1 : Int32)).toNatClampNeg) a281 (by omega) (by omega) p2 p3 (by omega) (by omega) (by omega) (by omega) (hr_a281) (by omega)
theorem t172_X10_fillLast_g22 (fu : Nat) (hfu : 1000000000000 ≤ fu) (c248_pots : Int32) (c261_many : Int32) (c267_total : Int32) (a268 : Nat → Int32) (a269 : Nat → Int32) (n269 : Nat) (a282 : Nat → Int32) (a283 : Nat → Int32) (a281 : Nat → Int32) (p0 : c248_pots.toInt ≤ 2) (p1 : 2 ≤ c248_pots.toInt) (p2 : c261_many.toInt ≤ 2) (p3 : 2 ≤ c261_many.toInt) (p4 : c267_total.toInt ≤ 4) (p5 : 4 ≤ c267_total.toInt) (p6 : ((n269 : Nat) : Int) ≤ 13824) (p7 : 1 ≤ ((n269 : Nat) : Int)) (p8 : c267_total.toInt ≤ ((n269 : Nat) : Int)) (hr_a268 : dz_pt a268 [2, 1]) (hr_a269 : dz_rg a269 n269 0 1023) (hr_a282 : dz_pt a282 [0, 1, 3]) (hr_a283 : dz_pm a283 2) (hr_a281 : dz_rg a281 601 0 16777215) (o0 : 1 ≤ c248_pots.toInt) : dz_T (f172_X10_fillLast fu c248_pots c261_many c267_total a268 a269 n269 a282 a283 a281) (fun r => dz_rg r 601 0 16777215) :=
  t172_X10_fillLast_E_g22 fu hfu c248_pots c261_many c267_total a268 a269 n269 a282 a283 a281 p0 p1 p2 p3 p4 p5 p6 p7 p8 hr_a268 hr_a269 hr_a282 hr_a283 hr_a281 o0 fu hfu
abbrev p172_X10_fillLast_g23 (fu : Nat) (c248_pots : Int32) (c261_many : Int32) (c267_total : Int32) (a268 : Nat → Int32) (a269 : Nat → Int32) (n269 : Nat) (a282 : Nat → Int32) (a283 : Nat → Int32) (k : Nat) : Prop :=
  (∀ (v1 : Int32) (v2 : Int32) (v3 : Int32) (v4 : Int32) (a281 : Nat → Int32), v1.toInt ≤ 2 → 2 ≤ v1.toInt → v2.toInt ≤ 2 → 2 ≤ v2.toInt → v3.toInt ≤ 4 → 1 ≤ v3.toInt → v4.toInt ≤ 7 → 3 ≤ v4.toInt → dz_rg a281 601 0 16777215 → 0 + 0 + (7 - v4.toInt) * 80 + 8 ≤ ((k : Nat) : Int) → dz_T ((F172_X10_fillLast fu c248_pots c261_many c267_total a268 a269 n269 a282 a283 k).1 v1 v2 v3 v4 a281) (fun r => dz_rg r 601 0 16777215)) ∧ (∀ (v1 : Int32) (v2 : Int32) (v3 : Int32) (v4 : Int32) (v5 : Int32) (v6 : Int32) (v7 : Int32) (a281 : Nat → Int32), v1.toInt ≤ 2 → 2 ≤ v1.toInt → v2.toInt ≤ 2 → 2 ≤ v2.toInt → v3.toInt ≤ 4 → 1 ≤ v3.toInt → v4.toInt ≤ 6 → 3 ≤ v4.toInt → v5.toInt ≤ 7 → 0 ≤ v5.toInt → v6.toInt ≤ 3 → 0 ≤ v6.toInt → v7.toInt ≤ 2 → 0 ≤ v7.toInt → v7.toInt ≤ v5.toInt → v6.toInt ≤ v5.toInt + 2 → v6.toInt ≤ v7.toInt + 2 → dz_rg a281 601 0 16777215 → 0 + 0 + ((7 - v4.toInt) - 1) * 80 + 0 + (2 - v7.toInt) * 16 + 16 ≤ ((k : Nat) : Int) → dz_T ((F172_X10_fillLast fu c248_pots c261_many c267_total a268 a269 n269 a282 a283 k).2.1 v1 v2 v3 v4 v5 v6 v7 a281) (fun r => dz_rg r 601 0 16777215))
set_option maxHeartbeats 1000000 in
set_option maxRecDepth 10000 in
theorem t172_X10_fillLast_h1_g23 (fu : Nat) (hfu : 1000000000000 ≤ fu) (c248_pots : Int32) (c261_many : Int32) (c267_total : Int32) (a268 : Nat → Int32) (a269 : Nat → Int32) (n269 : Nat) (a282 : Nat → Int32) (a283 : Nat → Int32) (p0 : c248_pots.toInt ≤ 3) (p1 : 3 ≤ c248_pots.toInt) (p2 : c261_many.toInt ≤ 2) (p3 : 2 ≤ c261_many.toInt) (p4 : c267_total.toInt ≤ 8) (p5 : 8 ≤ c267_total.toInt) (p6 : ((n269 : Nat) : Int) ≤ 13824) (p7 : 1 ≤ ((n269 : Nat) : Int)) (p8 : c267_total.toInt ≤ ((n269 : Nat) : Int)) (hr_a268 : dz_pt a268 [4, 2, 1]) (hr_a269 : dz_rg a269 n269 0 1023) (hr_a282 : dz_pt a282 [0, 1, 3, 7]) (hr_a283 : dz_pm a283 3) (o0 : 1 ≤ c248_pots.toInt) (k : Nat) (ih : ∀ j9, j9 < k → p172_X10_fillLast_g23 fu c248_pots c261_many c267_total a268 a269 n269 a282 a283 j9) : ∀ (v1 : Int32) (v2 : Int32) (v3 : Int32) (v4 : Int32) (a281 : Nat → Int32), v1.toInt ≤ 2 → 2 ≤ v1.toInt → v2.toInt ≤ 2 → 2 ≤ v2.toInt → v3.toInt ≤ 4 → 1 ≤ v3.toInt → v4.toInt ≤ 7 → 3 ≤ v4.toInt → dz_rg a281 601 0 16777215 → 0 + 0 + (7 - v4.toInt) * 80 + 8 ≤ ((k : Nat) : Int) → dz_T ((F172_X10_fillLast fu c248_pots c261_many c267_total a268 a269 n269 a282 a283 k).1 v1 v2 v3 v4 a281) (fun r => dz_rg r 601 0 16777215) := by
  intro v1 v2 v3 v4 a281 i0 i1 i2 i3 i4 i5 i6 i7 hr_a281 hm
  obtain ⟨k0, rfl⟩ : ∃ x, k = x + 1 := ⟨k - 1, by omega⟩
  show dz_T (s172_X10_fillLast_1 fu c248_pots c261_many c267_total a268 a269 n269 a282 a283 (F172_X10_fillLast fu c248_pots c261_many c267_total a268 a269 n269 a282 a283 k0).2.1  v1 v2 v3 v4 a281) _
  unfold s172_X10_fillLast_1
  have e1 := dz_l1
  have e2 := dz_add (a := v1) (b := (1 : Int32)) (by omega) (by omega)
  refine dz_Tin (by omega) (by omega) ?_
  have e3 := dz_ptat (hr_a282) (i := (v1 + (1 : Int32))) (x := 7) 3 (by omega) (by decide)
  refine dz_Tle (fun h4 => ?_) (fun h4 => ?_)
  · skip
    exact dz_Ts (hr_a281)
  · skip
    refine dz_Tin (by omega) (by omega) ?_
    have e5 := dz_ptat (hr_a282) (i := v1) (x := 3) 2 (by omega) (by decide)
    have e6 := dz_sub (a := v4) (b := (a282 v1.toNatClampNeg)) (by omega) (by omega)
    refine dz_Tb (t171_X10_codeOf_g23 fu hfu _ _ _ _ _ p2 p3 (by omega) (by omega) (by first | assumption | omega) i0 i1 (hr_a268) (hr_a283)) (fun r1 q => ?_)
    obtain ⟨q1_0, q1_1⟩ := q
    have e7 := dz_l0
    exact (ih k0 (by omega)).2 v1 v2 v3 v4 r1 (0 : Int32) (0 : Int32) a281 i0 i1 i2 i3 i4 i5 (by first | assumption | omega) i7 q1_1 q1_0 (by omega) (by omega) (by omega) (by omega) (by omega) (by omega) (by omega) (hr_a281) (by omega)
set_option maxHeartbeats 1000000 in
set_option maxRecDepth 10000 in
theorem t172_X10_fillLast_h2_g23 (fu : Nat) (hfu : 1000000000000 ≤ fu) (c248_pots : Int32) (c261_many : Int32) (c267_total : Int32) (a268 : Nat → Int32) (a269 : Nat → Int32) (n269 : Nat) (a282 : Nat → Int32) (a283 : Nat → Int32) (p0 : c248_pots.toInt ≤ 3) (p1 : 3 ≤ c248_pots.toInt) (p2 : c261_many.toInt ≤ 2) (p3 : 2 ≤ c261_many.toInt) (p4 : c267_total.toInt ≤ 8) (p5 : 8 ≤ c267_total.toInt) (p6 : ((n269 : Nat) : Int) ≤ 13824) (p7 : 1 ≤ ((n269 : Nat) : Int)) (p8 : c267_total.toInt ≤ ((n269 : Nat) : Int)) (hr_a268 : dz_pt a268 [4, 2, 1]) (hr_a269 : dz_rg a269 n269 0 1023) (hr_a282 : dz_pt a282 [0, 1, 3, 7]) (hr_a283 : dz_pm a283 3) (o0 : 1 ≤ c248_pots.toInt) (k : Nat) (ih : ∀ j9, j9 < k → p172_X10_fillLast_g23 fu c248_pots c261_many c267_total a268 a269 n269 a282 a283 j9) : ∀ (v1 : Int32) (v2 : Int32) (v3 : Int32) (v4 : Int32) (v5 : Int32) (v6 : Int32) (v7 : Int32) (a281 : Nat → Int32), v1.toInt ≤ 2 → 2 ≤ v1.toInt → v2.toInt ≤ 2 → 2 ≤ v2.toInt → v3.toInt ≤ 4 → 1 ≤ v3.toInt → v4.toInt ≤ 6 → 3 ≤ v4.toInt → v5.toInt ≤ 7 → 0 ≤ v5.toInt → v6.toInt ≤ 3 → 0 ≤ v6.toInt → v7.toInt ≤ 2 → 0 ≤ v7.toInt → v7.toInt ≤ v5.toInt → v6.toInt ≤ v5.toInt + 2 → v6.toInt ≤ v7.toInt + 2 → dz_rg a281 601 0 16777215 → 0 + 0 + ((7 - v4.toInt) - 1) * 80 + 0 + (2 - v7.toInt) * 16 + 16 ≤ ((k : Nat) : Int) → dz_T ((F172_X10_fillLast fu c248_pots c261_many c267_total a268 a269 n269 a282 a283 k).2.1 v1 v2 v3 v4 v5 v6 v7 a281) (fun r => dz_rg r 601 0 16777215) := by
  intro v1 v2 v3 v4 v5 v6 v7 a281 i0 i1 i2 i3 i4 i5 i6 i7 i8 i9 i10 i11 i12 i13 i14 i15 i16 hr_a281 hm
  obtain ⟨k0, rfl⟩ : ∃ x, k = x + 1 := ⟨k - 1, by omega⟩
  show dz_T (s172_X10_fillLast_2 fu c248_pots c261_many c267_total a268 a269 n269 a282 a283 (F172_X10_fillLast fu c248_pots c261_many c267_total a268 a269 n269 a282 a283 k0).2.2.1 (F172_X10_fillLast fu c248_pots c261_many c267_total a268 a269 n269 a282 a283 k0).2.2.2  v1 v2 v3 v4 v5 v6 v7 a281) _
  unfold s172_X10_fillLast_2
  refine dz_Tle (fun h1 => ?_) (fun h1 => ?_)
  · skip
    obtain ⟨k1, rfl⟩ : ∃ x, k0 = x + 1 := ⟨k0 - 1, by omega⟩
    show dz_T (s172_X10_fillLast_3 fu c248_pots c261_many c267_total a268 a269 n269 a282 a283 (F172_X10_fillLast fu c248_pots c261_many c267_total a268 a269 n269 a282 a283 k1).1 v1 v2 v3 v4 v6 a281) _
    unfold s172_X10_fillLast_3
    refine dz_Tin (by omega) (by omega) ?_
    have e2 := dz_l1
    have e3 := dz_add (a := v4) (b := (1 : Int32)) (by omega) (by omega)
    exact (ih k1 (by omega)).1 v1 v2 v3 (v4 + (1 : Int32)) (upd a281 v4.toNatClampNeg v6) i0 i1 i2 i3 i4 i5 (by omega) (by omega) (dz_rgu (hr_a281) (by omega) (by omega)) (by omega)
  · skip
    refine dz_Tin (by omega) (by omega) ?_
    have e4 := dz_rgat (hr_a269) (i := v5) (by omega) (by omega)
    have e5 := dz_l0
    refine dz_Teq (fun h6 => ?_) (fun h6 => ?_)
    · skip
      obtain ⟨k2, rfl⟩ : ∃ x, k0 = x + 1 := ⟨k0 - 1, by omega⟩
      show dz_T (s172_X10_fillLast_4 fu c248_pots c261_many c267_total a268 a269 n269 a282 a283 (F172_X10_fillLast fu c248_pots c261_many c267_total a268 a269 n269 a282 a283 k2).2.1 (F172_X10_fillLast fu c248_pots c261_many c267_total a268 a269 n269 a282 a283 k2).2.2.1 v1 v2 v3 v4 v5 (v6 ||| ((1 : Int32) <<< (v7 &&& (31 : Int32)))) v7 a281) _
      unfold s172_X10_fillLast_4
      have e7 := dz_add (a := v5) (b := v3) (by omega) (by omega)
      refine dz_Tlt (fun h8 => ?_) (fun h8 => ?_)
      · skip
        have e9 := dz_l1
        have e10 := dz_l31
        have e11 := dz_andr (a := v7) (b := (31 : Int32)) (by omega)
        have e12 := dz_andl (a := v7) (b := (31 : Int32)) (by omega)
        have e13 := dz_shl1 (b := v7) 0 1 (by omega) (by omega) (by omega)
        have e14 := dz_orb (a := v6) (b := ((1 : Int32) <<< (v7 &&& (31 : Int32)))) 2 (by omega) (by omega) (by omega) (by omega) (by omega)
        have e15 := dz_add (a := v7) (b := (1 : Int32)) (by omega) (by omega)
        exact (ih k2 (by omega)).2 v1 v2 v3 v4 (v5 + v3) (v6 ||| ((1 : Int32) <<< (v7 &&& (31 : Int32)))) (v7 + (1 : Int32)) a281 i0 i1 i2 i3 i4 i5 i6 i7 (by omega) (by omega) (by omega) (by omega) (by omega) (by omega) (by omega) (by omega) (by omega) (hr_a281) (by omega)
      · skip
        obtain ⟨k3, rfl⟩ : ∃ x, k2 = x + 1 := ⟨k2 - 1, by omega⟩
        show dz_T (s172_X10_fillLast_3 fu c248_pots c261_many c267_total a268 a269 n269 a282 a283 (F172_X10_fillLast fu c248_pots c261_many c267_total a268 a269 n269 a282 a283 k3).1 v1 v2 v3 v4 (v6 ||| ((1 : Int32) <<< (v7 &&& (31 : Int32)))) a281) _
        unfold s172_X10_fillLast_3
        refine dz_Tin (by omega) (by omega) ?_
        have e16 := dz_l1
        have e17 := dz_add (a := v4) (b := (1 : Int32)) (by omega) (by omega)
        have e18 := dz_l31
        have e19 := dz_andr (a := v7) (b := (31 : Int32)) (by omega)
        have e20 := dz_andl (a := v7) (b := (31 : Int32)) (by omega)
        have e21 := dz_shl1 (b := v7) 0 1 (by omega) (by omega) (by omega)
        have e22 := dz_orb (a := v6) (b := ((1 : Int32) <<< (v7 &&& (31 : Int32)))) 2 (by omega) (by omega) (by omega) (by omega) (by omega)
        exact (ih k3 (by omega)).1 v1 v2 v3 (v4 + (1 : Int32)) (upd a281 v4.toNatClampNeg (v6 ||| ((1 : Int32) <<< (v7 &&& (31 : Int32))))) i0 i1 i2 i3 i4 i5 (by omega) (by omega) (dz_rgu (hr_a281) (by omega) (by omega)) (by omega)
    · skip
      obtain ⟨k4, rfl⟩ : ∃ x, k0 = x + 1 := ⟨k0 - 1, by omega⟩
      show dz_T (s172_X10_fillLast_4 fu c248_pots c261_many c267_total a268 a269 n269 a282 a283 (F172_X10_fillLast fu c248_pots c261_many c267_total a268 a269 n269 a282 a283 k4).2.1 (F172_X10_fillLast fu c248_pots c261_many c267_total a268 a269 n269 a282 a283 k4).2.2.1 v1 v2 v3 v4 v5 v6 v7 a281) _
      unfold s172_X10_fillLast_4
      have e23 := dz_add (a := v5) (b := v3) (by omega) (by omega)
      refine dz_Tlt (fun h24 => ?_) (fun h24 => ?_)
      · skip
        have e25 := dz_l1
        have e26 := dz_add (a := v7) (b := (1 : Int32)) (by omega) (by omega)
        exact (ih k4 (by omega)).2 v1 v2 v3 v4 (v5 + v3) v6 (v7 + (1 : Int32)) a281 i0 i1 i2 i3 i4 i5 i6 i7 (by omega) (by omega) i10 i11 (by omega) (by omega) (by omega) (by omega) (by omega) (hr_a281) (by omega)
      · skip
        obtain ⟨k5, rfl⟩ : ∃ x, k4 = x + 1 := ⟨k4 - 1, by omega⟩
        show dz_T (s172_X10_fillLast_3 fu c248_pots c261_many c267_total a268 a269 n269 a282 a283 (F172_X10_fillLast fu c248_pots c261_many c267_total a268 a269 n269 a282 a283 k5).1 v1 v2 v3 v4 v6 a281) _
        unfold s172_X10_fillLast_3
        refine dz_Tin (by omega) (by omega) ?_
        have e27 := dz_l1
        have e28 := dz_add (a := v4) (b := (1 : Int32)) (by omega) (by omega)
        exact (ih k5 (by omega)).1 v1 v2 v3 (v4 + (1 : Int32)) (upd a281 v4.toNatClampNeg v6) i0 i1 i2 i3 i4 i5 (by omega) (by omega) (dz_rgu (hr_a281) (by omega) (by omega)) (by omega)
theorem t172_X10_fillLast_I_g23 (fu : Nat) (hfu : 1000000000000 ≤ fu) (c248_pots : Int32) (c261_many : Int32) (c267_total : Int32) (a268 : Nat → Int32) (a269 : Nat → Int32) (n269 : Nat) (a282 : Nat → Int32) (a283 : Nat → Int32) (p0 : c248_pots.toInt ≤ 3) (p1 : 3 ≤ c248_pots.toInt) (p2 : c261_many.toInt ≤ 2) (p3 : 2 ≤ c261_many.toInt) (p4 : c267_total.toInt ≤ 8) (p5 : 8 ≤ c267_total.toInt) (p6 : ((n269 : Nat) : Int) ≤ 13824) (p7 : 1 ≤ ((n269 : Nat) : Int)) (p8 : c267_total.toInt ≤ ((n269 : Nat) : Int)) (hr_a268 : dz_pt a268 [4, 2, 1]) (hr_a269 : dz_rg a269 n269 0 1023) (hr_a282 : dz_pt a282 [0, 1, 3, 7]) (hr_a283 : dz_pm a283 3) (o0 : 1 ≤ c248_pots.toInt) (k : Nat) : p172_X10_fillLast_g23 fu c248_pots c261_many c267_total a268 a269 n269 a282 a283 k := by
  induction k using Nat.strongRecOn with
  | _ k ih => exact ⟨t172_X10_fillLast_h1_g23 fu hfu c248_pots c261_many c267_total a268 a269 n269 a282 a283 p0 p1 p2 p3 p4 p5 p6 p7 p8 hr_a268 hr_a269 hr_a282 hr_a283 o0 k ih, t172_X10_fillLast_h2_g23 fu hfu c248_pots c261_many c267_total a268 a269 n269 a282 a283 p0 p1 p2 p3 p4 p5 p6 p7 p8 hr_a268 hr_a269 hr_a282 hr_a283 o0 k ih⟩
set_option maxHeartbeats 1000000 in
set_option maxRecDepth 10000 in
theorem t172_X10_fillLast_E_g23 (fu : Nat) (hfu : 1000000000000 ≤ fu) (c248_pots : Int32) (c261_many : Int32) (c267_total : Int32) (a268 : Nat → Int32) (a269 : Nat → Int32) (n269 : Nat) (a282 : Nat → Int32) (a283 : Nat → Int32) (a281 : Nat → Int32) (p0 : c248_pots.toInt ≤ 3) (p1 : 3 ≤ c248_pots.toInt) (p2 : c261_many.toInt ≤ 2) (p3 : 2 ≤ c261_many.toInt) (p4 : c267_total.toInt ≤ 8) (p5 : 8 ≤ c267_total.toInt) (p6 : ((n269 : Nat) : Int) ≤ 13824) (p7 : 1 ≤ ((n269 : Nat) : Int)) (p8 : c267_total.toInt ≤ ((n269 : Nat) : Int)) (hr_a268 : dz_pt a268 [4, 2, 1]) (hr_a269 : dz_rg a269 n269 0 1023) (hr_a282 : dz_pt a282 [0, 1, 3, 7]) (hr_a283 : dz_pm a283 3) (hr_a281 : dz_rg a281 601 0 16777215) (o0 : 1 ≤ c248_pots.toInt) (kv : Nat) (hkv : 1000000000000 ≤ kv) : dz_T (s172_X10_fillLast_0 fu c248_pots c261_many c267_total a268 a269 n269 a282 a283 (F172_X10_fillLast fu c248_pots c261_many c267_total a268 a269 n269 a282 a283 kv).1  a281) (fun r => dz_rg r 601 0 16777215) := by
  unfold s172_X10_fillLast_0
  have e1 := dz_l1
  have e2 := dz_sub (a := c248_pots) (b := (1 : Int32)) (by omega) (by omega)
  refine dz_Tin (by omega) (by omega) ?_
  have e3 := dz_pmat (hr_a283) (i := (c248_pots - (1 : Int32))) (by decide) (by omega) (by omega)
  refine dz_Tin (by omega) (by omega) ?_
  refine dz_Tin (by omega) (by omega) ?_
  have e4 := dz_ptrg (hr_a268) (i := (a283 (c248_pots - (1 : Int32)).toNatClampNeg)) 1 4 (by decide) (by omega) (by show _ < ((3 : Nat) : Int); omega)
  have e5 := dz_ptat (hr_a282) (i := (c248_pots - (1 : Int32))) (x := 3) 2 (by omega) (by decide)
  exact (t172_X10_fillLast_I_g23 fu hfu c248_pots c261_many c267_total a268 a269 n269 a282 a283 p0 p1 p2 p3 p4 p5 p6 p7 p8 hr_a268 hr_a269 hr_a282 hr_a283 o0 kv).1 (c248_pots - (1 : Int32)) c261_many (a268 (a283 (c248_pots - (1 : Int32)).toNatClampNeg).toNatClampNeg) (a282 (c248_pots - (1 : Int32)).toNatClampNeg) a281 (by omega) (by omega) p2 p3 (by omega) (by omega) (by omega) (by omega) (hr_a281) (by omega)
theorem t172_X10_fillLast_g23 (fu : Nat) (hfu : 1000000000000 ≤ fu) (c248_pots : Int32) (c261_many : Int32) (c267_total : Int32) (a268 : Nat → Int32) (a269 : Nat → Int32) (n269 : Nat) (a282 : Nat → Int32) (a283 : Nat → Int32) (a281 : Nat → Int32) (p0 : c248_pots.toInt ≤ 3) (p1 : 3 ≤ c248_pots.toInt) (p2 : c261_many.toInt ≤ 2) (p3 : 2 ≤ c261_many.toInt) (p4 : c267_total.toInt ≤ 8) (p5 : 8 ≤ c267_total.toInt) (p6 : ((n269 : Nat) : Int) ≤ 13824) (p7 : 1 ≤ ((n269 : Nat) : Int)) (p8 : c267_total.toInt ≤ ((n269 : Nat) : Int)) (hr_a268 : dz_pt a268 [4, 2, 1]) (hr_a269 : dz_rg a269 n269 0 1023) (hr_a282 : dz_pt a282 [0, 1, 3, 7]) (hr_a283 : dz_pm a283 3) (hr_a281 : dz_rg a281 601 0 16777215) (o0 : 1 ≤ c248_pots.toInt) : dz_T (f172_X10_fillLast fu c248_pots c261_many c267_total a268 a269 n269 a282 a283 a281) (fun r => dz_rg r 601 0 16777215) :=
  t172_X10_fillLast_E_g23 fu hfu c248_pots c261_many c267_total a268 a269 n269 a282 a283 a281 p0 p1 p2 p3 p4 p5 p6 p7 p8 hr_a268 hr_a269 hr_a282 hr_a283 hr_a281 o0 fu hfu
abbrev p172_X10_fillLast_g24 (fu : Nat) (c248_pots : Int32) (c261_many : Int32) (c267_total : Int32) (a268 : Nat → Int32) (a269 : Nat → Int32) (n269 : Nat) (a282 : Nat → Int32) (a283 : Nat → Int32) (k : Nat) : Prop :=
  (∀ (v1 : Int32) (v2 : Int32) (v3 : Int32) (v4 : Int32) (a281 : Nat → Int32), v1.toInt ≤ 3 → 3 ≤ v1.toInt → v2.toInt ≤ 2 → 2 ≤ v2.toInt → v3.toInt ≤ 8 → 1 ≤ v3.toInt → v4.toInt ≤ 16 → 7 ≤ v4.toInt → dz_rg a281 601 0 16777215 → 0 + 0 + (16 - v4.toInt) * 80 + 8 ≤ ((k : Nat) : Int) → dz_T ((F172_X10_fillLast fu c248_pots c261_many c267_total a268 a269 n269 a282 a283 k).1 v1 v2 v3 v4 a281) (fun r => dz_rg r 601 0 16777215)) ∧ (∀ (v1 : Int32) (v2 : Int32) (v3 : Int32) (v4 : Int32) (v5 : Int32) (v6 : Int32) (v7 : Int32) (a281 : Nat → Int32), v1.toInt ≤ 3 → 3 ≤ v1.toInt → v2.toInt ≤ 2 → 2 ≤ v2.toInt → v3.toInt ≤ 8 → 1 ≤ v3.toInt → v4.toInt ≤ 15 → 7 ≤ v4.toInt → v5.toInt ≤ 15 → 0 ≤ v5.toInt → v6.toInt ≤ 3 → 0 ≤ v6.toInt → v7.toInt ≤ 2 → 0 ≤ v7.toInt → v7.toInt ≤ v5.toInt → v6.toInt ≤ v5.toInt + 2 → v6.toInt ≤ v7.toInt + 2 → v4.toInt ≤ v5.toInt + 14 → v4.toInt ≤ v7.toInt + 14 → dz_rg a281 601 0 16777215 → 0 + 0 + ((16 - v4.toInt) - 1) * 80 + 0 + (2 - v7.toInt) * 16 + 16 ≤ ((k : Nat) : Int) → dz_T ((F172_X10_fillLast fu c248_pots c261_many c267_total a268 a269 n269 a282 a283 k).2.1 v1 v2 v3 v4 v5 v6 v7 a281) (fun r => dz_rg r 601 0 16777215))
set_option maxHeartbeats 1000000 in
set_option maxRecDepth 10000 in
theorem t172_X10_fillLast_h1_g24 (fu : Nat) (hfu : 1000000000000 ≤ fu) (c248_pots : Int32) (c261_many : Int32) (c267_total : Int32) (a268 : Nat → Int32) (a269 : Nat → Int32) (n269 : Nat) (a282 : Nat → Int32) (a283 : Nat → Int32) (p0 : c248_pots.toInt ≤ 4) (p1 : 4 ≤ c248_pots.toInt) (p2 : c261_many.toInt ≤ 2) (p3 : 2 ≤ c261_many.toInt) (p4 : c267_total.toInt ≤ 16) (p5 : 16 ≤ c267_total.toInt) (p6 : ((n269 : Nat) : Int) ≤ 13824) (p7 : 1 ≤ ((n269 : Nat) : Int)) (p8 : c267_total.toInt ≤ ((n269 : Nat) : Int)) (hr_a268 : dz_pt a268 [8, 4, 2, 1]) (hr_a269 : dz_rg a269 n269 0 1023) (hr_a282 : dz_pt a282 [0, 1, 3, 7, 15]) (hr_a283 : dz_pm a283 4) (o0 : 1 ≤ c248_pots.toInt) (k : Nat) (ih : ∀ j9, j9 < k → p172_X10_fillLast_g24 fu c248_pots c261_many c267_total a268 a269 n269 a282 a283 j9) : ∀ (v1 : Int32) (v2 : Int32) (v3 : Int32) (v4 : Int32) (a281 : Nat → Int32), v1.toInt ≤ 3 → 3 ≤ v1.toInt → v2.toInt ≤ 2 → 2 ≤ v2.toInt → v3.toInt ≤ 8 → 1 ≤ v3.toInt → v4.toInt ≤ 16 → 7 ≤ v4.toInt → dz_rg a281 601 0 16777215 → 0 + 0 + (16 - v4.toInt) * 80 + 8 ≤ ((k : Nat) : Int) → dz_T ((F172_X10_fillLast fu c248_pots c261_many c267_total a268 a269 n269 a282 a283 k).1 v1 v2 v3 v4 a281) (fun r => dz_rg r 601 0 16777215) := by
  intro v1 v2 v3 v4 a281 i0 i1 i2 i3 i4 i5 i6 i7 hr_a281 hm
  obtain ⟨k0, rfl⟩ : ∃ x, k = x + 1 := ⟨k - 1, by omega⟩
  show dz_T (s172_X10_fillLast_1 fu c248_pots c261_many c267_total a268 a269 n269 a282 a283 (F172_X10_fillLast fu c248_pots c261_many c267_total a268 a269 n269 a282 a283 k0).2.1  v1 v2 v3 v4 a281) _
  unfold s172_X10_fillLast_1
  have e1 := dz_l1
  have e2 := dz_add (a := v1) (b := (1 : Int32)) (by omega) (by omega)
  refine dz_Tin (by omega) (by omega) ?_
  have e3 := dz_ptat (hr_a282) (i := (v1 + (1 : Int32))) (x := 15) 4 (by omega) (by decide)
  refine dz_Tle (fun h4 => ?_) (fun h4 => ?_)
  · skip
    exact dz_Ts (hr_a281)
  · skip
    refine dz_Tin (by omega) (by omega) ?_
    have e5 := dz_ptat (hr_a282) (i := v1) (x := 7) 3 (by omega) (by decide)
    have e6 := dz_sub (a := v4) (b := (a282 v1.toNatClampNeg)) (by omega) (by omega)
    refine dz_Tb (t171_X10_codeOf_g24 fu hfu _ _ _ _ _ p2 p3 (by omega) (by omega) (by first | assumption | omega) i0 i1 (hr_a268) (hr_a283)) (fun r1 q => ?_)
    obtain ⟨q1_0, q1_1⟩ := q
    have e7 := dz_l0
    exact (ih k0 (by omega)).2 v1 v2 v3 v4 r1 (0 : Int32) (0 : Int32) a281 i0 i1 i2 i3 i4 i5 (by first | assumption | omega) i7 q1_1 q1_0 (by omega) (by omega) (by omega) (by omega) (by omega) (by omega) (by omega) (by first | assumption | omega) (by omega) (hr_a281) (by omega)
set_option maxHeartbeats 1000000 in
set_option maxRecDepth 10000 in
theorem t172_X10_fillLast_h2_g24 (fu : Nat) (hfu : 1000000000000 ≤ fu) (c248_pots : Int32) (c261_many : Int32) (c267_total : Int32) (a268 : Nat → Int32) (a269 : Nat → Int32) (n269 : Nat) (a282 : Nat → Int32) (a283 : Nat → Int32) (p0 : c248_pots.toInt ≤ 4) (p1 : 4 ≤ c248_pots.toInt) (p2 : c261_many.toInt ≤ 2) (p3 : 2 ≤ c261_many.toInt) (p4 : c267_total.toInt ≤ 16) (p5 : 16 ≤ c267_total.toInt) (p6 : ((n269 : Nat) : Int) ≤ 13824) (p7 : 1 ≤ ((n269 : Nat) : Int)) (p8 : c267_total.toInt ≤ ((n269 : Nat) : Int)) (hr_a268 : dz_pt a268 [8, 4, 2, 1]) (hr_a269 : dz_rg a269 n269 0 1023) (hr_a282 : dz_pt a282 [0, 1, 3, 7, 15]) (hr_a283 : dz_pm a283 4) (o0 : 1 ≤ c248_pots.toInt) (k : Nat) (ih : ∀ j9, j9 < k → p172_X10_fillLast_g24 fu c248_pots c261_many c267_total a268 a269 n269 a282 a283 j9) : ∀ (v1 : Int32) (v2 : Int32) (v3 : Int32) (v4 : Int32) (v5 : Int32) (v6 : Int32) (v7 : Int32) (a281 : Nat → Int32), v1.toInt ≤ 3 → 3 ≤ v1.toInt → v2.toInt ≤ 2 → 2 ≤ v2.toInt → v3.toInt ≤ 8 → 1 ≤ v3.toInt → v4.toInt ≤ 15 → 7 ≤ v4.toInt → v5.toInt ≤ 15 → 0 ≤ v5.toInt → v6.toInt ≤ 3 → 0 ≤ v6.toInt → v7.toInt ≤ 2 → 0 ≤ v7.toInt → v7.toInt ≤ v5.toInt → v6.toInt ≤ v5.toInt + 2 → v6.toInt ≤ v7.toInt + 2 → v4.toInt ≤ v5.toInt + 14 → v4.toInt ≤ v7.toInt + 14 → dz_rg a281 601 0 16777215 → 0 + 0 + ((16 - v4.toInt) - 1) * 80 + 0 + (2 - v7.toInt) * 16 + 16 ≤ ((k : Nat) : Int) → dz_T ((F172_X10_fillLast fu c248_pots c261_many c267_total a268 a269 n269 a282 a283 k).2.1 v1 v2 v3 v4 v5 v6 v7 a281) (fun r => dz_rg r 601 0 16777215) := by
  intro v1 v2 v3 v4 v5 v6 v7 a281 i0 i1 i2 i3 i4 i5 i6 i7 i8 i9 i10 i11 i12 i13 i14 i15 i16 i17 i18 hr_a281 hm
  obtain ⟨k0, rfl⟩ : ∃ x, k = x + 1 := ⟨k - 1, by omega⟩
  show dz_T (s172_X10_fillLast_2 fu c248_pots c261_many c267_total a268 a269 n269 a282 a283 (F172_X10_fillLast fu c248_pots c261_many c267_total a268 a269 n269 a282 a283 k0).2.2.1 (F172_X10_fillLast fu c248_pots c261_many c267_total a268 a269 n269 a282 a283 k0).2.2.2  v1 v2 v3 v4 v5 v6 v7 a281) _
  unfold s172_X10_fillLast_2
  refine dz_Tle (fun h1 => ?_) (fun h1 => ?_)
  · skip
    obtain ⟨k1, rfl⟩ : ∃ x, k0 = x + 1 := ⟨k0 - 1, by omega⟩
    show dz_T (s172_X10_fillLast_3 fu c248_pots c261_many c267_total a268 a269 n269 a282 a283 (F172_X10_fillLast fu c248_pots c261_many c267_total a268 a269 n269 a282 a283 k1).1 v1 v2 v3 v4 v6 a281) _
    unfold s172_X10_fillLast_3
    refine dz_Tin (by omega) (by omega) ?_
    have e2 := dz_l1
    have e3 := dz_add (a := v4) (b := (1 : Int32)) (by omega) (by omega)
    exact (ih k1 (by omega)).1 v1 v2 v3 (v4 + (1 : Int32)) (upd a281 v4.toNatClampNeg v6) i0 i1 i2 i3 i4 i5 (by omega) (by omega) (dz_rgu (hr_a281) (by omega) (by omega)) (by omega)
  · skip
    refine dz_Tin (by omega) (by omega) ?_
    have e4 := dz_rgat (hr_a269) (i := v5) (by omega) (by omega)
    have e5 := dz_l0
    refine dz_Teq (fun h6 => ?_) (fun h6 => ?_)
    · skip
      obtain ⟨k2, rfl⟩ : ∃ x, k0 = x + 1 := ⟨k0 - 1, by omega⟩
      show dz_T (s172_X10_fillLast_4 fu c248_pots c261_many c267_total a268 a269 n269 a282 a283 (F172_X10_fillLast fu c248_pots c261_many c267_total a268 a269 n269 a282 a283 k2).2.1 (F172_X10_fillLast fu c248_pots c261_many c267_total a268 a269 n269 a282 a283 k2).2.2.1 v1 v2 v3 v4 v5 (v6 ||| ((1 : Int32) <<< (v7 &&& (31 : Int32)))) v7 a281) _
      unfold s172_X10_fillLast_4
      have e7 := dz_add (a := v5) (b := v3) (by omega) (by omega)
      refine dz_Tlt (fun h8 => ?_) (fun h8 => ?_)
      · skip
        have e9 := dz_l1
        have e10 := dz_l31
        have e11 := dz_andr (a := v7) (b := (31 : Int32)) (by omega)
        have e12 := dz_andl (a := v7) (b := (31 : Int32)) (by omega)
        have e13 := dz_shl1 (b := v7) 0 1 (by omega) (by omega) (by omega)
        have e14 := dz_orb (a := v6) (b := ((1 : Int32) <<< (v7 &&& (31 : Int32)))) 2 (by omega) (by omega) (by omega) (by omega) (by omega)
        have e15 := dz_add (a := v7) (b := (1 : Int32)) (by omega) (by omega)
        exact (ih k2 (by omega)).2 v1 v2 v3 v4 (v5 + v3) (v6 ||| ((1 : Int32) <<< (v7 &&& (31 : Int32)))) (v7 + (1 : Int32)) a281 i0 i1 i2 i3 i4 i5 i6 i7 (by omega) (by omega) (by omega) (by omega) (by omega) (by omega) (by omega) (by omega) (by omega) (by omega) (by omega) (hr_a281) (by omega)
      · skip
        obtain ⟨k3, rfl⟩ : ∃ x, k2 = x + 1 := ⟨k2 - 1, by omega⟩
        show dz_T (s172_X10_fillLast_3 fu c248_pots c261_many c267_total a268 a269 n269 a282 a283 (F172_X10_fillLast fu c248_pots c261_many c267_total a268 a269 n269 a282 a283 k3).1 v1 v2 v3 v4 (v6 ||| ((1 : Int32) <<< (v7 &&& (31 : Int32)))) a281) _
        unfold s172_X10_fillLast_3
        refine dz_Tin (by omega) (by omega) ?_
        have e16 := dz_l1
        have e17 := dz_add (a := v4) (b := (1 : Int32)) (by omega) (by omega)
        have e18 := dz_l31
        have e19 := dz_andr (a := v7) (b := (31 : Int32)) (by omega)
        have e20 := dz_andl (a := v7) (b := (31 : Int32)) (by omega)
        have e21 := dz_shl1 (b := v7) 0 1 (by omega) (by omega) (by omega)
        have e22 := dz_orb (a := v6) (b := ((1 : Int32) <<< (v7 &&& (31 : Int32)))) 2 (by omega) (by omega) (by omega) (by omega) (by omega)
        exact (ih k3 (by omega)).1 v1 v2 v3 (v4 + (1 : Int32)) (upd a281 v4.toNatClampNeg (v6 ||| ((1 : Int32) <<< (v7 &&& (31 : Int32))))) i0 i1 i2 i3 i4 i5 (by omega) (by omega) (dz_rgu (hr_a281) (by omega) (by omega)) (by omega)
    · skip
      obtain ⟨k4, rfl⟩ : ∃ x, k0 = x + 1 := ⟨k0 - 1, by omega⟩
      show dz_T (s172_X10_fillLast_4 fu c248_pots c261_many c267_total a268 a269 n269 a282 a283 (F172_X10_fillLast fu c248_pots c261_many c267_total a268 a269 n269 a282 a283 k4).2.1 (F172_X10_fillLast fu c248_pots c261_many c267_total a268 a269 n269 a282 a283 k4).2.2.1 v1 v2 v3 v4 v5 v6 v7 a281) _
      unfold s172_X10_fillLast_4
      have e23 := dz_add (a := v5) (b := v3) (by omega) (by omega)
      refine dz_Tlt (fun h24 => ?_) (fun h24 => ?_)
      · skip
        have e25 := dz_l1
        have e26 := dz_add (a := v7) (b := (1 : Int32)) (by omega) (by omega)
        exact (ih k4 (by omega)).2 v1 v2 v3 v4 (v5 + v3) v6 (v7 + (1 : Int32)) a281 i0 i1 i2 i3 i4 i5 i6 i7 (by omega) (by omega) i10 i11 (by omega) (by omega) (by omega) (by omega) (by omega) (by omega) (by omega) (hr_a281) (by omega)
      · skip
        obtain ⟨k5, rfl⟩ : ∃ x, k4 = x + 1 := ⟨k4 - 1, by omega⟩
        show dz_T (s172_X10_fillLast_3 fu c248_pots c261_many c267_total a268 a269 n269 a282 a283 (F172_X10_fillLast fu c248_pots c261_many c267_total a268 a269 n269 a282 a283 k5).1 v1 v2 v3 v4 v6 a281) _
        unfold s172_X10_fillLast_3
        refine dz_Tin (by omega) (by omega) ?_
        have e27 := dz_l1
        have e28 := dz_add (a := v4) (b := (1 : Int32)) (by omega) (by omega)
        exact (ih k5 (by omega)).1 v1 v2 v3 (v4 + (1 : Int32)) (upd a281 v4.toNatClampNeg v6) i0 i1 i2 i3 i4 i5 (by omega) (by omega) (dz_rgu (hr_a281) (by omega) (by omega)) (by omega)
theorem t172_X10_fillLast_I_g24 (fu : Nat) (hfu : 1000000000000 ≤ fu) (c248_pots : Int32) (c261_many : Int32) (c267_total : Int32) (a268 : Nat → Int32) (a269 : Nat → Int32) (n269 : Nat) (a282 : Nat → Int32) (a283 : Nat → Int32) (p0 : c248_pots.toInt ≤ 4) (p1 : 4 ≤ c248_pots.toInt) (p2 : c261_many.toInt ≤ 2) (p3 : 2 ≤ c261_many.toInt) (p4 : c267_total.toInt ≤ 16) (p5 : 16 ≤ c267_total.toInt) (p6 : ((n269 : Nat) : Int) ≤ 13824) (p7 : 1 ≤ ((n269 : Nat) : Int)) (p8 : c267_total.toInt ≤ ((n269 : Nat) : Int)) (hr_a268 : dz_pt a268 [8, 4, 2, 1]) (hr_a269 : dz_rg a269 n269 0 1023) (hr_a282 : dz_pt a282 [0, 1, 3, 7, 15]) (hr_a283 : dz_pm a283 4) (o0 : 1 ≤ c248_pots.toInt) (k : Nat) : p172_X10_fillLast_g24 fu c248_pots c261_many c267_total a268 a269 n269 a282 a283 k := by
  induction k using Nat.strongRecOn with
  | _ k ih => exact ⟨t172_X10_fillLast_h1_g24 fu hfu c248_pots c261_many c267_total a268 a269 n269 a282 a283 p0 p1 p2 p3 p4 p5 p6 p7 p8 hr_a268 hr_a269 hr_a282 hr_a283 o0 k ih, t172_X10_fillLast_h2_g24 fu hfu c248_pots c261_many c267_total a268 a269 n269 a282 a283 p0 p1 p2 p3 p4 p5 p6 p7 p8 hr_a268 hr_a269 hr_a282 hr_a283 o0 k ih⟩
set_option maxHeartbeats 1000000 in
set_option maxRecDepth 10000 in
theorem t172_X10_fillLast_E_g24 (fu : Nat) (hfu : 1000000000000 ≤ fu) (c248_pots : Int32) (c261_many : Int32) (c267_total : Int32) (a268 : Nat → Int32) (a269 : Nat → Int32) (n269 : Nat) (a282 : Nat → Int32) (a283 : Nat → Int32) (a281 : Nat → Int32) (p0 : c248_pots.toInt ≤ 4) (p1 : 4 ≤ c248_pots.toInt) (p2 : c261_many.toInt ≤ 2) (p3 : 2 ≤ c261_many.toInt) (p4 : c267_total.toInt ≤ 16) (p5 : 16 ≤ c267_total.toInt) (p6 : ((n269 : Nat) : Int) ≤ 13824) (p7 : 1 ≤ ((n269 : Nat) : Int)) (p8 : c267_total.toInt ≤ ((n269 : Nat) : Int)) (hr_a268 : dz_pt a268 [8, 4, 2, 1]) (hr_a269 : dz_rg a269 n269 0 1023) (hr_a282 : dz_pt a282 [0, 1, 3, 7, 15]) (hr_a283 : dz_pm a283 4) (hr_a281 : dz_rg a281 601 0 16777215) (o0 : 1 ≤ c248_pots.toInt) (kv : Nat) (hkv : 1000000000000 ≤ kv) : dz_T (s172_X10_fillLast_0 fu c248_pots c261_many c267_total a268 a269 n269 a282 a283 (F172_X10_fillLast fu c248_pots c261_many c267_total a268 a269 n269 a282 a283 kv).1  a281) (fun r => dz_rg r 601 0 16777215) := by
  unfold s172_X10_fillLast_0
  have e1 := dz_l1
  have e2 := dz_sub (a := c248_pots) (b := (1 : Int32)) (by omega) (by omega)
  refine dz_Tin (by omega) (by omega) ?_
  have e3 := dz_pmat (hr_a283) (i := (c248_pots - (1 : Int32))) (by decide) (by omega) (by omega)
  refine dz_Tin (by omega) (by omega) ?_
  refine dz_Tin (by omega) (by omega) ?_
  have e4 := dz_ptrg (hr_a268) (i := (a283 (c248_pots - (1 : Int32)).toNatClampNeg)) 1 8 (by decide) (by omega) (by show _ < ((4 : Nat) : Int); omega)
  have e5 := dz_ptat (hr_a282) (i := (c248_pots - (1 : Int32))) (x := 7) 3 (by omega) (by decide)
  exact (t172_X10_fillLast_I_g24 fu hfu c248_pots c261_many c267_total a268 a269 n269 a282 a283 p0 p1 p2 p3 p4 p5 p6 p7 p8 hr_a268 hr_a269 hr_a282 hr_a283 o0 kv).1 (c248_pots - (1 : Int32)) c261_many (a268 (a283 (c248_pots - (1 : Int32)).toNatClampNeg).toNatClampNeg) (a282 (c248_pots - (1 : Int32)).toNatClampNeg) a281 (by omega) (by omega) p2 p3 (by omega) (by omega) (by omega) (by omega) (hr_a281) (by omega)
theorem t172_X10_fillLast_g24 (fu : Nat) (hfu : 1000000000000 ≤ fu) (c248_pots : Int32) (c261_many : Int32) (c267_total : Int32) (a268 : Nat → Int32) (a269 : Nat → Int32) (n269 : Nat) (a282 : Nat → Int32) (a283 : Nat → Int32) (a281 : Nat → Int32) (p0 : c248_pots.toInt ≤ 4) (p1 : 4 ≤ c248_pots.toInt) (p2 : c261_many.toInt ≤ 2) (p3 : 2 ≤ c261_many.toInt) (p4 : c267_total.toInt ≤ 16) (p5 : 16 ≤ c267_total.toInt) (p6 : ((n269 : Nat) : Int) ≤ 13824) (p7 : 1 ≤ ((n269 : Nat) : Int)) (p8 : c267_total.toInt ≤ ((n269 : Nat) : Int)) (hr_a268 : dz_pt a268 [8, 4, 2, 1]) (hr_a269 : dz_rg a269 n269 0 1023) (hr_a282 : dz_pt a282 [0, 1, 3, 7, 15]) (hr_a283 : dz_pm a283 4) (hr_a281 : dz_rg a281 601 0 16777215) (o0 : 1 ≤ c248_pots.toInt) : dz_T (f172_X10_fillLast fu c248_pots c261_many c267_total a268 a269 n269 a282 a283 a281) (fun r => dz_rg r 601 0 16777215) :=
  t172_X10_fillLast_E_g24 fu hfu c248_pots c261_many c267_total a268 a269 n269 a282 a283 a281 p0 p1 p2 p3 p4 p5 p6 p7 p8 hr_a268 hr_a269 hr_a282 hr_a283 hr_a281 o0 fu hfu
