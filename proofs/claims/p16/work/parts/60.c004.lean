set_option maxHeartbeats 1000000 in
theorem t142_X2_breakBar_s (fu : Nat) (hfu : 1000000000000 ≤ fu) (κ : Nat) (hκ : κ < 14) (c248_pots : Int32) (c261_many : Int32) (c267_total : Int32) (a268 : Nat → Int32) (n269 : Nat) (a273 : Nat → Int32) (v1 : Int32) (v2 : Int32) (a269 : Nat → Int32) (p0 : c248_pots.toInt ≤ 4) (p1 : 0 ≤ c248_pots.toInt) (p2 : c261_many.toInt ≤ 24) (p3 : 0 ≤ c261_many.toInt) (p4 : c267_total.toInt ≤ 13824) (p5 : 1 ≤ c267_total.toInt) (p6 : ((n269 : Nat) : Int) ≤ 13824) (p7 : 1 ≤ ((n269 : Nat) : Int)) (p8 : c267_total.toInt ≤ ((n269 : Nat) : Int)) (p9 : 1 ≤ c248_pots.toInt) (p10 : 0 ≤ v1.toInt) (p11 : v1.toInt ≤ 1023) (hr_a268 : dz_pt a268 (dz_kS κ)) (hr_a269 : dz_rg a269 n269 0 1023) (o0 : c248_pots.toInt = ((dz_kp κ : Nat) : Int)) (o1 : c261_many.toInt = ((dz_kr κ : Nat) : Int)) (o2 : c267_total.toInt = ((dz_kt κ : Nat) : Int)) : dz_T (f142_X2_breakBar fu c248_pots c261_many c267_total a268 n269 a273 v1 v2 a269) (fun r => dz_rg r n269 0 1023) := by
  rcases (show κ = 0 ∨ κ = 1 ∨ κ = 2 ∨ κ = 3 ∨ κ = 4 ∨ κ = 5 ∨ κ = 6 ∨ κ = 7 ∨ κ = 8 ∨ κ = 9 ∨ κ = 10 ∨ κ = 11 ∨ κ = 12 ∨ κ = 13 by omega) with rfl | rfl | rfl | rfl | rfl | rfl | rfl | rfl | rfl | rfl | rfl | rfl | rfl | rfl
  · skip
    exfalso
    have o0 : c248_pots.toInt = (0 : Int) := o0
    have o1 : c261_many.toInt = (2 : Int) := o1
    have o2 : c267_total.toInt = (1 : Int) := o2
    omega
  · skip
    have o0 : c248_pots.toInt = (1 : Int) := o0
    have o1 : c261_many.toInt = (2 : Int) := o1
    have o2 : c267_total.toInt = (2 : Int) := o2
    refine dz_Tw (t142_X2_breakBar_g21 fu hfu c248_pots c261_many c267_total a268 n269 a273 v1 v2 a269 (by first | assumption | omega) (by first | assumption | omega) (by first | assumption | omega) (by first | assumption | omega) (by first | assumption | omega) (by first | assumption | omega) (by first | assumption | omega) (by first | assumption | omega) (by first | assumption | omega) (by first | assumption | omega) (by first | assumption | omega) (by first | assumption | omega) (by first | exact hr_a268 | exact dz_rgm hr_a268 (by omega) (by omega) | exact dz_pmr hr_a268 (by decide) (by omega) (by omega) (by omega) | exact dz_ptr hr_a268 (by decide) (by decide) (by omega) | exact dz_ptr hr_a268 (by decide) (by decide) (by show _ ≤ 1; omega) | exact dz_rgs hr_a268 (by omega)) (by first | exact hr_a269 | exact dz_rgm hr_a269 (by omega) (by omega) | exact dz_pmr hr_a269 (by decide) (by omega) (by omega) (by omega) | exact dz_ptr hr_a269 (by decide) (by decide) (by omega) | exact dz_ptr hr_a269 (by decide) (by decide) (by show _ ≤ 1; omega) | exact dz_rgs hr_a269 (by omega))) (fun r h => ?_)
    exact (by first | exact h | exact dz_rgm h (by omega) (by omega))
  · skip
    have o0 : c248_pots.toInt = (2 : Int) := o0
    have o1 : c261_many.toInt = (2 : Int) := o1
    have o2 : c267_total.toInt = (4 : Int) := o2
    refine dz_Tw (t142_X2_breakBar_g22 fu hfu c248_pots c261_many c267_total a268 n269 a273 v1 v2 a269 (by first | assumption | omega) (by first | assumption | omega) (by first | assumption | omega) (by first | assumption | omega) (by first | assumption | omega) (by first | assumption | omega) (by first | assumption | omega) (by first | assumption | omega) (by first | assumption | omega) (by first | assumption | omega) (by first | assumption | omega) (by first | assumption | omega) (by first | exact hr_a268 | exact dz_rgm hr_a268 (by omega) (by omega) | exact dz_pmr hr_a268 (by decide) (by omega) (by omega) (by omega) | exact dz_ptr hr_a268 (by decide) (by decide) (by omega) | exact dz_ptr hr_a268 (by decide) (by decide) (by show _ ≤ 2; omega) | exact dz_rgs hr_a268 (by omega)) (by first | exact hr_a269 | exact dz_rgm hr_a269 (by omega) (by omega) | exact dz_pmr hr_a269 (by decide) (by omega) (by omega) (by omega) | exact dz_ptr hr_a269 (by decide) (by decide) (by omega) | exact dz_ptr hr_a269 (by decide) (by decide) (by show _ ≤ 2; omega) | exact dz_rgs hr_a269 (by omega))) (fun r h => ?_)
    exact (by first | exact h | exact dz_rgm h (by omega) (by omega))
  · skip
    have o0 : c248_pots.toInt = (3 : Int) := o0
    have o1 : c261_many.toInt = (2 : Int) := o1
    have o2 : c267_total.toInt = (8 : Int) := o2
    refine dz_Tw (t142_X2_breakBar_g23 fu hfu c248_pots c261_many c267_total a268 n269 a273 v1 v2 a269 (by first | assumption | omega) (by first | assumption | omega) (by first | assumption | omega) (by first | assumption | omega) (by first | assumption | omega) (by first | assumption | omega) (by first | assumption | omega) (by first | assumption | omega) (by first | assumption | omega) (by first | assumption | omega) (by first | assumption | omega) (by first | assumption | omega) (by first | exact hr_a268 | exact dz_rgm hr_a268 (by omega) (by omega) | exact dz_pmr hr_a268 (by decide) (by omega) (by omega) (by omega) | exact dz_ptr hr_a268 (by decide) (by decide) (by omega) | exact dz_ptr hr_a268 (by decide) (by decide) (by show _ ≤ 3; omega) | exact dz_rgs hr_a268 (by omega)) (by first | exact hr_a269 | exact dz_rgm hr_a269 (by omega) (by omega) | exact dz_pmr hr_a269 (by decide) (by omega) (by omega) (by omega) | exact dz_ptr hr_a269 (by decide) (by decide) (by omega) | exact dz_ptr hr_a269 (by decide) (by decide) (by show _ ≤ 3; omega) | exact dz_rgs hr_a269 (by omega))) (fun r h => ?_)
    exact (by first | exact h | exact dz_rgm h (by omega) (by omega))
  · skip
    have o0 : c248_pots.toInt = (4 : Int) := o0
    have o1 : c261_many.toInt = (2 : Int) := o1
    have o2 : c267_total.toInt = (16 : Int) := o2
    refine dz_Tw (t142_X2_breakBar_g24 fu hfu c248_pots c261_many c267_total a268 n269 a273 v1 v2 a269 (by first | assumption | omega) (by first | assumption | omega) (by first | assumption | omega) (by first | assumption | omega) (by first | assumption | omega) (by first | assumption | omega) (by first | assumption | omega) (by first | assumption | omega) (by first | assumption | omega) (by first | assumption | omega) (by first | assumption | omega) (by first | assumption | omega) (by first | exact hr_a268 | exact dz_rgm hr_a268 (by omega) (by omega) | exact dz_pmr hr_a268 (by decide) (by omega) (by omega) (by omega) | exact dz_ptr hr_a268 (by decide) (by decide) (by omega) | exact dz_ptr hr_a268 (by decide) (by decide) (by show _ ≤ 4; omega) | exact dz_rgs hr_a268 (by omega)) (by first | exact hr_a269 | exact dz_rgm hr_a269 (by omega) (by omega) | exact dz_pmr hr_a269 (by decide) (by omega) (by omega) (by omega) | exact dz_ptr hr_a269 (by decide) (by decide) (by omega) | exact dz_ptr hr_a269 (by decide) (by decide) (by show _ ≤ 4; omega) | exact dz_rgs hr_a269 (by omega))) (fun r h => ?_)
    exact (by first | exact h | exact dz_rgm h (by omega) (by omega))
  · skip
    exfalso
    have o0 : c248_pots.toInt = (0 : Int) := o0
    have o1 : c261_many.toInt = (6 : Int) := o1
    have o2 : c267_total.toInt = (1 : Int) := o2
    omega
  · skip
    have o0 : c248_pots.toInt = (1 : Int) := o0
    have o1 : c261_many.toInt = (6 : Int) := o1
    have o2 : c267_total.toInt = (6 : Int) := o2
    refine dz_Tw (t142_X2_breakBar_g31 fu hfu c248_pots c261_many c267_total a268 n269 a273 v1 v2 a269 (by first | assumption | omega) (by first | assumption | omega) (by first | assumption | omega) (by first | assumption | omega) (by first | assumption | omega) (by first | assumption | omega) (by first | assumption | omega) (by first | assumption | omega) (by first | assumption | omega) (by first | assumption | omega) (by first | assumption | omega) (by first | assumption | omega) (by first | exact hr_a268 | exact dz_rgm hr_a268 (by omega) (by omega) | exact dz_pmr hr_a268 (by decide) (by omega) (by omega) (by omega) | exact dz_ptr hr_a268 (by decide) (by decide) (by omega) | exact dz_ptr hr_a268 (by decide) (by decide) (by show _ ≤ 1; omega) | exact dz_rgs hr_a268 (by omega)) (by first | exact hr_a269 | exact dz_rgm hr_a269 (by omega) (by omega) | exact dz_pmr hr_a269 (by decide) (by omega) (by omega) (by omega) | exact dz_ptr hr_a269 (by decide) (by decide) (by omega) | exact dz_ptr hr_a269 (by decide) (by decide) (by show _ ≤ 1; omega) | exact dz_rgs hr_a269 (by omega))) (fun r h => ?_)
    exact (by first | exact h | exact dz_rgm h (by omega) (by omega))
  · skip
    have o0 : c248_pots.toInt = (2 : Int) := o0
    have o1 : c261_many.toInt = (6 : Int) := o1
    have o2 : c267_total.toInt = (36 : Int) := o2
    refine dz_Tw (t142_X2_breakBar_g32 fu hfu c248_pots c261_many c267_total a268 n269 a273 v1 v2 a269 (by first | assumption | omega) (by first | assumption | omega) (by first | assumption | omega) (by first | assumption | omega) (by first | assumption | omega) (by first | assumption | omega) (by first | assumption | omega) (by first | assumption | omega) (by first | assumption | omega) (by first | assumption | omega) (by first | assumption | omega) (by first | assumption | omega) (by first | exact hr_a268 | exact dz_rgm hr_a268 (by omega) (by omega) | exact dz_pmr hr_a268 (by decide) (by omega) (by omega) (by omega) | exact dz_ptr hr_a268 (by decide) (by decide) (by omega) | exact dz_ptr hr_a268 (by decide) (by decide) (by show _ ≤ 2; omega) | exact dz_rgs hr_a268 (by omega)) (by first | exact hr_a269 | exact dz_rgm hr_a269 (by omega) (by omega) | exact dz_pmr hr_a269 (by decide) (by omega) (by omega) (by omega) | exact dz_ptr hr_a269 (by decide) (by decide) (by omega) | exact dz_ptr hr_a269 (by decide) (by decide) (by show _ ≤ 2; omega) | exact dz_rgs hr_a269 (by omega))) (fun r h => ?_)
    exact (by first | exact h | exact dz_rgm h (by omega) (by omega))
  · skip
    have o0 : c248_pots.toInt = (3 : Int) := o0
    have o1 : c261_many.toInt = (6 : Int) := o1
    have o2 : c267_total.toInt = (216 : Int) := o2
    refine dz_Tw (t142_X2_breakBar_g33 fu hfu c248_pots c261_many c267_total a268 n269 a273 v1 v2 a269 (by first | assumption | omega) (by first | assumption | omega) (by first | assumption | omega) (by first | assumption | omega) (by first | assumption | omega) (by first | assumption | omega) (by first | assumption | omega) (by first | assumption | omega) (by first | assumption | omega) (by first | assumption | omega) (by first | assumption | omega) (by first | assumption | omega) (by first | exact hr_a268 | exact dz_rgm hr_a268 (by omega) (by omega) | exact dz_pmr hr_a268 (by decide) (by omega) (by omega) (by omega) | exact dz_ptr hr_a268 (by decide) (by decide) (by omega) | exact dz_ptr hr_a268 (by decide) (by decide) (by show _ ≤ 3; omega) | exact dz_rgs hr_a268 (by omega)) (by first | exact hr_a269 | exact dz_rgm hr_a269 (by omega) (by omega) | exact dz_pmr hr_a269 (by decide) (by omega) (by omega) (by omega) | exact dz_ptr hr_a269 (by decide) (by decide) (by omega) | exact dz_ptr hr_a269 (by decide) (by decide) (by show _ ≤ 3; omega) | exact dz_rgs hr_a269 (by omega))) (fun r h => ?_)
    exact (by first | exact h | exact dz_rgm h (by omega) (by omega))
  · skip
    have o0 : c248_pots.toInt = (4 : Int) := o0
    have o1 : c261_many.toInt = (6 : Int) := o1
    have o2 : c267_total.toInt = (1296 : Int) := o2
    refine dz_Tw (t142_X2_breakBar_g34 fu hfu c248_pots c261_many c267_total a268 n269 a273 v1 v2 a269 (by first | assumption | omega) (by first | assumption | omega) (by first | assumption | omega) (by first | assumption | omega) (by first | assumption | omega) (by first | assumption | omega) (by first | assumption | omega) (by first | assumption | omega) (by first | assumption | omega) (by first | assumption | omega) (by first | assumption | omega) (by first | assumption | omega) (by first | exact hr_a268 | exact dz_rgm hr_a268 (by omega) (by omega) | exact dz_pmr hr_a268 (by decide) (by omega) (by omega) (by omega) | exact dz_ptr hr_a268 (by decide) (by decide) (by omega) | exact dz_ptr hr_a268 (by decide) (by decide) (by show _ ≤ 4; omega) | exact dz_rgs hr_a268 (by omega)) (by first | exact hr_a269 | exact dz_rgm hr_a269 (by omega) (by omega) | exact dz_pmr hr_a269 (by decide) (by omega) (by omega) (by omega) | exact dz_ptr hr_a269 (by decide) (by decide) (by omega) | exact dz_ptr hr_a269 (by decide) (by decide) (by show _ ≤ 4; omega) | exact dz_rgs hr_a269 (by omega))) (fun r h => ?_)
    exact (by first | exact h | exact dz_rgm h (by omega) (by omega))
  · skip
    exfalso
    have o0 : c248_pots.toInt = (0 : Int) := o0
    have o1 : c261_many.toInt = (24 : Int) := o1
    have o2 : c267_total.toInt = (1 : Int) := o2
    omega
  · skip
    have o0 : c248_pots.toInt = (1 : Int) := o0
    have o1 : c261_many.toInt = (24 : Int) := o1
    have o2 : c267_total.toInt = (24 : Int) := o2
    refine dz_Tw (t142_X2_breakBar_g41 fu hfu c248_pots c261_many c267_total a268 n269 a273 v1 v2 a269 (by first | assumption | omega) (by first | assumption | omega) (by first | assumption | omega) (by first | assumption | omega) (by first | assumption | omega) (by first | assumption | omega) (by first | assumption | omega) (by first | assumption | omega) (by first | assumption | omega) (by first | assumption | omega) (by first | assumption | omega) (by first | assumption | omega) (by first | exact hr_a268 | exact dz_rgm hr_a268 (by omega) (by omega) | exact dz_pmr hr_a268 (by decide) (by omega) (by omega) (by omega) | exact dz_ptr hr_a268 (by decide) (by decide) (by omega) | exact dz_ptr hr_a268 (by decide) (by decide) (by show _ ≤ 1; omega) | exact dz_rgs hr_a268 (by omega)) (by first | exact hr_a269 | exact dz_rgm hr_a269 (by omega) (by omega) | exact dz_pmr hr_a269 (by decide) (by omega) (by omega) (by omega) | exact dz_ptr hr_a269 (by decide) (by decide) (by omega) | exact dz_ptr hr_a269 (by decide) (by decide) (by show _ ≤ 1; omega) | exact dz_rgs hr_a269 (by omega))) (fun r h => ?_)
    exact (by first | exact h | exact dz_rgm h (by omega) (by omega))
  · skip
    have o0 : c248_pots.toInt = (2 : Int) := o0
    have o1 : c261_many.toInt = (24 : Int) := o1
    have o2 : c267_total.toInt = (576 : Int) := o2
    refine dz_Tw (t142_X2_breakBar_g42 fu hfu c248_pots c261_many c267_total a268 n269 a273 v1 v2 a269 (by first | assumption | omega) (by first | assumption | omega) (by first | assumption | omega) (by first | assumption | omega) (by first | assumption | omega) (by first | assumption | omega) (by first | assumption | omega) (by first | assumption | omega) (by first | assumption | omega) (by first | assumption | omega) (by first | assumption | omega) (by first | assumption | omega) (by first | exact hr_a268 | exact dz_rgm hr_a268 (by omega) (by omega) | exact dz_pmr hr_a268 (by decide) (by omega) (by omega) (by omega) | exact dz_ptr hr_a268 (by decide) (by decide) (by omega) | exact dz_ptr hr_a268 (by decide) (by decide) (by show _ ≤ 2; omega) | exact dz_rgs hr_a268 (by omega)) (by first | exact hr_a269 | exact dz_rgm hr_a269 (by omega) (by omega) | exact dz_pmr hr_a269 (by decide) (by omega) (by omega) (by omega) | exact dz_ptr hr_a269 (by decide) (by decide) (by omega) | exact dz_ptr hr_a269 (by decide) (by decide) (by show _ ≤ 2; omega) | exact dz_rgs hr_a269 (by omega))) (fun r h => ?_)
    exact (by first | exact h | exact dz_rgm h (by omega) (by omega))
  · skip
    have o0 : c248_pots.toInt = (3 : Int) := o0
    have o1 : c261_many.toInt = (24 : Int) := o1
    have o2 : c267_total.toInt = (13824 : Int) := o2
    refine dz_Tw (t142_X2_breakBar_g43 fu hfu c248_pots c261_many c267_total a268 n269 a273 v1 v2 a269 (by first | assumption | omega) (by first | assumption | omega) (by first | assumption | omega) (by first | assumption | omega) (by first | assumption | omega) (by first | assumption | omega) (by first | assumption | omega) (by first | assumption | omega) (by first | assumption | omega) (by first | assumption | omega) (by first | assumption | omega) (by first | assumption | omega) (by first | exact hr_a268 | exact dz_rgm hr_a268 (by omega) (by omega) | exact dz_pmr hr_a268 (by decide) (by omega) (by omega) (by omega) | exact dz_ptr hr_a268 (by decide) (by decide) (by omega) | exact dz_ptr hr_a268 (by decide) (by decide) (by show _ ≤ 3; omega) | exact dz_rgs hr_a268 (by omega)) (by first | exact hr_a269 | exact dz_rgm hr_a269 (by omega) (by omega) | exact dz_pmr hr_a269 (by decide) (by omega) (by omega) (by omega) | exact dz_ptr hr_a269 (by decide) (by decide) (by omega) | exact dz_ptr hr_a269 (by decide) (by decide) (by show _ ≤ 3; omega) | exact dz_rgs hr_a269 (by omega))) (fun r h => ?_)
    exact (by first | exact h | exact dz_rgm h (by omega) (by omega))
set_option maxHeartbeats 1000000 in
set_option maxRecDepth 10000 in
theorem t143_X2_renew_E_g20 (fu : Nat) (hfu : 1000000000000 ≤ fu) (U : Nat) (c248_groups : Int32) (c248_pots : Int32) (c248_bars : Int32) (a252 : Nat → Int32) (a253 : Nat → Int32) (c261_many : Int32) (a262 : Nat → Int32) (c267_total : Int32) (c267_lawfulOnes : Int32) (a268 : Nat → Int32) (a269 : Nat → Int32) (n269 : Nat) (a270 : Nat → Int32) (n270 : Nat) (a271 : Nat → Int32) (a273 : Nat → Int32) (p0 : c248_groups.toInt ≤ 2) (p1 : 2 ≤ c248_groups.toInt) (p2 : c248_pots.toInt ≤ 0) (p3 : 0 ≤ c248_pots.toInt) (p4 : c248_bars.toInt ≤ 10) (p5 : 0 ≤ c248_bars.toInt) (p6 : c261_many.toInt ≤ 2) (p7 : 2 ≤ c261_many.toInt) (p8 : ((n269 : Nat) : Int) ≤ 13824) (p9 : 1 ≤ ((n269 : Nat) : Int)) (p10 : ((n270 : Nat) : Int) ≤ 13824) (p11 : 1 ≤ ((n270 : Nat) : Int)) (p12 : ((n269 : Nat) : Int) ≤ ((n270 : Nat) : Int)) (p13 : ((n270 : Nat) : Int) ≤ ((n269 : Nat) : Int)) (hr_a262 : dz_rg a262 96 0 3) (hr_a269 : dz_rg a269 n269 0 1023) (o0 : (1 ≤ n269) ∨ 2 * 1 ≤ U) (kv : Nat) (hkv : 1000000000000 ≤ kv) : dz_T (s143_X2_renew_0 fu U c248_groups c248_pots c248_bars a252 a253 c261_many a262 (F143_X2_renew fu U c248_groups c248_pots c248_bars a252 a253 c261_many a262 kv).1  c267_total c267_lawfulOnes a268 a269 n269 a270 n270 a271 a273) (fun r => r.1.toInt ≤ 1 ∧ 1 ≤ r.1.toInt ∧ r.2.1.toInt ≤ 1 ∧ 0 ≤ r.2.1.toInt ∧ ((r.2.2.2.2.1 : Nat) : Int) ≤ 13824 ∧ 1 ≤ ((r.2.2.2.2.1 : Nat) : Int) ∧ ((r.2.2.2.2.2.2.1 : Nat) : Int) ≤ 13824 ∧ 1 ≤ ((r.2.2.2.2.2.2.1 : Nat) : Int) ∧ ((r.2.2.2.2.1 : Nat) : Int) ≤ ((r.2.2.2.2.2.2.1 : Nat) : Int) ∧ ((r.2.2.2.2.2.2.1 : Nat) : Int) ≤ ((r.2.2.2.2.1 : Nat) : Int) ∧ dz_rg r.2.2.2.1 r.2.2.2.2.1 0 1023 ∧ dz_rg r.2.2.2.2.2.1 r.2.1.toInt.toNat 0 0 ∧ (r.1.toInt = 1)) := by
  unfold s143_X2_renew_0
  have e1 := dz_l1
  have e2 := dz_sub (a := c248_pots) (b := (1 : Int32)) (by omega) (by omega)
  generalize (c248_pots - (1 : Int32)) = zz6 at *
  obtain ⟨k1, rfl⟩ : ∃ x, kv = x + 1 := ⟨kv - 1, by omega⟩
  rw [dz_Fu143]
  unfold s143_X2_renew_1
  refine dz_Tg (by omega) ?_
  have e3 := dz_l0
  refine dz_Tlt (fun h4 => ?_) (fun h4 => ?_)
  · skip
    have e5 := dz_ofn (n := n269) (by omega)
    refine dz_Tle (fun h6 => ?_) (fun h6 => ?_)
    · skip
      obtain ⟨k2, rfl⟩ : ∃ x, k1 = x + 1 := ⟨k1 - 1, by omega⟩
      show dz_T (s143_X2_renew_2 fu U c248_groups c248_pots c248_bars a252 a253 c261_many a262 (F143_X2_renew fu U c248_groups c248_pots c248_bars a252 a253 c261_many a262 k2).2.2.1 (F143_X2_renew fu U c248_groups c248_pots c248_bars a252 a253 c261_many a262 k2).2.2.2 0 (1 : Int32) c267_lawfulOnes a268 a269 n269 a270 n270 a271 a273) _
      unfold s143_X2_renew_2
      refine dz_Tg (by omega) ?_
      refine dz_Tb (t135_J7_fill_fda19 fu hfu _ _ _ _ _ 0 1023 (by first | assumption | omega) (by omega) (by omega) (by omega) (by omega) (by omega) (hr_a269)) (fun r1 q => ?_)
      have qa1_0 := q
      refine dz_Tle (fun h7 => ?_) (fun h7 => ?_)
      · skip
        obtain ⟨k3, rfl⟩ : ∃ x, k2 = x + 1 := ⟨k2 - 1, by omega⟩
        show dz_T (s143_X2_renew_3 fu U c248_groups c248_pots c248_bars a252 a253 c261_many a262 0 (1 : Int32) c267_lawfulOnes a268 r1 n269 a270 n270 a271 a273) _
        unfold s143_X2_renew_3
        refine dz_Tg (by omega) ?_
        refine dz_Tb (t136_X2_listLawful_g20 fu hfu _ _ _ _ _ _ (by omega) (by omega) p8 p9 p10 p11 (by omega) (by omega) p12 p13 (qa1_0)) (fun r2 q => ?_)
        obtain ⟨q2_0, q2_1, qa2_1⟩ := q
        refine dz_Tb (t139_X2_tellWithin_g2 fu hfu _ _ _ _ _ p4 p5 (by omega) (by omega) p8 p9 (by omega) (qa1_0)) (fun r3 _ => ?_)
        refine dz_Ts ?_
        dsimp only
        exact ⟨(by omega), (by omega), q2_0, q2_1, p8, p9, p10, p11, p12, p13, (qa1_0), (dz_rgs (qa2_1) (by omega)), (by omega)⟩
      · skip
        exfalso; omega
    · skip
      exfalso; omega
  · skip
    exfalso; omega
theorem t143_X2_renew_g20 (fu : Nat) (hfu : 1000000000000 ≤ fu) (U : Nat) (c248_groups : Int32) (c248_pots : Int32) (c248_bars : Int32) (a252 : Nat → Int32) (a253 : Nat → Int32) (c261_many : Int32) (a262 : Nat → Int32) (c267_total : Int32) (c267_lawfulOnes : Int32) (a268 : Nat → Int32) (a269 : Nat → Int32) (n269 : Nat) (a270 : Nat → Int32) (n270 : Nat) (a271 : Nat → Int32) (a273 : Nat → Int32) (p0 : c248_groups.toInt ≤ 2) (p1 : 2 ≤ c248_groups.toInt) (p2 : c248_pots.toInt ≤ 0) (p3 : 0 ≤ c248_pots.toInt) (p4 : c248_bars.toInt ≤ 10) (p5 : 0 ≤ c248_bars.toInt) (p6 : c261_many.toInt ≤ 2) (p7 : 2 ≤ c261_many.toInt) (p8 : ((n269 : Nat) : Int) ≤ 13824) (p9 : 1 ≤ ((n269 : Nat) : Int)) (p10 : ((n270 : Nat) : Int) ≤ 13824) (p11 : 1 ≤ ((n270 : Nat) : Int)) (p12 : ((n269 : Nat) : Int) ≤ ((n270 : Nat) : Int)) (p13 : ((n270 : Nat) : Int) ≤ ((n269 : Nat) : Int)) (hr_a262 : dz_rg a262 96 0 3) (hr_a269 : dz_rg a269 n269 0 1023) (o0 : (1 ≤ n269) ∨ 2 * 1 ≤ U) : dz_T (f143_X2_renew fu U c248_groups c248_pots c248_bars a252 a253 c261_many a262 c267_total c267_lawfulOnes a268 a269 n269 a270 n270 a271 a273) (fun r => r.1.toInt ≤ 1 ∧ 1 ≤ r.1.toInt ∧ r.2.1.toInt ≤ 1 ∧ 0 ≤ r.2.1.toInt ∧ ((r.2.2.2.2.1 : Nat) : Int) ≤ 13824 ∧ 1 ≤ ((r.2.2.2.2.1 : Nat) : Int) ∧ ((r.2.2.2.2.2.2.1 : Nat) : Int) ≤ 13824 ∧ 1 ≤ ((r.2.2.2.2.2.2.1 : Nat) : Int) ∧ ((r.2.2.2.2.1 : Nat) : Int) ≤ ((r.2.2.2.2.2.2.1 : Nat) : Int) ∧ ((r.2.2.2.2.2.2.1 : Nat) : Int) ≤ ((r.2.2.2.2.1 : Nat) : Int) ∧ dz_rg r.2.2.2.1 r.2.2.2.2.1 0 1023 ∧ dz_rg r.2.2.2.2.2.1 r.2.1.toInt.toNat 0 0 ∧ (r.1.toInt = 1)) :=
  t143_X2_renew_E_g20 fu hfu U c248_groups c248_pots c248_bars a252 a253 c261_many a262 c267_total c267_lawfulOnes a268 a269 n269 a270 n270 a271 a273 p0 p1 p2 p3 p4 p5 p6 p7 p8 p9 p10 p11 p12 p13 hr_a262 hr_a269 o0 fu hfu
abbrev p143_X2_renew_g21 (fu : Nat) (U : Nat) (c248_groups : Int32) (c248_pots : Int32) (c248_bars : Int32) (a252 : Nat → Int32) (a253 : Nat → Int32) (c261_many : Int32) (a262 : Nat → Int32) (k : Nat) : Prop :=
  (∀ (v1 : Int32) (sl : Nat) (c267_total : Int32) (c267_lawfulOnes : Int32) (a268 : Nat → Int32) (a269 : Nat → Int32) (n269 : Nat) (a270 : Nat → Int32) (n270 : Nat) (a271 : Nat → Int32) (a273 : Nat → Int32), v1.toInt ≤ 10 → 0 ≤ v1.toInt → ((sl : Nat) : Int) ≤ 4 → c267_total.toInt ≤ 2 → 2 ≤ c267_total.toInt → ((n269 : Nat) : Int) ≤ 13824 → 2 ≤ ((n269 : Nat) : Int) → ((n270 : Nat) : Int) ≤ 13824 → 2 ≤ ((n270 : Nat) : Int) → ((n269 : Nat) : Int) ≤ ((n270 : Nat) : Int) → ((n270 : Nat) : Int) ≤ ((n269 : Nat) : Int) → ((sl : Nat) : Int) ≤ ((U : Nat) : Int) → v1.toInt ≤ c248_bars.toInt → dz_rg a269 n269 0 1023 → dz_pt a268 [1] → 0 + 0 + (10 - v1.toInt) * 16 + 8 ≤ ((k : Nat) : Int) → dz_T ((F143_X2_renew fu U c248_groups c248_pots c248_bars a252 a253 c261_many a262 k).2.2.2 v1 sl c267_total c267_lawfulOnes a268 a269 n269 a270 n270 a271 a273) (fun r => r.1.toInt ≤ 2 ∧ 2 ≤ r.1.toInt ∧ r.2.1.toInt ≤ 2 ∧ 0 ≤ r.2.1.toInt ∧ ((r.2.2.2.2.1 : Nat) : Int) ≤ 13824 ∧ 2 ≤ ((r.2.2.2.2.1 : Nat) : Int) ∧ ((r.2.2.2.2.2.2.1 : Nat) : Int) ≤ 13824 ∧ 2 ≤ ((r.2.2.2.2.2.2.1 : Nat) : Int) ∧ ((r.2.2.2.2.1 : Nat) : Int) ≤ ((r.2.2.2.2.2.2.1 : Nat) : Int) ∧ ((r.2.2.2.2.2.2.1 : Nat) : Int) ≤ ((r.2.2.2.2.1 : Nat) : Int) ∧ dz_rg r.2.2.2.1 r.2.2.2.2.1 0 1023 ∧ dz_pt r.2.2.1 [1] ∧ dz_rg r.2.2.2.2.2.1 r.2.1.toInt.toNat 0 1 ∧ (r.1.toInt = 2)))
set_option maxHeartbeats 1000000 in
set_option maxRecDepth 10000 in
theorem t143_X2_renew_h4_g21 (fu : Nat) (hfu : 1000000000000 ≤ fu) (U : Nat) (c248_groups : Int32) (c248_pots : Int32) (c248_bars : Int32) (a252 : Nat → Int32) (a253 : Nat → Int32) (c261_many : Int32) (a262 : Nat → Int32) (p0 : c248_groups.toInt ≤ 2) (p1 : 2 ≤ c248_groups.toInt) (p2 : c248_pots.toInt ≤ 1) (p3 : 1 ≤ c248_pots.toInt) (p4 : c248_bars.toInt ≤ 10) (p5 : 0 ≤ c248_bars.toInt) (p6 : c261_many.toInt ≤ 2) (p7 : 2 ≤ c261_many.toInt) (hr_a262 : dz_rg a262 96 0 3) (k : Nat) (ih : ∀ j9, j9 < k → p143_X2_renew_g21 fu U c248_groups c248_pots c248_bars a252 a253 c261_many a262 j9) : ∀ (v1 : Int32) (sl : Nat) (c267_total : Int32) (c267_lawfulOnes : Int32) (a268 : Nat → Int32) (a269 : Nat → Int32) (n269 : Nat) (a270 : Nat → Int32) (n270 : Nat) (a271 : Nat → Int32) (a273 : Nat → Int32), v1.toInt ≤ 10 → 0 ≤ v1.toInt → ((sl : Nat) : Int) ≤ 4 → c267_total.toInt ≤ 2 → 2 ≤ c267_total.toInt → ((n269 : Nat) : Int) ≤ 13824 → 2 ≤ ((n269 : Nat) : Int) → ((n270 : Nat) : Int) ≤ 13824 → 2 ≤ ((n270 : Nat) : Int) → ((n269 : Nat) : Int) ≤ ((n270 : Nat) : Int) → ((n270 : Nat) : Int) ≤ ((n269 : Nat) : Int) → ((sl : Nat) : Int) ≤ ((U : Nat) : Int) → v1.toInt ≤ c248_bars.toInt → dz_rg a269 n269 0 1023 → dz_pt a268 [1] → 0 + 0 + (10 - v1.toInt) * 16 + 8 ≤ ((k : Nat) : Int) → dz_T ((F143_X2_renew fu U c248_groups c248_pots c248_bars a252 a253 c261_many a262 k).2.2.2 v1 sl c267_total c267_lawfulOnes a268 a269 n269 a270 n270 a271 a273) (fun r => r.1.toInt ≤ 2 ∧ 2 ≤ r.1.toInt ∧ r.2.1.toInt ≤ 2 ∧ 0 ≤ r.2.1.toInt ∧ ((r.2.2.2.2.1 : Nat) : Int) ≤ 13824 ∧ 2 ≤ ((r.2.2.2.2.1 : Nat) : Int) ∧ ((r.2.2.2.2.2.2.1 : Nat) : Int) ≤ 13824 ∧ 2 ≤ ((r.2.2.2.2.2.2.1 : Nat) : Int) ∧ ((r.2.2.2.2.1 : Nat) : Int) ≤ ((r.2.2.2.2.2.2.1 : Nat) : Int) ∧ ((r.2.2.2.2.2.2.1 : Nat) : Int) ≤ ((r.2.2.2.2.1 : Nat) : Int) ∧ dz_rg r.2.2.2.1 r.2.2.2.2.1 0 1023 ∧ dz_pt r.2.2.1 [1] ∧ dz_rg r.2.2.2.2.2.1 r.2.1.toInt.toNat 0 1 ∧ (r.1.toInt = 2)) := by
  intro v1 sl c267_total c267_lawfulOnes a268 a269 n269 a270 n270 a271 a273 i0 i1 i2 i3 i4 i5 i6 i7 i8 i9 i10 i11 i12 hr_a269 hr_a268 hm
  obtain ⟨k0, rfl⟩ : ∃ x, k = x + 1 := ⟨k - 1, by omega⟩
  show dz_T (s143_X2_renew_4 fu U c248_groups c248_pots c248_bars a252 a253 c261_many a262 (F143_X2_renew fu U c248_groups c248_pots c248_bars a252 a253 c261_many a262 k0).2.2.1 (F143_X2_renew fu U c248_groups c248_pots c248_bars a252 a253 c261_many a262 k0).2.2.2  v1 sl c267_total c267_lawfulOnes a268 a269 n269 a270 n270 a271 a273) _
  unfold s143_X2_renew_4
  refine dz_Tg (by omega) ?_
  refine dz_Tle (fun h1 => ?_) (fun h1 => ?_)
  · skip
    obtain ⟨k1, rfl⟩ : ∃ x, k0 = x + 1 := ⟨k0 - 1, by omega⟩
    show dz_T (s143_X2_renew_3 fu U c248_groups c248_pots c248_bars a252 a253 c261_many a262 sl c267_total c267_lawfulOnes a268 a269 n269 a270 n270 a271 a273) _
    unfold s143_X2_renew_3
    refine dz_Tg (by omega) ?_
    refine dz_Tb (t136_X2_listLawful_g21 fu hfu _ _ _ _ _ _ i3 i4 i5 (by first | assumption | omega) i7 (by first | assumption | omega) (by first | assumption | omega) (by first | assumption | omega) i9 i10 (hr_a269)) (fun r1 q => ?_)
    obtain ⟨q1_0, q1_1, qa1_1⟩ := q
    refine dz_Tb (t139_X2_tellWithin_g2 fu hfu _ _ _ _ _ p4 p5 (by first | assumption | omega) (by first | assumption | omega) i5 (by first | assumption | omega) (by first | assumption | omega) (hr_a269)) (fun r2 _ => ?_)
    refine dz_Ts ?_
    dsimp only
    exact ⟨i3, i4, q1_0, q1_1, i5, i6, i7, i8, i9, i10, (hr_a269), (hr_a268), (dz_rgs (qa1_1) (by omega)), (by omega)⟩
  · skip
    refine dz_Tin (by omega) (by omega) ?_
    refine dz_Tb (t140_X2_tellHeld_g2 fu hfu _ _ _ _ _ _ p0 p1 (by first | assumption | omega) (by first | assumption | omega) p6 p7 (hr_a262)) (fun r3 _ => ?_)
    refine dz_Tin (by omega) (by omega) ?_
    have e2 := dz_l1
    have e3 := dz_l31
    have e4 := dz_andr (a := v1) (b := (31 : Int32)) (by omega)
    have e5 := dz_andl (a := v1) (b := (31 : Int32)) (by omega)
    have e6 := dz_shl1 (b := v1) 0 9 (by omega) (by omega) (by omega)
    have e7 := dz_l30583
    have e8 := dz_rng (a253 v1.toNatClampNeg)
    refine dz_Tb (t142_X2_breakBar_g21 fu hfu _ _ _ _ _ _ _ _ _ p2 p3 p6 p7 i3 i4 i5 (by first | assumption | omega) (by first | assumption | omega) p3 (by omega) (by omega) (hr_a268) (hr_a269)) (fun r4 q => ?_)
    have qa4_0 := q
    have e9 := dz_add (a := v1) (b := (1 : Int32)) (by omega) (by omega)
    exact (ih k0 (by omega)) (v1 + (1 : Int32)) sl c267_total c267_lawfulOnes a268 r4 n269 a270 n270 a271 r3 (by omega) (by omega) i2 i3 i4 i5 i6 i7 i8 i9 i10 i11 (by omega) (qa4_0) (hr_a268) (by omega)
theorem t143_X2_renew_I_g21 (fu : Nat) (hfu : 1000000000000 ≤ fu) (U : Nat) (c248_groups : Int32) (c248_pots : Int32) (c248_bars : Int32) (a252 : Nat → Int32) (a253 : Nat → Int32) (c261_many : Int32) (a262 : Nat → Int32) (p0 : c248_groups.toInt ≤ 2) (p1 : 2 ≤ c248_groups.toInt) (p2 : c248_pots.toInt ≤ 1) (p3 : 1 ≤ c248_pots.toInt) (p4 : c248_bars.toInt ≤ 10) (p5 : 0 ≤ c248_bars.toInt) (p6 : c261_many.toInt ≤ 2) (p7 : 2 ≤ c261_many.toInt) (hr_a262 : dz_rg a262 96 0 3) (k : Nat) : p143_X2_renew_g21 fu U c248_groups c248_pots c248_bars a252 a253 c261_many a262 k := by
  induction k using Nat.strongRecOn with
  | _ k ih => exact t143_X2_renew_h4_g21 fu hfu U c248_groups c248_pots c248_bars a252 a253 c261_many a262 p0 p1 p2 p3 p4 p5 p6 p7 hr_a262 k ih
set_option maxHeartbeats 1000000 in
set_option maxRecDepth 10000 in
theorem t143_X2_renew_E_g21 (fu : Nat) (hfu : 1000000000000 ≤ fu) (U : Nat) (c248_groups : Int32) (c248_pots : Int32) (c248_bars : Int32) (a252 : Nat → Int32) (a253 : Nat → Int32) (c261_many : Int32) (a262 : Nat → Int32) (c267_total : Int32) (c267_lawfulOnes : Int32) (a268 : Nat → Int32) (a269 : Nat → Int32) (n269 : Nat) (a270 : Nat → Int32) (n270 : Nat) (a271 : Nat → Int32) (a273 : Nat → Int32) (p0 : c248_groups.toInt ≤ 2) (p1 : 2 ≤ c248_groups.toInt) (p2 : c248_pots.toInt ≤ 1) (p3 : 1 ≤ c248_pots.toInt) (p4 : c248_bars.toInt ≤ 10) (p5 : 0 ≤ c248_bars.toInt) (p6 : c261_many.toInt ≤ 2) (p7 : 2 ≤ c261_many.toInt) (p8 : ((n269 : Nat) : Int) ≤ 13824) (p9 : 1 ≤ ((n269 : Nat) : Int)) (p10 : ((n270 : Nat) : Int) ≤ 13824) (p11 : 1 ≤ ((n270 : Nat) : Int)) (p12 : ((n269 : Nat) : Int) ≤ ((n270 : Nat) : Int)) (p13 : ((n270 : Nat) : Int) ≤ ((n269 : Nat) : Int)) (hr_a262 : dz_rg a262 96 0 3) (hr_a269 : dz_rg a269 n269 0 1023) (o0 : (2 ≤ n269) ∨ 2 * 2 ≤ U) (kv : Nat) (hkv : 1000000000000 ≤ kv) : dz_T (s143_X2_renew_0 fu U c248_groups c248_pots c248_bars a252 a253 c261_many a262 (F143_X2_renew fu U c248_groups c248_pots c248_bars a252 a253 c261_many a262 kv).1  c267_total c267_lawfulOnes a268 a269 n269 a270 n270 a271 a273) (fun r => r.1.toInt ≤ 2 ∧ 2 ≤ r.1.toInt ∧ r.2.1.toInt ≤ 2 ∧ 0 ≤ r.2.1.toInt ∧ ((r.2.2.2.2.1 : Nat) : Int) ≤ 13824 ∧ 2 ≤ ((r.2.2.2.2.1 : Nat) : Int) ∧ ((r.2.2.2.2.2.2.1 : Nat) : Int) ≤ 13824 ∧ 2 ≤ ((r.2.2.2.2.2.2.1 : Nat) : Int) ∧ ((r.2.2.2.2.1 : Nat) : Int) ≤ ((r.2.2.2.2.2.2.1 : Nat) : Int) ∧ ((r.2.2.2.2.2.2.1 : Nat) : Int) ≤ ((r.2.2.2.2.1 : Nat) : Int) ∧ dz_rg r.2.2.2.1 r.2.2.2.2.1 0 1023 ∧ dz_pt r.2.2.1 [1] ∧ dz_rg r.2.2.2.2.2.1 r.2.1.toInt.toNat 0 1 ∧ (r.1.toInt = 2)) := by
  unfold s143_X2_renew_0
  have e1 := dz_l1
  have e2 := dz_sub (a := c248_pots) (b := (1 : Int32)) (by omega) (by omega)
  generalize (c248_pots - (1 : Int32)) = zz10 at *
  obtain ⟨k1, rfl⟩ : ∃ x, kv = x + 1 := ⟨kv - 1, by omega⟩
  rw [dz_Fu143]
  unfold s143_X2_renew_1
  refine dz_Tg (by omega) ?_
  have e3 := dz_l0
  refine dz_Tlt (fun h4 => ?_) (fun h4 => ?_)
  · skip
    exfalso; omega
  · skip
    refine dz_Tin (by omega) (by omega) ?_
    have e5 := dz_lm1
    have e6 := dz_add (a := zz10) (b := (-(1 : Int32))) (by omega) (by omega)
    generalize (zz10 + (-(1 : Int32))) = zz11 at *
    have e7 := dz_mull (a := (1 : Int32)) (b := c261_many) 1 (by omega) (by omega) (by omega)
    generalize ((1 : Int32) * c261_many) = zz12 at *
    obtain ⟨k2, rfl⟩ : ∃ x, k1 = x + 1 := ⟨k1 - 1, by omega⟩
    rw [dz_Fu143]
    unfold s143_X2_renew_1
    refine dz_Tg (by omega) ?_
    refine dz_Tlt (fun h8 => ?_) (fun h8 => ?_)
    · skip
      have e9 := dz_ofn (n := n269) (by omega)
      refine dz_Tle (fun h10 => ?_) (fun h10 => ?_)
      · skip
        obtain ⟨k3, rfl⟩ : ∃ x, k2 = x + 1 := ⟨k2 - 1, by omega⟩
        show dz_T (s143_X2_renew_2 fu U c248_groups c248_pots c248_bars a252 a253 c261_many a262 (F143_X2_renew fu U c248_groups c248_pots c248_bars a252 a253 c261_many a262 k3).2.2.1 (F143_X2_renew fu U c248_groups c248_pots c248_bars a252 a253 c261_many a262 k3).2.2.2 0 zz12 c267_lawfulOnes (upd a268 zz10.toNatClampNeg (1 : Int32)) a269 n269 a270 n270 a271 a273) _
        unfold s143_X2_renew_2
        refine dz_Tg (by omega) ?_
        refine dz_Tb (t135_J7_fill_fda19 fu hfu _ _ _ _ _ 0 1023 (by first | assumption | omega) (by omega) (by omega) (by first | assumption | omega) (by omega) (by omega) (hr_a269)) (fun r1 q => ?_)
        have qa1_0 := q
        refine dz_Tle (fun h11 => ?_) (fun h11 => ?_)
        · skip
          exfalso; omega
        · skip
          exact (t143_X2_renew_I_g21 fu hfu U c248_groups c248_pots c248_bars a252 a253 c261_many a262 p0 p1 p2 p3 p4 p5 p6 p7 hr_a262 k3) (0 : Int32) 0 zz12 c267_lawfulOnes (upd a268 zz10.toNatClampNeg (1 : Int32)) r1 n269 a270 n270 a271 a273 (by omega) (by omega) (by first | assumption | omega) (by first | assumption | omega) (by first | assumption | omega) p8 (by first | assumption | omega) p10 (by first | assumption | omega) p12 p13 (by first | assumption | omega) (by omega) (qa1_0) (dz_ptmk1 ((dz_upk (j := zz10) 0 (by omega)).trans (by omega))) (by omega)
      · skip
        refine dz_Tng (by omega) ?_
        have e12 := dz_tn zz12
        refine dz_Tg (by omega) ?_
        refine dz_Tg (by omega) ?_
        refine dz_Tg (by omega) ?_
        refine dz_Tng (by omega) ?_
        refine dz_Tg (by omega) ?_
        refine dz_Tg (by omega) ?_
        refine dz_Tg (by omega) ?_
        obtain ⟨k4, rfl⟩ : ∃ x, k2 = x + 1 := ⟨k2 - 1, by omega⟩
        show dz_T (s143_X2_renew_2 fu U c248_groups c248_pots c248_bars a252 a253 c261_many a262 (F143_X2_renew fu U c248_groups c248_pots c248_bars a252 a253 c261_many a262 k4).2.2.1 (F143_X2_renew fu U c248_groups c248_pots c248_bars a252 a253 c261_many a262 k4).2.2.2 ((0 + zz12.toNatClampNeg) + zz12.toNatClampNeg) zz12 c267_lawfulOnes (upd a268 zz10.toNatClampNeg (1 : Int32)) (jw_l 0 []) zz12.toNatClampNeg (jw_l 0 []) zz12.toNatClampNeg a271 a273) _
        unfold s143_X2_renew_2
        refine dz_Tg (by omega) ?_
        refine dz_Tb (t135_J7_fill_fda19 fu hfu _ _ _ _ _ 0 0 (by first | assumption | omega) (by omega) (by omega) (by first | assumption | omega) (by omega) (by omega) (dz_rg0 (by omega) (by omega))) (fun r2 q => ?_)
        have qa2_0 := q
        refine dz_Tle (fun h13 => ?_) (fun h13 => ?_)
        · skip
          exfalso; omega
        · skip
          exact (t143_X2_renew_I_g21 fu hfu U c248_groups c248_pots c248_bars a252 a253 c261_many a262 p0 p1 p2 p3 p4 p5 p6 p7 hr_a262 k4) (0 : Int32) ((0 + zz12.toNatClampNeg) + zz12.toNatClampNeg) zz12 c267_lawfulOnes (upd a268 zz10.toNatClampNeg (1 : Int32)) r2 zz12.toNatClampNeg (jw_l 0 []) zz12.toNatClampNeg a271 a273 (by omega) (by omega) (by omega) (by first | assumption | omega) (by first | assumption | omega) (by first | assumption | omega) (by first | assumption | omega) (by first | assumption | omega) (by first | assumption | omega) (by first | assumption | omega) (by first | assumption | omega) (by omega) (by omega) (dz_rgm qa2_0 (by omega) (by omega)) (dz_ptmk1 ((dz_upk (j := zz10) 0 (by omega)).trans (by omega))) (by omega)
    · skip
      exfalso; omega
theorem t143_X2_renew_g21 (fu : Nat) (hfu : 1000000000000 ≤ fu) (U : Nat) (c248_groups : Int32) (c248_pots : Int32) (c248_bars : Int32) (a252 : Nat → Int32) (a253 : Nat → Int32) (c261_many : Int32) (a262 : Nat → Int32) (c267_total : Int32) (c267_lawfulOnes : Int32) (a268 : Nat → Int32) (a269 : Nat → Int32) (n269 : Nat) (a270 : Nat → Int32) (n270 : Nat) (a271 : Nat → Int32) (a273 : Nat → Int32) (p0 : c248_groups.toInt ≤ 2) (p1 : 2 ≤ c248_groups.toInt) (p2 : c248_pots.toInt ≤ 1) (p3 : 1 ≤ c248_pots.toInt) (p4 : c248_bars.toInt ≤ 10) (p5 : 0 ≤ c248_bars.toInt) (p6 : c261_many.toInt ≤ 2) (p7 : 2 ≤ c261_many.toInt) (p8 : ((n269 : Nat) : Int) ≤ 13824) (p9 : 1 ≤ ((n269 : Nat) : Int)) (p10 : ((n270 : Nat) : Int) ≤ 13824) (p11 : 1 ≤ ((n270 : Nat) : Int)) (p12 : ((n269 : Nat) : Int) ≤ ((n270 : Nat) : Int)) (p13 : ((n270 : Nat) : Int) ≤ ((n269 : Nat) : Int)) (hr_a262 : dz_rg a262 96 0 3) (hr_a269 : dz_rg a269 n269 0 1023) (o0 : (2 ≤ n269) ∨ 2 * 2 ≤ U) : dz_T (f143_X2_renew fu U c248_groups c248_pots c248_bars a252 a253 c261_many a262 c267_total c267_lawfulOnes a268 a269 n269 a270 n270 a271 a273) (fun r => r.1.toInt ≤ 2 ∧ 2 ≤ r.1.toInt ∧ r.2.1.toInt ≤ 2 ∧ 0 ≤ r.2.1.toInt ∧ ((r.2.2.2.2.1 : Nat) : Int) ≤ 13824 ∧ 2 ≤ ((r.2.2.2.2.1 : Nat) : Int) ∧ ((r.2.2.2.2.2.2.1 : Nat) : Int) ≤ 13824 ∧ 2 ≤ ((r.2.2.2.2.2.2.1 : Nat) : Int) ∧ ((r.2.2.2.2.1 : Nat) : Int) ≤ ((r.2.2.2.2.2.2.1 : Nat) : Int) ∧ ((r.2.2.2.2.2.2.1 : Nat) : Int) ≤ ((r.2.2.2.2.1 : Nat) : Int) ∧ dz_rg r.2.2.2.1 r.2.2.2.2.1 0 1023 ∧ dz_pt r.2.2.1 [1] ∧ dz_rg r.2.2.2.2.2.1 r.2.1.toInt.toNat 0 1 ∧ (r.1.toInt = 2)) :=
  t143_X2_renew_E_g21 fu hfu U c248_groups c248_pots c248_bars a252 a253 c261_many a262 c267_total c267_lawfulOnes a268 a269 n269 a270 n270 a271 a273 p0 p1 p2 p3 p4 p5 p6 p7 p8 p9 p10 p11 p12 p13 hr_a262 hr_a269 o0 fu hfu
abbrev p143_X2_renew_g22 (fu : Nat) (U : Nat) (c248_groups : Int32) (c248_pots : Int32) (c248_bars : Int32) (a252 : Nat → Int32) (a253 : Nat → Int32) (c261_many : Int32) (a262 : Nat → Int32) (k : Nat) : Prop :=
  (∀ (v1 : Int32) (sl : Nat) (c267_total : Int32) (c267_lawfulOnes : Int32) (a268 : Nat → Int32) (a269 : Nat → Int32) (n269 : Nat) (a270 : Nat → Int32) (n270 : Nat) (a271 : Nat → Int32) (a273 : Nat → Int32), v1.toInt ≤ 10 → 0 ≤ v1.toInt → ((sl : Nat) : Int) ≤ 8 → c267_total.toInt ≤ 4 → 4 ≤ c267_total.toInt → ((n269 : Nat) : Int) ≤ 13824 → 4 ≤ ((n269 : Nat) : Int) → ((n270 : Nat) : Int) ≤ 13824 → 4 ≤ ((n270 : Nat) : Int) → ((n269 : Nat) : Int) ≤ ((n270 : Nat) : Int) → ((n270 : Nat) : Int) ≤ ((n269 : Nat) : Int) → ((sl : Nat) : Int) ≤ ((U : Nat) : Int) → v1.toInt ≤ c248_bars.toInt → dz_rg a269 n269 0 1023 → dz_pt a268 [2, 1] → 0 + 0 + (10 - v1.toInt) * 16 + 8 ≤ ((k : Nat) : Int) → dz_T ((F143_X2_renew fu U c248_groups c248_pots c248_bars a252 a253 c261_many a262 k).2.2.2 v1 sl c267_total c267_lawfulOnes a268 a269 n269 a270 n270 a271 a273) (fun r => r.1.toInt ≤ 4 ∧ 4 ≤ r.1.toInt ∧ r.2.1.toInt ≤ 4 ∧ 0 ≤ r.2.1.toInt ∧ ((r.2.2.2.2.1 : Nat) : Int) ≤ 13824 ∧ 4 ≤ ((r.2.2.2.2.1 : Nat) : Int) ∧ ((r.2.2.2.2.2.2.1 : Nat) : Int) ≤ 13824 ∧ 4 ≤ ((r.2.2.2.2.2.2.1 : Nat) : Int) ∧ ((r.2.2.2.2.1 : Nat) : Int) ≤ ((r.2.2.2.2.2.2.1 : Nat) : Int) ∧ ((r.2.2.2.2.2.2.1 : Nat) : Int) ≤ ((r.2.2.2.2.1 : Nat) : Int) ∧ dz_rg r.2.2.2.1 r.2.2.2.2.1 0 1023 ∧ dz_pt r.2.2.1 [2, 1] ∧ dz_rg r.2.2.2.2.2.1 r.2.1.toInt.toNat 0 3 ∧ (r.1.toInt = 4)))
set_option maxHeartbeats 1000000 in
set_option maxRecDepth 10000 in
theorem t143_X2_renew_h4_g22 (fu : Nat) (hfu : 1000000000000 ≤ fu) (U : Nat) (c248_groups : Int32) (c248_pots : Int32) (c248_bars : Int32) (a252 : Nat → Int32) (a253 : Nat → Int32) (c261_many : Int32) (a262 : Nat → Int32) (p0 : c248_groups.toInt ≤ 2) (p1 : 2 ≤ c248_groups.toInt) (p2 : c248_pots.toInt ≤ 2) (p3 : 2 ≤ c248_pots.toInt) (p4 : c248_bars.toInt ≤ 10) (p5 : 0 ≤ c248_bars.toInt) (p6 : c261_many.toInt ≤ 2) (p7 : 2 ≤ c261_many.toInt) (hr_a262 : dz_rg a262 96 0 3) (k : Nat) (ih : ∀ j9, j9 < k → p143_X2_renew_g22 fu U c248_groups c248_pots c248_bars a252 a253 c261_many a262 j9) : ∀ (v1 : Int32) (sl : Nat) (c267_total : Int32) (c267_lawfulOnes : Int32) (a268 : Nat → Int32) (a269 : Nat → Int32) (n269 : Nat) (a270 : Nat → Int32) (n270 : Nat) (a271 : Nat → Int32) (a273 : Nat → Int32), v1.toInt ≤ 10 → 0 ≤ v1.toInt → ((sl : Nat) : Int) ≤ 8 → c267_total.toInt ≤ 4 → 4 ≤ c267_total.toInt → ((n269 : Nat) : Int) ≤ 13824 → 4 ≤ ((n269 : Nat) : Int) → ((n270 : Nat) : Int) ≤ 13824 → 4 ≤ ((n270 : Nat) : Int) → ((n269 : Nat) : Int) ≤ ((n270 : Nat) : Int) → ((n270 : Nat) : Int) ≤ ((n269 : Nat) : Int) → ((sl : Nat) : Int) ≤ ((U : Nat) : Int) → v1.toInt ≤ c248_bars.toInt → dz_rg a269 n269 0 1023 → dz_pt a268 [2, 1] → 0 + 0 + (10 - v1.toInt) * 16 + 8 ≤ ((k : Nat) : Int) → dz_T ((F143_X2_renew fu U c248_groups c248_pots c248_bars a252 a253 c261_many a262 k).2.2.2 v1 sl c267_total c267_lawfulOnes a268 a269 n269 a270 n270 a271 a273) (fun r => r.1.toInt ≤ 4 ∧ 4 ≤ r.1.toInt ∧ r.2.1.toInt ≤ 4 ∧ 0 ≤ r.2.1.toInt ∧ ((r.2.2.2.2.1 : Nat) : Int) ≤ 13824 ∧ 4 ≤ ((r.2.2.2.2.1 : Nat) : Int) ∧ ((r.2.2.2.2.2.2.1 : Nat) : Int) ≤ 13824 ∧ 4 ≤ ((r.2.2.2.2.2.2.1 : Nat) : Int) ∧ ((r.2.2.2.2.1 : Nat) : Int) ≤ ((r.2.2.2.2.2.2.1 : Nat) : Int) ∧ ((r.2.2.2.2.2.2.1 : Nat) : Int) ≤ ((r.2.2.2.2.1 : Nat) : Int) ∧ dz_rg r.2.2.2.1 r.2.2.2.2.1 0 1023 ∧ dz_pt r.2.2.1 [2, 1] ∧ dz_rg r.2.2.2.2.2.1 r.2.1.toInt.toNat 0 3 ∧ (r.1.toInt = 4)) := by
  intro v1 sl c267_total c267_lawfulOnes a268 a269 n269 a270 n270 a271 a273 i0 i1 i2 i3 i4 i5 i6 i7 i8 i9 i10 i11 i12 hr_a269 hr_a268 hm
  obtain ⟨k0, rfl⟩ : ∃ x, k = x + 1 := ⟨k - 1, by omega⟩
  show dz_T (s143_X2_renew_4 fu U c248_groups c248_pots c248_bars a252 a253 c261_many a262 (F143_X2_renew fu U c248_groups c248_pots c248_bars a252 a253 c261_many a262 k0).2.2.1 (F143_X2_renew fu U c248_groups c248_pots c248_bars a252 a253 c261_many a262 k0).2.2.2  v1 sl c267_total c267_lawfulOnes a268 a269 n269 a270 n270 a271 a273) _
  unfold s143_X2_renew_4
  refine dz_Tg (by omega) ?_
  refine dz_Tle (fun h1 => ?_) (fun h1 => ?_)
  · skip
    obtain ⟨k1, rfl⟩ : ∃ x, k0 = x + 1 := ⟨k0 - 1, by omega⟩
    show dz_T (s143_X2_renew_3 fu U c248_groups c248_pots c248_bars a252 a253 c261_many a262 sl c267_total c267_lawfulOnes a268 a269 n269 a270 n270 a271 a273) _
    unfold s143_X2_renew_3
    refine dz_Tg (by omega) ?_
    refine dz_Tb (t136_X2_listLawful_g22 fu hfu _ _ _ _ _ _ i3 i4 i5 (by first | assumption | omega) i7 (by first | assumption | omega) (by first | assumption | omega) (by first | assumption | omega) i9 i10 (hr_a269)) (fun r1 q => ?_)
    obtain ⟨q1_0, q1_1, qa1_1⟩ := q
    refine dz_Tb (t139_X2_tellWithin_g2 fu hfu _ _ _ _ _ p4 p5 (by first | assumption | omega) (by first | assumption | omega) i5 (by first | assumption | omega) (by first | assumption | omega) (hr_a269)) (fun r2 _ => ?_)
    refine dz_Ts ?_
    dsimp only
    exact ⟨i3, i4, q1_0, q1_1, i5, i6, i7, i8, i9, i10, (hr_a269), (hr_a268), (dz_rgs (qa1_1) (by omega)), (by omega)⟩
  · skip
    refine dz_Tin (by omega) (by omega) ?_
    refine dz_Tb (t140_X2_tellHeld_g2 fu hfu _ _ _ _ _ _ p0 p1 (by first | assumption | omega) (by first | assumption | omega) p6 p7 (hr_a262)) (fun r3 _ => ?_)
    refine dz_Tin (by omega) (by omega) ?_
    have e2 := dz_l1
    have e3 := dz_l31
    have e4 := dz_andr (a := v1) (b := (31 : Int32)) (by omega)
    have e5 := dz_andl (a := v1) (b := (31 : Int32)) (by omega)
    have e6 := dz_shl1 (b := v1) 0 9 (by omega) (by omega) (by omega)
    have e7 := dz_l30583
    have e8 := dz_rng (a253 v1.toNatClampNeg)
    refine dz_Tb (t142_X2_breakBar_g22 fu hfu _ _ _ _ _ _ _ _ _ p2 p3 p6 p7 i3 i4 i5 (by first | assumption | omega) (by first | assumption | omega) (by first | assumption | omega) (by omega) (by omega) (hr_a268) (hr_a269)) (fun r4 q => ?_)
    have qa4_0 := q
    have e9 := dz_add (a := v1) (b := (1 : Int32)) (by omega) (by omega)
    exact (ih k0 (by omega)) (v1 + (1 : Int32)) sl c267_total c267_lawfulOnes a268 r4 n269 a270 n270 a271 r3 (by omega) (by omega) i2 i3 i4 i5 i6 i7 i8 i9 i10 i11 (by omega) (qa4_0) (hr_a268) (by omega)
theorem t143_X2_renew_I_g22 (fu : Nat) (hfu : 1000000000000 ≤ fu) (U : Nat) (c248_groups : Int32) (c248_pots : Int32) (c248_bars : Int32) (a252 : Nat → Int32) (a253 : Nat → Int32) (c261_many : Int32) (a262 : Nat → Int32) (p0 : c248_groups.toInt ≤ 2) (p1 : 2 ≤ c248_groups.toInt) (p2 : c248_pots.toInt ≤ 2) (p3 : 2 ≤ c248_pots.toInt) (p4 : c248_bars.toInt ≤ 10) (p5 : 0 ≤ c248_bars.toInt) (p6 : c261_many.toInt ≤ 2) (p7 : 2 ≤ c261_many.toInt) (hr_a262 : dz_rg a262 96 0 3) (k : Nat) : p143_X2_renew_g22 fu U c248_groups c248_pots c248_bars a252 a253 c261_many a262 k := by
  induction k using Nat.strongRecOn with
  | _ k ih => exact t143_X2_renew_h4_g22 fu hfu U c248_groups c248_pots c248_bars a252 a253 c261_many a262 p0 p1 p2 p3 p4 p5 p6 p7 hr_a262 k ih
set_option maxHeartbeats 1000000 in
set_option maxRecDepth 10000 in
theorem t143_X2_renew_E_g22 (fu : Nat) (hfu : 1000000000000 ≤ fu) (U : Nat) (c248_groups : Int32) (c248_pots : Int32) (c248_bars : Int32) (a252 : Nat → Int32) (a253 : Nat → Int32) (c261_many : Int32) (a262 : Nat → Int32) (c267_total : Int32) (c267_lawfulOnes : Int32) (a268 : Nat → Int32) (a269 : Nat → Int32) (n269 : Nat) (a270 : Nat → Int32) (n270 : Nat) (a271 : Nat → Int32) (a273 : Nat → Int32) (p0 : c248_groups.toInt ≤ 2) (p1 : 2 ≤ c248_groups.toInt) (p2 : c248_pots.toInt ≤ 2) (p3 : 2 ≤ c248_pots.toInt) (p4 : c248_bars.toInt ≤ 10) (p5 : 0 ≤ c248_bars.toInt) (p6 : c261_many.toInt ≤ 2) (p7 : 2 ≤ c261_many.toInt) (p8 : ((n269 : Nat) : Int) ≤ 13824) (p9 : 1 ≤ ((n269 : Nat) : Int)) (p10 : ((n270 : Nat) : Int) ≤ 13824) (p11 : 1 ≤ ((n270 : Nat) : Int)) (p12 : ((n269 : Nat) : Int) ≤ ((n270 : Nat) : Int)) (p13 : ((n270 : Nat) : Int) ≤ ((n269 : Nat) : Int)) (hr_a262 : dz_rg a262 96 0 3) (hr_a269 : dz_rg a269 n269 0 1023) (o0 : (4 ≤ n269) ∨ 2 * 4 ≤ U) (kv : Nat) (hkv : 1000000000000 ≤ kv) : dz_T (s143_X2_renew_0 fu U c248_groups c248_pots c248_bars a252 a253 c261_many a262 (F143_X2_renew fu U c248_groups c248_pots c248_bars a252 a253 c261_many a262 kv).1  c267_total c267_lawfulOnes a268 a269 n269 a270 n270 a271 a273) (fun r => r.1.toInt ≤ 4 ∧ 4 ≤ r.1.toInt ∧ r.2.1.toInt ≤ 4 ∧ 0 ≤ r.2.1.toInt ∧ ((r.2.2.2.2.1 : Nat) : Int) ≤ 13824 ∧ 4 ≤ ((r.2.2.2.2.1 : Nat) : Int) ∧ ((r.2.2.2.2.2.2.1 : Nat) : Int) ≤ 13824 ∧ 4 ≤ ((r.2.2.2.2.2.2.1 : Nat) : Int) ∧ ((r.2.2.2.2.1 : Nat) : Int) ≤ ((r.2.2.2.2.2.2.1 : Nat) : Int) ∧ ((r.2.2.2.2.2.2.1 : Nat) : Int) ≤ ((r.2.2.2.2.1 : Nat) : Int) ∧ dz_rg r.2.2.2.1 r.2.2.2.2.1 0 1023 ∧ dz_pt r.2.2.1 [2, 1] ∧ dz_rg r.2.2.2.2.2.1 r.2.1.toInt.toNat 0 3 ∧ (r.1.toInt = 4)) := by
  unfold s143_X2_renew_0
  have e1 := dz_l1
  have e2 := dz_sub (a := c248_pots) (b := (1 : Int32)) (by omega) (by omega)
  generalize (c248_pots - (1 : Int32)) = zz16 at *
  obtain ⟨k1, rfl⟩ : ∃ x, kv = x + 1 := ⟨kv - 1, by omega⟩
  rw [dz_Fu143]
  unfold s143_X2_renew_1
  refine dz_Tg (by omega) ?_
  have e3 := dz_l0
  refine dz_Tlt (fun h4 => ?_) (fun h4 => ?_)
  · skip
    exfalso; omega
  · skip
    refine dz_Tin (by omega) (by omega) ?_
    have e5 := dz_lm1
    have e6 := dz_add (a := zz16) (b := (-(1 : Int32))) (by omega) (by omega)
    generalize (zz16 + (-(1 : Int32))) = zz17 at *
    have e7 := dz_mull (a := (1 : Int32)) (b := c261_many) 1 (by omega) (by omega) (by omega)
    generalize ((1 : Int32) * c261_many) = zz18 at *
    obtain ⟨k2, rfl⟩ : ∃ x, k1 = x + 1 := ⟨k1 - 1, by omega⟩
    rw [dz_Fu143]
    unfold s143_X2_renew_1
    refine dz_Tg (by omega) ?_
    refine dz_Tlt (fun h8 => ?_) (fun h8 => ?_)
    · skip
      exfalso; omega
    · skip
      refine dz_Tin (by omega) (by omega) ?_
      have e9 := dz_add (a := zz17) (b := (-(1 : Int32))) (by omega) (by omega)
      generalize (zz17 + (-(1 : Int32))) = zz19 at *
      have e10 := dz_mull (a := zz18) (b := c261_many) 2 (by omega) (by omega) (by omega)
      generalize (zz18 * c261_many) = zz20 at *
      obtain ⟨k3, rfl⟩ : ∃ x, k2 = x + 1 := ⟨k2 - 1, by omega⟩
      rw [dz_Fu143]
      unfold s143_X2_renew_1
      refine dz_Tg (by omega) ?_
      refine dz_Tlt (fun h11 => ?_) (fun h11 => ?_)
      · skip
        have e12 := dz_ofn (n := n269) (by omega)
        refine dz_Tle (fun h13 => ?_) (fun h13 => ?_)
        · skip
          obtain ⟨k4, rfl⟩ : ∃ x, k3 = x + 1 := ⟨k3 - 1, by omega⟩
          show dz_T (s143_X2_renew_2 fu U c248_groups c248_pots c248_bars a252 a253 c261_many a262 (F143_X2_renew fu U c248_groups c248_pots c248_bars a252 a253 c261_many a262 k4).2.2.1 (F143_X2_renew fu U c248_groups c248_pots c248_bars a252 a253 c261_many a262 k4).2.2.2 0 zz20 c267_lawfulOnes (upd (upd a268 zz16.toNatClampNeg (1 : Int32)) zz17.toNatClampNeg zz18) a269 n269 a270 n270 a271 a273) _
          unfold s143_X2_renew_2
          refine dz_Tg (by omega) ?_
          refine dz_Tb (t135_J7_fill_fda19 fu hfu _ _ _ _ _ 0 1023 (by first | assumption | omega) (by omega) (by omega) (by first | assumption | omega) (by omega) (by omega) (hr_a269)) (fun r1 q => ?_)
          have qa1_0 := q
          refine dz_Tle (fun h14 => ?_) (fun h14 => ?_)
          · skip
            exfalso; omega
          · skip
            exact (t143_X2_renew_I_g22 fu hfu U c248_groups c248_pots c248_bars a252 a253 c261_many a262 p0 p1 p2 p3 p4 p5 p6 p7 hr_a262 k4) (0 : Int32) 0 zz20 c267_lawfulOnes (upd (upd a268 zz16.toNatClampNeg (1 : Int32)) zz17.toNatClampNeg zz18) r1 n269 a270 n270 a271 a273 (by omega) (by omega) (by first | assumption | omega) (by first | assumption | omega) (by first | assumption | omega) p8 (by first | assumption | omega) p10 (by first | assumption | omega) p12 p13 (by first | assumption | omega) (by omega) (qa1_0) (dz_ptmk2 ((dz_upk (j := zz17) 0 (by omega)).trans (by omega)) ((dz_upo (j := zz17) 1 (by omega)).trans ((dz_upk (j := zz16) 1 (by omega)).trans (by omega)))) (by omega)
        · skip
          refine dz_Tng (by omega) ?_
          have e15 := dz_tn zz20
          refine dz_Tg (by omega) ?_
          refine dz_Tg (by omega) ?_
          refine dz_Tg (by omega) ?_
          refine dz_Tng (by omega) ?_
          refine dz_Tg (by omega) ?_
          refine dz_Tg (by omega) ?_
          refine dz_Tg (by omega) ?_
          obtain ⟨k5, rfl⟩ : ∃ x, k3 = x + 1 := ⟨k3 - 1, by omega⟩
          show dz_T (s143_X2_renew_2 fu U c248_groups c248_pots c248_bars a252 a253 c261_many a262 (F143_X2_renew fu U c248_groups c248_pots c248_bars a252 a253 c261_many a262 k5).2.2.1 (F143_X2_renew fu U c248_groups c248_pots c248_bars a252 a253 c261_many a262 k5).2.2.2 ((0 + zz20.toNatClampNeg) + zz20.toNatClampNeg) zz20 c267_lawfulOnes (upd (upd a268 zz16.toNatClampNeg (1 : Int32)) zz17.toNatClampNeg zz18) (jw_l 0 []) zz20.toNatClampNeg (jw_l 0 []) zz20.toNatClampNeg a271 a273) _
          unfold s143_X2_renew_2
          refine dz_Tg (by omega) ?_
          refine dz_Tb (t135_J7_fill_fda19 fu hfu _ _ _ _ _ 0 0 (by first | assumption | omega) (by omega) (by omega) (by first | assumption | omega) (by omega) (by omega) (dz_rg0 (by omega) (by omega))) (fun r2 q => ?_)
          have qa2_0 := q
          refine dz_Tle (fun h16 => ?_) (fun h16 => ?_)
          · skip
            exfalso; omega
          · skip
            exact (t143_X2_renew_I_g22 fu hfu U c248_groups c248_pots c248_bars a252 a253 c261_many a262 p0 p1 p2 p3 p4 p5 p6 p7 hr_a262 k5) (0 : Int32) ((0 + zz20.toNatClampNeg) + zz20.toNatClampNeg) zz20 c267_lawfulOnes (upd (upd a268 zz16.toNatClampNeg (1 : Int32)) zz17.toNatClampNeg zz18) r2 zz20.toNatClampNeg (jw_l 0 []) zz20.toNatClampNeg a271 a273 (by omega) (by omega) (by omega) (by first | assumption | omega) (by first | assumption | omega) (by first | assumption | omega) (by first | assumption | omega) (by first | assumption | omega) (by first | assumption | omega) (by first | assumption | omega) (by first | assumption | omega) (by omega) (by omega) (dz_rgm qa2_0 (by omega) (by omega)) (dz_ptmk2 ((dz_upk (j := zz17) 0 (by omega)).trans (by omega)) ((dz_upo (j := zz17) 1 (by omega)).trans ((dz_upk (j := zz16) 1 (by omega)).trans (by omega)))) (by omega)
      · skip
        exfalso; omega
theorem t143_X2_renew_g22 (fu : Nat) (hfu : 1000000000000 ≤ fu) (U : Nat) (c248_groups : Int32) (c248_pots : Int32) (c248_bars : Int32) (a252 : Nat → Int32) (a253 : Nat → Int32) (c261_many : Int32) (a262 : Nat → Int32) (c267_total : Int32) (c267_lawfulOnes : Int32) (a268 : Nat → Int32) (a269 : Nat → Int32) (n269 : Nat) (a270 : Nat → Int32) (n270 : Nat) (a271 : Nat → Int32) (a273 : Nat → Int32) (p0 : c248_groups.toInt ≤ 2) (p1 : 2 ≤ c248_groups.toInt) (p2 : c248_pots.toInt ≤ 2) (p3 : 2 ≤ c248_pots.toInt) (p4 : c248_bars.toInt ≤ 10) (p5 : 0 ≤ c248_bars.toInt) (p6 : c261_many.toInt ≤ 2) (p7 : 2 ≤ c261_many.toInt) (p8 : ((n269 : Nat) : Int) ≤ 13824) (p9 : 1 ≤ ((n269 : Nat) : Int)) (p10 : ((n270 : Nat) : Int) ≤ 13824) (p11 : 1 ≤ ((n270 : Nat) : Int)) (p12 : ((n269 : Nat) : Int) ≤ ((n270 : Nat) : Int)) (p13 : ((n270 : Nat) : Int) ≤ ((n269 : Nat) : Int)) (hr_a262 : dz_rg a262 96 0 3) (hr_a269 : dz_rg a269 n269 0 1023) (o0 : (4 ≤ n269) ∨ 2 * 4 ≤ U) : dz_T (f143_X2_renew fu U c248_groups c248_pots c248_bars a252 a253 c261_many a262 c267_total c267_lawfulOnes a268 a269 n269 a270 n270 a271 a273) (fun r => r.1.toInt ≤ 4 ∧ 4 ≤ r.1.toInt ∧ r.2.1.toInt ≤ 4 ∧ 0 ≤ r.2.1.toInt ∧ ((r.2.2.2.2.1 : Nat) : Int) ≤ 13824 ∧ 4 ≤ ((r.2.2.2.2.1 : Nat) : Int) ∧ ((r.2.2.2.2.2.2.1 : Nat) : Int) ≤ 13824 ∧ 4 ≤ ((r.2.2.2.2.2.2.1 : Nat) : Int) ∧ ((r.2.2.2.2.1 : Nat) : Int) ≤ ((r.2.2.2.2.2.2.1 : Nat) : Int) ∧ ((r.2.2.2.2.2.2.1 : Nat) : Int) ≤ ((r.2.2.2.2.1 : Nat) : Int) ∧ dz_rg r.2.2.2.1 r.2.2.2.2.1 0 1023 ∧ dz_pt r.2.2.1 [2, 1] ∧ dz_rg r.2.2.2.2.2.1 r.2.1.toInt.toNat 0 3 ∧ (r.1.toInt = 4)) :=
  t143_X2_renew_E_g22 fu hfu U c248_groups c248_pots c248_bars a252 a253 c261_many a262 c267_total c267_lawfulOnes a268 a269 n269 a270 n270 a271 a273 p0 p1 p2 p3 p4 p5 p6 p7 p8 p9 p10 p11 p12 p13 hr_a262 hr_a269 o0 fu hfu
abbrev p143_X2_renew_g23 (fu : Nat) (U : Nat) (c248_groups : Int32) (c248_pots : Int32) (c248_bars : Int32) (a252 : Nat → Int32) (a253 : Nat → Int32) (c261_many : Int32) (a262 : Nat → Int32) (k : Nat) : Prop :=
  (∀ (v1 : Int32) (sl : Nat) (c267_total : Int32) (c267_lawfulOnes : Int32) (a268 : Nat → Int32) (a269 : Nat → Int32) (n269 : Nat) (a270 : Nat → Int32) (n270 : Nat) (a271 : Nat → Int32) (a273 : Nat → Int32), v1.toInt ≤ 10 → 0 ≤ v1.toInt → ((sl : Nat) : Int) ≤ 16 → c267_total.toInt ≤ 8 → 8 ≤ c267_total.toInt → ((n269 : Nat) : Int) ≤ 13824 → 8 ≤ ((n269 : Nat) : Int) → ((n270 : Nat) : Int) ≤ 13824 → 8 ≤ ((n270 : Nat) : Int) → ((n269 : Nat) : Int) ≤ ((n270 : Nat) : Int) → ((n270 : Nat) : Int) ≤ ((n269 : Nat) : Int) → ((sl : Nat) : Int) ≤ ((U : Nat) : Int) → v1.toInt ≤ c248_bars.toInt → dz_rg a269 n269 0 1023 → dz_pt a268 [4, 2, 1] → 0 + 0 + (10 - v1.toInt) * 16 + 8 ≤ ((k : Nat) : Int) → dz_T ((F143_X2_renew fu U c248_groups c248_pots c248_bars a252 a253 c261_many a262 k).2.2.2 v1 sl c267_total c267_lawfulOnes a268 a269 n269 a270 n270 a271 a273) (fun r => r.1.toInt ≤ 8 ∧ 8 ≤ r.1.toInt ∧ r.2.1.toInt ≤ 8 ∧ 0 ≤ r.2.1.toInt ∧ ((r.2.2.2.2.1 : Nat) : Int) ≤ 13824 ∧ 8 ≤ ((r.2.2.2.2.1 : Nat) : Int) ∧ ((r.2.2.2.2.2.2.1 : Nat) : Int) ≤ 13824 ∧ 8 ≤ ((r.2.2.2.2.2.2.1 : Nat) : Int) ∧ ((r.2.2.2.2.1 : Nat) : Int) ≤ ((r.2.2.2.2.2.2.1 : Nat) : Int) ∧ ((r.2.2.2.2.2.2.1 : Nat) : Int) ≤ ((r.2.2.2.2.1 : Nat) : Int) ∧ dz_rg r.2.2.2.1 r.2.2.2.2.1 0 1023 ∧ dz_pt r.2.2.1 [4, 2, 1] ∧ dz_rg r.2.2.2.2.2.1 r.2.1.toInt.toNat 0 7 ∧ (r.1.toInt = 8)))
set_option maxHeartbeats 1000000 in
set_option maxRecDepth 10000 in
theorem t143_X2_renew_h4_g23 (fu : Nat) (hfu : 1000000000000 ≤ fu) (U : Nat) (c248_groups : Int32) (c248_pots : Int32) (c248_bars : Int32) (a252 : Nat → Int32) (a253 : Nat → Int32) (c261_many : Int32) (a262 : Nat → Int32) (p0 : c248_groups.toInt ≤ 2) (p1 : 2 ≤ c248_groups.toInt) (p2 : c248_pots.toInt ≤ 3) (p3 : 3 ≤ c248_pots.toInt) (p4 : c248_bars.toInt ≤ 10) (p5 : 0 ≤ c248_bars.toInt) (p6 : c261_many.toInt ≤ 2) (p7 : 2 ≤ c261_many.toInt) (hr_a262 : dz_rg a262 96 0 3) (k : Nat) (ih : ∀ j9, j9 < k → p143_X2_renew_g23 fu U c248_groups c248_pots c248_bars a252 a253 c261_many a262 j9) : ∀ (v1 : Int32) (sl : Nat) (c267_total : Int32) (c267_lawfulOnes : Int32) (a268 : Nat → Int32) (a269 : Nat → Int32) (n269 : Nat) (a270 : Nat → Int32) (n270 : Nat) (a271 : Nat → Int32) (a273 : Nat → Int32), v1.toInt ≤ 10 → 0 ≤ v1.toInt → ((sl : Nat) : Int) ≤ 16 → c267_total.toInt ≤ 8 → 8 ≤ c267_total.toInt → ((n269 : Nat) : Int) ≤ 13824 → 8 ≤ ((n269 : Nat) : Int) → ((n270 : Nat) : Int) ≤ 13824 → 8 ≤ ((n270 : Nat) : Int) → ((n269 : Nat) : Int) ≤ ((n270 : Nat) : Int) → ((n270 : Nat) : Int) ≤ ((n269 : Nat) : Int) → ((sl : Nat) : Int) ≤ ((U : Nat) : Int) → v1.toInt ≤ c248_bars.toInt → dz_rg a269 n269 0 1023 → dz_pt a268 [4, 2, 1] → 0 + 0 + (10 - v1.toInt) * 16 + 8 ≤ ((k : Nat) : Int) → dz_T ((F143_X2_renew fu U c248_groups c248_pots c248_bars a252 a253 c261_many a262 k).2.2.2 v1 sl c267_total c267_lawfulOnes a268 a269 n269 a270 n270 a271 a273) (fun r => r.1.toInt ≤ 8 ∧ 8 ≤ r.1.toInt ∧ r.2.1.toInt ≤ 8 ∧ 0 ≤ r.2.1.toInt ∧ ((r.2.2.2.2.1 : Nat) : Int) ≤ 13824 ∧ 8 ≤ ((r.2.2.2.2.1 : Nat) : Int) ∧ ((r.2.2.2.2.2.2.1 : Nat) : Int) ≤ 13824 ∧ 8 ≤ ((r.2.2.2.2.2.2.1 : Nat) : Int) ∧ ((r.2.2.2.2.1 : Nat) : Int) ≤ ((r.2.2.2.2.2.2.1 : Nat) : Int) ∧ ((r.2.2.2.2.2.2.1 : Nat) : Int) ≤ ((r.2.2.2.2.1 : Nat) : Int) ∧ dz_rg r.2.2.2.1 r.2.2.2.2.1 0 1023 ∧ dz_pt r.2.2.1 [4, 2, 1] ∧ dz_rg r.2.2.2.2.2.1 r.2.1.toInt.toNat 0 7 ∧ (r.1.toInt = 8)) := by
  intro v1 sl c267_total c267_lawfulOnes a268 a269 n269 a270 n270 a271 a273 i0 i1 i2 i3 i4 i5 i6 i7 i8 i9 i10 i11 i12 hr_a269 hr_a268 hm
  obtain ⟨k0, rfl⟩ : ∃ x, k = x + 1 := ⟨k - 1, by omega⟩
  show dz_T (s143_X2_renew_4 fu U c248_groups c248_pots c248_bars a252 a253 c261_many a262 (F143_X2_renew fu U c248_groups c248_pots c248_bars a252 a253 c261_many a262 k0).2.2.1 (F143_X2_renew fu U c248_groups c248_pots c248_bars a252 a253 c261_many a262 k0).2.2.2  v1 sl c267_total c267_lawfulOnes a268 a269 n269 a270 n270 a271 a273) _
  unfold s143_X2_renew_4
  refine dz_Tg (by omega) ?_
  refine dz_Tle (fun h1 => ?_) (fun h1 => ?_)
  · skip
    obtain ⟨k1, rfl⟩ : ∃ x, k0 = x + 1 := ⟨k0 - 1, by omega⟩
    show dz_T (s143_X2_renew_3 fu U c248_groups c248_pots c248_bars a252 a253 c261_many a262 sl c267_total c267_lawfulOnes a268 a269 n269 a270 n270 a271 a273) _
    unfold s143_X2_renew_3
    refine dz_Tg (by omega) ?_
    refine dz_Tb (t136_X2_listLawful_g23 fu hfu _ _ _ _ _ _ i3 i4 i5 (by first | assumption | omega) i7 (by first | assumption | omega) (by first | assumption | omega) (by first | assumption | omega) i9 i10 (hr_a269)) (fun r1 q => ?_)
    obtain ⟨q1_0, q1_1, qa1_1⟩ := q
    refine dz_Tb (t139_X2_tellWithin_g2 fu hfu _ _ _ _ _ p4 p5 (by first | assumption | omega) (by first | assumption | omega) i5 (by first | assumption | omega) (by first | assumption | omega) (hr_a269)) (fun r2 _ => ?_)
    refine dz_Ts ?_
    dsimp only
    exact ⟨i3, i4, q1_0, q1_1, i5, i6, i7, i8, i9, i10, (hr_a269), (hr_a268), (dz_rgs (qa1_1) (by omega)), (by omega)⟩
  · skip
    refine dz_Tin (by omega) (by omega) ?_
    refine dz_Tb (t140_X2_tellHeld_g2 fu hfu _ _ _ _ _ _ p0 p1 (by first | assumption | omega) (by first | assumption | omega) p6 p7 (hr_a262)) (fun r3 _ => ?_)
    refine dz_Tin (by omega) (by omega) ?_
    have e2 := dz_l1
    have e3 := dz_l31
    have e4 := dz_andr (a := v1) (b := (31 : Int32)) (by omega)
    have e5 := dz_andl (a := v1) (b := (31 : Int32)) (by omega)
    have e6 := dz_shl1 (b := v1) 0 9 (by omega) (by omega) (by omega)
    have e7 := dz_l30583
    have e8 := dz_rng (a253 v1.toNatClampNeg)
    refine dz_Tb (t142_X2_breakBar_g23 fu hfu _ _ _ _ _ _ _ _ _ p2 p3 p6 p7 i3 i4 i5 (by first | assumption | omega) (by first | assumption | omega) (by first | assumption | omega) (by omega) (by omega) (hr_a268) (hr_a269)) (fun r4 q => ?_)
    have qa4_0 := q
    have e9 := dz_add (a := v1) (b := (1 : Int32)) (by omega) (by omega)
    exact (ih k0 (by omega)) (v1 + (1 : Int32)) sl c267_total c267_lawfulOnes a268 r4 n269 a270 n270 a271 r3 (by omega) (by omega) i2 i3 i4 i5 i6 i7 i8 i9 i10 i11 (by omega) (qa4_0) (hr_a268) (by omega)
theorem t143_X2_renew_I_g23 (fu : Nat) (hfu : 1000000000000 ≤ fu) (U : Nat) (c248_groups : Int32) (c248_pots : Int32) (c248_bars : Int32) (a252 : Nat → Int32) (a253 : Nat → Int32) (c261_many : Int32) (a262 : Nat → Int32) (p0 : c248_groups.toInt ≤ 2) (p1 : 2 ≤ c248_groups.toInt) (p2 : c248_pots.toInt ≤ 3) (p3 : 3 ≤ c248_pots.toInt) (p4 : c248_bars.toInt ≤ 10) (p5 : 0 ≤ c248_bars.toInt) (p6 : c261_many.toInt ≤ 2) (p7 : 2 ≤ c261_many.toInt) (hr_a262 : dz_rg a262 96 0 3) (k : Nat) : p143_X2_renew_g23 fu U c248_groups c248_pots c248_bars a252 a253 c261_many a262 k := by
  induction k using Nat.strongRecOn with
  | _ k ih => exact t143_X2_renew_h4_g23 fu hfu U c248_groups c248_pots c248_bars a252 a253 c261_many a262 p0 p1 p2 p3 p4 p5 p6 p7 hr_a262 k ih
set_option maxHeartbeats 1000000 in
set_option maxRecDepth 10000 in
theorem t143_X2_renew_E_g23 (fu : Nat) (hfu : 1000000000000 ≤ fu) (U : Nat) (c248_groups : Int32) (c248_pots : Int32) (c248_bars : Int32) (a252 : Nat → Int32) (a253 : Nat → Int32) (c261_many : Int32) (a262 : Nat → Int32) (c267_total : Int32) (c267_lawfulOnes : Int32) (a268 : Nat → Int32) (a269 : Nat → Int32) (n269 : Nat) (a270 : Nat → Int32) (n270 : Nat) (a271 : Nat → Int32) (a273 : Nat → Int32) (p0 : c248_groups.toInt ≤ 2) (p1 : 2 ≤ c248_groups.toInt) (p2 : c248_pots.toInt ≤ 3) (p3 : 3 ≤ c248_pots.toInt) (p4 : c248_bars.toInt ≤ 10) (p5 : 0 ≤ c248_bars.toInt) (p6 : c261_many.toInt ≤ 2) (p7 : 2 ≤ c261_many.toInt) (p8 : ((n269 : Nat) : Int) ≤ 13824) (p9 : 1 ≤ ((n269 : Nat) : Int)) (p10 : ((n270 : Nat) : Int) ≤ 13824) (p11 : 1 ≤ ((n270 : Nat) : Int)) (p12 : ((n269 : Nat) : Int) ≤ ((n270 : Nat) : Int)) (p13 : ((n270 : Nat) : Int) ≤ ((n269 : Nat) : Int)) (hr_a262 : dz_rg a262 96 0 3) (hr_a269 : dz_rg a269 n269 0 1023) (o0 : (8 ≤ n269) ∨ 2 * 8 ≤ U) (kv : Nat) (hkv : 1000000000000 ≤ kv) : dz_T (s143_X2_renew_0 fu U c248_groups c248_pots c248_bars a252 a253 c261_many a262 (F143_X2_renew fu U c248_groups c248_pots c248_bars a252 a253 c261_many a262 kv).1  c267_total c267_lawfulOnes a268 a269 n269 a270 n270 a271 a273) (fun r => r.1.toInt ≤ 8 ∧ 8 ≤ r.1.toInt ∧ r.2.1.toInt ≤ 8 ∧ 0 ≤ r.2.1.toInt ∧ ((r.2.2.2.2.1 : Nat) : Int) ≤ 13824 ∧ 8 ≤ ((r.2.2.2.2.1 : Nat) : Int) ∧ ((r.2.2.2.2.2.2.1 : Nat) : Int) ≤ 13824 ∧ 8 ≤ ((r.2.2.2.2.2.2.1 : Nat) : Int) ∧ ((r.2.2.2.2.1 : Nat) : Int) ≤ ((r.2.2.2.2.2.2.1 : Nat) : Int) ∧ ((r.2.2.2.2.2.2.1 : Nat) : Int) ≤ ((r.2.2.2.2.1 : Nat) : Int) ∧ dz_rg r.2.2.2.1 r.2.2.2.2.1 0 1023 ∧ dz_pt r.2.2.1 [4, 2, 1] ∧ dz_rg r.2.2.2.2.2.1 r.2.1.toInt.toNat 0 7 ∧ (r.1.toInt = 8)) := by
  unfold s143_X2_renew_0
  have e1 := dz_l1
  have e2 := dz_sub (a := c248_pots) (b := (1 : Int32)) (by omega) (by omega)
  generalize (c248_pots - (1 : Int32)) = zz22 at *
  obtain ⟨k1, rfl⟩ : ∃ x, kv = x + 1 := ⟨kv - 1, by omega⟩
  rw [dz_Fu143]
  unfold s143_X2_renew_1
  refine dz_Tg (by omega) ?_
  have e3 := dz_l0
  refine dz_Tlt (fun h4 => ?_) (fun h4 => ?_)
  · skip
    exfalso; omega
  · skip
    refine dz_Tin (by omega) (by omega) ?_
    have e5 := dz_lm1
    have e6 := dz_add (a := zz22) (b := (-(1 : Int32))) (by omega) (by omega)
    generalize (zz22 + (-(1 : Int32))) = zz23 at *
    have e7 := dz_mull (a := (1 : Int32)) (b := c261_many) 1 (by omega) (by omega) (by omega)
    generalize ((1 : Int32) * c261_many) = zz24 at *
    obtain ⟨k2, rfl⟩ : ∃ x, k1 = x + 1 := ⟨k1 - 1, by omega⟩
    rw [dz_Fu143]
    unfold s143_X2_renew_1
    refine dz_Tg (by omega) ?_
    refine dz_Tlt (fun h8 => ?_) (fun h8 => ?_)
    · skip
      exfalso; omega
    · skip
      refine dz_Tin (by omega) (by omega) ?_
      have e9 := dz_add (a := zz23) (b := (-(1 : Int32))) (by omega) (by omega)
      generalize (zz23 + (-(1 : Int32))) = zz25 at *
      have e10 := dz_mull (a := zz24) (b := c261_many) 2 (by omega) (by omega) (by omega)
      generalize (zz24 * c261_many) = zz26 at *
      obtain ⟨k3, rfl⟩ : ∃ x, k2 = x + 1 := ⟨k2 - 1, by omega⟩
      rw [dz_Fu143]
      unfold s143_X2_renew_1
      refine dz_Tg (by omega) ?_
      refine dz_Tlt (fun h11 => ?_) (fun h11 => ?_)
      · skip
        exfalso; omega
      · skip
        refine dz_Tin (by omega) (by omega) ?_
        have e12 := dz_add (a := zz25) (b := (-(1 : Int32))) (by omega) (by omega)
        generalize (zz25 + (-(1 : Int32))) = zz27 at *
        have e13 := dz_mull (a := zz26) (b := c261_many) 4 (by omega) (by omega) (by omega)
        generalize (zz26 * c261_many) = zz28 at *
        obtain ⟨k4, rfl⟩ : ∃ x, k3 = x + 1 := ⟨k3 - 1, by omega⟩
        rw [dz_Fu143]
        unfold s143_X2_renew_1
        refine dz_Tg (by omega) ?_
        refine dz_Tlt (fun h14 => ?_) (fun h14 => ?_)
        · skip
          have e15 := dz_ofn (n := n269) (by omega)
          refine dz_Tle (fun h16 => ?_) (fun h16 => ?_)
          · skip
            obtain ⟨k5, rfl⟩ : ∃ x, k4 = x + 1 := ⟨k4 - 1, by omega⟩
            show dz_T (s143_X2_renew_2 fu U c248_groups c248_pots c248_bars a252 a253 c261_many a262 (F143_X2_renew fu U c248_groups c248_pots c248_bars a252 a253 c261_many a262 k5).2.2.1 (F143_X2_renew fu U c248_groups c248_pots c248_bars a252 a253 c261_many a262 k5).2.2.2 0 zz28 c267_lawfulOnes (upd (upd (upd a268 zz22.toNatClampNeg (1 : Int32)) zz23.toNatClampNeg zz24) zz25.toNatClampNeg zz26) a269 n269 a270 n270 a271 a273) _
            unfold s143_X2_renew_2
            refine dz_Tg (by omega) ?_
            refine dz_Tb (t135_J7_fill_fda19 fu hfu _ _ _ _ _ 0 1023 (by first | assumption | omega) (by omega) (by omega) (by first | assumption | omega) (by omega) (by omega) (hr_a269)) (fun r1 q => ?_)
            have qa1_0 := q
            refine dz_Tle (fun h17 => ?_) (fun h17 => ?_)
            · skip
              exfalso; omega
            · skip
              exact (t143_X2_renew_I_g23 fu hfu U c248_groups c248_pots c248_bars a252 a253 c261_many a262 p0 p1 p2 p3 p4 p5 p6 p7 hr_a262 k5) (0 : Int32) 0 zz28 c267_lawfulOnes (upd (upd (upd a268 zz22.toNatClampNeg (1 : Int32)) zz23.toNatClampNeg zz24) zz25.toNatClampNeg zz26) r1 n269 a270 n270 a271 a273 (by omega) (by omega) (by first | assumption | omega) (by first | assumption | omega) (by first | assumption | omega) p8 (by first | assumption | omega) p10 (by first | assumption | omega) p12 p13 (by first | assumption | omega) (by omega) (qa1_0) (dz_ptmk3 ((dz_upk (j := zz25) 0 (by omega)).trans (by omega)) ((dz_upo (j := zz25) 1 (by omega)).trans ((dz_upk (j := zz23) 1 (by omega)).trans (by omega))) ((dz_upo (j := zz25) 2 (by omega)).trans ((dz_upo (j := zz23) 2 (by omega)).trans ((dz_upk (j := zz22) 2 (by omega)).trans (by omega))))) (by omega)
          · skip
            refine dz_Tng (by omega) ?_
            have e18 := dz_tn zz28
            refine dz_Tg (by omega) ?_
            refine dz_Tg (by omega) ?_
            refine dz_Tg (by omega) ?_
            refine dz_Tng (by omega) ?_
            refine dz_Tg (by omega) ?_
            refine dz_Tg (by omega) ?_
            refine dz_Tg (by omega) ?_
            obtain ⟨k6, rfl⟩ : ∃ x, k4 = x + 1 := ⟨k4 - 1, by omega⟩
            show dz_T (s143_X2_renew_2 fu U c248_groups c248_pots c248_bars a252 a253 c261_many a262 (F143_X2_renew fu U c248_groups c248_pots c248_bars a252 a253 c261_many a262 k6).2.2.1 (F143_X2_renew fu U c248_groups c248_pots c248_bars a252 a253 c261_many a262 k6).2.2.2 ((0 + zz28.toNatClampNeg) + zz28.toNatClampNeg) zz28 c267_lawfulOnes (upd (upd (upd a268 zz22.toNatClampNeg (1 : Int32)) zz23.toNatClampNeg zz24) zz25.toNatClampNeg zz26) (jw_l 0 []) zz28.toNatClampNeg (jw_l 0 []) zz28.toNatClampNeg a271 a273) _
            unfold s143_X2_renew_2
            refine dz_Tg (by omega) ?_
            refine dz_Tb (t135_J7_fill_fda19 fu hfu _ _ _ _ _ 0 0 (by first | assumption | omega) (by omega) (by omega) (by first | assumption | omega) (by omega) (by omega) (dz_rg0 (by omega) (by omega))) (fun r2 q => ?_)
            have qa2_0 := q
            refine dz_Tle (fun h19 => ?_) (fun h19 => ?_)
            · skip
              exfalso; omega
            · skip
              exact (t143_X2_renew_I_g23 fu hfu U c248_groups c248_pots c248_bars a252 a253 c261_many a262 p0 p1 p2 p3 p4 p5 p6 p7 hr_a262 k6) (0 : Int32) ((0 + zz28.toNatClampNeg) + zz28.toNatClampNeg) zz28 c267_lawfulOnes (upd (upd (upd a268 zz22.toNatClampNeg (1 : Int32)) zz23.toNatClampNeg zz24) zz25.toNatClampNeg zz26) r2 zz28.toNatClampNeg (jw_l 0 []) zz28.toNatClampNeg a271 a273 (by omega) (by omega) (by omega) (by first | assumption | omega) (by first | assumption | omega) (by first | assumption | omega) (by first | assumption | omega) (by first | assumption | omega) (by first | assumption | omega) (by first | assumption | omega) (by first | assumption | omega) (by omega) (by omega) (dz_rgm qa2_0 (by omega) (by omega)) (dz_ptmk3 ((dz_upk (j := zz25) 0 (by omega)).trans (by omega)) ((dz_upo (j := zz25) 1 (by omega)).trans ((dz_upk (j := zz23) 1 (by omega)).trans (by omega))) ((dz_upo (j := zz25) 2 (by omega)).trans ((dz_upo (j := zz23) 2 (by omega)).trans ((dz_upk (j := zz22) 2 (by omega)).trans (by omega))))) (by omega)
        · skip
          exfalso; omega
theorem t143_X2_renew_g23 (fu : Nat) (hfu : 1000000000000 ≤ fu) (U : Nat) (c248_groups : Int32) (c248_pots : Int32) (c248_bars : Int32) (a252 : Nat → Int32) (a253 : Nat → Int32) (c261_many : Int32) (a262 : Nat → Int32) (c267_total : Int32) (c267_lawfulOnes : Int32) (a268 : Nat → Int32) (a269 : Nat → Int32) (n269 : Nat) (a270 : Nat → Int32) (n270 : Nat) (a271 : Nat → Int32) (a273 : Nat → Int32) (p0 : c248_groups.toInt ≤ 2) (p1 : 2 ≤ c248_groups.toInt) (p2 : c248_pots.toInt ≤ 3) (p3 : 3 ≤ c248_pots.toInt) (p4 : c248_bars.toInt ≤ 10) (p5 : 0 ≤ c248_bars.toInt) (p6 : c261_many.toInt ≤ 2) (p7 : 2 ≤ c261_many.toInt) (p8 : ((n269 : Nat) : Int) ≤ 13824) (p9 : 1 ≤ ((n269 : Nat) : Int)) (p10 : ((n270 : Nat) : Int) ≤ 13824) (p11 : 1 ≤ ((n270 : Nat) : Int)) (p12 : ((n269 : Nat) : Int) ≤ ((n270 : Nat) : Int)) (p13 : ((n270 : Nat) : Int) ≤ ((n269 : Nat) : Int)) (hr_a262 : dz_rg a262 96 0 3) (hr_a269 : dz_rg a269 n269 0 1023) (o0 : (8 ≤ n269) ∨ 2 * 8 ≤ U) : dz_T (f143_X2_renew fu U c248_groups c248_pots c248_bars a252 a253 c261_many a262 c267_total c267_lawfulOnes a268 a269 n269 a270 n270 a271 a273) (fun r => r.1.toInt ≤ 8 ∧ 8 ≤ r.1.toInt ∧ r.2.1.toInt ≤ 8 ∧ 0 ≤ r.2.1.toInt ∧ ((r.2.2.2.2.1 : Nat) : Int) ≤ 13824 ∧ 8 ≤ ((r.2.2.2.2.1 : Nat) : Int) ∧ ((r.2.2.2.2.2.2.1 : Nat) : Int) ≤ 13824 ∧ 8 ≤ ((r.2.2.2.2.2.2.1 : Nat) : Int) ∧ ((r.2.2.2.2.1 : Nat) : Int) ≤ ((r.2.2.2.2.2.2.1 : Nat) : Int) ∧ ((r.2.2.2.2.2.2.1 : Nat) : Int) ≤ ((r.2.2.2.2.1 : Nat) : Int) ∧ dz_rg r.2.2.2.1 r.2.2.2.2.1 0 1023 ∧ dz_pt r.2.2.1 [4, 2, 1] ∧ dz_rg r.2.2.2.2.2.1 r.2.1.toInt.toNat 0 7 ∧ (r.1.toInt = 8)) :=
  t143_X2_renew_E_g23 fu hfu U c248_groups c248_pots c248_bars a252 a253 c261_many a262 c267_total c267_lawfulOnes a268 a269 n269 a270 n270 a271 a273 p0 p1 p2 p3 p4 p5 p6 p7 p8 p9 p10 p11 p12 p13 hr_a262 hr_a269 o0 fu hfu
abbrev p143_X2_renew_g24 (fu : Nat) (U : Nat) (c248_groups : Int32) (c248_pots : Int32) (c248_bars : Int32) (a252 : Nat → Int32) (a253 : Nat → Int32) (c261_many : Int32) (a262 : Nat → Int32) (k : Nat) : Prop :=
  (∀ (v1 : Int32) (sl : Nat) (c267_total : Int32) (c267_lawfulOnes : Int32) (a268 : Nat → Int32) (a269 : Nat → Int32) (n269 : Nat) (a270 : Nat → Int32) (n270 : Nat) (a271 : Nat → Int32) (a273 : Nat → Int32), v1.toInt ≤ 10 → 0 ≤ v1.toInt → ((sl : Nat) : Int) ≤ 32 → c267_total.toInt ≤ 16 → 16 ≤ c267_total.toInt → ((n269 : Nat) : Int) ≤ 13824 → 16 ≤ ((n269 : Nat) : Int) → ((n270 : Nat) : Int) ≤ 13824 → 16 ≤ ((n270 : Nat) : Int) → ((n269 : Nat) : Int) ≤ ((n270 : Nat) : Int) → ((n270 : Nat) : Int) ≤ ((n269 : Nat) : Int) → ((sl : Nat) : Int) ≤ ((U : Nat) : Int) → v1.toInt ≤ c248_bars.toInt → dz_rg a269 n269 0 1023 → dz_pt a268 [8, 4, 2, 1] → 0 + 0 + (10 - v1.toInt) * 16 + 8 ≤ ((k : Nat) : Int) → dz_T ((F143_X2_renew fu U c248_groups c248_pots c248_bars a252 a253 c261_many a262 k).2.2.2 v1 sl c267_total c267_lawfulOnes a268 a269 n269 a270 n270 a271 a273) (fun r => r.1.toInt ≤ 16 ∧ 16 ≤ r.1.toInt ∧ r.2.1.toInt ≤ 16 ∧ 0 ≤ r.2.1.toInt ∧ ((r.2.2.2.2.1 : Nat) : Int) ≤ 13824 ∧ 16 ≤ ((r.2.2.2.2.1 : Nat) : Int) ∧ ((r.2.2.2.2.2.2.1 : Nat) : Int) ≤ 13824 ∧ 16 ≤ ((r.2.2.2.2.2.2.1 : Nat) : Int) ∧ ((r.2.2.2.2.1 : Nat) : Int) ≤ ((r.2.2.2.2.2.2.1 : Nat) : Int) ∧ ((r.2.2.2.2.2.2.1 : Nat) : Int) ≤ ((r.2.2.2.2.1 : Nat) : Int) ∧ dz_rg r.2.2.2.1 r.2.2.2.2.1 0 1023 ∧ dz_pt r.2.2.1 [8, 4, 2, 1] ∧ dz_rg r.2.2.2.2.2.1 r.2.1.toInt.toNat 0 15 ∧ (r.1.toInt = 16)))
set_option maxHeartbeats 1000000 in
set_option maxRecDepth 10000 in
theorem t143_X2_renew_h4_g24 (fu : Nat) (hfu : 1000000000000 ≤ fu) (U : Nat) (c248_groups : Int32) (c248_pots : Int32) (c248_bars : Int32) (a252 : Nat → Int32) (a253 : Nat → Int32) (c261_many : Int32) (a262 : Nat → Int32) (p0 : c248_groups.toInt ≤ 2) (p1 : 2 ≤ c248_groups.toInt) (p2 : c248_pots.toInt ≤ 4) (p3 : 4 ≤ c248_pots.toInt) (p4 : c248_bars.toInt ≤ 10) (p5 : 0 ≤ c248_bars.toInt) (p6 : c261_many.toInt ≤ 2) (p7 : 2 ≤ c261_many.toInt) (hr_a262 : dz_rg a262 96 0 3) (k : Nat) (ih : ∀ j9, j9 < k → p143_X2_renew_g24 fu U c248_groups c248_pots c248_bars a252 a253 c261_many a262 j9) : ∀ (v1 : Int32) (sl : Nat) (c267_total : Int32) (c267_lawfulOnes : Int32) (a268 : Nat → Int32) (a269 : Nat → Int32) (n269 : Nat) (a270 : Nat → Int32) (n270 : Nat) (a271 : Nat → Int32) (a273 : Nat → Int32), v1.toInt ≤ 10 → 0 ≤ v1.toInt → ((sl : Nat) : Int) ≤ 32 → c267_total.toInt ≤ 16 → 16 ≤ c267_total.toInt → ((n269 : Nat) : Int) ≤ 13824 → 16 ≤ ((n269 : Nat) : Int) → ((n270 : Nat) : Int) ≤ 13824 → 16 ≤ ((n270 : Nat) : Int) → ((n269 : Nat) : Int) ≤ ((n270 : Nat) : Int) → ((n270 : Nat) : Int) ≤ ((n269 : Nat) : Int) → ((sl : Nat) : Int) ≤ ((U : Nat) : Int) → v1.toInt ≤ c248_bars.toInt → dz_rg a269 n269 0 1023 → dz_pt a268 [8, 4, 2, 1] → 0 + 0 + (10 - v1.toInt) * 16 + 8 ≤ ((k : Nat) : Int) → dz_T ((F143_X2_renew fu U c248_groups c248_pots c248_bars a252 a253 c261_many a262 k).2.2.2 v1 sl c267_total c267_lawfulOnes a268 a269 n269 a270 n270 a271 a273) (fun r => r.1.toInt ≤ 16 ∧ 16 ≤ r.1.toInt ∧ r.2.1.toInt ≤ 16 ∧ 0 ≤ r.2.1.toInt ∧ ((r.2.2.2.2.1 : Nat) : Int) ≤ 13824 ∧ 16 ≤ ((r.2.2.2.2.1 : Nat) : Int) ∧ ((r.2.2.2.2.2.2.1 : Nat) : Int) ≤ 13824 ∧ 16 ≤ ((r.2.2.2.2.2.2.1 : Nat) : Int) ∧ ((r.2.2.2.2.1 : Nat) : Int) ≤ ((r.2.2.2.2.2.2.1 : Nat) : Int) ∧ ((r.2.2.2.2.2.2.1 : Nat) : Int) ≤ ((r.2.2.2.2.1 : Nat) : Int) ∧ dz_rg r.2.2.2.1 r.2.2.2.2.1 0 1023 ∧ dz_pt r.2.2.1 [8, 4, 2, 1] ∧ dz_rg r.2.2.2.2.2.1 r.2.1.toInt.toNat 0 15 ∧ (r.1.toInt = 16)) := by
  intro v1 sl c267_total c267_lawfulOnes a268 a269 n269 a270 n270 a271 a273 i0 i1 i2 i3 i4 i5 i6 i7 i8 i9 i10 i11 i12 hr_a269 hr_a268 hm
  obtain ⟨k0, rfl⟩ : ∃ x, k = x + 1 := ⟨k - 1, by omega⟩
  show dz_T (s143_X2_renew_4 fu U c248_groups c248_pots c248_bars a252 a253 c261_many a262 (F143_X2_renew fu U c248_groups c248_pots c248_bars a252 a253 c261_many a262 k0).2.2.1 (F143_X2_renew fu U c248_groups c248_pots c248_bars a252 a253 c261_many a262 k0).2.2.2  v1 sl c267_total c267_lawfulOnes a268 a269 n269 a270 n270 a271 a273) _
  unfold s143_X2_renew_4
  refine dz_Tg (by omega) ?_
  refine dz_Tle (fun h1 => ?_) (fun h1 => ?_)
  · skip
    obtain ⟨k1, rfl⟩ : ∃ x, k0 = x + 1 := ⟨k0 - 1, by omega⟩
    show dz_T (s143_X2_renew_3 fu U c248_groups c248_pots c248_bars a252 a253 c261_many a262 sl c267_total c267_lawfulOnes a268 a269 n269 a270 n270 a271 a273) _
    unfold s143_X2_renew_3
    refine dz_Tg (by omega) ?_
    refine dz_Tb (t136_X2_listLawful_g24 fu hfu _ _ _ _ _ _ i3 i4 i5 (by first | assumption | omega) i7 (by first | assumption | omega) (by first | assumption | omega) (by first | assumption | omega) i9 i10 (hr_a269)) (fun r1 q => ?_)
    obtain ⟨q1_0, q1_1, qa1_1⟩ := q
    refine dz_Tb (t139_X2_tellWithin_g2 fu hfu _ _ _ _ _ p4 p5 i3 (by first | assumption | omega) i5 (by first | assumption | omega) (by first | assumption | omega) (hr_a269)) (fun r2 _ => ?_)
    refine dz_Ts ?_
    dsimp only
    exact ⟨i3, i4, q1_0, q1_1, i5, i6, i7, i8, i9, i10, (hr_a269), (hr_a268), (dz_rgs (qa1_1) (by omega)), (by omega)⟩
  · skip
    refine dz_Tin (by omega) (by omega) ?_
    refine dz_Tb (t140_X2_tellHeld_g2 fu hfu _ _ _ _ _ _ p0 p1 p2 (by first | assumption | omega) p6 p7 (hr_a262)) (fun r3 _ => ?_)
    refine dz_Tin (by omega) (by omega) ?_
    have e2 := dz_l1
    have e3 := dz_l31
    have e4 := dz_andr (a := v1) (b := (31 : Int32)) (by omega)
    have e5 := dz_andl (a := v1) (b := (31 : Int32)) (by omega)
    have e6 := dz_shl1 (b := v1) 0 9 (by omega) (by omega) (by omega)
    have e7 := dz_l30583
    have e8 := dz_rng (a253 v1.toNatClampNeg)
    refine dz_Tb (t142_X2_breakBar_g24 fu hfu _ _ _ _ _ _ _ _ _ p2 p3 p6 p7 i3 i4 i5 (by first | assumption | omega) (by first | assumption | omega) (by first | assumption | omega) (by omega) (by omega) (hr_a268) (hr_a269)) (fun r4 q => ?_)
    have qa4_0 := q
    have e9 := dz_add (a := v1) (b := (1 : Int32)) (by omega) (by omega)
    exact (ih k0 (by omega)) (v1 + (1 : Int32)) sl c267_total c267_lawfulOnes a268 r4 n269 a270 n270 a271 r3 (by omega) (by omega) i2 i3 i4 i5 i6 i7 i8 i9 i10 i11 (by omega) (qa4_0) (hr_a268) (by omega)
theorem t143_X2_renew_I_g24 (fu : Nat) (hfu : 1000000000000 ≤ fu) (U : Nat) (c248_groups : Int32) (c248_pots : Int32) (c248_bars : Int32) (a252 : Nat → Int32) (a253 : Nat → Int32) (c261_many : Int32) (a262 : Nat → Int32) (p0 : c248_groups.toInt ≤ 2) (p1 : 2 ≤ c248_groups.toInt) (p2 : c248_pots.toInt ≤ 4) (p3 : 4 ≤ c248_pots.toInt) (p4 : c248_bars.toInt ≤ 10) (p5 : 0 ≤ c248_bars.toInt) (p6 : c261_many.toInt ≤ 2) (p7 : 2 ≤ c261_many.toInt) (hr_a262 : dz_rg a262 96 0 3) (k : Nat) : p143_X2_renew_g24 fu U c248_groups c248_pots c248_bars a252 a253 c261_many a262 k := by
  induction k using Nat.strongRecOn with
  | _ k ih => exact t143_X2_renew_h4_g24 fu hfu U c248_groups c248_pots c248_bars a252 a253 c261_many a262 p0 p1 p2 p3 p4 p5 p6 p7 hr_a262 k ih
set_option maxHeartbeats 1000000 in
set_option maxRecDepth 10000 in
theorem t143_X2_renew_E_g24 (fu : Nat) (hfu : 1000000000000 ≤ fu) (U : Nat) (c248_groups : Int32) (c248_pots : Int32) (c248_bars : Int32) (a252 : Nat → Int32) (a253 : Nat → Int32) (c261_many : Int32) (a262 : Nat → Int32) (c267_total : Int32) (c267_lawfulOnes : Int32) (a268 : Nat → Int32) (a269 : Nat → Int32) (n269 : Nat) (a270 : Nat → Int32) (n270 : Nat) (a271 : Nat → Int32) (a273 : Nat → Int32) (p0 : c248_groups.toInt ≤ 2) (p1 : 2 ≤ c248_groups.toInt) (p2 : c248_pots.toInt ≤ 4) (p3 : 4 ≤ c248_pots.toInt) (p4 : c248_bars.toInt ≤ 10) (p5 : 0 ≤ c248_bars.toInt) (p6 : c261_many.toInt ≤ 2) (p7 : 2 ≤ c261_many.toInt) (p8 : ((n269 : Nat) : Int) ≤ 13824) (p9 : 1 ≤ ((n269 : Nat) : Int)) (p10 : ((n270 : Nat) : Int) ≤ 13824) (p11 : 1 ≤ ((n270 : Nat) : Int)) (p12 : ((n269 : Nat) : Int) ≤ ((n270 : Nat) : Int)) (p13 : ((n270 : Nat) : Int) ≤ ((n269 : Nat) : Int)) (hr_a262 : dz_rg a262 96 0 3) (hr_a269 : dz_rg a269 n269 0 1023) (o0 : (16 ≤ n269) ∨ 2 * 16 ≤ U) (kv : Nat) (hkv : 1000000000000 ≤ kv) : dz_T (s143_X2_renew_0 fu U c248_groups c248_pots c248_bars a252 a253 c261_many a262 (F143_X2_renew fu U c248_groups c248_pots c248_bars a252 a253 c261_many a262 kv).1  c267_total c267_lawfulOnes a268 a269 n269 a270 n270 a271 a273) (fun r => r.1.toInt ≤ 16 ∧ 16 ≤ r.1.toInt ∧ r.2.1.toInt ≤ 16 ∧ 0 ≤ r.2.1.toInt ∧ ((r.2.2.2.2.1 : Nat) : Int) ≤ 13824 ∧ 16 ≤ ((r.2.2.2.2.1 : Nat) : Int) ∧ ((r.2.2.2.2.2.2.1 : Nat) : Int) ≤ 13824 ∧ 16 ≤ ((r.2.2.2.2.2.2.1 : Nat) : Int) ∧ ((r.2.2.2.2.1 : Nat) : Int) ≤ ((r.2.2.2.2.2.2.1 : Nat) : Int) ∧ ((r.2.2.2.2.2.2.1 : Nat) : Int) ≤ ((r.2.2.2.2.1 : Nat) : Int) ∧ dz_rg r.2.2.2.1 r.2.2.2.2.1 0 1023 ∧ dz_pt r.2.2.1 [8, 4, 2, 1] ∧ dz_rg r.2.2.2.2.2.1 r.2.1.toInt.toNat 0 15 ∧ (r.1.toInt = 16)) := by
  unfold s143_X2_renew_0
  have e1 := dz_l1
  have e2 := dz_sub (a := c248_pots) (b := (1 : Int32)) (by omega) (by omega)
  generalize (c248_pots - (1 : Int32)) = zz28 at *
  obtain ⟨k1, rfl⟩ : ∃ x, kv = x + 1 := ⟨kv - 1, by omega⟩
  rw [dz_Fu143]
  unfold s143_X2_renew_1
  refine dz_Tg (by omega) ?_
  have e3 := dz_l0
  refine dz_Tlt (fun h4 => ?_) (fun h4 => ?_)
  · skip
    exfalso; omega
  · skip
    refine dz_Tin (by omega) (by omega) ?_
    have e5 := dz_lm1
    have e6 := dz_add (a := zz28) (b := (-(1 : Int32))) (by omega) (by omega)
    generalize (zz28 + (-(1 : Int32))) = zz29 at *
    have e7 := dz_mull (a := (1 : Int32)) (b := c261_many) 1 (by omega) (by omega) (by omega)
    generalize ((1 : Int32) * c261_many) = zz30 at *
    obtain ⟨k2, rfl⟩ : ∃ x, k1 = x + 1 := ⟨k1 - 1, by omega⟩
    rw [dz_Fu143]
    unfold s143_X2_renew_1
    refine dz_Tg (by omega) ?_
    refine dz_Tlt (fun h8 => ?_) (fun h8 => ?_)
    · skip
      exfalso; omega
    · skip
      refine dz_Tin (by omega) (by omega) ?_
      have e9 := dz_add (a := zz29) (b := (-(1 : Int32))) (by omega) (by omega)
      generalize (zz29 + (-(1 : Int32))) = zz31 at *
      have e10 := dz_mull (a := zz30) (b := c261_many) 2 (by omega) (by omega) (by omega)
      generalize (zz30 * c261_many) = zz32 at *
      obtain ⟨k3, rfl⟩ : ∃ x, k2 = x + 1 := ⟨k2 - 1, by omega⟩
      rw [dz_Fu143]
      unfold s143_X2_renew_1
      refine dz_Tg (by omega) ?_
      refine dz_Tlt (fun h11 => ?_) (fun h11 => ?_)
      · skip
        exfalso; omega
      · skip
        refine dz_Tin (by omega) (by omega) ?_
        have e12 := dz_add (a := zz31) (b := (-(1 : Int32))) (by omega) (by omega)
        generalize (zz31 + (-(1 : Int32))) = zz33 at *
        have e13 := dz_mull (a := zz32) (b := c261_many) 4 (by omega) (by omega) (by omega)
        generalize (zz32 * c261_many) = zz34 at *
        obtain ⟨k4, rfl⟩ : ∃ x, k3 = x + 1 := ⟨k3 - 1, by omega⟩
        rw [dz_Fu143]
        unfold s143_X2_renew_1
        refine dz_Tg (by omega) ?_
        refine dz_Tlt (fun h14 => ?_) (fun h14 => ?_)
        · skip
          exfalso; omega
        · skip
          refine dz_Tin (by omega) (by omega) ?_
          have e15 := dz_add (a := zz33) (b := (-(1 : Int32))) (by omega) (by omega)
          generalize (zz33 + (-(1 : Int32))) = zz35 at *
          have e16 := dz_mull (a := zz34) (b := c261_many) 8 (by omega) (by omega) (by omega)
          generalize (zz34 * c261_many) = zz36 at *
          obtain ⟨k5, rfl⟩ : ∃ x, k4 = x + 1 := ⟨k4 - 1, by omega⟩
          rw [dz_Fu143]
          unfold s143_X2_renew_1
          refine dz_Tg (by omega) ?_
          refine dz_Tlt (fun h17 => ?_) (fun h17 => ?_)
          · skip
            have e18 := dz_ofn (n := n269) (by omega)
            refine dz_Tle (fun h19 => ?_) (fun h19 => ?_)
            · skip
              obtain ⟨k6, rfl⟩ : ∃ x, k5 = x + 1 := ⟨k5 - 1, by omega⟩
              show dz_T (s143_X2_renew_2 fu U c248_groups c248_pots c248_bars a252 a253 c261_many a262 (F143_X2_renew fu U c248_groups c248_pots c248_bars a252 a253 c261_many a262 k6).2.2.1 (F143_X2_renew fu U c248_groups c248_pots c248_bars a252 a253 c261_many a262 k6).2.2.2 0 zz36 c267_lawfulOnes (upd (upd (upd (upd a268 zz28.toNatClampNeg (1 : Int32)) zz29.toNatClampNeg zz30) zz31.toNatClampNeg zz32) zz33.toNatClampNeg zz34) a269 n269 a270 n270 a271 a273) _
              unfold s143_X2_renew_2
              refine dz_Tg (by omega) ?_
              refine dz_Tb (t135_J7_fill_fda19 fu hfu _ _ _ _ _ 0 1023 (by first | assumption | omega) (by omega) (by omega) (by first | assumption | omega) (by omega) (by omega) (hr_a269)) (fun r1 q => ?_)
              have qa1_0 := q
              refine dz_Tle (fun h20 => ?_) (fun h20 => ?_)
              · skip
                exfalso; omega
              · skip
                exact (t143_X2_renew_I_g24 fu hfu U c248_groups c248_pots c248_bars a252 a253 c261_many a262 p0 p1 p2 p3 p4 p5 p6 p7 hr_a262 k6) (0 : Int32) 0 zz36 c267_lawfulOnes (upd (upd (upd (upd a268 zz28.toNatClampNeg (1 : Int32)) zz29.toNatClampNeg zz30) zz31.toNatClampNeg zz32) zz33.toNatClampNeg zz34) r1 n269 a270 n270 a271 a273 (by omega) (by omega) (by first | assumption | omega) (by first | assumption | omega) (by first | assumption | omega) p8 (by first | assumption | omega) p10 (by first | assumption | omega) p12 p13 (by first | assumption | omega) (by omega) (qa1_0) (dz_ptmk4 ((dz_upk (j := zz33) 0 (by omega)).trans (by omega)) ((dz_upo (j := zz33) 1 (by omega)).trans ((dz_upk (j := zz31) 1 (by omega)).trans (by omega))) ((dz_upo (j := zz33) 2 (by omega)).trans ((dz_upo (j := zz31) 2 (by omega)).trans ((dz_upk (j := zz29) 2 (by omega)).trans (by omega)))) ((dz_upo (j := zz33) 3 (by omega)).trans ((dz_upo (j := zz31) 3 (by omega)).trans ((dz_upo (j := zz29) 3 (by omega)).trans ((dz_upk (j := zz28) 3 (by omega)).trans (by omega)))))) (by omega)
            · skip
              refine dz_Tng (by omega) ?_
              have e21 := dz_tn zz36
              refine dz_Tg (by omega) ?_
              refine dz_Tg (by omega) ?_
              refine dz_Tg (by omega) ?_
              refine dz_Tng (by omega) ?_
              refine dz_Tg (by omega) ?_
              refine dz_Tg (by omega) ?_
              refine dz_Tg (by omega) ?_
              obtain ⟨k7, rfl⟩ : ∃ x, k5 = x + 1 := ⟨k5 - 1, by omega⟩
              show dz_T (s143_X2_renew_2 fu U c248_groups c248_pots c248_bars a252 a253 c261_many a262 (F143_X2_renew fu U c248_groups c248_pots c248_bars a252 a253 c261_many a262 k7).2.2.1 (F143_X2_renew fu U c248_groups c248_pots c248_bars a252 a253 c261_many a262 k7).2.2.2 ((0 + zz36.toNatClampNeg) + zz36.toNatClampNeg) zz36 c267_lawfulOnes (upd (upd (upd (upd a268 zz28.toNatClampNeg (1 : Int32)) zz29.toNatClampNeg zz30) zz31.toNatClampNeg zz32) zz33.toNatClampNeg zz34) (jw_l 0 []) zz36.toNatClampNeg (jw_l 0 []) zz36.toNatClampNeg a271 a273) _
              unfold s143_X2_renew_2
              refine dz_Tg (by omega) ?_
              refine dz_Tb (t135_J7_fill_fda19 fu hfu _ _ _ _ _ 0 0 (by first | assumption | omega) (by omega) (by omega) (by first | assumption | omega) (by omega) (by omega) (dz_rg0 (by omega) (by omega))) (fun r2 q => ?_)
              have qa2_0 := q
              refine dz_Tle (fun h22 => ?_) (fun h22 => ?_)
              · skip
                exfalso; omega
              · skip
                exact (t143_X2_renew_I_g24 fu hfu U c248_groups c248_pots c248_bars a252 a253 c261_many a262 p0 p1 p2 p3 p4 p5 p6 p7 hr_a262 k7) (0 : Int32) ((0 + zz36.toNatClampNeg) + zz36.toNatClampNeg) zz36 c267_lawfulOnes (upd (upd (upd (upd a268 zz28.toNatClampNeg (1 : Int32)) zz29.toNatClampNeg zz30) zz31.toNatClampNeg zz32) zz33.toNatClampNeg zz34) r2 zz36.toNatClampNeg (jw_l 0 []) zz36.toNatClampNeg a271 a273 (by omega) (by omega) (by omega) (by first | assumption | omega) (by first | assumption | omega) (by first | assumption | omega) (by first | assumption | omega) (by first | assumption | omega) (by first | assumption | omega) (by first | assumption | omega) (by first | assumption | omega) (by omega) (by omega) (dz_rgm qa2_0 (by omega) (by omega)) (dz_ptmk4 ((dz_upk (j := zz33) 0 (by omega)).trans (by omega)) ((dz_upo (j := zz33) 1 (by omega)).trans ((dz_upk (j := zz31) 1 (by omega)).trans (by omega))) ((dz_upo (j := zz33) 2 (by omega)).trans ((dz_upo (j := zz31) 2 (by omega)).trans ((dz_upk (j := zz29) 2 (by omega)).trans (by omega)))) ((dz_upo (j := zz33) 3 (by omega)).trans ((dz_upo (j := zz31) 3 (by omega)).trans ((dz_upo (j := zz29) 3 (by omega)).trans ((dz_upk (j := zz28) 3 (by omega)).trans (by omega)))))) (by omega)
          · skip
            exfalso; omega
theorem t143_X2_renew_g24 (fu : Nat) (hfu : 1000000000000 ≤ fu) (U : Nat) (c248_groups : Int32) (c248_pots : Int32) (c248_bars : Int32) (a252 : Nat → Int32) (a253 : Nat → Int32) (c261_many : Int32) (a262 : Nat → Int32) (c267_total : Int32) (c267_lawfulOnes : Int32) (a268 : Nat → Int32) (a269 : Nat → Int32) (n269 : Nat) (a270 : Nat → Int32) (n270 : Nat) (a271 : Nat → Int32) (a273 : Nat → Int32) (p0 : c248_groups.toInt ≤ 2) (p1 : 2 ≤ c248_groups.toInt) (p2 : c248_pots.toInt ≤ 4) (p3 : 4 ≤ c248_pots.toInt) (p4 : c248_bars.toInt ≤ 10) (p5 : 0 ≤ c248_bars.toInt) (p6 : c261_many.toInt ≤ 2) (p7 : 2 ≤ c261_many.toInt) (p8 : ((n269 : Nat) : Int) ≤ 13824) (p9 : 1 ≤ ((n269 : Nat) : Int)) (p10 : ((n270 : Nat) : Int) ≤ 13824) (p11 : 1 ≤ ((n270 : Nat) : Int)) (p12 : ((n269 : Nat) : Int) ≤ ((n270 : Nat) : Int)) (p13 : ((n270 : Nat) : Int) ≤ ((n269 : Nat) : Int)) (hr_a262 : dz_rg a262 96 0 3) (hr_a269 : dz_rg a269 n269 0 1023) (o0 : (16 ≤ n269) ∨ 2 * 16 ≤ U) : dz_T (f143_X2_renew fu U c248_groups c248_pots c248_bars a252 a253 c261_many a262 c267_total c267_lawfulOnes a268 a269 n269 a270 n270 a271 a273) (fun r => r.1.toInt ≤ 16 ∧ 16 ≤ r.1.toInt ∧ r.2.1.toInt ≤ 16 ∧ 0 ≤ r.2.1.toInt ∧ ((r.2.2.2.2.1 : Nat) : Int) ≤ 13824 ∧ 16 ≤ ((r.2.2.2.2.1 : Nat) : Int) ∧ ((r.2.2.2.2.2.2.1 : Nat) : Int) ≤ 13824 ∧ 16 ≤ ((r.2.2.2.2.2.2.1 : Nat) : Int) ∧ ((r.2.2.2.2.1 : Nat) : Int) ≤ ((r.2.2.2.2.2.2.1 : Nat) : Int) ∧ ((r.2.2.2.2.2.2.1 : Nat) : Int) ≤ ((r.2.2.2.2.1 : Nat) : Int) ∧ dz_rg r.2.2.2.1 r.2.2.2.2.1 0 1023 ∧ dz_pt r.2.2.1 [8, 4, 2, 1] ∧ dz_rg r.2.2.2.2.2.1 r.2.1.toInt.toNat 0 15 ∧ (r.1.toInt = 16)) :=
  t143_X2_renew_E_g24 fu hfu U c248_groups c248_pots c248_bars a252 a253 c261_many a262 c267_total c267_lawfulOnes a268 a269 n269 a270 n270 a271 a273 p0 p1 p2 p3 p4 p5 p6 p7 p8 p9 p10 p11 p12 p13 hr_a262 hr_a269 o0 fu hfu
set_option maxHeartbeats 1000000 in
set_option maxRecDepth 10000 in
theorem t143_X2_renew_E_g30 (fu : Nat) (hfu : 1000000000000 ≤ fu) (U : Nat) (c248_groups : Int32) (c248_pots : Int32) (c248_bars : Int32) (a252 : Nat → Int32) (a253 : Nat → Int32) (c261_many : Int32) (a262 : Nat → Int32) (c267_total : Int32) (c267_lawfulOnes : Int32) (a268 : Nat → Int32) (a269 : Nat → Int32) (n269 : Nat) (a270 : Nat → Int32) (n270 : Nat) (a271 : Nat → Int32) (a273 : Nat → Int32) (p0 : c248_groups.toInt ≤ 3) (p1 : 3 ≤ c248_groups.toInt) (p2 : c248_pots.toInt ≤ 0) (p3 : 0 ≤ c248_pots.toInt) (p4 : c248_bars.toInt ≤ 10) (p5 : 0 ≤ c248_bars.toInt) (p6 : c261_many.toInt ≤ 6) (p7 : 6 ≤ c261_many.toInt) (p8 : ((n269 : Nat) : Int) ≤ 13824) (p9 : 1 ≤ ((n269 : Nat) : Int)) (p10 : ((n270 : Nat) : Int) ≤ 13824) (p11 : 1 ≤ ((n270 : Nat) : Int)) (p12 : ((n269 : Nat) : Int) ≤ ((n270 : Nat) : Int)) (p13 : ((n270 : Nat) : Int) ≤ ((n269 : Nat) : Int)) (hr_a262 : dz_rg a262 96 0 3) (hr_a269 : dz_rg a269 n269 0 1023) (o0 : (1 ≤ n269) ∨ 2 * 1 ≤ U) (kv : Nat) (hkv : 1000000000000 ≤ kv) : dz_T (s143_X2_renew_0 fu U c248_groups c248_pots c248_bars a252 a253 c261_many a262 (F143_X2_renew fu U c248_groups c248_pots c248_bars a252 a253 c261_many a262 kv).1  c267_total c267_lawfulOnes a268 a269 n269 a270 n270 a271 a273) (fun r => r.1.toInt ≤ 1 ∧ 1 ≤ r.1.toInt ∧ r.2.1.toInt ≤ 1 ∧ 0 ≤ r.2.1.toInt ∧ ((r.2.2.2.2.1 : Nat) : Int) ≤ 13824 ∧ 1 ≤ ((r.2.2.2.2.1 : Nat) : Int) ∧ ((r.2.2.2.2.2.2.1 : Nat) : Int) ≤ 13824 ∧ 1 ≤ ((r.2.2.2.2.2.2.1 : Nat) : Int) ∧ ((r.2.2.2.2.1 : Nat) : Int) ≤ ((r.2.2.2.2.2.2.1 : Nat) : Int) ∧ ((r.2.2.2.2.2.2.1 : Nat) : Int) ≤ ((r.2.2.2.2.1 : Nat) : Int) ∧ dz_rg r.2.2.2.1 r.2.2.2.2.1 0 1023 ∧ dz_rg r.2.2.2.2.2.1 r.2.1.toInt.toNat 0 0 ∧ (r.1.toInt = 1)) := by
  unfold s143_X2_renew_0
  have e1 := dz_l1
  have e2 := dz_sub (a := c248_pots) (b := (1 : Int32)) (by omega) (by omega)
  generalize (c248_pots - (1 : Int32)) = zz6 at *
  obtain ⟨k1, rfl⟩ : ∃ x, kv = x + 1 := ⟨kv - 1, by omega⟩
  rw [dz_Fu143]
  unfold s143_X2_renew_1
  refine dz_Tg (by omega) ?_
  have e3 := dz_l0
  refine dz_Tlt (fun h4 => ?_) (fun h4 => ?_)
  · skip
    have e5 := dz_ofn (n := n269) (by omega)
    refine dz_Tle (fun h6 => ?_) (fun h6 => ?_)
    · skip
      obtain ⟨k2, rfl⟩ : ∃ x, k1 = x + 1 := ⟨k1 - 1, by omega⟩
      show dz_T (s143_X2_renew_2 fu U c248_groups c248_pots c248_bars a252 a253 c261_many a262 (F143_X2_renew fu U c248_groups c248_pots c248_bars a252 a253 c261_many a262 k2).2.2.1 (F143_X2_renew fu U c248_groups c248_pots c248_bars a252 a253 c261_many a262 k2).2.2.2 0 (1 : Int32) c267_lawfulOnes a268 a269 n269 a270 n270 a271 a273) _
      unfold s143_X2_renew_2
      refine dz_Tg (by omega) ?_
      refine dz_Tb (t135_J7_fill_fda19 fu hfu _ _ _ _ _ 0 1023 (by first | assumption | omega) (by omega) (by omega) (by omega) (by omega) (by omega) (hr_a269)) (fun r1 q => ?_)
      have qa1_0 := q
      refine dz_Tle (fun h7 => ?_) (fun h7 => ?_)
      · skip
        obtain ⟨k3, rfl⟩ : ∃ x, k2 = x + 1 := ⟨k2 - 1, by omega⟩
        show dz_T (s143_X2_renew_3 fu U c248_groups c248_pots c248_bars a252 a253 c261_many a262 0 (1 : Int32) c267_lawfulOnes a268 r1 n269 a270 n270 a271 a273) _
        unfold s143_X2_renew_3
        refine dz_Tg (by omega) ?_
        refine dz_Tb (t136_X2_listLawful_g30 fu hfu _ _ _ _ _ _ (by omega) (by omega) p8 p9 p10 p11 (by omega) (by omega) p12 p13 (qa1_0)) (fun r2 q => ?_)
        obtain ⟨q2_0, q2_1, qa2_1⟩ := q
        refine dz_Tb (t139_X2_tellWithin_g3 fu hfu _ _ _ _ _ p4 p5 (by omega) (by omega) p8 p9 (by omega) (qa1_0)) (fun r3 _ => ?_)
        refine dz_Ts ?_
        dsimp only
        exact ⟨(by omega), (by omega), q2_0, q2_1, p8, p9, p10, p11, p12, p13, (qa1_0), (dz_rgs (qa2_1) (by omega)), (by omega)⟩
      · skip
        exfalso; omega
    · skip
      exfalso; omega
  · skip
    exfalso; omega
theorem t143_X2_renew_g30 (fu : Nat) (hfu : 1000000000000 ≤ fu) (U : Nat) (c248_groups : Int32) (c248_pots : Int32) (c248_bars : Int32) (a252 : Nat → Int32) (a253 : Nat → Int32) (c261_many : Int32) (a262 : Nat → Int32) (c267_total : Int32) (c267_lawfulOnes : Int32) (a268 : Nat → Int32) (a269 : Nat → Int32) (n269 : Nat) (a270 : Nat → Int32) (n270 : Nat) (a271 : Nat → Int32) (a273 : Nat → Int32) (p0 : c248_groups.toInt ≤ 3) (p1 : 3 ≤ c248_groups.toInt) (p2 : c248_pots.toInt ≤ 0) (p3 : 0 ≤ c248_pots.toInt) (p4 : c248_bars.toInt ≤ 10) (p5 : 0 ≤ c248_bars.toInt) (p6 : c261_many.toInt ≤ 6) (p7 : 6 ≤ c261_many.toInt) (p8 : ((n269 : Nat) : Int) ≤ 13824) (p9 : 1 ≤ ((n269 : Nat) : Int)) (p10 : ((n270 : Nat) : Int) ≤ 13824) (p11 : 1 ≤ ((n270 : Nat) : Int)) (p12 : ((n269 : Nat) : Int) ≤ ((n270 : Nat) : Int)) (p13 : ((n270 : Nat) : Int) ≤ ((n269 : Nat) : Int)) (hr_a262 : dz_rg a262 96 0 3) (hr_a269 : dz_rg a269 n269 0 1023) (o0 : (1 ≤ n269) ∨ 2 * 1 ≤ U) : dz_T (f143_X2_renew fu U c248_groups c248_pots c248_bars a252 a253 c261_many a262 c267_total c267_lawfulOnes a268 a269 n269 a270 n270 a271 a273) (fun r => r.1.toInt ≤ 1 ∧ 1 ≤ r.1.toInt ∧ r.2.1.toInt ≤ 1 ∧ 0 ≤ r.2.1.toInt ∧ ((r.2.2.2.2.1 : Nat) : Int) ≤ 13824 ∧ 1 ≤ ((r.2.2.2.2.1 : Nat) : Int) ∧ ((r.2.2.2.2.2.2.1 : Nat) : Int) ≤ 13824 ∧ 1 ≤ ((r.2.2.2.2.2.2.1 : Nat) : Int) ∧ ((r.2.2.2.2.1 : Nat) : Int) ≤ ((r.2.2.2.2.2.2.1 : Nat) : Int) ∧ ((r.2.2.2.2.2.2.1 : Nat) : Int) ≤ ((r.2.2.2.2.1 : Nat) : Int) ∧ dz_rg r.2.2.2.1 r.2.2.2.2.1 0 1023 ∧ dz_rg r.2.2.2.2.2.1 r.2.1.toInt.toNat 0 0 ∧ (r.1.toInt = 1)) :=
  t143_X2_renew_E_g30 fu hfu U c248_groups c248_pots c248_bars a252 a253 c261_many a262 c267_total c267_lawfulOnes a268 a269 n269 a270 n270 a271 a273 p0 p1 p2 p3 p4 p5 p6 p7 p8 p9 p10 p11 p12 p13 hr_a262 hr_a269 o0 fu hfu
abbrev p143_X2_renew_g31 (fu : Nat) (U : Nat) (c248_groups : Int32) (c248_pots : Int32) (c248_bars : Int32) (a252 : Nat → Int32) (a253 : Nat → Int32) (c261_many : Int32) (a262 : Nat → Int32) (k : Nat) : Prop :=
  (∀ (v1 : Int32) (sl : Nat) (c267_total : Int32) (c267_lawfulOnes : Int32) (a268 : Nat → Int32) (a269 : Nat → Int32) (n269 : Nat) (a270 : Nat → Int32) (n270 : Nat) (a271 : Nat → Int32) (a273 : Nat → Int32), v1.toInt ≤ 10 → 0 ≤ v1.toInt → ((sl : Nat) : Int) ≤ 12 → c267_total.toInt ≤ 6 → 6 ≤ c267_total.toInt → ((n269 : Nat) : Int) ≤ 13824 → 6 ≤ ((n269 : Nat) : Int) → ((n270 : Nat) : Int) ≤ 13824 → 6 ≤ ((n270 : Nat) : Int) → ((n269 : Nat) : Int) ≤ ((n270 : Nat) : Int) → ((n270 : Nat) : Int) ≤ ((n269 : Nat) : Int) → ((sl : Nat) : Int) ≤ ((U : Nat) : Int) → v1.toInt ≤ c248_bars.toInt → dz_rg a269 n269 0 1023 → dz_pt a268 [1] → 0 + 0 + (10 - v1.toInt) * 16 + 8 ≤ ((k : Nat) : Int) → dz_T ((F143_X2_renew fu U c248_groups c248_pots c248_bars a252 a253 c261_many a262 k).2.2.2 v1 sl c267_total c267_lawfulOnes a268 a269 n269 a270 n270 a271 a273) (fun r => r.1.toInt ≤ 6 ∧ 6 ≤ r.1.toInt ∧ r.2.1.toInt ≤ 6 ∧ 0 ≤ r.2.1.toInt ∧ ((r.2.2.2.2.1 : Nat) : Int) ≤ 13824 ∧ 6 ≤ ((r.2.2.2.2.1 : Nat) : Int) ∧ ((r.2.2.2.2.2.2.1 : Nat) : Int) ≤ 13824 ∧ 6 ≤ ((r.2.2.2.2.2.2.1 : Nat) : Int) ∧ ((r.2.2.2.2.1 : Nat) : Int) ≤ ((r.2.2.2.2.2.2.1 : Nat) : Int) ∧ ((r.2.2.2.2.2.2.1 : Nat) : Int) ≤ ((r.2.2.2.2.1 : Nat) : Int) ∧ dz_rg r.2.2.2.1 r.2.2.2.2.1 0 1023 ∧ dz_pt r.2.2.1 [1] ∧ dz_rg r.2.2.2.2.2.1 r.2.1.toInt.toNat 0 5 ∧ (r.1.toInt = 6)))
set_option maxHeartbeats 1000000 in
set_option maxRecDepth 10000 in
theorem t143_X2_renew_h4_g31 (fu : Nat) (hfu : 1000000000000 ≤ fu) (U : Nat) (c248_groups : Int32) (c248_pots : Int32) (c248_bars : Int32) (a252 : Nat → Int32) (a253 : Nat → Int32) (c261_many : Int32) (a262 : Nat → Int32) (p0 : c248_groups.toInt ≤ 3) (p1 : 3 ≤ c248_groups.toInt) (p2 : c248_pots.toInt ≤ 1) (p3 : 1 ≤ c248_pots.toInt) (p4 : c248_bars.toInt ≤ 10) (p5 : 0 ≤ c248_bars.toInt) (p6 : c261_many.toInt ≤ 6) (p7 : 6 ≤ c261_many.toInt) (hr_a262 : dz_rg a262 96 0 3) (k : Nat) (ih : ∀ j9, j9 < k → p143_X2_renew_g31 fu U c248_groups c248_pots c248_bars a252 a253 c261_many a262 j9) : ∀ (v1 : Int32) (sl : Nat) (c267_total : Int32) (c267_lawfulOnes : Int32) (a268 : Nat → Int32) (a269 : Nat → Int32) (n269 : Nat) (a270 : Nat → Int32) (n270 : Nat) (a271 : Nat → Int32) (a273 : Nat → Int32), v1.toInt ≤ 10 → 0 ≤ v1.toInt → ((sl : Nat) : Int) ≤ 12 → c267_total.toInt ≤ 6 → 6 ≤ c267_total.toInt → ((n269 : Nat) : Int) ≤ 13824 → 6 ≤ ((n269 : Nat) : Int) → ((n270 : Nat) : Int) ≤ 13824 → 6 ≤ ((n270 : Nat) : Int) → ((n269 : Nat) : Int) ≤ ((n270 : Nat) : Int) → ((n270 : Nat) : Int) ≤ ((n269 : Nat) : Int) → ((sl : Nat) : Int) ≤ ((U : Nat) : Int) → v1.toInt ≤ c248_bars.toInt → dz_rg a269 n269 0 1023 → dz_pt a268 [1] → 0 + 0 + (10 - v1.toInt) * 16 + 8 ≤ ((k : Nat) : Int) → dz_T ((F143_X2_renew fu U c248_groups c248_pots c248_bars a252 a253 c261_many a262 k).2.2.2 v1 sl c267_total c267_lawfulOnes a268 a269 n269 a270 n270 a271 a273) (fun r => r.1.toInt ≤ 6 ∧ 6 ≤ r.1.toInt ∧ r.2.1.toInt ≤ 6 ∧ 0 ≤ r.2.1.toInt ∧ ((r.2.2.2.2.1 : Nat) : Int) ≤ 13824 ∧ 6 ≤ ((r.2.2.2.2.1 : Nat) : Int) ∧ ((r.2.2.2.2.2.2.1 : Nat) : Int) ≤ 13824 ∧ 6 ≤ ((r.2.2.2.2.2.2.1 : Nat) : Int) ∧ ((r.2.2.2.2.1 : Nat) : Int) ≤ ((r.2.2.2.2.2.2.1 : Nat) : Int) ∧ ((r.2.2.2.2.2.2.1 : Nat) : Int) ≤ ((r.2.2.2.2.1 : Nat) : Int) ∧ dz_rg r.2.2.2.1 r.2.2.2.2.1 0 1023 ∧ dz_pt r.2.2.1 [1] ∧ dz_rg r.2.2.2.2.2.1 r.2.1.toInt.toNat 0 5 ∧ (r.1.toInt = 6)) := by
  intro v1 sl c267_total c267_lawfulOnes a268 a269 n269 a270 n270 a271 a273 i0 i1 i2 i3 i4 i5 i6 i7 i8 i9 i10 i11 i12 hr_a269 hr_a268 hm
  obtain ⟨k0, rfl⟩ : ∃ x, k = x + 1 := ⟨k - 1, by omega⟩
  show dz_T (s143_X2_renew_4 fu U c248_groups c248_pots c248_bars a252 a253 c261_many a262 (F143_X2_renew fu U c248_groups c248_pots c248_bars a252 a253 c261_many a262 k0).2.2.1 (F143_X2_renew fu U c248_groups c248_pots c248_bars a252 a253 c261_many a262 k0).2.2.2  v1 sl c267_total c267_lawfulOnes a268 a269 n269 a270 n270 a271 a273) _
  unfold s143_X2_renew_4
  refine dz_Tg (by omega) ?_
  refine dz_Tle (fun h1 => ?_) (fun h1 => ?_)
  · skip
    obtain ⟨k1, rfl⟩ : ∃ x, k0 = x + 1 := ⟨k0 - 1, by omega⟩
    show dz_T (s143_X2_renew_3 fu U c248_groups c248_pots c248_bars a252 a253 c261_many a262 sl c267_total c267_lawfulOnes a268 a269 n269 a270 n270 a271 a273) _
    unfold s143_X2_renew_3
    refine dz_Tg (by omega) ?_
    refine dz_Tb (t136_X2_listLawful_g31 fu hfu _ _ _ _ _ _ i3 i4 i5 (by first | assumption | omega) i7 (by first | assumption | omega) (by first | assumption | omega) (by first | assumption | omega) i9 i10 (hr_a269)) (fun r1 q => ?_)
    obtain ⟨q1_0, q1_1, qa1_1⟩ := q
    refine dz_Tb (t139_X2_tellWithin_g3 fu hfu _ _ _ _ _ p4 p5 (by first | assumption | omega) (by first | assumption | omega) i5 (by first | assumption | omega) (by first | assumption | omega) (hr_a269)) (fun r2 _ => ?_)
    refine dz_Ts ?_
    dsimp only
    exact ⟨i3, i4, q1_0, q1_1, i5, i6, i7, i8, i9, i10, (hr_a269), (hr_a268), (dz_rgs (qa1_1) (by omega)), (by omega)⟩
  · skip
    refine dz_Tin (by omega) (by omega) ?_
    refine dz_Tb (t140_X2_tellHeld_g3 fu hfu _ _ _ _ _ _ p0 p1 (by first | assumption | omega) (by first | assumption | omega) p6 p7 (hr_a262)) (fun r3 _ => ?_)
    refine dz_Tin (by omega) (by omega) ?_
    have e2 := dz_l1
    have e3 := dz_l31
    have e4 := dz_andr (a := v1) (b := (31 : Int32)) (by omega)
    have e5 := dz_andl (a := v1) (b := (31 : Int32)) (by omega)
    have e6 := dz_shl1 (b := v1) 0 9 (by omega) (by omega) (by omega)
    have e7 := dz_l30583
    have e8 := dz_rng (a253 v1.toNatClampNeg)
    refine dz_Tb (t142_X2_breakBar_g31 fu hfu _ _ _ _ _ _ _ _ _ p2 p3 p6 p7 i3 i4 i5 (by first | assumption | omega) (by first | assumption | omega) p3 (by omega) (by omega) (hr_a268) (hr_a269)) (fun r4 q => ?_)
    have qa4_0 := q
    have e9 := dz_add (a := v1) (b := (1 : Int32)) (by omega) (by omega)
    exact (ih k0 (by omega)) (v1 + (1 : Int32)) sl c267_total c267_lawfulOnes a268 r4 n269 a270 n270 a271 r3 (by omega) (by omega) i2 i3 i4 i5 i6 i7 i8 i9 i10 i11 (by omega) (qa4_0) (hr_a268) (by omega)
theorem t143_X2_renew_I_g31 (fu : Nat) (hfu : 1000000000000 ≤ fu) (U : Nat) (c248_groups : Int32) (c248_pots : Int32) (c248_bars : Int32) (a252 : Nat → Int32) (a253 : Nat → Int32) (c261_many : Int32) (a262 : Nat → Int32) (p0 : c248_groups.toInt ≤ 3) (p1 : 3 ≤ c248_groups.toInt) (p2 : c248_pots.toInt ≤ 1) (p3 : 1 ≤ c248_pots.toInt) (p4 : c248_bars.toInt ≤ 10) (p5 : 0 ≤ c248_bars.toInt) (p6 : c261_many.toInt ≤ 6) (p7 : 6 ≤ c261_many.toInt) (hr_a262 : dz_rg a262 96 0 3) (k : Nat) : p143_X2_renew_g31 fu U c248_groups c248_pots c248_bars a252 a253 c261_many a262 k := by
  induction k using Nat.strongRecOn with
  | _ k ih => exact t143_X2_renew_h4_g31 fu hfu U c248_groups c248_pots c248_bars a252 a253 c261_many a262 p0 p1 p2 p3 p4 p5 p6 p7 hr_a262 k ih
set_option maxHeartbeats 1000000 in
set_option maxRecDepth 10000 in
theorem t143_X2_renew_E_g31 (fu : Nat) (hfu : 1000000000000 ≤ fu) (U : Nat) (c248_groups : Int32) (c248_pots : Int32) (c248_bars : Int32) (a252 : Nat → Int32) (a253 : Nat → Int32) (c261_many : Int32) (a262 : Nat → Int32) (c267_total : Int32) (c267_lawfulOnes : Int32) (a268 : Nat → Int32) (a269 : Nat → Int32) (n269 : Nat) (a270 : Nat → Int32) (n270 : Nat) (a271 : Nat → Int32) (a273 : Nat → Int32) (p0 : c248_groups.toInt ≤ 3) (p1 : 3 ≤ c248_groups.toInt) (p2 : c248_pots.toInt ≤ 1) (p3 : 1 ≤ c248_pots.toInt) (p4 : c248_bars.toInt ≤ 10) (p5 : 0 ≤ c248_bars.toInt) (p6 : c261_many.toInt ≤ 6) (p7 : 6 ≤ c261_many.toInt) (p8 : ((n269 : Nat) : Int) ≤ 13824) (p9 : 1 ≤ ((n269 : Nat) : Int)) (p10 : ((n270 : Nat) : Int) ≤ 13824) (p11 : 1 ≤ ((n270 : Nat) : Int)) (p12 : ((n269 : Nat) : Int) ≤ ((n270 : Nat) : Int)) (p13 : ((n270 : Nat) : Int) ≤ ((n269 : Nat) : Int)) (hr_a262 : dz_rg a262 96 0 3) (hr_a269 : dz_rg a269 n269 0 1023) (o0 : (6 ≤ n269) ∨ 2 * 6 ≤ U) (kv : Nat) (hkv : 1000000000000 ≤ kv) : dz_T (s143_X2_renew_0 fu U c248_groups c248_pots c248_bars a252 a253 c261_many a262 (F143_X2_renew fu U c248_groups c248_pots c248_bars a252 a253 c261_many a262 kv).1  c267_total c267_lawfulOnes a268 a269 n269 a270 n270 a271 a273) (fun r => r.1.toInt ≤ 6 ∧ 6 ≤ r.1.toInt ∧ r.2.1.toInt ≤ 6 ∧ 0 ≤ r.2.1.toInt ∧ ((r.2.2.2.2.1 : Nat) : Int) ≤ 13824 ∧ 6 ≤ ((r.2.2.2.2.1 : Nat) : Int) ∧ ((r.2.2.2.2.2.2.1 : Nat) : Int) ≤ 13824 ∧ 6 ≤ ((r.2.2.2.2.2.2.1 : Nat) : Int) ∧ ((r.2.2.2.2.1 : Nat) : Int) ≤ ((r.2.2.2.2.2.2.1 : Nat) : Int) ∧ ((r.2.2.2.2.2.2.1 : Nat) : Int) ≤ ((r.2.2.2.2.1 : Nat) : Int) ∧ dz_rg r.2.2.2.1 r.2.2.2.2.1 0 1023 ∧ dz_pt r.2.2.1 [1] ∧ dz_rg r.2.2.2.2.2.1 r.2.1.toInt.toNat 0 5 ∧ (r.1.toInt = 6)) := by
  unfold s143_X2_renew_0
  have e1 := dz_l1
  have e2 := dz_sub (a := c248_pots) (b := (1 : Int32)) (by omega) (by omega)
  generalize (c248_pots - (1 : Int32)) = zz10 at *
  obtain ⟨k1, rfl⟩ : ∃ x, kv = x + 1 := ⟨kv - 1, by omega⟩
  rw [dz_Fu143]
  unfold s143_X2_renew_1
  refine dz_Tg (by omega) ?_
  have e3 := dz_l0
  refine dz_Tlt (fun h4 => ?_) (fun h4 => ?_)
  · skip
    exfalso; omega
  · skip
    refine dz_Tin (by omega) (by omega) ?_
    have e5 := dz_lm1
    have e6 := dz_add (a := zz10) (b := (-(1 : Int32))) (by omega) (by omega)
    generalize (zz10 + (-(1 : Int32))) = zz11 at *
    have e7 := dz_mull (a := (1 : Int32)) (b := c261_many) 1 (by omega) (by omega) (by omega)
    generalize ((1 : Int32) * c261_many) = zz12 at *
    obtain ⟨k2, rfl⟩ : ∃ x, k1 = x + 1 := ⟨k1 - 1, by omega⟩
    rw [dz_Fu143]
    unfold s143_X2_renew_1
    refine dz_Tg (by omega) ?_
    refine dz_Tlt (fun h8 => ?_) (fun h8 => ?_)
    · skip
      have e9 := dz_ofn (n := n269) (by omega)
      refine dz_Tle (fun h10 => ?_) (fun h10 => ?_)
      · skip
        obtain ⟨k3, rfl⟩ : ∃ x, k2 = x + 1 := ⟨k2 - 1, by omega⟩
        show dz_T (s143_X2_renew_2 fu U c248_groups c248_pots c248_bars a252 a253 c261_many a262 (F143_X2_renew fu U c248_groups c248_pots c248_bars a252 a253 c261_many a262 k3).2.2.1 (F143_X2_renew fu U c248_groups c248_pots c248_bars a252 a253 c261_many a262 k3).2.2.2 0 zz12 c267_lawfulOnes (upd a268 zz10.toNatClampNeg (1 : Int32)) a269 n269 a270 n270 a271 a273) _
        unfold s143_X2_renew_2
        refine dz_Tg (by omega) ?_
        refine dz_Tb (t135_J7_fill_fda19 fu hfu _ _ _ _ _ 0 1023 (by first | assumption | omega) (by omega) (by omega) (by first | assumption | omega) (by omega) (by omega) (hr_a269)) (fun r1 q => ?_)
        have qa1_0 := q
        refine dz_Tle (fun h11 => ?_) (fun h11 => ?_)
        · skip
          exfalso; omega
        · skip
          exact (t143_X2_renew_I_g31 fu hfu U c248_groups c248_pots c248_bars a252 a253 c261_many a262 p0 p1 p2 p3 p4 p5 p6 p7 hr_a262 k3) (0 : Int32) 0 zz12 c267_lawfulOnes (upd a268 zz10.toNatClampNeg (1 : Int32)) r1 n269 a270 n270 a271 a273 (by omega) (by omega) (by first | assumption | omega) (by first | assumption | omega) (by first | assumption | omega) p8 (by first | assumption | omega) p10 (by first | assumption | omega) p12 p13 (by first | assumption | omega) (by omega) (qa1_0) (dz_ptmk1 ((dz_upk (j := zz10) 0 (by omega)).trans (by omega))) (by omega)
      · skip
        refine dz_Tng (by omega) ?_
        have e12 := dz_tn zz12
        refine dz_Tg (by omega) ?_
        refine dz_Tg (by omega) ?_
        refine dz_Tg (by omega) ?_
        refine dz_Tng (by omega) ?_
        refine dz_Tg (by omega) ?_
        refine dz_Tg (by omega) ?_
        refine dz_Tg (by omega) ?_
        obtain ⟨k4, rfl⟩ : ∃ x, k2 = x + 1 := ⟨k2 - 1, by omega⟩
        show dz_T (s143_X2_renew_2 fu U c248_groups c248_pots c248_bars a252 a253 c261_many a262 (F143_X2_renew fu U c248_groups c248_pots c248_bars a252 a253 c261_many a262 k4).2.2.1 (F143_X2_renew fu U c248_groups c248_pots c248_bars a252 a253 c261_many a262 k4).2.2.2 ((0 + zz12.toNatClampNeg) + zz12.toNatClampNeg) zz12 c267_lawfulOnes (upd a268 zz10.toNatClampNeg (1 : Int32)) (jw_l 0 []) zz12.toNatClampNeg (jw_l 0 []) zz12.toNatClampNeg a271 a273) _
        unfold s143_X2_renew_2
        refine dz_Tg (by omega) ?_
        refine dz_Tb (t135_J7_fill_fda19 fu hfu _ _ _ _ _ 0 0 (by first | assumption | omega) (by omega) (by omega) (by first | assumption | omega) (by omega) (by omega) (dz_rg0 (by omega) (by omega))) (fun r2 q => ?_)
        have qa2_0 := q
        refine dz_Tle (fun h13 => ?_) (fun h13 => ?_)
        · skip
          exfalso; omega
        · skip
          exact (t143_X2_renew_I_g31 fu hfu U c248_groups c248_pots c248_bars a252 a253 c261_many a262 p0 p1 p2 p3 p4 p5 p6 p7 hr_a262 k4) (0 : Int32) ((0 + zz12.toNatClampNeg) + zz12.toNatClampNeg) zz12 c267_lawfulOnes (upd a268 zz10.toNatClampNeg (1 : Int32)) r2 zz12.toNatClampNeg (jw_l 0 []) zz12.toNatClampNeg a271 a273 (by omega) (by omega) (by omega) (by first | assumption | omega) (by first | assumption | omega) (by first | assumption | omega) (by first | assumption | omega) (by first | assumption | omega) (by first | assumption | omega) (by first | assumption | omega) (by first | assumption | omega) (by omega) (by omega) (dz_rgm qa2_0 (by omega) (by omega)) (dz_ptmk1 ((dz_upk (j := zz10) 0 (by omega)).trans (by omega))) (by omega)
    · skip
      exfalso; omega
theorem t143_X2_renew_g31 (fu : Nat) (hfu : 1000000000000 ≤ fu) (U : Nat) (c248_groups : Int32) (c248_pots : Int32) (c248_bars : Int32) (a252 : Nat → Int32) (a253 : Nat → Int32) (c261_many : Int32) (a262 : Nat → Int32) (c267_total : Int32) (c267_lawfulOnes : Int32) (a268 : Nat → Int32) (a269 : Nat → Int32) (n269 : Nat) (a270 : Nat → Int32) (n270 : Nat) (a271 : Nat → Int32) (a273 : Nat → Int32) (p0 : c248_groups.toInt ≤ 3) (p1 : 3 ≤ c248_groups.toInt) (p2 : c248_pots.toInt ≤ 1) (p3 : 1 ≤ c248_pots.toInt) (p4 : c248_bars.toInt ≤ 10) (p5 : 0 ≤ c248_bars.toInt) (p6 : c261_many.toInt ≤ 6) (p7 : 6 ≤ c261_many.toInt) (p8 : ((n269 : Nat) : Int) ≤ 13824) (p9 : 1 ≤ ((n269 : Nat) : Int)) (p10 : ((n270 : Nat) : Int) ≤ 13824) (p11 : 1 ≤ ((n270 : Nat) : Int)) (p12 : ((n269 : Nat) : Int) ≤ ((n270 : Nat) : Int)) (p13 : ((n270 : Nat) : Int) ≤ ((n269 : Nat) : Int)) (hr_a262 : dz_rg a262 96 0 3) (hr_a269 : dz_rg a269 n269 0 1023) (o0 : (6 ≤ n269) ∨ 2 * 6 ≤ U) : dz_T (f143_X2_renew fu U c248_groups c248_pots c248_bars a252 a253 c261_many a262 c267_total c267_lawfulOnes a268 a269 n269 a270 n270 a271 a273) (fun r => r.1.toInt ≤ 6 ∧ 6 ≤ r.1.toInt ∧ r.2.1.toInt ≤ 6 ∧ 0 ≤ r.2.1.toInt ∧ ((r.2.2.2.2.1 : Nat) : Int) ≤ 13824 ∧ 6 ≤ ((r.2.2.2.2.1 : Nat) : Int) ∧ ((r.2.2.2.2.2.2.1 : Nat) : Int) ≤ 13824 ∧ 6 ≤ ((r.2.2.2.2.2.2.1 : Nat) : Int) ∧ ((r.2.2.2.2.1 : Nat) : Int) ≤ ((r.2.2.2.2.2.2.1 : Nat) : Int) ∧ ((r.2.2.2.2.2.2.1 : Nat) : Int) ≤ ((r.2.2.2.2.1 : Nat) : Int) ∧ dz_rg r.2.2.2.1 r.2.2.2.2.1 0 1023 ∧ dz_pt r.2.2.1 [1] ∧ dz_rg r.2.2.2.2.2.1 r.2.1.toInt.toNat 0 5 ∧ (r.1.toInt = 6)) :=
  t143_X2_renew_E_g31 fu hfu U c248_groups c248_pots c248_bars a252 a253 c261_many a262 c267_total c267_lawfulOnes a268 a269 n269 a270 n270 a271 a273 p0 p1 p2 p3 p4 p5 p6 p7 p8 p9 p10 p11 p12 p13 hr_a262 hr_a269 o0 fu hfu
abbrev p143_X2_renew_g32 (fu : Nat) (U : Nat) (c248_groups : Int32) (c248_pots : Int32) (c248_bars : Int32) (a252 : Nat → Int32) (a253 : Nat → Int32) (c261_many : Int32) (a262 : Nat → Int32) (k : Nat) : Prop :=
  (∀ (v1 : Int32) (sl : Nat) (c267_total : Int32) (c267_lawfulOnes : Int32) (a268 : Nat → Int32) (a269 : Nat → Int32) (n269 : Nat) (a270 : Nat → Int32) (n270 : Nat) (a271 : Nat → Int32) (a273 : Nat → Int32), v1.toInt ≤ 10 → 0 ≤ v1.toInt → ((sl : Nat) : Int) ≤ 72 → c267_total.toInt ≤ 36 → 36 ≤ c267_total.toInt → ((n269 : Nat) : Int) ≤ 13824 → 36 ≤ ((n269 : Nat) : Int) → ((n270 : Nat) : Int) ≤ 13824 → 36 ≤ ((n270 : Nat) : Int) → ((n269 : Nat) : Int) ≤ ((n270 : Nat) : Int) → ((n270 : Nat) : Int) ≤ ((n269 : Nat) : Int) → ((sl : Nat) : Int) ≤ ((U : Nat) : Int) → v1.toInt ≤ c248_bars.toInt → dz_rg a269 n269 0 1023 → dz_pt a268 [6, 1] → 0 + 0 + (10 - v1.toInt) * 16 + 8 ≤ ((k : Nat) : Int) → dz_T ((F143_X2_renew fu U c248_groups c248_pots c248_bars a252 a253 c261_many a262 k).2.2.2 v1 sl c267_total c267_lawfulOnes a268 a269 n269 a270 n270 a271 a273) (fun r => r.1.toInt ≤ 36 ∧ 36 ≤ r.1.toInt ∧ r.2.1.toInt ≤ 36 ∧ 0 ≤ r.2.1.toInt ∧ ((r.2.2.2.2.1 : Nat) : Int) ≤ 13824 ∧ 36 ≤ ((r.2.2.2.2.1 : Nat) : Int) ∧ ((r.2.2.2.2.2.2.1 : Nat) : Int) ≤ 13824 ∧ 36 ≤ ((r.2.2.2.2.2.2.1 : Nat) : Int) ∧ ((r.2.2.2.2.1 : Nat) : Int) ≤ ((r.2.2.2.2.2.2.1 : Nat) : Int) ∧ ((r.2.2.2.2.2.2.1 : Nat) : Int) ≤ ((r.2.2.2.2.1 : Nat) : Int) ∧ dz_rg r.2.2.2.1 r.2.2.2.2.1 0 1023 ∧ dz_pt r.2.2.1 [6, 1] ∧ dz_rg r.2.2.2.2.2.1 r.2.1.toInt.toNat 0 35 ∧ (r.1.toInt = 36)))
set_option maxHeartbeats 1000000 in
set_option maxRecDepth 10000 in
theorem t143_X2_renew_h4_g32 (fu : Nat) (hfu : 1000000000000 ≤ fu) (U : Nat) (c248_groups : Int32) (c248_pots : Int32) (c248_bars : Int32) (a252 : Nat → Int32) (a253 : Nat → Int32) (c261_many : Int32) (a262 : Nat → Int32) (p0 : c248_groups.toInt ≤ 3) (p1 : 3 ≤ c248_groups.toInt) (p2 : c248_pots.toInt ≤ 2) (p3 : 2 ≤ c248_pots.toInt) (p4 : c248_bars.toInt ≤ 10) (p5 : 0 ≤ c248_bars.toInt) (p6 : c261_many.toInt ≤ 6) (p7 : 6 ≤ c261_many.toInt) (hr_a262 : dz_rg a262 96 0 3) (k : Nat) (ih : ∀ j9, j9 < k → p143_X2_renew_g32 fu U c248_groups c248_pots c248_bars a252 a253 c261_many a262 j9) : ∀ (v1 : Int32) (sl : Nat) (c267_total : Int32) (c267_lawfulOnes : Int32) (a268 : Nat → Int32) (a269 : Nat → Int32) (n269 : Nat) (a270 : Nat → Int32) (n270 : Nat) (a271 : Nat → Int32) (a273 : Nat → Int32), v1.toInt ≤ 10 → 0 ≤ v1.toInt → ((sl : Nat) : Int) ≤ 72 → c267_total.toInt ≤ 36 → 36 ≤ c267_total.toInt → ((n269 : Nat) : Int) ≤ 13824 → 36 ≤ ((n269 : Nat) : Int) → ((n270 : Nat) : Int) ≤ 13824 → 36 ≤ ((n270 : Nat) : Int) → ((n269 : Nat) : Int) ≤ ((n270 : Nat) : Int) → ((n270 : Nat) : Int) ≤ ((n269 : Nat) : Int) → ((sl : Nat) : Int) ≤ ((U : Nat) : Int) → v1.toInt ≤ c248_bars.toInt → dz_rg a269 n269 0 1023 → dz_pt a268 [6, 1] → 0 + 0 + (10 - v1.toInt) * 16 + 8 ≤ ((k : Nat) : Int) → dz_T ((F143_X2_renew fu U c248_groups c248_pots c248_bars a252 a253 c261_many a262 k).2.2.2 v1 sl c267_total c267_lawfulOnes a268 a269 n269 a270 n270 a271 a273) (fun r => r.1.toInt ≤ 36 ∧ 36 ≤ r.1.toInt ∧ r.2.1.toInt ≤ 36 ∧ 0 ≤ r.2.1.toInt ∧ ((r.2.2.2.2.1 : Nat) : Int) ≤ 13824 ∧ 36 ≤ ((r.2.2.2.2.1 : Nat) : Int) ∧ ((r.2.2.2.2.2.2.1 : Nat) : Int) ≤ 13824 ∧ 36 ≤ ((r.2.2.2.2.2.2.1 : Nat) : Int) ∧ ((r.2.2.2.2.1 : Nat) : Int) ≤ ((r.2.2.2.2.2.2.1 : Nat) : Int) ∧ ((r.2.2.2.2.2.2.1 : Nat) : Int) ≤ ((r.2.2.2.2.1 : Nat) : Int) ∧ dz_rg r.2.2.2.1 r.2.2.2.2.1 0 1023 ∧ dz_pt r.2.2.1 [6, 1] ∧ dz_rg r.2.2.2.2.2.1 r.2.1.toInt.toNat 0 35 ∧ (r.1.toInt = 36)) := by
  intro v1 sl c267_total c267_lawfulOnes a268 a269 n269 a270 n270 a271 a273 i0 i1 i2 i3 i4 i5 i6 i7 i8 i9 i10 i11 i12 hr_a269 hr_a268 hm
  obtain ⟨k0, rfl⟩ : ∃ x, k = x + 1 := ⟨k - 1, by omega⟩
  show dz_T (s143_X2_renew_4 fu U c248_groups c248_pots c248_bars a252 a253 c261_many a262 (F143_X2_renew fu U c248_groups c248_pots c248_bars a252 a253 c261_many a262 k0).2.2.1 (F143_X2_renew fu U c248_groups c248_pots c248_bars a252 a253 c261_many a262 k0).2.2.2  v1 sl c267_total c267_lawfulOnes a268 a269 n269 a270 n270 a271 a273) _
  unfold s143_X2_renew_4
  refine dz_Tg (by omega) ?_
  refine dz_Tle (fun h1 => ?_) (fun h1 => ?_)
  · skip
    obtain ⟨k1, rfl⟩ : ∃ x, k0 = x + 1 := ⟨k0 - 1, by omega⟩
    show dz_T (s143_X2_renew_3 fu U c248_groups c248_pots c248_bars a252 a253 c261_many a262 sl c267_total c267_lawfulOnes a268 a269 n269 a270 n270 a271 a273) _
    unfold s143_X2_renew_3
    refine dz_Tg (by omega) ?_
    refine dz_Tb (t136_X2_listLawful_g32 fu hfu _ _ _ _ _ _ i3 i4 i5 (by first | assumption | omega) i7 (by first | assumption | omega) (by first | assumption | omega) (by first | assumption | omega) i9 i10 (hr_a269)) (fun r1 q => ?_)
    obtain ⟨q1_0, q1_1, qa1_1⟩ := q
    refine dz_Tb (t139_X2_tellWithin_g3 fu hfu _ _ _ _ _ p4 p5 (by first | assumption | omega) (by first | assumption | omega) i5 (by first | assumption | omega) (by first | assumption | omega) (hr_a269)) (fun r2 _ => ?_)
    refine dz_Ts ?_
    dsimp only
    exact ⟨i3, i4, q1_0, q1_1, i5, i6, i7, i8, i9, i10, (hr_a269), (hr_a268), (dz_rgs (qa1_1) (by omega)), (by omega)⟩
  · skip
    refine dz_Tin (by omega) (by omega) ?_
    refine dz_Tb (t140_X2_tellHeld_g3 fu hfu _ _ _ _ _ _ p0 p1 (by first | assumption | omega) (by first | assumption | omega) p6 p7 (hr_a262)) (fun r3 _ => ?_)
    refine dz_Tin (by omega) (by omega) ?_
    have e2 := dz_l1
    have e3 := dz_l31
    have e4 := dz_andr (a := v1) (b := (31 : Int32)) (by omega)
    have e5 := dz_andl (a := v1) (b := (31 : Int32)) (by omega)
    have e6 := dz_shl1 (b := v1) 0 9 (by omega) (by omega) (by omega)
    have e7 := dz_l30583
    have e8 := dz_rng (a253 v1.toNatClampNeg)
    refine dz_Tb (t142_X2_breakBar_g32 fu hfu _ _ _ _ _ _ _ _ _ p2 p3 p6 p7 i3 i4 i5 (by first | assumption | omega) (by first | assumption | omega) (by first | assumption | omega) (by omega) (by omega) (hr_a268) (hr_a269)) (fun r4 q => ?_)
    have qa4_0 := q
    have e9 := dz_add (a := v1) (b := (1 : Int32)) (by omega) (by omega)
    exact (ih k0 (by omega)) (v1 + (1 : Int32)) sl c267_total c267_lawfulOnes a268 r4 n269 a270 n270 a271 r3 (by omega) (by omega) i2 i3 i4 i5 i6 i7 i8 i9 i10 i11 (by omega) (qa4_0) (hr_a268) (by omega)
theorem t143_X2_renew_I_g32 (fu : Nat) (hfu : 1000000000000 ≤ fu) (U : Nat) (c248_groups : Int32) (c248_pots : Int32) (c248_bars : Int32) (a252 : Nat → Int32) (a253 : Nat → Int32) (c261_many : Int32) (a262 : Nat → Int32) (p0 : c248_groups.toInt ≤ 3) (p1 : 3 ≤ c248_groups.toInt) (p2 : c248_pots.toInt ≤ 2) (p3 : 2 ≤ c248_pots.toInt) (p4 : c248_bars.toInt ≤ 10) (p5 : 0 ≤ c248_bars.toInt) (p6 : c261_many.toInt ≤ 6) (p7 : 6 ≤ c261_many.toInt) (hr_a262 : dz_rg a262 96 0 3) (k : Nat) : p143_X2_renew_g32 fu U c248_groups c248_pots c248_bars a252 a253 c261_many a262 k := by
  induction k using Nat.strongRecOn with
  | _ k ih => exact t143_X2_renew_h4_g32 fu hfu U c248_groups c248_pots c248_bars a252 a253 c261_many a262 p0 p1 p2 p3 p4 p5 p6 p7 hr_a262 k ih
set_option maxHeartbeats 1000000 in
set_option maxRecDepth 10000 in
theorem t143_X2_renew_E_g32 (fu : Nat) (hfu : 1000000000000 ≤ fu) (U : Nat) (c248_groups : Int32) (c248_pots : Int32) (c248_bars : Int32) (a252 : Nat → Int32) (a253 : Nat → Int32) (c261_many : Int32) (a262 : Nat → Int32) (c267_total : Int32) (c267_lawfulOnes : Int32) (a268 : Nat → Int32) (a269 : Nat → Int32) (n269 : Nat) (a270 : Nat → Int32) (n270 : Nat) (a271 : Nat → Int32) (a273 : Nat → Int32) (p0 : c248_groups.toInt ≤ 3) (p1 : 3 ≤ c248_groups.toInt) (p2 : c248_pots.toInt ≤ 2) (p3 : 2 ≤ c248_pots.toInt) (p4 : c248_bars.toInt ≤ 10) (p5 : 0 ≤ c248_bars.toInt) (p6 : c261_many.toInt ≤ 6) (p7 : 6 ≤ c261_many.toInt) (p8 : ((n269 : Nat) : Int) ≤ 13824) (p9 : 1 ≤ ((n269 : Nat) : Int)) (p10 : ((n270 : Nat) : Int) ≤ 13824) (p11 : 1 ≤ ((n270 : Nat) : Int)) (p12 : ((n269 : Nat) : Int) ≤ ((n270 : Nat) : Int)) (p13 : ((n270 : Nat) : Int) ≤ ((n269 : Nat) : Int)) (hr_a262 : dz_rg a262 96 0 3) (hr_a269 : dz_rg a269 n269 0 1023) (o0 : (36 ≤ n269) ∨ 2 * 36 ≤ U) (kv : Nat) (hkv : 1000000000000 ≤ kv) : dz_T (s143_X2_renew_0 fu U c248_groups c248_pots c248_bars a252 a253 c261_many a262 (F143_X2_renew fu U c248_groups c248_pots c248_bars a252 a253 c261_many a262 kv).1  c267_total c267_lawfulOnes a268 a269 n269 a270 n270 a271 a273) (fun r => r.1.toInt ≤ 36 ∧ 36 ≤ r.1.toInt ∧ r.2.1.toInt ≤ 36 ∧ 0 ≤ r.2.1.toInt ∧ ((r.2.2.2.2.1 : Nat) : Int) ≤ 13824 ∧ 36 ≤ ((r.2.2.2.2.1 : Nat) : Int) ∧ ((r.2.2.2.2.2.2.1 : Nat) : Int) ≤ 13824 ∧ 36 ≤ ((r.2.2.2.2.2.2.1 : Nat) : Int) ∧ ((r.2.2.2.2.1 : Nat) : Int) ≤ ((r.2.2.2.2.2.2.1 : Nat) : Int) ∧ ((r.2.2.2.2.2.2.1 : Nat) : Int) ≤ ((r.2.2.2.2.1 : Nat) : Int) ∧ dz_rg r.2.2.2.1 r.2.2.2.2.1 0 1023 ∧ dz_pt r.2.2.1 [6, 1] ∧ dz_rg r.2.2.2.2.2.1 r.2.1.toInt.toNat 0 35 ∧ (r.1.toInt = 36)) := by
  unfold s143_X2_renew_0
  have e1 := dz_l1
  have e2 := dz_sub (a := c248_pots) (b := (1 : Int32)) (by omega) (by omega)
  generalize (c248_pots - (1 : Int32)) = zz16 at *
  obtain ⟨k1, rfl⟩ : ∃ x, kv = x + 1 := ⟨kv - 1, by omega⟩
  rw [dz_Fu143]
  unfold s143_X2_renew_1
  refine dz_Tg (by omega) ?_
  have e3 := dz_l0
  refine dz_Tlt (fun h4 => ?_) (fun h4 => ?_)
  · skip
    exfalso; omega
  · skip
    refine dz_Tin (by omega) (by omega) ?_
    have e5 := dz_lm1
    have e6 := dz_add (a := zz16) (b := (-(1 : Int32))) (by omega) (by omega)
    generalize (zz16 + (-(1 : Int32))) = zz17 at *
    have e7 := dz_mull (a := (1 : Int32)) (b := c261_many) 1 (by omega) (by omega) (by omega)
    generalize ((1 : Int32) * c261_many) = zz18 at *
    obtain ⟨k2, rfl⟩ : ∃ x, k1 = x + 1 := ⟨k1 - 1, by omega⟩
    rw [dz_Fu143]
    unfold s143_X2_renew_1
    refine dz_Tg (by omega) ?_
    refine dz_Tlt (fun h8 => ?_) (fun h8 => ?_)
    · skip
      exfalso; omega
    · skip
      refine dz_Tin (by omega) (by omega) ?_
      have e9 := dz_add (a := zz17) (b := (-(1 : Int32))) (by omega) (by omega)
      generalize (zz17 + (-(1 : Int32))) = zz19 at *
      have e10 := dz_mull (a := zz18) (b := c261_many) 6 (by omega) (by omega) (by omega)
      generalize (zz18 * c261_many) = zz20 at *
      obtain ⟨k3, rfl⟩ : ∃ x, k2 = x + 1 := ⟨k2 - 1, by omega⟩
      rw [dz_Fu143]
      unfold s143_X2_renew_1
      refine dz_Tg (by omega) ?_
      refine dz_Tlt (fun h11 => ?_) (fun h11 => ?_)
      · skip
        have e12 := dz_ofn (n := n269) (by omega)
        refine dz_Tle (fun h13 => ?_) (fun h13 => ?_)
        · skip
          obtain ⟨k4, rfl⟩ : ∃ x, k3 = x + 1 := ⟨k3 - 1, by omega⟩
          show dz_T (s143_X2_renew_2 fu U c248_groups c248_pots c248_bars a252 a253 c261_many a262 (F143_X2_renew fu U c248_groups c248_pots c248_bars a252 a253 c261_many a262 k4).2.2.1 (F143_X2_renew fu U c248_groups c248_pots c248_bars a252 a253 c261_many a262 k4).2.2.2 0 zz20 c267_lawfulOnes (upd (upd a268 zz16.toNatClampNeg (1 : Int32)) zz17.toNatClampNeg zz18) a269 n269 a270 n270 a271 a273) _
          unfold s143_X2_renew_2
          refine dz_Tg (by omega) ?_
          refine dz_Tb (t135_J7_fill_fda19 fu hfu _ _ _ _ _ 0 1023 (by first | assumption | omega) (by omega) (by omega) (by first | assumption | omega) (by omega) (by omega) (hr_a269)) (fun r1 q => ?_)
          have qa1_0 := q
          refine dz_Tle (fun h14 => ?_) (fun h14 => ?_)
          · skip
            exfalso; omega
          · skip
            exact (t143_X2_renew_I_g32 fu hfu U c248_groups c248_pots c248_bars a252 a253 c261_many a262 p0 p1 p2 p3 p4 p5 p6 p7 hr_a262 k4) (0 : Int32) 0 zz20 c267_lawfulOnes (upd (upd a268 zz16.toNatClampNeg (1 : Int32)) zz17.toNatClampNeg zz18) r1 n269 a270 n270 a271 a273 (by omega) (by omega) (by first | assumption | omega) (by first | assumption | omega) (by first | assumption | omega) p8 (by first | assumption | omega) p10 (by first | assumption | omega) p12 p13 (by first | assumption | omega) (by omega) (qa1_0) (dz_ptmk2 ((dz_upk (j := zz17) 0 (by omega)).trans (by omega)) ((dz_upo (j := zz17) 1 (by omega)).trans ((dz_upk (j := zz16) 1 (by omega)).trans (by omega)))) (by omega)
        · skip
          refine dz_Tng (by omega) ?_
          have e15 := dz_tn zz20
          refine dz_Tg (by omega) ?_
          refine dz_Tg (by omega) ?_
          refine dz_Tg (by omega) ?_
          refine dz_Tng (by omega) ?_
          refine dz_Tg (by omega) ?_
          refine dz_Tg (by omega) ?_
          refine dz_Tg (by omega) ?_
          obtain ⟨k5, rfl⟩ : ∃ x, k3 = x + 1 := ⟨k3 - 1, by omega⟩
          show dz_T (s143_X2_renew_2 fu U c248_groups c248_pots c248_bars a252 a253 c261_many a262 (F143_X2_renew fu U c248_groups c248_pots c248_bars a252 a253 c261_many a262 k5).2.2.1 (F143_X2_renew fu U c248_groups c248_pots c248_bars a252 a253 c261_many a262 k5).2.2.2 ((0 + zz20.toNatClampNeg) + zz20.toNatClampNeg) zz20 c267_lawfulOnes (upd (upd a268 zz16.toNatClampNeg (1 : Int32)) zz17.toNatClampNeg zz18) (jw_l 0 []) zz20.toNatClampNeg (jw_l 0 []) zz20.toNatClampNeg a271 a273) _
          unfold s143_X2_renew_2
          refine dz_Tg (by omega) ?_
          refine dz_Tb (t135_J7_fill_fda19 fu hfu _ _ _ _ _ 0 0 (by first | assumption | omega) (by omega) (by omega) (by first | assumption | omega) (by omega) (by omega) (dz_rg0 (by omega) (by omega))) (fun r2 q => ?_)
          have qa2_0 := q
          refine dz_Tle (fun h16 => ?_) (fun h16 => ?_)
          · skip
            exfalso; omega
          · skip
            exact (t143_X2_renew_I_g32 fu hfu U c248_groups c248_pots c248_bars a252 a253 c261_many a262 p0 p1 p2 p3 p4 p5 p6 p7 hr_a262 k5) (0 : Int32) ((0 + zz20.toNatClampNeg) + zz20.toNatClampNeg) zz20 c267_lawfulOnes (upd (upd a268 zz16.toNatClampNeg (1 : Int32)) zz17.toNatClampNeg zz18) r2 zz20.toNatClampNeg (jw_l 0 []) zz20.toNatClampNeg a271 a273 (by omega) (by omega) (by omega) (by first | assumption | omega) (by first | assumption | omega) (by first | assumption | omega) (by first | assumption | omega) (by first | assumption | omega) (by first | assumption | omega) (by first | assumption | omega) (by first | assumption | omega) (by omega) (by omega) (dz_rgm qa2_0 (by omega) (by omega)) (dz_ptmk2 ((dz_upk (j := zz17) 0 (by omega)).trans (by omega)) ((dz_upo (j := zz17) 1 (by omega)).trans ((dz_upk (j := zz16) 1 (by omega)).trans (by omega)))) (by omega)
      · skip
        exfalso; omega
theorem t143_X2_renew_g32 (fu : Nat) (hfu : 1000000000000 ≤ fu) (U : Nat) (c248_groups : Int32) (c248_pots : Int32) (c248_bars : Int32) (a252 : Nat → Int32) (a253 : Nat → Int32) (c261_many : Int32) (a262 : Nat → Int32) (c267_total : Int32) (c267_lawfulOnes : Int32) (a268 : Nat → Int32) (a269 : Nat → Int32) (n269 : Nat) (a270 : Nat → Int32) (n270 : Nat) (a271 : Nat → Int32) (a273 : Nat → Int32) (p0 : c248_groups.toInt ≤ 3) (p1 : 3 ≤ c248_groups.toInt) (p2 : c248_pots.toInt ≤ 2) (p3 : 2 ≤ c248_pots.toInt) (p4 : c248_bars.toInt ≤ 10) (p5 : 0 ≤ c248_bars.toInt) (p6 : c261_many.toInt ≤ 6) (p7 : 6 ≤ c261_many.toInt) (p8 : ((n269 : Nat) : Int) ≤ 13824) (p9 : 1 ≤ ((n269 : Nat) : Int)) (p10 : ((n270 : Nat) : Int) ≤ 13824) (p11 : 1 ≤ ((n270 : Nat) : Int)) (p12 : ((n269 : Nat) : Int) ≤ ((n270 : Nat) : Int)) (p13 : ((n270 : Nat) : Int) ≤ ((n269 : Nat) : Int)) (hr_a262 : dz_rg a262 96 0 3) (hr_a269 : dz_rg a269 n269 0 1023) (o0 : (36 ≤ n269) ∨ 2 * 36 ≤ U) : dz_T (f143_X2_renew fu U c248_groups c248_pots c248_bars a252 a253 c261_many a262 c267_total c267_lawfulOnes a268 a269 n269 a270 n270 a271 a273) (fun r => r.1.toInt ≤ 36 ∧ 36 ≤ r.1.toInt ∧ r.2.1.toInt ≤ 36 ∧ 0 ≤ r.2.1.toInt ∧ ((r.2.2.2.2.1 : Nat) : Int) ≤ 13824 ∧ 36 ≤ ((r.2.2.2.2.1 : Nat) : Int) ∧ ((r.2.2.2.2.2.2.1 : Nat) : Int) ≤ 13824 ∧ 36 ≤ ((r.2.2.2.2.2.2.1 : Nat) : Int) ∧ ((r.2.2.2.2.1 : Nat) : Int) ≤ ((r.2.2.2.2.2.2.1 : Nat) : Int) ∧ ((r.2.2.2.2.2.2.1 : Nat) : Int) ≤ ((r.2.2.2.2.1 : Nat) : Int) ∧ dz_rg r.2.2.2.1 r.2.2.2.2.1 0 1023 ∧ dz_pt r.2.2.1 [6, 1] ∧ dz_rg r.2.2.2.2.2.1 r.2.1.toInt.toNat 0 35 ∧ (r.1.toInt = 36)) :=
  t143_X2_renew_E_g32 fu hfu U c248_groups c248_pots c248_bars a252 a253 c261_many a262 c267_total c267_lawfulOnes a268 a269 n269 a270 n270 a271 a273 p0 p1 p2 p3 p4 p5 p6 p7 p8 p9 p10 p11 p12 p13 hr_a262 hr_a269 o0 fu hfu
abbrev p143_X2_renew_g33 (fu : Nat) (U : Nat) (c248_groups : Int32) (c248_pots : Int32) (c248_bars : Int32) (a252 : Nat → Int32) (a253 : Nat → Int32) (c261_many : Int32) (a262 : Nat → Int32) (k : Nat) : Prop :=
  (∀ (v1 : Int32) (sl : Nat) (c267_total : Int32) (c267_lawfulOnes : Int32) (a268 : Nat → Int32) (a269 : Nat → Int32) (n269 : Nat) (a270 : Nat → Int32) (n270 : Nat) (a271 : Nat → Int32) (a273 : Nat → Int32), v1.toInt ≤ 10 → 0 ≤ v1.toInt → ((sl : Nat) : Int) ≤ 432 → c267_total.toInt ≤ 216 → 216 ≤ c267_total.toInt → ((n269 : Nat) : Int) ≤ 13824 → 216 ≤ ((n269 : Nat) : Int) → ((n270 : Nat) : Int) ≤ 13824 → 216 ≤ ((n270 : Nat) : Int) → ((n269 : Nat) : Int) ≤ ((n270 : Nat) : Int) → ((n270 : Nat) : Int) ≤ ((n269 : Nat) : Int) → ((sl : Nat) : Int) ≤ ((U : Nat) : Int) → v1.toInt ≤ c248_bars.toInt → dz_rg a269 n269 0 1023 → dz_pt a268 [36, 6, 1] → 0 + 0 + (10 - v1.toInt) * 16 + 8 ≤ ((k : Nat) : Int) → dz_T ((F143_X2_renew fu U c248_groups c248_pots c248_bars a252 a253 c261_many a262 k).2.2.2 v1 sl c267_total c267_lawfulOnes a268 a269 n269 a270 n270 a271 a273) (fun r => r.1.toInt ≤ 216 ∧ 216 ≤ r.1.toInt ∧ r.2.1.toInt ≤ 216 ∧ 0 ≤ r.2.1.toInt ∧ ((r.2.2.2.2.1 : Nat) : Int) ≤ 13824 ∧ 216 ≤ ((r.2.2.2.2.1 : Nat) : Int) ∧ ((r.2.2.2.2.2.2.1 : Nat) : Int) ≤ 13824 ∧ 216 ≤ ((r.2.2.2.2.2.2.1 : Nat) : Int) ∧ ((r.2.2.2.2.1 : Nat) : Int) ≤ ((r.2.2.2.2.2.2.1 : Nat) : Int) ∧ ((r.2.2.2.2.2.2.1 : Nat) : Int) ≤ ((r.2.2.2.2.1 : Nat) : Int) ∧ dz_rg r.2.2.2.1 r.2.2.2.2.1 0 1023 ∧ dz_pt r.2.2.1 [36, 6, 1] ∧ dz_rg r.2.2.2.2.2.1 r.2.1.toInt.toNat 0 215 ∧ (r.1.toInt = 216)))
set_option maxHeartbeats 1000000 in
set_option maxRecDepth 10000 in
theorem t143_X2_renew_h4_g33 (fu : Nat) (hfu : 1000000000000 ≤ fu) (U : Nat) (c248_groups : Int32) (c248_pots : Int32) (c248_bars : Int32) (a252 : Nat → Int32) (a253 : Nat → Int32) (c261_many : Int32) (a262 : Nat → Int32) (p0 : c248_groups.toInt ≤ 3) (p1 : 3 ≤ c248_groups.toInt) (p2 : c248_pots.toInt ≤ 3) (p3 : 3 ≤ c248_pots.toInt) (p4 : c248_bars.toInt ≤ 10) (p5 : 0 ≤ c248_bars.toInt) (p6 : c261_many.toInt ≤ 6) (p7 : 6 ≤ c261_many.toInt) (hr_a262 : dz_rg a262 96 0 3) (k : Nat) (ih : ∀ j9, j9 < k → p143_X2_renew_g33 fu U c248_groups c248_pots c248_bars a252 a253 c261_many a262 j9) : ∀ (v1 : Int32) (sl : Nat) (c267_total : Int32) (c267_lawfulOnes : Int32) (a268 : Nat → Int32) (a269 : Nat → Int32) (n269 : Nat) (a270 : Nat → Int32) (n270 : Nat) (a271 : Nat → Int32) (a273 : Nat → Int32), v1.toInt ≤ 10 → 0 ≤ v1.toInt → ((sl : Nat) : Int) ≤ 432 → c267_total.toInt ≤ 216 → 216 ≤ c267_total.toInt → ((n269 : Nat) : Int) ≤ 13824 → 216 ≤ ((n269 : Nat) : Int) → ((n270 : Nat) : Int) ≤ 13824 → 216 ≤ ((n270 : Nat) : Int) → ((n269 : Nat) : Int) ≤ ((n270 : Nat) : Int) → ((n270 : Nat) : Int) ≤ ((n269 : Nat) : Int) → ((sl : Nat) : Int) ≤ ((U : Nat) : Int) → v1.toInt ≤ c248_bars.toInt → dz_rg a269 n269 0 1023 → dz_pt a268 [36, 6, 1] → 0 + 0 + (10 - v1.toInt) * 16 + 8 ≤ ((k : Nat) : Int) → dz_T ((F143_X2_renew fu U c248_groups c248_pots c248_bars a252 a253 c261_many a262 k).2.2.2 v1 sl c267_total c267_lawfulOnes a268 a269 n269 a270 n270 a271 a273) (fun r => r.1.toInt ≤ 216 ∧ 216 ≤ r.1.toInt ∧ r.2.1.toInt ≤ 216 ∧ 0 ≤ r.2.1.toInt ∧ ((r.2.2.2.2.1 : Nat) : Int) ≤ 13824 ∧ 216 ≤ ((r.2.2.2.2.1 : Nat) : Int) ∧ ((r.2.2.2.2.2.2.1 : Nat) : Int) ≤ 13824 ∧ 216 ≤ ((r.2.2.2.2.2.2.1 : Nat) : Int) ∧ ((r.2.2.2.2.1 : Nat) : Int) ≤ ((r.2.2.2.2.2.2.1 : Nat) : Int) ∧ ((r.2.2.2.2.2.2.1 : Nat) : Int) ≤ ((r.2.2.2.2.1 : Nat) : Int) ∧ dz_rg r.2.2.2.1 r.2.2.2.2.1 0 1023 ∧ dz_pt r.2.2.1 [36, 6, 1] ∧ dz_rg r.2.2.2.2.2.1 r.2.1.toInt.toNat 0 215 ∧ (r.1.toInt = 216)) := by
  intro v1 sl c267_total c267_lawfulOnes a268 a269 n269 a270 n270 a271 a273 i0 i1 i2 i3 i4 i5 i6 i7 i8 i9 i10 i11 i12 hr_a269 hr_a268 hm
  obtain ⟨k0, rfl⟩ : ∃ x, k = x + 1 := ⟨k - 1, by omega⟩
  show dz_T (s143_X2_renew_4 fu U c248_groups c248_pots c248_bars a252 a253 c261_many a262 (F143_X2_renew fu U c248_groups c248_pots c248_bars a252 a253 c261_many a262 k0).2.2.1 (F143_X2_renew fu U c248_groups c248_pots c248_bars a252 a253 c261_many a262 k0).2.2.2  v1 sl c267_total c267_lawfulOnes a268 a269 n269 a270 n270 a271 a273) _
  unfold s143_X2_renew_4
  refine dz_Tg (by omega) ?_
  refine dz_Tle (fun h1 => ?_) (fun h1 => ?_)
  · skip
    obtain ⟨k1, rfl⟩ : ∃ x, k0 = x + 1 := ⟨k0 - 1, by omega⟩
    show dz_T (s143_X2_renew_3 fu U c248_groups c248_pots c248_bars a252 a253 c261_many a262 sl c267_total c267_lawfulOnes a268 a269 n269 a270 n270 a271 a273) _
    unfold s143_X2_renew_3
    refine dz_Tg (by omega) ?_
    refine dz_Tb (t136_X2_listLawful_g33 fu hfu _ _ _ _ _ _ i3 i4 i5 (by first | assumption | omega) i7 (by first | assumption | omega) (by first | assumption | omega) (by first | assumption | omega) i9 i10 (hr_a269)) (fun r1 q => ?_)
    obtain ⟨q1_0, q1_1, qa1_1⟩ := q
    refine dz_Tb (t139_X2_tellWithin_g3 fu hfu _ _ _ _ _ p4 p5 (by first | assumption | omega) (by first | assumption | omega) i5 (by first | assumption | omega) (by first | assumption | omega) (hr_a269)) (fun r2 _ => ?_)
    refine dz_Ts ?_
    dsimp only
    exact ⟨i3, i4, q1_0, q1_1, i5, i6, i7, i8, i9, i10, (hr_a269), (hr_a268), (dz_rgs (qa1_1) (by omega)), (by omega)⟩
  · skip
    refine dz_Tin (by omega) (by omega) ?_
    refine dz_Tb (t140_X2_tellHeld_g3 fu hfu _ _ _ _ _ _ p0 p1 (by first | assumption | omega) (by first | assumption | omega) p6 p7 (hr_a262)) (fun r3 _ => ?_)
    refine dz_Tin (by omega) (by omega) ?_
    have e2 := dz_l1
    have e3 := dz_l31
    have e4 := dz_andr (a := v1) (b := (31 : Int32)) (by omega)
    have e5 := dz_andl (a := v1) (b := (31 : Int32)) (by omega)
    have e6 := dz_shl1 (b := v1) 0 9 (by omega) (by omega) (by omega)
    have e7 := dz_l30583
    have e8 := dz_rng (a253 v1.toNatClampNeg)
    refine dz_Tb (t142_X2_breakBar_g33 fu hfu _ _ _ _ _ _ _ _ _ p2 p3 p6 p7 i3 i4 i5 (by first | assumption | omega) (by first | assumption | omega) (by first | assumption | omega) (by omega) (by omega) (hr_a268) (hr_a269)) (fun r4 q => ?_)
    have qa4_0 := q
    have e9 := dz_add (a := v1) (b := (1 : Int32)) (by omega) (by omega)
    exact (ih k0 (by omega)) (v1 + (1 : Int32)) sl c267_total c267_lawfulOnes a268 r4 n269 a270 n270 a271 r3 (by omega) (by omega) i2 i3 i4 i5 i6 i7 i8 i9 i10 i11 (by omega) (qa4_0) (hr_a268) (by omega)
theorem t143_X2_renew_I_g33 (fu : Nat) (hfu : 1000000000000 ≤ fu) (U : Nat) (c248_groups : Int32) (c248_pots : Int32) (c248_bars : Int32) (a252 : Nat → Int32) (a253 : Nat → Int32) (c261_many : Int32) (a262 : Nat → Int32) (p0 : c248_groups.toInt ≤ 3) (p1 : 3 ≤ c248_groups.toInt) (p2 : c248_pots.toInt ≤ 3) (p3 : 3 ≤ c248_pots.toInt) (p4 : c248_bars.toInt ≤ 10) (p5 : 0 ≤ c248_bars.toInt) (p6 : c261_many.toInt ≤ 6) (p7 : 6 ≤ c261_many.toInt) (hr_a262 : dz_rg a262 96 0 3) (k : Nat) : p143_X2_renew_g33 fu U c248_groups c248_pots c248_bars a252 a253 c261_many a262 k := by
  induction k using Nat.strongRecOn with
  | _ k ih => exact t143_X2_renew_h4_g33 fu hfu U c248_groups c248_pots c248_bars a252 a253 c261_many a262 p0 p1 p2 p3 p4 p5 p6 p7 hr_a262 k ih
set_option maxHeartbeats 1000000 in
set_option maxRecDepth 10000 in
theorem t143_X2_renew_E_g33 (fu : Nat) (hfu : 1000000000000 ≤ fu) (U : Nat) (c248_groups : Int32) (c248_pots : Int32) (c248_bars : Int32) (a252 : Nat → Int32) (a253 : Nat → Int32) (c261_many : Int32) (a262 : Nat → Int32) (c267_total : Int32) (c267_lawfulOnes : Int32) (a268 : Nat → Int32) (a269 : Nat → Int32) (n269 : Nat) (a270 : Nat → Int32) (n270 : Nat) (a271 : Nat → Int32) (a273 : Nat → Int32) (p0 : c248_groups.toInt ≤ 3) (p1 : 3 ≤ c248_groups.toInt) (p2 : c248_pots.toInt ≤ 3) (p3 : 3 ≤ c248_pots.toInt) (p4 : c248_bars.toInt ≤ 10) (p5 : 0 ≤ c248_bars.toInt) (p6 : c261_many.toInt ≤ 6) (p7 : 6 ≤ c261_many.toInt) (p8 : ((n269 : Nat) : Int) ≤ 13824) (p9 : 1 ≤ ((n269 : Nat) : Int)) (p10 : ((n270 : Nat) : Int) ≤ 13824) (p11 : 1 ≤ ((n270 : Nat) : Int)) (p12 : ((n269 : Nat) : Int) ≤ ((n270 : Nat) : Int)) (p13 : ((n270 : Nat) : Int) ≤ ((n269 : Nat) : Int)) (hr_a262 : dz_rg a262 96 0 3) (hr_a269 : dz_rg a269 n269 0 1023) (o0 : (216 ≤ n269) ∨ 2 * 216 ≤ U) (kv : Nat) (hkv : 1000000000000 ≤ kv) : dz_T (s143_X2_renew_0 fu U c248_groups c248_pots c248_bars a252 a253 c261_many a262 (F143_X2_renew fu U c248_groups c248_pots c248_bars a252 a253 c261_many a262 kv).1  c267_total c267_lawfulOnes a268 a269 n269 a270 n270 a271 a273) (fun r => r.1.toInt ≤ 216 ∧ 216 ≤ r.1.toInt ∧ r.2.1.toInt ≤ 216 ∧ 0 ≤ r.2.1.toInt ∧ ((r.2.2.2.2.1 : Nat) : Int) ≤ 13824 ∧ 216 ≤ ((r.2.2.2.2.1 : Nat) : Int) ∧ ((r.2.2.2.2.2.2.1 : Nat) : Int) ≤ 13824 ∧ 216 ≤ ((r.2.2.2.2.2.2.1 : Nat) : Int) ∧ ((r.2.2.2.2.1 : Nat) : Int) ≤ ((r.2.2.2.2.2.2.1 : Nat) : Int) ∧ ((r.2.2.2.2.2.2.1 : Nat) : Int) ≤ ((r.2.2.2.2.1 : Nat) : Int) ∧ dz_rg r.2.2.2.1 r.2.2.2.2.1 0 1023 ∧ dz_pt r.2.2.1 [36, 6, 1] ∧ dz_rg r.2.2.2.2.2.1 r.2.1.toInt.toNat 0 215 ∧ (r.1.toInt = 216)) := by
  unfold s143_X2_renew_0
  have e1 := dz_l1
  have e2 := dz_sub (a := c248_pots) (b := (1 : Int32)) (by omega) (by omega)
  generalize (c248_pots - (1 : Int32)) = zz22 at *
  obtain ⟨k1, rfl⟩ : ∃ x, kv = x + 1 := ⟨kv - 1, by omega⟩
  rw [dz_Fu143]
  unfold s143_X2_renew_1
  refine dz_Tg (by omega) ?_
  have e3 := dz_l0
  refine dz_Tlt (fun h4 => ?_) (fun h4 => ?_)
  · skip
    exfalso; omega
  · skip
    refine dz_Tin (by omega) (by omega) ?_
    have e5 := dz_lm1
    have e6 := dz_add (a := zz22) (b := (-(1 : Int32))) (by omega) (by omega)
    generalize (zz22 + (-(1 : Int32))) = zz23 at *
    have e7 := dz_mull (a := (1 : Int32)) (b := c261_many) 1 (by omega) (by omega) (by omega)
    generalize ((1 : Int32) * c261_many) = zz24 at *
    obtain ⟨k2, rfl⟩ : ∃ x, k1 = x + 1 := ⟨k1 - 1, by omega⟩
    rw [dz_Fu143]
    unfold s143_X2_renew_1
    refine dz_Tg (by omega) ?_
    refine dz_Tlt (fun h8 => ?_) (fun h8 => ?_)
    · skip
      exfalso; omega
    · skip
      refine dz_Tin (by omega) (by omega) ?_
      have e9 := dz_add (a := zz23) (b := (-(1 : Int32))) (by omega) (by omega)
      generalize (zz23 + (-(1 : Int32))) = zz25 at *
      have e10 := dz_mull (a := zz24) (b := c261_many) 6 (by omega) (by omega) (by omega)
      generalize (zz24 * c261_many) = zz26 at *
      obtain ⟨k3, rfl⟩ : ∃ x, k2 = x + 1 := ⟨k2 - 1, by omega⟩
      rw [dz_Fu143]
      unfold s143_X2_renew_1
      refine dz_Tg (by omega) ?_
      refine dz_Tlt (fun h11 => ?_) (fun h11 => ?_)
      · skip
        exfalso; omega
      · skip
        refine dz_Tin (by omega) (by omega) ?_
        have e12 := dz_add (a := zz25) (b := (-(1 : Int32))) (by omega) (by omega)
        generalize (zz25 + (-(1 : Int32))) = zz27 at *
        have e13 := dz_mull (a := zz26) (b := c261_many) 36 (by omega) (by omega) (by omega)
        generalize (zz26 * c261_many) = zz28 at *
        obtain ⟨k4, rfl⟩ : ∃ x, k3 = x + 1 := ⟨k3 - 1, by omega⟩
        rw [dz_Fu143]
        unfold s143_X2_renew_1
        refine dz_Tg (by omega) ?_
        refine dz_Tlt (fun h14 => ?_) (fun h14 => ?_)
        · skip
          have e15 := dz_ofn (n := n269) (by omega)
          refine dz_Tle (fun h16 => ?_) (fun h16 => ?_)
          · skip
            obtain ⟨k5, rfl⟩ : ∃ x, k4 = x + 1 := ⟨k4 - 1, by omega⟩
            show dz_T (s143_X2_renew_2 fu U c248_groups c248_pots c248_bars a252 a253 c261_many a262 (F143_X2_renew fu U c248_groups c248_pots c248_bars a252 a253 c261_many a262 k5).2.2.1 (F143_X2_renew fu U c248_groups c248_pots c248_bars a252 a253 c261_many a262 k5).2.2.2 0 zz28 c267_lawfulOnes (upd (upd (upd a268 zz22.toNatClampNeg (1 : Int32)) zz23.toNatClampNeg zz24) zz25.toNatClampNeg zz26) a269 n269 a270 n270 a271 a273) _
            unfold s143_X2_renew_2
            refine dz_Tg (by omega) ?_
            refine dz_Tb (t135_J7_fill_fda19 fu hfu _ _ _ _ _ 0 1023 (by first | assumption | omega) (by omega) (by omega) (by first | assumption | omega) (by omega) (by omega) (hr_a269)) (fun r1 q => ?_)
            have qa1_0 := q
            refine dz_Tle (fun h17 => ?_) (fun h17 => ?_)
            · skip
              exfalso; omega
            · skip
              exact (t143_X2_renew_I_g33 fu hfu U c248_groups c248_pots c248_bars a252 a253 c261_many a262 p0 p1 p2 p3 p4 p5 p6 p7 hr_a262 k5) (0 : Int32) 0 zz28 c267_lawfulOnes (upd (upd (upd a268 zz22.toNatClampNeg (1 : Int32)) zz23.toNatClampNeg zz24) zz25.toNatClampNeg zz26) r1 n269 a270 n270 a271 a273 (by omega) (by omega) (by first | assumption | omega) (by first | assumption | omega) (by first | assumption | omega) p8 (by first | assumption | omega) p10 (by first | assumption | omega) p12 p13 (by first | assumption | omega) (by omega) (qa1_0) (dz_ptmk3 ((dz_upk (j := zz25) 0 (by omega)).trans (by omega)) ((dz_upo (j := zz25) 1 (by omega)).trans ((dz_upk (j := zz23) 1 (by omega)).trans (by omega))) ((dz_upo (j := zz25) 2 (by omega)).trans ((dz_upo (j := zz23) 2 (by omega)).trans ((dz_upk (j := zz22) 2 (by omega)).trans (by omega))))) (by omega)
          · skip
            refine dz_Tng (by omega) ?_
            have e18 := dz_tn zz28
            refine dz_Tg (by omega) ?_
            refine dz_Tg (by omega) ?_
            refine dz_Tg (by omega) ?_
            refine dz_Tng (by omega) ?_
            refine dz_Tg (by omega) ?_
            refine dz_Tg (by omega) ?_
            refine dz_Tg (by omega) ?_
            obtain ⟨k6, rfl⟩ : ∃ x, k4 = x + 1 := ⟨k4 - 1, by omega⟩
            show dz_T (s143_X2_renew_2 fu U c248_groups c248_pots c248_bars a252 a253 c261_many a262 (F143_X2_renew fu U c248_groups c248_pots c248_bars a252 a253 c261_many a262 k6).2.2.1 (F143_X2_renew fu U c248_groups c248_pots c248_bars a252 a253 c261_many a262 k6).2.2.2 ((0 + zz28.toNatClampNeg) + zz28.toNatClampNeg) zz28 c267_lawfulOnes (upd (upd (upd a268 zz22.toNatClampNeg (1 : Int32)) zz23.toNatClampNeg zz24) zz25.toNatClampNeg zz26) (jw_l 0 []) zz28.toNatClampNeg (jw_l 0 []) zz28.toNatClampNeg a271 a273) _
            unfold s143_X2_renew_2
            refine dz_Tg (by omega) ?_
            refine dz_Tb (t135_J7_fill_fda19 fu hfu _ _ _ _ _ 0 0 (by first | assumption | omega) (by omega) (by omega) (by first | assumption | omega) (by omega) (by omega) (dz_rg0 (by omega) (by omega))) (fun r2 q => ?_)
            have qa2_0 := q
            refine dz_Tle (fun h19 => ?_) (fun h19 => ?_)
            · skip
              exfalso; omega
            · skip
              exact (t143_X2_renew_I_g33 fu hfu U c248_groups c248_pots c248_bars a252 a253 c261_many a262 p0 p1 p2 p3 p4 p5 p6 p7 hr_a262 k6) (0 : Int32) ((0 + zz28.toNatClampNeg) + zz28.toNatClampNeg) zz28 c267_lawfulOnes (upd (upd (upd a268 zz22.toNatClampNeg (1 : Int32)) zz23.toNatClampNeg zz24) zz25.toNatClampNeg zz26) r2 zz28.toNatClampNeg (jw_l 0 []) zz28.toNatClampNeg a271 a273 (by omega) (by omega) (by omega) (by first | assumption | omega) (by first | assumption | omega) (by first | assumption | omega) (by first | assumption | omega) (by first | assumption | omega) (by first | assumption | omega) (by first | assumption | omega) (by first | assumption | omega) (by omega) (by omega) (dz_rgm qa2_0 (by omega) (by omega)) (dz_ptmk3 ((dz_upk (j := zz25) 0 (by omega)).trans (by omega)) ((dz_upo (j := zz25) 1 (by omega)).trans ((dz_upk (j := zz23) 1 (by omega)).trans (by omega))) ((dz_upo (j := zz25) 2 (by omega)).trans ((dz_upo (j := zz23) 2 (by omega)).trans ((dz_upk (j := zz22) 2 (by omega)).trans (by omega))))) (by omega)
        · skip
          exfalso; omega
theorem t143_X2_renew_g33 (fu : Nat) (hfu : 1000000000000 ≤ fu) (U : Nat) (c248_groups : Int32) (c248_pots : Int32) (c248_bars : Int32) (a252 : Nat → Int32) (a253 : Nat → Int32) (c261_many : Int32) (a262 : Nat → Int32) (c267_total : Int32) (c267_lawfulOnes : Int32) (a268 : Nat → Int32) (a269 : Nat → Int32) (n269 : Nat) (a270 : Nat → Int32) (n270 : Nat) (a271 : Nat → Int32) (a273 : Nat → Int32) (p0 : c248_groups.toInt ≤ 3) (p1 : 3 ≤ c248_groups.toInt) (p2 : c248_pots.toInt ≤ 3) (p3 : 3 ≤ c248_pots.toInt) (p4 : c248_bars.toInt ≤ 10) (p5 : 0 ≤ c248_bars.toInt) (p6 : c261_many.toInt ≤ 6) (p7 : 6 ≤ c261_many.toInt) (p8 : ((n269 : Nat) : Int) ≤ 13824) (p9 : 1 ≤ ((n269 : Nat) : Int)) (p10 : ((n270 : Nat) : Int) ≤ 13824) (p11 : 1 ≤ ((n270 : Nat) : Int)) (p12 : ((n269 : Nat) : Int) ≤ ((n270 : Nat) : Int)) (p13 : ((n270 : Nat) : Int) ≤ ((n269 : Nat) : Int)) (hr_a262 : dz_rg a262 96 0 3) (hr_a269 : dz_rg a269 n269 0 1023) (o0 : (216 ≤ n269) ∨ 2 * 216 ≤ U) : dz_T (f143_X2_renew fu U c248_groups c248_pots c248_bars a252 a253 c261_many a262 c267_total c267_lawfulOnes a268 a269 n269 a270 n270 a271 a273) (fun r => r.1.toInt ≤ 216 ∧ 216 ≤ r.1.toInt ∧ r.2.1.toInt ≤ 216 ∧ 0 ≤ r.2.1.toInt ∧ ((r.2.2.2.2.1 : Nat) : Int) ≤ 13824 ∧ 216 ≤ ((r.2.2.2.2.1 : Nat) : Int) ∧ ((r.2.2.2.2.2.2.1 : Nat) : Int) ≤ 13824 ∧ 216 ≤ ((r.2.2.2.2.2.2.1 : Nat) : Int) ∧ ((r.2.2.2.2.1 : Nat) : Int) ≤ ((r.2.2.2.2.2.2.1 : Nat) : Int) ∧ ((r.2.2.2.2.2.2.1 : Nat) : Int) ≤ ((r.2.2.2.2.1 : Nat) : Int) ∧ dz_rg r.2.2.2.1 r.2.2.2.2.1 0 1023 ∧ dz_pt r.2.2.1 [36, 6, 1] ∧ dz_rg r.2.2.2.2.2.1 r.2.1.toInt.toNat 0 215 ∧ (r.1.toInt = 216)) :=
  t143_X2_renew_E_g33 fu hfu U c248_groups c248_pots c248_bars a252 a253 c261_many a262 c267_total c267_lawfulOnes a268 a269 n269 a270 n270 a271 a273 p0 p1 p2 p3 p4 p5 p6 p7 p8 p9 p10 p11 p12 p13 hr_a262 hr_a269 o0 fu hfu
