abbrev p242_X6_walk_s (fu : Nat) (κ : Nat) (c248_groups : Int32) (c248_pots : Int32) (c261_groups : Int32) (c261_many : Int32) (a262 : Nat → Int32) (a263 : Nat → Int32) (a264 : Nat → Int32) (a281 : Nat → Int32) (a282 : Nat → Int32) (a283 : Nat → Int32) (c292_firstLevel : Int32) (c292_firstOpen : Int32) (c292_firstLeft : Int32) (c295_way : Int32) (a296 : Nat → Int32) (gh_v3 : Int32) (k : Nat) : Prop :=
  (∀ (v3 : Int32) (v4 : Int32) (v5 : Int64) (v9 : Int32) (v10 : Int32) (a293 : Nat → Int32) (a294 : Nat → Int64) (a297 : Nat → Int64) (a298 : Nat → Int32) (a299 : Nat → Int64) (c313_rows : Int64) (a314 : Nat → Int64) (a315 : Nat → Int64), 3 ≤ c248_pots.toInt → gh_v3.toInt ≤ 2 → 1 ≤ gh_v3.toInt → v3.toInt ≤ 2 → 1 ≤ v3.toInt → v4.toInt ≤ 331775 → 0 ≤ v4.toInt → v9.toInt ≤ 48 → 24 ≤ v9.toInt → v10.toInt ≤ 24 → 0 ≤ v10.toInt → gh_v3.toInt ≤ v3.toInt → v10.toInt ≤ c261_many.toInt → v3.toInt ≤ gh_v3.toInt → gh_v3.toInt + 2 ≤ c248_pots.toInt → dz_rg a293 v3.toInt.toNat 0 (((dz_kr κ : Nat) : Int) - 1) → ((v3.toInt = 0 ∧ v4.toInt < 1) ∨ (v3.toInt = 1 ∧ v4.toInt < 24) ∨ (v3.toInt = 2 ∧ v4.toInt < 576) ∨ (v3.toInt = 3 ∧ v4.toInt < 13824) ∨ (v3.toInt = 4 ∧ v4.toInt < 331776)) → 0 + 0 + (24 - v10.toInt) * 16 + 8 ≤ ((k : Nat) : Int) → dz_T ((F242_X6_walk fu c248_groups c248_pots c261_groups c261_many a262 a263 a264 a281 a282 a283 c292_firstLevel c292_firstOpen c292_firstLeft c295_way a296 k).2.1 v3 v4 v5 v9 v10 a293 a294 a297 a298 a299 c313_rows a314 a315) (fun r => 1 ≤ c248_pots.toInt ∧ gh_v3.toInt ≤ 4 ∧ 1 ≤ gh_v3.toInt ∧ gh_v3.toInt ≤ c248_pots.toInt ∧ dz_rg r.1 gh_v3.toInt.toNat 0 (((dz_kr κ : Nat) : Int) - 1)))
set_option maxHeartbeats 1000000 in
set_option maxRecDepth 10000 in
theorem t242_X6_walk_h2_s (fu : Nat) (hfu : 1000000000000 ≤ fu) (κ : Nat) (hκ : κ < 14) (c248_groups : Int32) (c248_pots : Int32) (c261_groups : Int32) (c261_many : Int32) (a262 : Nat → Int32) (a263 : Nat → Int32) (a264 : Nat → Int32) (a281 : Nat → Int32) (a282 : Nat → Int32) (a283 : Nat → Int32) (c292_firstLevel : Int32) (c292_firstOpen : Int32) (c292_firstLeft : Int32) (c295_way : Int32) (a296 : Nat → Int32) (gh_v3 : Int32) (p0 : c248_groups.toInt ≤ 4) (p1 : 2 ≤ c248_groups.toInt) (p2 : c248_pots.toInt ≤ 4) (p3 : 0 ≤ c248_pots.toInt) (p4 : c261_groups.toInt ≤ 4) (p5 : 0 ≤ c261_groups.toInt) (p6 : c261_many.toInt ≤ 24) (p7 : 0 ≤ c261_many.toInt) (p8 : c292_firstLevel.toInt ≤ 4) (p9 : 0 ≤ c292_firstLevel.toInt) (p10 : c292_firstOpen.toInt ≤ 16777215) (p11 : 0 ≤ c292_firstOpen.toInt) (p12 : c292_firstLeft.toInt ≤ 15) (p13 : 0 ≤ c292_firstLeft.toInt) (hr_a262 : dz_rg a262 96 0 3) (hr_a263 : dz_rq a263 (dz_kr κ) (dz_kg κ) 0 (((dz_kg κ : Nat) : Int) - 1)) (hr_a264 : dz_rg a264 16 0 16777215) (hr_a281 : dz_rg a281 601 0 16777215) (hr_a282 : dz_rg a282 5 0 14425) (hr_a283 : dz_pm a283 (dz_kp κ)) (hr_a296 : dz_rg a296 4 0 3) (o1 : c248_groups.toInt = ((dz_kg κ : Nat) : Int)) (o2 : c248_pots.toInt = ((dz_kp κ : Nat) : Int)) (o3 : c261_groups.toInt = ((dz_kg κ : Nat) : Int)) (o4 : c261_many.toInt = ((dz_kr κ : Nat) : Int)) (k : Nat) (ih : ∀ j9, j9 < k → p242_X6_walk_s fu κ c248_groups c248_pots c261_groups c261_many a262 a263 a264 a281 a282 a283 c292_firstLevel c292_firstOpen c292_firstLeft c295_way a296 gh_v3 j9) : ∀ (v3 : Int32) (v4 : Int32) (v5 : Int64) (v9 : Int32) (v10 : Int32) (a293 : Nat → Int32) (a294 : Nat → Int64) (a297 : Nat → Int64) (a298 : Nat → Int32) (a299 : Nat → Int64) (c313_rows : Int64) (a314 : Nat → Int64) (a315 : Nat → Int64), 3 ≤ c248_pots.toInt → gh_v3.toInt ≤ 2 → 1 ≤ gh_v3.toInt → v3.toInt ≤ 2 → 1 ≤ v3.toInt → v4.toInt ≤ 331775 → 0 ≤ v4.toInt → v9.toInt ≤ 48 → 24 ≤ v9.toInt → v10.toInt ≤ 24 → 0 ≤ v10.toInt → gh_v3.toInt ≤ v3.toInt → v10.toInt ≤ c261_many.toInt → v3.toInt ≤ gh_v3.toInt → gh_v3.toInt + 2 ≤ c248_pots.toInt → dz_rg a293 v3.toInt.toNat 0 (((dz_kr κ : Nat) : Int) - 1) → ((v3.toInt = 0 ∧ v4.toInt < 1) ∨ (v3.toInt = 1 ∧ v4.toInt < 24) ∨ (v3.toInt = 2 ∧ v4.toInt < 576) ∨ (v3.toInt = 3 ∧ v4.toInt < 13824) ∨ (v3.toInt = 4 ∧ v4.toInt < 331776)) → 0 + 0 + (24 - v10.toInt) * 16 + 8 ≤ ((k : Nat) : Int) → dz_T ((F242_X6_walk fu c248_groups c248_pots c261_groups c261_many a262 a263 a264 a281 a282 a283 c292_firstLevel c292_firstOpen c292_firstLeft c295_way a296 k).2.1 v3 v4 v5 v9 v10 a293 a294 a297 a298 a299 c313_rows a314 a315) (fun r => 1 ≤ c248_pots.toInt ∧ gh_v3.toInt ≤ 4 ∧ 1 ≤ gh_v3.toInt ∧ gh_v3.toInt ≤ c248_pots.toInt ∧ dz_rg r.1 gh_v3.toInt.toNat 0 (((dz_kr κ : Nat) : Int) - 1)) := by
  intro v3 v4 v5 v9 v10 a293 a294 a297 a298 a299 c313_rows a314 a315 i0 i1 i2 i3 i4 i5 i6 i7 i8 i9 i10 i11 i12 i13 i14 hr_a293 x0 hm
  obtain ⟨k0, rfl⟩ : ∃ x, k = x + 1 := ⟨k - 1, by omega⟩
  show dz_T (s242_X6_walk_2 fu c248_groups c248_pots c261_groups c261_many a262 a263 a264 a281 a282 a283 c292_firstLevel c292_firstOpen c292_firstLeft c295_way a296 (F242_X6_walk fu c248_groups c248_pots c261_groups c261_many a262 a263 a264 a281 a282 a283 c292_firstLevel c292_firstOpen c292_firstLeft c295_way a296 k0).2.2.2  v3 v4 v5 v9 v10 a293 a294 a297 a298 a299 c313_rows a314 a315) _
  unfold s242_X6_walk_2
  rcases (show v3.toInt = 1 ∨ v3.toInt = 2 by omega) with hs | hs
  · skip
    refine dz_Tle (fun h1 => ?_) (fun h1 => ?_)
    · skip
      refine dz_Ts ?_
      dsimp only
      exact ⟨(by first | assumption | omega), (by first | assumption | omega), i2, (by first | assumption | omega), (dz_rgs (hr_a293) (by omega))⟩
    · skip
      have e2 := dz_add (a := v9) (b := v10) (by omega) (by omega)
      refine dz_Tin (by omega) (by omega) ?_
      have e3 := dz_l0
      refine dz_Teq (fun h4 => ?_) (fun h4 => ?_)
      · skip
        obtain ⟨k1, rfl⟩ : ∃ x, k0 = x + 1 := ⟨k0 - 1, by omega⟩
        show dz_T (s242_X6_walk_4 fu c248_groups c248_pots c261_groups c261_many a262 a263 a264 a281 a282 a283 c292_firstLevel c292_firstOpen c292_firstLeft c295_way a296 (F242_X6_walk fu c248_groups c248_pots c261_groups c261_many a262 a263 a264 a281 a282 a283 c292_firstLevel c292_firstOpen c292_firstLeft c295_way a296 k1).2.1 v3 v4 v5 v9 v10 a293 a294 a297 a298 a299 c313_rows a314 a315) _
        unfold s242_X6_walk_4
        have e5 := dz_l1
        have e6 := dz_add (a := v10) (b := (1 : Int32)) (by omega) (by omega)
        exact (ih k1 (by omega)) v3 v4 v5 v9 (v10 + (1 : Int32)) a293 a294 a297 a298 a299 c313_rows a314 a315 i0 i1 i2 i3 i4 i5 i6 i7 i8 (by omega) (by omega) i11 (by omega) i13 i14 (hr_a293) (by omega) (by omega)
      · skip
        refine dz_Tin (by omega) (by omega) ?_
        refine dz_Tin (by omega) (by omega) ?_
        have e7 := dz_l1
        have e8 := dz_add (a := v3) (b := (1 : Int32)) (by omega) (by omega)
        have e9 := dz_mulb (a := v4) (b := c261_many) 23 24 (by omega) (by omega) (by omega) (by omega) (by omega)
        have e10 := dz_add (a := (v4 * c261_many)) (b := v10) (by omega) (by omega)
        refine dz_Tb (t241_X6_walk_s fu hfu κ hκ _ _ _ _ _ _ _ _ _ _ _ _ _ _ _ _ _ _ _ _ _ _ _ _ _ _ p0 p1 p2 (by first | assumption | omega) p4 p5 p6 p7 p8 p9 p10 p11 p12 p13 (by omega) (by omega) (by omega) (by omega) (by omega) (hr_a262) (hr_a263) (hr_a264) (hr_a281) (hr_a282) (hr_a283) (hr_a296) (dz_rgx (hr_a293) (k2 := (v3 + (1 : Int32))) (by omega) (by omega) (by omega) (by omega)) (by first | assumption | omega) o1 o2 o3 o4) (fun r1 q => ?_)
        obtain ⟨q1_0, q1_1, q1_2, q1_3, qa1_0⟩ := q
        obtain ⟨k2, rfl⟩ : ∃ x, k0 = x + 1 := ⟨k0 - 1, by omega⟩
        show dz_T (s242_X6_walk_4 fu c248_groups c248_pots c261_groups c261_many a262 a263 a264 a281 a282 a283 c292_firstLevel c292_firstOpen c292_firstLeft c295_way a296 (F242_X6_walk fu c248_groups c248_pots c261_groups c261_many a262 a263 a264 a281 a282 a283 c292_firstLevel c292_firstOpen c292_firstLeft c295_way a296 k2).2.1 v3 v4 v5 v9 v10 r1.1 r1.2.1 r1.2.2.1 r1.2.2.2.1 r1.2.2.2.2.1 r1.2.2.2.2.2.1 r1.2.2.2.2.2.2.1 r1.2.2.2.2.2.2.2) _
        unfold s242_X6_walk_4
        have e11 := dz_add (a := v10) (b := (1 : Int32)) (by omega) (by omega)
        exact (ih k2 (by omega)) v3 v4 v5 v9 (v10 + (1 : Int32)) r1.1 r1.2.1 r1.2.2.1 r1.2.2.2.1 r1.2.2.2.2.1 r1.2.2.2.2.2.1 r1.2.2.2.2.2.2.1 r1.2.2.2.2.2.2.2 (by first | assumption | omega) i1 i2 i3 i4 i5 i6 i7 i8 (by omega) (by omega) i11 (by omega) i13 i14 (dz_rgs (qa1_0) (by omega)) (by omega) (by omega)
  · skip
    refine dz_Tle (fun h12 => ?_) (fun h12 => ?_)
    · skip
      refine dz_Ts ?_
      dsimp only
      exact ⟨(by first | assumption | omega), (by first | assumption | omega), i2, (by first | assumption | omega), (dz_rgs (hr_a293) (by omega))⟩
    · skip
      have e13 := dz_add (a := v9) (b := v10) (by omega) (by omega)
      refine dz_Tin (by omega) (by omega) ?_
      have e14 := dz_l0
      refine dz_Teq (fun h15 => ?_) (fun h15 => ?_)
      · skip
        obtain ⟨k3, rfl⟩ : ∃ x, k0 = x + 1 := ⟨k0 - 1, by omega⟩
        show dz_T (s242_X6_walk_4 fu c248_groups c248_pots c261_groups c261_many a262 a263 a264 a281 a282 a283 c292_firstLevel c292_firstOpen c292_firstLeft c295_way a296 (F242_X6_walk fu c248_groups c248_pots c261_groups c261_many a262 a263 a264 a281 a282 a283 c292_firstLevel c292_firstOpen c292_firstLeft c295_way a296 k3).2.1 v3 v4 v5 v9 v10 a293 a294 a297 a298 a299 c313_rows a314 a315) _
        unfold s242_X6_walk_4
        have e16 := dz_l1
        have e17 := dz_add (a := v10) (b := (1 : Int32)) (by omega) (by omega)
        exact (ih k3 (by omega)) v3 v4 v5 v9 (v10 + (1 : Int32)) a293 a294 a297 a298 a299 c313_rows a314 a315 i0 i1 i2 i3 i4 i5 i6 i7 i8 (by omega) (by omega) i11 (by omega) i13 i14 (hr_a293) (by omega) (by omega)
      · skip
        refine dz_Tin (by omega) (by omega) ?_
        refine dz_Tin (by omega) (by omega) ?_
        have e18 := dz_l1
        have e19 := dz_add (a := v3) (b := (1 : Int32)) (by omega) (by omega)
        have e20 := dz_mulb (a := v4) (b := c261_many) 575 24 (by omega) (by omega) (by omega) (by omega) (by omega)
        have e21 := dz_add (a := (v4 * c261_many)) (b := v10) (by omega) (by omega)
        refine dz_Tb (t241_X6_walk_s fu hfu κ hκ _ _ _ _ _ _ _ _ _ _ _ _ _ _ _ _ _ _ _ _ _ _ _ _ _ _ p0 p1 p2 (by first | assumption | omega) p4 p5 p6 p7 p8 p9 p10 p11 p12 p13 (by omega) (by omega) (by omega) (by omega) (by omega) (hr_a262) (hr_a263) (hr_a264) (hr_a281) (hr_a282) (hr_a283) (hr_a296) (dz_rgx (hr_a293) (k2 := (v3 + (1 : Int32))) (by omega) (by omega) (by omega) (by omega)) (by first | assumption | omega) o1 o2 o3 o4) (fun r2 q => ?_)
        obtain ⟨q2_0, q2_1, q2_2, q2_3, qa2_0⟩ := q
        obtain ⟨k4, rfl⟩ : ∃ x, k0 = x + 1 := ⟨k0 - 1, by omega⟩
        show dz_T (s242_X6_walk_4 fu c248_groups c248_pots c261_groups c261_many a262 a263 a264 a281 a282 a283 c292_firstLevel c292_firstOpen c292_firstLeft c295_way a296 (F242_X6_walk fu c248_groups c248_pots c261_groups c261_many a262 a263 a264 a281 a282 a283 c292_firstLevel c292_firstOpen c292_firstLeft c295_way a296 k4).2.1 v3 v4 v5 v9 v10 r2.1 r2.2.1 r2.2.2.1 r2.2.2.2.1 r2.2.2.2.2.1 r2.2.2.2.2.2.1 r2.2.2.2.2.2.2.1 r2.2.2.2.2.2.2.2) _
        unfold s242_X6_walk_4
        have e22 := dz_add (a := v10) (b := (1 : Int32)) (by omega) (by omega)
        exact (ih k4 (by omega)) v3 v4 v5 v9 (v10 + (1 : Int32)) r2.1 r2.2.1 r2.2.2.1 r2.2.2.2.1 r2.2.2.2.2.1 r2.2.2.2.2.2.1 r2.2.2.2.2.2.2.1 r2.2.2.2.2.2.2.2 (by first | assumption | omega) i1 i2 i3 i4 i5 i6 i7 i8 (by omega) (by omega) i11 (by omega) i13 i14 (dz_rgs (qa2_0) (by omega)) (by omega) (by omega)
theorem t242_X6_walk_I_s (fu : Nat) (hfu : 1000000000000 ≤ fu) (κ : Nat) (hκ : κ < 14) (c248_groups : Int32) (c248_pots : Int32) (c261_groups : Int32) (c261_many : Int32) (a262 : Nat → Int32) (a263 : Nat → Int32) (a264 : Nat → Int32) (a281 : Nat → Int32) (a282 : Nat → Int32) (a283 : Nat → Int32) (c292_firstLevel : Int32) (c292_firstOpen : Int32) (c292_firstLeft : Int32) (c295_way : Int32) (a296 : Nat → Int32) (gh_v3 : Int32) (p0 : c248_groups.toInt ≤ 4) (p1 : 2 ≤ c248_groups.toInt) (p2 : c248_pots.toInt ≤ 4) (p3 : 0 ≤ c248_pots.toInt) (p4 : c261_groups.toInt ≤ 4) (p5 : 0 ≤ c261_groups.toInt) (p6 : c261_many.toInt ≤ 24) (p7 : 0 ≤ c261_many.toInt) (p8 : c292_firstLevel.toInt ≤ 4) (p9 : 0 ≤ c292_firstLevel.toInt) (p10 : c292_firstOpen.toInt ≤ 16777215) (p11 : 0 ≤ c292_firstOpen.toInt) (p12 : c292_firstLeft.toInt ≤ 15) (p13 : 0 ≤ c292_firstLeft.toInt) (hr_a262 : dz_rg a262 96 0 3) (hr_a263 : dz_rq a263 (dz_kr κ) (dz_kg κ) 0 (((dz_kg κ : Nat) : Int) - 1)) (hr_a264 : dz_rg a264 16 0 16777215) (hr_a281 : dz_rg a281 601 0 16777215) (hr_a282 : dz_rg a282 5 0 14425) (hr_a283 : dz_pm a283 (dz_kp κ)) (hr_a296 : dz_rg a296 4 0 3) (o1 : c248_groups.toInt = ((dz_kg κ : Nat) : Int)) (o2 : c248_pots.toInt = ((dz_kp κ : Nat) : Int)) (o3 : c261_groups.toInt = ((dz_kg κ : Nat) : Int)) (o4 : c261_many.toInt = ((dz_kr κ : Nat) : Int)) (k : Nat) : p242_X6_walk_s fu κ c248_groups c248_pots c261_groups c261_many a262 a263 a264 a281 a282 a283 c292_firstLevel c292_firstOpen c292_firstLeft c295_way a296 gh_v3 k := by
  induction k using Nat.strongRecOn with
  | _ k ih => exact t242_X6_walk_h2_s fu hfu κ hκ c248_groups c248_pots c261_groups c261_many a262 a263 a264 a281 a282 a283 c292_firstLevel c292_firstOpen c292_firstLeft c295_way a296 gh_v3 p0 p1 p2 p3 p4 p5 p6 p7 p8 p9 p10 p11 p12 p13 hr_a262 hr_a263 hr_a264 hr_a281 hr_a282 hr_a283 hr_a296 o1 o2 o3 o4 k ih
set_option maxHeartbeats 1000000 in
set_option maxRecDepth 10000 in
theorem t242_X6_walk_E_s (fu : Nat) (hfu : 1000000000000 ≤ fu) (κ : Nat) (hκ : κ < 14) (c248_groups : Int32) (c248_pots : Int32) (c261_groups : Int32) (c261_many : Int32) (a262 : Nat → Int32) (a263 : Nat → Int32) (a264 : Nat → Int32) (a281 : Nat → Int32) (a282 : Nat → Int32) (a283 : Nat → Int32) (c292_firstLevel : Int32) (c292_firstOpen : Int32) (c292_firstLeft : Int32) (c295_way : Int32) (a296 : Nat → Int32) (v3 : Int32) (v4 : Int32) (v5 : Int64) (a293 : Nat → Int32) (a294 : Nat → Int64) (a297 : Nat → Int64) (a298 : Nat → Int32) (a299 : Nat → Int64) (c313_rows : Int64) (a314 : Nat → Int64) (a315 : Nat → Int64) (p0 : c248_groups.toInt ≤ 4) (p1 : 2 ≤ c248_groups.toInt) (p2 : c248_pots.toInt ≤ 4) (p3 : 0 ≤ c248_pots.toInt) (p4 : c261_groups.toInt ≤ 4) (p5 : 0 ≤ c261_groups.toInt) (p6 : c261_many.toInt ≤ 24) (p7 : 0 ≤ c261_many.toInt) (p8 : c292_firstLevel.toInt ≤ 4) (p9 : 0 ≤ c292_firstLevel.toInt) (p10 : c292_firstOpen.toInt ≤ 16777215) (p11 : 0 ≤ c292_firstOpen.toInt) (p12 : c292_firstLeft.toInt ≤ 15) (p13 : 0 ≤ c292_firstLeft.toInt) (p14 : 1 ≤ v3.toInt) (p15 : v3.toInt ≤ c248_pots.toInt) (p16 : v3.toInt ≤ 4) (p17 : 0 ≤ v4.toInt) (p18 : v4.toInt ≤ 331775) (hr_a262 : dz_rg a262 96 0 3) (hr_a263 : dz_rq a263 (dz_kr κ) (dz_kg κ) 0 (((dz_kg κ : Nat) : Int) - 1)) (hr_a264 : dz_rg a264 16 0 16777215) (hr_a281 : dz_rg a281 601 0 16777215) (hr_a282 : dz_rg a282 5 0 14425) (hr_a283 : dz_pm a283 (dz_kp κ)) (hr_a296 : dz_rg a296 4 0 3) (hr_a293 : dz_rg a293 v3.toInt.toNat 0 (((dz_kr κ : Nat) : Int) - 1)) (o0 : ((v3.toInt = 0 ∧ v4.toInt < 1) ∨ (v3.toInt = 1 ∧ v4.toInt < 24) ∨ (v3.toInt = 2 ∧ v4.toInt < 576) ∨ (v3.toInt = 3 ∧ v4.toInt < 13824) ∨ (v3.toInt = 4 ∧ v4.toInt < 331776))) (o1 : c248_groups.toInt = ((dz_kg κ : Nat) : Int)) (o2 : c248_pots.toInt = ((dz_kp κ : Nat) : Int)) (o3 : c261_groups.toInt = ((dz_kg κ : Nat) : Int)) (o4 : c261_many.toInt = ((dz_kr κ : Nat) : Int)) (kv : Nat) (hkv : 1000000000000 ≤ kv) : dz_T (s242_X6_walk_0 fu c248_groups c248_pots c261_groups c261_many a262 a263 a264 a281 a282 a283 c292_firstLevel c292_firstOpen c292_firstLeft c295_way a296 (F242_X6_walk fu c248_groups c248_pots c261_groups c261_many a262 a263 a264 a281 a282 a283 c292_firstLevel c292_firstOpen c292_firstLeft c295_way a296 kv).1  v3 v4 v5 a293 a294 a297 a298 a299 c313_rows a314 a315) (fun r => 1 ≤ c248_pots.toInt ∧ v3.toInt ≤ 4 ∧ 1 ≤ v3.toInt ∧ v3.toInt ≤ c248_pots.toInt ∧ dz_rg r.1 v3.toInt.toNat 0 (((dz_kr κ : Nat) : Int) - 1)) := by
  unfold s242_X6_walk_0
  refine dz_Tlt (fun h1 => ?_) (fun h1 => ?_)
  · skip
    refine dz_Tb (t180_X10_ranksOpen fu hfu _ _ _ _ (by first | assumption | omega) (hr_a281) (hr_a282)) (fun r1 q => ?_)
    obtain ⟨q1_0, q1_1⟩ := q
    refine dz_Teq (fun h2 => ?_) (fun h2 => ?_)
    · skip
      obtain ⟨k1, rfl⟩ : ∃ x, kv = x + 1 := ⟨kv - 1, by omega⟩
      show dz_T (s242_X6_walk_1 fu c248_groups c248_pots c261_groups c261_many a262 a263 a264 a281 a282 a283 c292_firstLevel c292_firstOpen c292_firstLeft c295_way a296 (F242_X6_walk fu c248_groups c248_pots c261_groups c261_many a262 a263 a264 a281 a282 a283 c292_firstLevel c292_firstOpen c292_firstLeft c295_way a296 k1).2.1 (F242_X6_walk fu c248_groups c248_pots c261_groups c261_many a262 a263 a264 a281 a282 a283 c292_firstLevel c292_firstOpen c292_firstLeft c295_way a296 k1).2.2.1 v3 v4 v5 (r1 &&& c292_firstOpen) c292_firstLeft a293 a294 a297 a298 a299 c313_rows a314 a315) _
      unfold s242_X6_walk_1
      have e3 := dz_l1
      have e4 := dz_sub (a := c248_pots) (b := (1 : Int32)) (by omega) (by omega)
      refine dz_Teq (fun h5 => ?_) (fun h5 => ?_)
      · skip
        have e6 := dz_andr (a := r1) (b := c292_firstOpen) (by omega)
        have e7 := dz_andl (a := r1) (b := c292_firstOpen) (by omega)
        refine dz_Tb (t232_X7_slotOf_s fu hfu κ hκ _ _ _ p4 p5 (by omega) o3) (fun r2 q => ?_)
        obtain ⟨q2_0, q2_1⟩ := q
        refine dz_Tbe (show f233_X7_isKept fu a298 r2 (r1 &&& c292_firstOpen) = (if ((64 : Int32) ≤ r2) then (some (0 : Int32)) else (if dz_in r2 64 then (if ((a298 r2.toNatClampNeg) = (r1 &&& c292_firstOpen)) then (some (1 : Int32)) else (some (0 : Int32))) else none)) from rfl) ?_
        have e8 := dz_l64
        refine dz_Tleb (fun h9 => ?_) (fun h9 => ?_)
        · skip
          refine dz_Tsb ?_
          have e10 := dz_l0
          refine dz_Teq (fun h11 => ?_) (fun h11 => ?_)
          · skip
            refine dz_Tb (t231_X7_fillRows_s fu hfu κ hκ _ _ _ _ _ _ _ _ p4 p5 p6 p7 (by omega) (by omega) p13 p12 (hr_a264) (hr_a296) o3 o4) (fun r4 _ => ?_)
            refine dz_Tb (t235_X7_keepRows_s fu hfu κ hκ _ _ _ _ _ _ _ _ p4 p5 p6 p7 q2_1 q2_0 (hr_a262) o3 o4) (fun r5 _ => ?_)
            obtain ⟨k2, rfl⟩ : ∃ x, k1 = x + 1 := ⟨k1 - 1, by omega⟩
            show dz_T (s242_X6_walk_3 fu c248_groups c248_pots c261_groups c261_many a262 a263 a264 a281 a282 a283 c292_firstLevel c292_firstOpen c292_firstLeft c295_way a296 v5 r2 a293 a294 r4 r5.1 r5.2 c313_rows a314 a315) _
            unfold s242_X6_walk_3
            have e12 := dz_l16
            have e13 := dz_mull (a := r2) (b := (16 : Int32)) 64 (by omega) (by omega) (by omega)
            refine dz_Tb (t237_X6_addLast_s fu hfu κ hκ _ _ _ _ _ _ _ _ _ _ _ p0 p1 p2 p3 (by omega) (by omega) (by first | assumption | omega) (hr_a263) (hr_a283) (dz_rgs (hr_a293) (by omega)) o1 o2) (fun r6 _ => ?_)
            refine dz_Ts ?_
            dsimp only
            exact ⟨(by first | assumption | omega), (by first | assumption | omega), (by first | assumption | omega), (by first | assumption | omega), (dz_rgs (hr_a293) (by omega))⟩
          · skip
            exfalso; omega
        · skip
          refine dz_Tinb (by omega) (by omega) ?_
          refine dz_Teqb (fun h14 => ?_) (fun h14 => ?_)
          · skip
            refine dz_Tsb ?_
            have e15 := dz_l0
            refine dz_Teq (fun h16 => ?_) (fun h16 => ?_)
            · skip
              exfalso; omega
            · skip
              obtain ⟨k3, rfl⟩ : ∃ x, k1 = x + 1 := ⟨k1 - 1, by omega⟩
              show dz_T (s242_X6_walk_3 fu c248_groups c248_pots c261_groups c261_many a262 a263 a264 a281 a282 a283 c292_firstLevel c292_firstOpen c292_firstLeft c295_way a296 v5 r2 a293 a294 a297 a298 a299 c313_rows a314 a315) _
              unfold s242_X6_walk_3
              have e17 := dz_l16
              have e18 := dz_mulr (a := r2) (b := (16 : Int32)) 16 (by omega) (by omega) (by omega)
              refine dz_Tb (t237_X6_addLast_s fu hfu κ hκ _ _ _ _ _ _ _ _ _ _ _ p0 p1 p2 p3 (by omega) (by omega) (by first | assumption | omega) (hr_a263) (hr_a283) (dz_rgs (hr_a293) (by omega)) o1 o2) (fun r7 _ => ?_)
              refine dz_Ts ?_
              dsimp only
              exact ⟨(by first | assumption | omega), (by first | assumption | omega), (by first | assumption | omega), (by first | assumption | omega), (dz_rgs (hr_a293) (by omega))⟩
          · skip
            refine dz_Tsb ?_
            have e19 := dz_l0
            refine dz_Teq (fun h20 => ?_) (fun h20 => ?_)
            · skip
              refine dz_Tb (t231_X7_fillRows_s fu hfu κ hκ _ _ _ _ _ _ _ _ p4 p5 p6 p7 (by omega) (by omega) p13 p12 (hr_a264) (hr_a296) o3 o4) (fun r8 _ => ?_)
              refine dz_Tb (t235_X7_keepRows_s fu hfu κ hκ _ _ _ _ _ _ _ _ p4 p5 p6 p7 q2_1 q2_0 (hr_a262) o3 o4) (fun r9 _ => ?_)
              obtain ⟨k4, rfl⟩ : ∃ x, k1 = x + 1 := ⟨k1 - 1, by omega⟩
              show dz_T (s242_X6_walk_3 fu c248_groups c248_pots c261_groups c261_many a262 a263 a264 a281 a282 a283 c292_firstLevel c292_firstOpen c292_firstLeft c295_way a296 v5 r2 a293 a294 r8 r9.1 r9.2 c313_rows a314 a315) _
              unfold s242_X6_walk_3
              have e21 := dz_l16
              have e22 := dz_mulr (a := r2) (b := (16 : Int32)) 16 (by omega) (by omega) (by omega)
              refine dz_Tb (t237_X6_addLast_s fu hfu κ hκ _ _ _ _ _ _ _ _ _ _ _ p0 p1 p2 p3 (by omega) (by omega) (by first | assumption | omega) (hr_a263) (hr_a283) (dz_rgs (hr_a293) (by omega)) o1 o2) (fun r10 _ => ?_)
              refine dz_Ts ?_
              dsimp only
              exact ⟨(by first | assumption | omega), (by first | assumption | omega), (by first | assumption | omega), (by first | assumption | omega), (dz_rgs (hr_a293) (by omega))⟩
            · skip
              exfalso; omega
      · skip
        have e23 := dz_andr (a := r1) (b := c292_firstOpen) (by omega)
        have e24 := dz_andl (a := r1) (b := c292_firstOpen) (by omega)
        refine dz_Tb (t231_X7_fillRows_s fu hfu κ hκ _ _ _ _ _ _ _ _ p4 p5 p6 p7 (by omega) (by omega) p13 p12 (hr_a264) (hr_a296) o3 o4) (fun r11 _ => ?_)
        have e25 := dz_l0
        refine dz_Tng (by omega) ?_
        have e26 := dz_l24
        have e27 := dz_mulr (a := v3) (b := (24 : Int32)) 24 (by omega) (by omega) (by omega)
        refine dz_Tng (by omega) ?_
        refine dz_Tng (by omega) ?_
        have e28 := dz_tn (0 : Int32)
        have e29 := dz_tn (24 : Int32)
        refine dz_Tg (by omega) ?_
        have e30 := dz_tn (v3 * (24 : Int32))
        refine dz_Tg (by omega) ?_
        exact (t242_X6_walk_I_s fu hfu κ hκ c248_groups c248_pots c261_groups c261_many a262 a263 a264 a281 a282 a283 c292_firstLevel c292_firstOpen c292_firstLeft c295_way a296 v3 p0 p1 p2 p3 p4 p5 p6 p7 p8 p9 p10 p11 p12 p13 hr_a262 hr_a263 hr_a264 hr_a281 hr_a282 hr_a283 hr_a296 o1 o2 o3 o4 k1) v3 v4 v5 (v3 * (24 : Int32)) (0 : Int32) a293 (va_cpy r11 a294 (0 : Int32).toNatClampNeg (v3 * (24 : Int32)).toNatClampNeg (24 : Int32).toNatClampNeg) r11 a298 a299 c313_rows a314 a315 (by first | assumption | omega) (by first | assumption | omega) (by first | assumption | omega) (by first | assumption | omega) p14 p18 p17 (by omega) (by omega) (by omega) (by omega) (by first | assumption | omega) (by omega) (by first | assumption | omega) (by first | assumption | omega) (hr_a293) (by omega) (by omega)
    · skip
      obtain ⟨k5, rfl⟩ : ∃ x, kv = x + 1 := ⟨kv - 1, by omega⟩
      show dz_T (s242_X6_walk_1 fu c248_groups c248_pots c261_groups c261_many a262 a263 a264 a281 a282 a283 c292_firstLevel c292_firstOpen c292_firstLeft c295_way a296 (F242_X6_walk fu c248_groups c248_pots c261_groups c261_many a262 a263 a264 a281 a282 a283 c292_firstLevel c292_firstOpen c292_firstLeft c295_way a296 k5).2.1 (F242_X6_walk fu c248_groups c248_pots c261_groups c261_many a262 a263 a264 a281 a282 a283 c292_firstLevel c292_firstOpen c292_firstLeft c295_way a296 k5).2.2.1 v3 v4 v5 r1 (((1 : Int32) <<< (c248_groups &&& (31 : Int32))) - (1 : Int32)) a293 a294 a297 a298 a299 c313_rows a314 a315) _
      unfold s242_X6_walk_1
      have e31 := dz_l1
      have e32 := dz_sub (a := c248_pots) (b := (1 : Int32)) (by omega) (by omega)
      refine dz_Teq (fun h33 => ?_) (fun h33 => ?_)
      · skip
        have e34 := dz_l31
        have e35 := dz_andr (a := c248_groups) (b := (31 : Int32)) (by omega)
        have e36 := dz_andl (a := c248_groups) (b := (31 : Int32)) (by omega)
        have e37 := dz_shl1 (b := c248_groups) 2 4 (by omega) (by omega) (by omega)
        have e38 := dz_sub (a := ((1 : Int32) <<< (c248_groups &&& (31 : Int32)))) (b := (1 : Int32)) (by omega) (by omega)
        refine dz_Tb (t232_X7_slotOf_s fu hfu κ hκ _ _ _ p4 p5 q1_1 o3) (fun r12 q => ?_)
        obtain ⟨q12_0, q12_1⟩ := q
        refine dz_Tbe (show f233_X7_isKept fu a298 r12 r1 = (if ((64 : Int32) ≤ r12) then (some (0 : Int32)) else (if dz_in r12 64 then (if ((a298 r12.toNatClampNeg) = r1) then (some (1 : Int32)) else (some (0 : Int32))) else none)) from rfl) ?_
        have e39 := dz_l64
        refine dz_Tleb (fun h40 => ?_) (fun h40 => ?_)
        · skip
          refine dz_Tsb ?_
          have e41 := dz_l0
          refine dz_Teq (fun h42 => ?_) (fun h42 => ?_)
          · skip
            refine dz_Tb (t231_X7_fillRows_s fu hfu κ hκ _ _ _ _ _ _ _ _ p4 p5 p6 p7 q1_1 q1_0 (by omega) (by omega) (hr_a264) (hr_a296) o3 o4) (fun r14 _ => ?_)
            refine dz_Tb (t235_X7_keepRows_s fu hfu κ hκ _ _ _ _ _ _ _ _ p4 p5 p6 p7 q12_1 q12_0 (hr_a262) o3 o4) (fun r15 _ => ?_)
            obtain ⟨k6, rfl⟩ : ∃ x, k5 = x + 1 := ⟨k5 - 1, by omega⟩
            show dz_T (s242_X6_walk_3 fu c248_groups c248_pots c261_groups c261_many a262 a263 a264 a281 a282 a283 c292_firstLevel c292_firstOpen c292_firstLeft c295_way a296 v5 r12 a293 a294 r14 r15.1 r15.2 c313_rows a314 a315) _
            unfold s242_X6_walk_3
            have e43 := dz_l16
            have e44 := dz_mull (a := r12) (b := (16 : Int32)) 64 (by omega) (by omega) (by omega)
            refine dz_Tb (t237_X6_addLast_s fu hfu κ hκ _ _ _ _ _ _ _ _ _ _ _ p0 p1 p2 p3 (by omega) (by omega) (by first | assumption | omega) (hr_a263) (hr_a283) (dz_rgs (hr_a293) (by omega)) o1 o2) (fun r16 _ => ?_)
            refine dz_Ts ?_
            dsimp only
            exact ⟨(by first | assumption | omega), (by first | assumption | omega), (by first | assumption | omega), (by first | assumption | omega), (dz_rgs (hr_a293) (by omega))⟩
          · skip
            exfalso; omega
        · skip
          refine dz_Tinb (by omega) (by omega) ?_
          refine dz_Teqb (fun h45 => ?_) (fun h45 => ?_)
          · skip
            refine dz_Tsb ?_
            have e46 := dz_l0
            refine dz_Teq (fun h47 => ?_) (fun h47 => ?_)
            · skip
              exfalso; omega
            · skip
              obtain ⟨k7, rfl⟩ : ∃ x, k5 = x + 1 := ⟨k5 - 1, by omega⟩
              show dz_T (s242_X6_walk_3 fu c248_groups c248_pots c261_groups c261_many a262 a263 a264 a281 a282 a283 c292_firstLevel c292_firstOpen c292_firstLeft c295_way a296 v5 r12 a293 a294 a297 a298 a299 c313_rows a314 a315) _
              unfold s242_X6_walk_3
              have e48 := dz_l16
              have e49 := dz_mulr (a := r12) (b := (16 : Int32)) 16 (by omega) (by omega) (by omega)
              refine dz_Tb (t237_X6_addLast_s fu hfu κ hκ _ _ _ _ _ _ _ _ _ _ _ p0 p1 p2 p3 (by omega) (by omega) (by first | assumption | omega) (hr_a263) (hr_a283) (dz_rgs (hr_a293) (by omega)) o1 o2) (fun r17 _ => ?_)
              refine dz_Ts ?_
              dsimp only
              exact ⟨(by first | assumption | omega), (by first | assumption | omega), (by first | assumption | omega), (by first | assumption | omega), (dz_rgs (hr_a293) (by omega))⟩
          · skip
            refine dz_Tsb ?_
            have e50 := dz_l0
            refine dz_Teq (fun h51 => ?_) (fun h51 => ?_)
            · skip
              refine dz_Tb (t231_X7_fillRows_s fu hfu κ hκ _ _ _ _ _ _ _ _ p4 p5 p6 p7 q1_1 q1_0 (by omega) (by omega) (hr_a264) (hr_a296) o3 o4) (fun r18 _ => ?_)
              refine dz_Tb (t235_X7_keepRows_s fu hfu κ hκ _ _ _ _ _ _ _ _ p4 p5 p6 p7 q12_1 q12_0 (hr_a262) o3 o4) (fun r19 _ => ?_)
              obtain ⟨k8, rfl⟩ : ∃ x, k5 = x + 1 := ⟨k5 - 1, by omega⟩
              show dz_T (s242_X6_walk_3 fu c248_groups c248_pots c261_groups c261_many a262 a263 a264 a281 a282 a283 c292_firstLevel c292_firstOpen c292_firstLeft c295_way a296 v5 r12 a293 a294 r18 r19.1 r19.2 c313_rows a314 a315) _
              unfold s242_X6_walk_3
              have e52 := dz_l16
              have e53 := dz_mulr (a := r12) (b := (16 : Int32)) 16 (by omega) (by omega) (by omega)
              refine dz_Tb (t237_X6_addLast_s fu hfu κ hκ _ _ _ _ _ _ _ _ _ _ _ p0 p1 p2 p3 (by omega) (by omega) (by first | assumption | omega) (hr_a263) (hr_a283) (dz_rgs (hr_a293) (by omega)) o1 o2) (fun r20 _ => ?_)
              refine dz_Ts ?_
              dsimp only
              exact ⟨(by first | assumption | omega), (by first | assumption | omega), (by first | assumption | omega), (by first | assumption | omega), (dz_rgs (hr_a293) (by omega))⟩
            · skip
              exfalso; omega
      · skip
        have e54 := dz_l31
        have e55 := dz_andr (a := c248_groups) (b := (31 : Int32)) (by omega)
        have e56 := dz_andl (a := c248_groups) (b := (31 : Int32)) (by omega)
        have e57 := dz_shl1 (b := c248_groups) 2 4 (by omega) (by omega) (by omega)
        have e58 := dz_sub (a := ((1 : Int32) <<< (c248_groups &&& (31 : Int32)))) (b := (1 : Int32)) (by omega) (by omega)
        refine dz_Tb (t231_X7_fillRows_s fu hfu κ hκ _ _ _ _ _ _ _ _ p4 p5 p6 p7 q1_1 q1_0 (by omega) (by omega) (hr_a264) (hr_a296) o3 o4) (fun r21 _ => ?_)
        have e59 := dz_l0
        refine dz_Tng (by omega) ?_
        have e60 := dz_l24
        have e61 := dz_mulr (a := v3) (b := (24 : Int32)) 24 (by omega) (by omega) (by omega)
        refine dz_Tng (by omega) ?_
        refine dz_Tng (by omega) ?_
        have e62 := dz_tn (0 : Int32)
        have e63 := dz_tn (24 : Int32)
        refine dz_Tg (by omega) ?_
        have e64 := dz_tn (v3 * (24 : Int32))
        refine dz_Tg (by omega) ?_
        exact (t242_X6_walk_I_s fu hfu κ hκ c248_groups c248_pots c261_groups c261_many a262 a263 a264 a281 a282 a283 c292_firstLevel c292_firstOpen c292_firstLeft c295_way a296 v3 p0 p1 p2 p3 p4 p5 p6 p7 p8 p9 p10 p11 p12 p13 hr_a262 hr_a263 hr_a264 hr_a281 hr_a282 hr_a283 hr_a296 o1 o2 o3 o4 k5) v3 v4 v5 (v3 * (24 : Int32)) (0 : Int32) a293 (va_cpy r21 a294 (0 : Int32).toNatClampNeg (v3 * (24 : Int32)).toNatClampNeg (24 : Int32).toNatClampNeg) r21 a298 a299 c313_rows a314 a315 (by first | assumption | omega) (by first | assumption | omega) (by first | assumption | omega) (by first | assumption | omega) p14 p18 p17 (by omega) (by omega) (by omega) (by omega) (by first | assumption | omega) (by omega) (by first | assumption | omega) (by first | assumption | omega) (hr_a293) (by omega) (by omega)
  · skip
    refine dz_Ts ?_
    dsimp only
    exact ⟨(by first | assumption | omega), (by first | assumption | omega), (by first | assumption | omega), (by first | assumption | omega), (dz_rgs (hr_a293) (by omega))⟩
theorem t242_X6_walk_s (fu : Nat) (hfu : 1000000000000 ≤ fu) (κ : Nat) (hκ : κ < 14) (c248_groups : Int32) (c248_pots : Int32) (c261_groups : Int32) (c261_many : Int32) (a262 : Nat → Int32) (a263 : Nat → Int32) (a264 : Nat → Int32) (a281 : Nat → Int32) (a282 : Nat → Int32) (a283 : Nat → Int32) (c292_firstLevel : Int32) (c292_firstOpen : Int32) (c292_firstLeft : Int32) (c295_way : Int32) (a296 : Nat → Int32) (v3 : Int32) (v4 : Int32) (v5 : Int64) (a293 : Nat → Int32) (a294 : Nat → Int64) (a297 : Nat → Int64) (a298 : Nat → Int32) (a299 : Nat → Int64) (c313_rows : Int64) (a314 : Nat → Int64) (a315 : Nat → Int64) (p0 : c248_groups.toInt ≤ 4) (p1 : 2 ≤ c248_groups.toInt) (p2 : c248_pots.toInt ≤ 4) (p3 : 0 ≤ c248_pots.toInt) (p4 : c261_groups.toInt ≤ 4) (p5 : 0 ≤ c261_groups.toInt) (p6 : c261_many.toInt ≤ 24) (p7 : 0 ≤ c261_many.toInt) (p8 : c292_firstLevel.toInt ≤ 4) (p9 : 0 ≤ c292_firstLevel.toInt) (p10 : c292_firstOpen.toInt ≤ 16777215) (p11 : 0 ≤ c292_firstOpen.toInt) (p12 : c292_firstLeft.toInt ≤ 15) (p13 : 0 ≤ c292_firstLeft.toInt) (p14 : 1 ≤ v3.toInt) (p15 : v3.toInt ≤ c248_pots.toInt) (p16 : v3.toInt ≤ 4) (p17 : 0 ≤ v4.toInt) (p18 : v4.toInt ≤ 331775) (hr_a262 : dz_rg a262 96 0 3) (hr_a263 : dz_rq a263 (dz_kr κ) (dz_kg κ) 0 (((dz_kg κ : Nat) : Int) - 1)) (hr_a264 : dz_rg a264 16 0 16777215) (hr_a281 : dz_rg a281 601 0 16777215) (hr_a282 : dz_rg a282 5 0 14425) (hr_a283 : dz_pm a283 (dz_kp κ)) (hr_a296 : dz_rg a296 4 0 3) (hr_a293 : dz_rg a293 v3.toInt.toNat 0 (((dz_kr κ : Nat) : Int) - 1)) (o0 : ((v3.toInt = 0 ∧ v4.toInt < 1) ∨ (v3.toInt = 1 ∧ v4.toInt < 24) ∨ (v3.toInt = 2 ∧ v4.toInt < 576) ∨ (v3.toInt = 3 ∧ v4.toInt < 13824) ∨ (v3.toInt = 4 ∧ v4.toInt < 331776))) (o1 : c248_groups.toInt = ((dz_kg κ : Nat) : Int)) (o2 : c248_pots.toInt = ((dz_kp κ : Nat) : Int)) (o3 : c261_groups.toInt = ((dz_kg κ : Nat) : Int)) (o4 : c261_many.toInt = ((dz_kr κ : Nat) : Int)) : dz_T (f242_X6_walk fu c248_groups c248_pots c261_groups c261_many a262 a263 a264 a281 a282 a283 c292_firstLevel c292_firstOpen c292_firstLeft c295_way a296 v3 v4 v5 a293 a294 a297 a298 a299 c313_rows a314 a315) (fun r => 1 ≤ c248_pots.toInt ∧ v3.toInt ≤ 4 ∧ 1 ≤ v3.toInt ∧ v3.toInt ≤ c248_pots.toInt ∧ dz_rg r.1 v3.toInt.toNat 0 (((dz_kr κ : Nat) : Int) - 1)) :=
  t242_X6_walk_E_s fu hfu κ hκ c248_groups c248_pots c261_groups c261_many a262 a263 a264 a281 a282 a283 c292_firstLevel c292_firstOpen c292_firstLeft c295_way a296 v3 v4 v5 a293 a294 a297 a298 a299 c313_rows a314 a315 p0 p1 p2 p3 p4 p5 p6 p7 p8 p9 p10 p11 p12 p13 p14 p15 p16 p17 p18 hr_a262 hr_a263 hr_a264 hr_a281 hr_a282 hr_a283 hr_a296 hr_a293 o0 o1 o2 o3 o4 fu hfu
abbrev p243_X6_walk_s (fu : Nat) (κ : Nat) (c248_groups : Int32) (c248_pots : Int32) (c261_groups : Int32) (c261_many : Int32) (a262 : Nat → Int32) (a263 : Nat → Int32) (a264 : Nat → Int32) (a281 : Nat → Int32) (a282 : Nat → Int32) (a283 : Nat → Int32) (c292_firstLevel : Int32) (c292_firstOpen : Int32) (c292_firstLeft : Int32) (c295_way : Int32) (a296 : Nat → Int32) (gh_v3 : Int32) (k : Nat) : Prop :=
  (∀ (v3 : Int32) (v4 : Int32) (v5 : Int64) (v9 : Int32) (v10 : Int32) (a293 : Nat → Int32) (a294 : Nat → Int64) (a297 : Nat → Int64) (a298 : Nat → Int32) (a299 : Nat → Int64) (c313_rows : Int64) (a314 : Nat → Int64) (a315 : Nat → Int64), 2 ≤ c248_pots.toInt → gh_v3.toInt ≤ 2 → 0 ≤ gh_v3.toInt → v3.toInt ≤ 2 → 0 ≤ v3.toInt → v4.toInt ≤ 331775 → 0 ≤ v4.toInt → v9.toInt ≤ 48 → 0 ≤ v9.toInt → v10.toInt ≤ 24 → 0 ≤ v10.toInt → gh_v3.toInt ≤ v3.toInt → gh_v3.toInt ≤ v9.toInt → v10.toInt ≤ c261_many.toInt → v3.toInt ≤ gh_v3.toInt → gh_v3.toInt + 2 ≤ c248_pots.toInt → dz_rg a293 v3.toInt.toNat 0 (((dz_kr κ : Nat) : Int) - 1) → ((v3.toInt = 0 ∧ v4.toInt < 1) ∨ (v3.toInt = 1 ∧ v4.toInt < 24) ∨ (v3.toInt = 2 ∧ v4.toInt < 576) ∨ (v3.toInt = 3 ∧ v4.toInt < 13824) ∨ (v3.toInt = 4 ∧ v4.toInt < 331776)) → 0 + 0 + (24 - v10.toInt) * 16 + 8 ≤ ((k : Nat) : Int) → dz_T ((F243_X6_walk fu c248_groups c248_pots c261_groups c261_many a262 a263 a264 a281 a282 a283 c292_firstLevel c292_firstOpen c292_firstLeft c295_way a296 k).2.1 v3 v4 v5 v9 v10 a293 a294 a297 a298 a299 c313_rows a314 a315) (fun r => gh_v3.toInt ≤ 4 ∧ 0 ≤ gh_v3.toInt ∧ gh_v3.toInt ≤ c248_pots.toInt ∧ dz_rg r.1 gh_v3.toInt.toNat 0 (((dz_kr κ : Nat) : Int) - 1)))
set_option maxHeartbeats 1000000 in
set_option maxRecDepth 10000 in
theorem t243_X6_walk_h2_s (fu : Nat) (hfu : 1000000000000 ≤ fu) (κ : Nat) (hκ : κ < 14) (c248_groups : Int32) (c248_pots : Int32) (c261_groups : Int32) (c261_many : Int32) (a262 : Nat → Int32) (a263 : Nat → Int32) (a264 : Nat → Int32) (a281 : Nat → Int32) (a282 : Nat → Int32) (a283 : Nat → Int32) (c292_firstLevel : Int32) (c292_firstOpen : Int32) (c292_firstLeft : Int32) (c295_way : Int32) (a296 : Nat → Int32) (gh_v3 : Int32) (p0 : c248_groups.toInt ≤ 4) (p1 : 2 ≤ c248_groups.toInt) (p2 : c248_pots.toInt ≤ 4) (p3 : 0 ≤ c248_pots.toInt) (p4 : c261_groups.toInt ≤ 4) (p5 : 0 ≤ c261_groups.toInt) (p6 : c261_many.toInt ≤ 24) (p7 : 0 ≤ c261_many.toInt) (p8 : c292_firstLevel.toInt ≤ 4) (p9 : 0 ≤ c292_firstLevel.toInt) (p10 : c292_firstOpen.toInt ≤ 16777215) (p11 : 0 ≤ c292_firstOpen.toInt) (p12 : c292_firstLeft.toInt ≤ 15) (p13 : 0 ≤ c292_firstLeft.toInt) (hr_a262 : dz_rg a262 96 0 3) (hr_a263 : dz_rq a263 (dz_kr κ) (dz_kg κ) 0 (((dz_kg κ : Nat) : Int) - 1)) (hr_a264 : dz_rg a264 16 0 16777215) (hr_a281 : dz_rg a281 601 0 16777215) (hr_a282 : dz_rg a282 5 0 14425) (hr_a283 : dz_pm a283 (dz_kp κ)) (hr_a296 : dz_rg a296 4 0 3) (o1 : c248_groups.toInt = ((dz_kg κ : Nat) : Int)) (o2 : c248_pots.toInt = ((dz_kp κ : Nat) : Int)) (o3 : c261_groups.toInt = ((dz_kg κ : Nat) : Int)) (o4 : c261_many.toInt = ((dz_kr κ : Nat) : Int)) (k : Nat) (ih : ∀ j9, j9 < k → p243_X6_walk_s fu κ c248_groups c248_pots c261_groups c261_many a262 a263 a264 a281 a282 a283 c292_firstLevel c292_firstOpen c292_firstLeft c295_way a296 gh_v3 j9) : ∀ (v3 : Int32) (v4 : Int32) (v5 : Int64) (v9 : Int32) (v10 : Int32) (a293 : Nat → Int32) (a294 : Nat → Int64) (a297 : Nat → Int64) (a298 : Nat → Int32) (a299 : Nat → Int64) (c313_rows : Int64) (a314 : Nat → Int64) (a315 : Nat → Int64), 2 ≤ c248_pots.toInt → gh_v3.toInt ≤ 2 → 0 ≤ gh_v3.toInt → v3.toInt ≤ 2 → 0 ≤ v3.toInt → v4.toInt ≤ 331775 → 0 ≤ v4.toInt → v9.toInt ≤ 48 → 0 ≤ v9.toInt → v10.toInt ≤ 24 → 0 ≤ v10.toInt → gh_v3.toInt ≤ v3.toInt → gh_v3.toInt ≤ v9.toInt → v10.toInt ≤ c261_many.toInt → v3.toInt ≤ gh_v3.toInt → gh_v3.toInt + 2 ≤ c248_pots.toInt → dz_rg a293 v3.toInt.toNat 0 (((dz_kr κ : Nat) : Int) - 1) → ((v3.toInt = 0 ∧ v4.toInt < 1) ∨ (v3.toInt = 1 ∧ v4.toInt < 24) ∨ (v3.toInt = 2 ∧ v4.toInt < 576) ∨ (v3.toInt = 3 ∧ v4.toInt < 13824) ∨ (v3.toInt = 4 ∧ v4.toInt < 331776)) → 0 + 0 + (24 - v10.toInt) * 16 + 8 ≤ ((k : Nat) : Int) → dz_T ((F243_X6_walk fu c248_groups c248_pots c261_groups c261_many a262 a263 a264 a281 a282 a283 c292_firstLevel c292_firstOpen c292_firstLeft c295_way a296 k).2.1 v3 v4 v5 v9 v10 a293 a294 a297 a298 a299 c313_rows a314 a315) (fun r => gh_v3.toInt ≤ 4 ∧ 0 ≤ gh_v3.toInt ∧ gh_v3.toInt ≤ c248_pots.toInt ∧ dz_rg r.1 gh_v3.toInt.toNat 0 (((dz_kr κ : Nat) : Int) - 1)) := by
  intro v3 v4 v5 v9 v10 a293 a294 a297 a298 a299 c313_rows a314 a315 i0 i1 i2 i3 i4 i5 i6 i7 i8 i9 i10 i11 i12 i13 i14 i15 hr_a293 x0 hm
  obtain ⟨k0, rfl⟩ : ∃ x, k = x + 1 := ⟨k - 1, by omega⟩
  show dz_T (s243_X6_walk_2 fu c248_groups c248_pots c261_groups c261_many a262 a263 a264 a281 a282 a283 c292_firstLevel c292_firstOpen c292_firstLeft c295_way a296 (F243_X6_walk fu c248_groups c248_pots c261_groups c261_many a262 a263 a264 a281 a282 a283 c292_firstLevel c292_firstOpen c292_firstLeft c295_way a296 k0).2.2.2  v3 v4 v5 v9 v10 a293 a294 a297 a298 a299 c313_rows a314 a315) _
  unfold s243_X6_walk_2
  rcases (show v3.toInt = 0 ∨ v3.toInt = 1 ∨ v3.toInt = 2 by omega) with hs | hs | hs
  · skip
    refine dz_Tle (fun h1 => ?_) (fun h1 => ?_)
    · skip
      refine dz_Ts ?_
      dsimp only
      exact ⟨(by first | assumption | omega), i2, (by first | assumption | omega), (dz_rgs (hr_a293) (by omega))⟩
    · skip
      have e2 := dz_add (a := v9) (b := v10) (by omega) (by omega)
      refine dz_Tin (by omega) (by omega) ?_
      have e3 := dz_l0
      refine dz_Teq (fun h4 => ?_) (fun h4 => ?_)
      · skip
        obtain ⟨k1, rfl⟩ : ∃ x, k0 = x + 1 := ⟨k0 - 1, by omega⟩
        show dz_T (s243_X6_walk_4 fu c248_groups c248_pots c261_groups c261_many a262 a263 a264 a281 a282 a283 c292_firstLevel c292_firstOpen c292_firstLeft c295_way a296 (F243_X6_walk fu c248_groups c248_pots c261_groups c261_many a262 a263 a264 a281 a282 a283 c292_firstLevel c292_firstOpen c292_firstLeft c295_way a296 k1).2.1 v3 v4 v5 v9 v10 a293 a294 a297 a298 a299 c313_rows a314 a315) _
        unfold s243_X6_walk_4
        have e5 := dz_l1
        have e6 := dz_add (a := v10) (b := (1 : Int32)) (by omega) (by omega)
        exact (ih k1 (by omega)) v3 v4 v5 v9 (v10 + (1 : Int32)) a293 a294 a297 a298 a299 c313_rows a314 a315 i0 i1 i2 i3 i4 i5 i6 i7 i8 (by omega) (by omega) i11 i12 (by omega) i14 i15 (hr_a293) (by omega) (by omega)
      · skip
        refine dz_Tin (by omega) (by omega) ?_
        refine dz_Tin (by omega) (by omega) ?_
        have e7 := dz_l1
        have e8 := dz_add (a := v3) (b := (1 : Int32)) (by omega) (by omega)
        have e9 := dz_mull (a := v4) (b := c261_many) 0 (by omega) (by omega) (by omega)
        have e10 := dz_add (a := (v4 * c261_many)) (b := v10) (by omega) (by omega)
        refine dz_Tb (t242_X6_walk_s fu hfu κ hκ _ _ _ _ _ _ _ _ _ _ _ _ _ _ _ _ _ _ _ _ _ _ _ _ _ _ p0 p1 p2 (by first | assumption | omega) p4 p5 p6 p7 p8 p9 p10 p11 p12 p13 (by omega) (by omega) (by omega) (by omega) (by omega) (hr_a262) (hr_a263) (hr_a264) (hr_a281) (hr_a282) (hr_a283) (hr_a296) (dz_rgx (hr_a293) (k2 := (v3 + (1 : Int32))) (by omega) (by omega) (by omega) (by omega)) (by first | assumption | omega) o1 o2 o3 o4) (fun r1 q => ?_)
        obtain ⟨q1_0, q1_1, q1_2, q1_3, qa1_0⟩ := q
        obtain ⟨k2, rfl⟩ : ∃ x, k0 = x + 1 := ⟨k0 - 1, by omega⟩
        show dz_T (s243_X6_walk_4 fu c248_groups c248_pots c261_groups c261_many a262 a263 a264 a281 a282 a283 c292_firstLevel c292_firstOpen c292_firstLeft c295_way a296 (F243_X6_walk fu c248_groups c248_pots c261_groups c261_many a262 a263 a264 a281 a282 a283 c292_firstLevel c292_firstOpen c292_firstLeft c295_way a296 k2).2.1 v3 v4 v5 v9 v10 r1.1 r1.2.1 r1.2.2.1 r1.2.2.2.1 r1.2.2.2.2.1 r1.2.2.2.2.2.1 r1.2.2.2.2.2.2.1 r1.2.2.2.2.2.2.2) _
        unfold s243_X6_walk_4
        have e11 := dz_add (a := v10) (b := (1 : Int32)) (by omega) (by omega)
        exact (ih k2 (by omega)) v3 v4 v5 v9 (v10 + (1 : Int32)) r1.1 r1.2.1 r1.2.2.1 r1.2.2.2.1 r1.2.2.2.2.1 r1.2.2.2.2.2.1 r1.2.2.2.2.2.2.1 r1.2.2.2.2.2.2.2 (by first | assumption | omega) i1 i2 i3 i4 i5 i6 i7 i8 (by omega) (by omega) i11 i12 (by omega) i14 i15 (dz_rgs (qa1_0) (by omega)) (by omega) (by omega)
  · skip
    refine dz_Tle (fun h12 => ?_) (fun h12 => ?_)
    · skip
      refine dz_Ts ?_
      dsimp only
      exact ⟨(by first | assumption | omega), i2, (by first | assumption | omega), (dz_rgs (hr_a293) (by omega))⟩
    · skip
      have e13 := dz_add (a := v9) (b := v10) (by omega) (by omega)
      refine dz_Tin (by omega) (by omega) ?_
      have e14 := dz_l0
      refine dz_Teq (fun h15 => ?_) (fun h15 => ?_)
      · skip
        obtain ⟨k3, rfl⟩ : ∃ x, k0 = x + 1 := ⟨k0 - 1, by omega⟩
        show dz_T (s243_X6_walk_4 fu c248_groups c248_pots c261_groups c261_many a262 a263 a264 a281 a282 a283 c292_firstLevel c292_firstOpen c292_firstLeft c295_way a296 (F243_X6_walk fu c248_groups c248_pots c261_groups c261_many a262 a263 a264 a281 a282 a283 c292_firstLevel c292_firstOpen c292_firstLeft c295_way a296 k3).2.1 v3 v4 v5 v9 v10 a293 a294 a297 a298 a299 c313_rows a314 a315) _
        unfold s243_X6_walk_4
        have e16 := dz_l1
        have e17 := dz_add (a := v10) (b := (1 : Int32)) (by omega) (by omega)
        exact (ih k3 (by omega)) v3 v4 v5 v9 (v10 + (1 : Int32)) a293 a294 a297 a298 a299 c313_rows a314 a315 i0 i1 i2 i3 i4 i5 i6 i7 i8 (by omega) (by omega) i11 i12 (by omega) i14 i15 (hr_a293) (by omega) (by omega)
      · skip
        refine dz_Tin (by omega) (by omega) ?_
        refine dz_Tin (by omega) (by omega) ?_
        have e18 := dz_l1
        have e19 := dz_add (a := v3) (b := (1 : Int32)) (by omega) (by omega)
        have e20 := dz_mulb (a := v4) (b := c261_many) 23 24 (by omega) (by omega) (by omega) (by omega) (by omega)
        have e21 := dz_add (a := (v4 * c261_many)) (b := v10) (by omega) (by omega)
        refine dz_Tb (t242_X6_walk_s fu hfu κ hκ _ _ _ _ _ _ _ _ _ _ _ _ _ _ _ _ _ _ _ _ _ _ _ _ _ _ p0 p1 p2 (by first | assumption | omega) p4 p5 p6 p7 p8 p9 p10 p11 p12 p13 (by omega) (by omega) (by omega) (by omega) (by omega) (hr_a262) (hr_a263) (hr_a264) (hr_a281) (hr_a282) (hr_a283) (hr_a296) (dz_rgx (hr_a293) (k2 := (v3 + (1 : Int32))) (by omega) (by omega) (by omega) (by omega)) (by first | assumption | omega) o1 o2 o3 o4) (fun r2 q => ?_)
        obtain ⟨q2_0, q2_1, q2_2, q2_3, qa2_0⟩ := q
        obtain ⟨k4, rfl⟩ : ∃ x, k0 = x + 1 := ⟨k0 - 1, by omega⟩
        show dz_T (s243_X6_walk_4 fu c248_groups c248_pots c261_groups c261_many a262 a263 a264 a281 a282 a283 c292_firstLevel c292_firstOpen c292_firstLeft c295_way a296 (F243_X6_walk fu c248_groups c248_pots c261_groups c261_many a262 a263 a264 a281 a282 a283 c292_firstLevel c292_firstOpen c292_firstLeft c295_way a296 k4).2.1 v3 v4 v5 v9 v10 r2.1 r2.2.1 r2.2.2.1 r2.2.2.2.1 r2.2.2.2.2.1 r2.2.2.2.2.2.1 r2.2.2.2.2.2.2.1 r2.2.2.2.2.2.2.2) _
        unfold s243_X6_walk_4
        have e22 := dz_add (a := v10) (b := (1 : Int32)) (by omega) (by omega)
        exact (ih k4 (by omega)) v3 v4 v5 v9 (v10 + (1 : Int32)) r2.1 r2.2.1 r2.2.2.1 r2.2.2.2.1 r2.2.2.2.2.1 r2.2.2.2.2.2.1 r2.2.2.2.2.2.2.1 r2.2.2.2.2.2.2.2 (by first | assumption | omega) i1 i2 i3 i4 i5 i6 i7 i8 (by omega) (by omega) i11 i12 (by omega) i14 i15 (dz_rgs (qa2_0) (by omega)) (by omega) (by omega)
  · skip
    refine dz_Tle (fun h23 => ?_) (fun h23 => ?_)
    · skip
      refine dz_Ts ?_
      dsimp only
      exact ⟨(by first | assumption | omega), i2, (by first | assumption | omega), (dz_rgs (hr_a293) (by omega))⟩
    · skip
      have e24 := dz_add (a := v9) (b := v10) (by omega) (by omega)
      refine dz_Tin (by omega) (by omega) ?_
      have e25 := dz_l0
      refine dz_Teq (fun h26 => ?_) (fun h26 => ?_)
      · skip
        obtain ⟨k5, rfl⟩ : ∃ x, k0 = x + 1 := ⟨k0 - 1, by omega⟩
        show dz_T (s243_X6_walk_4 fu c248_groups c248_pots c261_groups c261_many a262 a263 a264 a281 a282 a283 c292_firstLevel c292_firstOpen c292_firstLeft c295_way a296 (F243_X6_walk fu c248_groups c248_pots c261_groups c261_many a262 a263 a264 a281 a282 a283 c292_firstLevel c292_firstOpen c292_firstLeft c295_way a296 k5).2.1 v3 v4 v5 v9 v10 a293 a294 a297 a298 a299 c313_rows a314 a315) _
        unfold s243_X6_walk_4
        have e27 := dz_l1
        have e28 := dz_add (a := v10) (b := (1 : Int32)) (by omega) (by omega)
        exact (ih k5 (by omega)) v3 v4 v5 v9 (v10 + (1 : Int32)) a293 a294 a297 a298 a299 c313_rows a314 a315 i0 i1 i2 i3 i4 i5 i6 i7 i8 (by omega) (by omega) i11 i12 (by omega) i14 i15 (hr_a293) (by omega) (by omega)
      · skip
        refine dz_Tin (by omega) (by omega) ?_
        refine dz_Tin (by omega) (by omega) ?_
        have e29 := dz_l1
        have e30 := dz_add (a := v3) (b := (1 : Int32)) (by omega) (by omega)
        have e31 := dz_mulb (a := v4) (b := c261_many) 575 24 (by omega) (by omega) (by omega) (by omega) (by omega)
        have e32 := dz_add (a := (v4 * c261_many)) (b := v10) (by omega) (by omega)
        refine dz_Tb (t242_X6_walk_s fu hfu κ hκ _ _ _ _ _ _ _ _ _ _ _ _ _ _ _ _ _ _ _ _ _ _ _ _ _ _ p0 p1 p2 (by first | assumption | omega) p4 p5 p6 p7 p8 p9 p10 p11 p12 p13 (by omega) (by omega) (by omega) (by omega) (by omega) (hr_a262) (hr_a263) (hr_a264) (hr_a281) (hr_a282) (hr_a283) (hr_a296) (dz_rgx (hr_a293) (k2 := (v3 + (1 : Int32))) (by omega) (by omega) (by omega) (by omega)) (by first | assumption | omega) o1 o2 o3 o4) (fun r3 q => ?_)
        obtain ⟨q3_0, q3_1, q3_2, q3_3, qa3_0⟩ := q
        obtain ⟨k6, rfl⟩ : ∃ x, k0 = x + 1 := ⟨k0 - 1, by omega⟩
        show dz_T (s243_X6_walk_4 fu c248_groups c248_pots c261_groups c261_many a262 a263 a264 a281 a282 a283 c292_firstLevel c292_firstOpen c292_firstLeft c295_way a296 (F243_X6_walk fu c248_groups c248_pots c261_groups c261_many a262 a263 a264 a281 a282 a283 c292_firstLevel c292_firstOpen c292_firstLeft c295_way a296 k6).2.1 v3 v4 v5 v9 v10 r3.1 r3.2.1 r3.2.2.1 r3.2.2.2.1 r3.2.2.2.2.1 r3.2.2.2.2.2.1 r3.2.2.2.2.2.2.1 r3.2.2.2.2.2.2.2) _
        unfold s243_X6_walk_4
        have e33 := dz_add (a := v10) (b := (1 : Int32)) (by omega) (by omega)
        exact (ih k6 (by omega)) v3 v4 v5 v9 (v10 + (1 : Int32)) r3.1 r3.2.1 r3.2.2.1 r3.2.2.2.1 r3.2.2.2.2.1 r3.2.2.2.2.2.1 r3.2.2.2.2.2.2.1 r3.2.2.2.2.2.2.2 (by first | assumption | omega) i1 i2 i3 i4 i5 i6 i7 i8 (by omega) (by omega) i11 i12 (by omega) i14 i15 (dz_rgs (qa3_0) (by omega)) (by omega) (by omega)
theorem t243_X6_walk_I_s (fu : Nat) (hfu : 1000000000000 ≤ fu) (κ : Nat) (hκ : κ < 14) (c248_groups : Int32) (c248_pots : Int32) (c261_groups : Int32) (c261_many : Int32) (a262 : Nat → Int32) (a263 : Nat → Int32) (a264 : Nat → Int32) (a281 : Nat → Int32) (a282 : Nat → Int32) (a283 : Nat → Int32) (c292_firstLevel : Int32) (c292_firstOpen : Int32) (c292_firstLeft : Int32) (c295_way : Int32) (a296 : Nat → Int32) (gh_v3 : Int32) (p0 : c248_groups.toInt ≤ 4) (p1 : 2 ≤ c248_groups.toInt) (p2 : c248_pots.toInt ≤ 4) (p3 : 0 ≤ c248_pots.toInt) (p4 : c261_groups.toInt ≤ 4) (p5 : 0 ≤ c261_groups.toInt) (p6 : c261_many.toInt ≤ 24) (p7 : 0 ≤ c261_many.toInt) (p8 : c292_firstLevel.toInt ≤ 4) (p9 : 0 ≤ c292_firstLevel.toInt) (p10 : c292_firstOpen.toInt ≤ 16777215) (p11 : 0 ≤ c292_firstOpen.toInt) (p12 : c292_firstLeft.toInt ≤ 15) (p13 : 0 ≤ c292_firstLeft.toInt) (hr_a262 : dz_rg a262 96 0 3) (hr_a263 : dz_rq a263 (dz_kr κ) (dz_kg κ) 0 (((dz_kg κ : Nat) : Int) - 1)) (hr_a264 : dz_rg a264 16 0 16777215) (hr_a281 : dz_rg a281 601 0 16777215) (hr_a282 : dz_rg a282 5 0 14425) (hr_a283 : dz_pm a283 (dz_kp κ)) (hr_a296 : dz_rg a296 4 0 3) (o1 : c248_groups.toInt = ((dz_kg κ : Nat) : Int)) (o2 : c248_pots.toInt = ((dz_kp κ : Nat) : Int)) (o3 : c261_groups.toInt = ((dz_kg κ : Nat) : Int)) (o4 : c261_many.toInt = ((dz_kr κ : Nat) : Int)) (k : Nat) : p243_X6_walk_s fu κ c248_groups c248_pots c261_groups c261_many a262 a263 a264 a281 a282 a283 c292_firstLevel c292_firstOpen c292_firstLeft c295_way a296 gh_v3 k := by
  induction k using Nat.strongRecOn with
  | _ k ih => exact t243_X6_walk_h2_s fu hfu κ hκ c248_groups c248_pots c261_groups c261_many a262 a263 a264 a281 a282 a283 c292_firstLevel c292_firstOpen c292_firstLeft c295_way a296 gh_v3 p0 p1 p2 p3 p4 p5 p6 p7 p8 p9 p10 p11 p12 p13 hr_a262 hr_a263 hr_a264 hr_a281 hr_a282 hr_a283 hr_a296 o1 o2 o3 o4 k ih
set_option maxHeartbeats 1000000 in
set_option maxRecDepth 10000 in
theorem t243_X6_walk_E_s (fu : Nat) (hfu : 1000000000000 ≤ fu) (κ : Nat) (hκ : κ < 14) (c248_groups : Int32) (c248_pots : Int32) (c261_groups : Int32) (c261_many : Int32) (a262 : Nat → Int32) (a263 : Nat → Int32) (a264 : Nat → Int32) (a281 : Nat → Int32) (a282 : Nat → Int32) (a283 : Nat → Int32) (c292_firstLevel : Int32) (c292_firstOpen : Int32) (c292_firstLeft : Int32) (c295_way : Int32) (a296 : Nat → Int32) (v3 : Int32) (v4 : Int32) (v5 : Int64) (a293 : Nat → Int32) (a294 : Nat → Int64) (a297 : Nat → Int64) (a298 : Nat → Int32) (a299 : Nat → Int64) (c313_rows : Int64) (a314 : Nat → Int64) (a315 : Nat → Int64) (p0 : c248_groups.toInt ≤ 4) (p1 : 2 ≤ c248_groups.toInt) (p2 : c248_pots.toInt ≤ 4) (p3 : 0 ≤ c248_pots.toInt) (p4 : c261_groups.toInt ≤ 4) (p5 : 0 ≤ c261_groups.toInt) (p6 : c261_many.toInt ≤ 24) (p7 : 0 ≤ c261_many.toInt) (p8 : c292_firstLevel.toInt ≤ 4) (p9 : 0 ≤ c292_firstLevel.toInt) (p10 : c292_firstOpen.toInt ≤ 16777215) (p11 : 0 ≤ c292_firstOpen.toInt) (p12 : c292_firstLeft.toInt ≤ 15) (p13 : 0 ≤ c292_firstLeft.toInt) (p14 : 0 ≤ v3.toInt) (p15 : v3.toInt ≤ c248_pots.toInt) (p16 : v3.toInt ≤ 4) (p17 : 0 ≤ v4.toInt) (p18 : v4.toInt ≤ 331775) (hr_a262 : dz_rg a262 96 0 3) (hr_a263 : dz_rq a263 (dz_kr κ) (dz_kg κ) 0 (((dz_kg κ : Nat) : Int) - 1)) (hr_a264 : dz_rg a264 16 0 16777215) (hr_a281 : dz_rg a281 601 0 16777215) (hr_a282 : dz_rg a282 5 0 14425) (hr_a283 : dz_pm a283 (dz_kp κ)) (hr_a296 : dz_rg a296 4 0 3) (hr_a293 : dz_rg a293 v3.toInt.toNat 0 (((dz_kr κ : Nat) : Int) - 1)) (o0 : ((v3.toInt = 0 ∧ v4.toInt < 1) ∨ (v3.toInt = 1 ∧ v4.toInt < 24) ∨ (v3.toInt = 2 ∧ v4.toInt < 576) ∨ (v3.toInt = 3 ∧ v4.toInt < 13824) ∨ (v3.toInt = 4 ∧ v4.toInt < 331776))) (o1 : c248_groups.toInt = ((dz_kg κ : Nat) : Int)) (o2 : c248_pots.toInt = ((dz_kp κ : Nat) : Int)) (o3 : c261_groups.toInt = ((dz_kg κ : Nat) : Int)) (o4 : c261_many.toInt = ((dz_kr κ : Nat) : Int)) (kv : Nat) (hkv : 1000000000000 ≤ kv) : dz_T (s243_X6_walk_0 fu c248_groups c248_pots c261_groups c261_many a262 a263 a264 a281 a282 a283 c292_firstLevel c292_firstOpen c292_firstLeft c295_way a296 (F243_X6_walk fu c248_groups c248_pots c261_groups c261_many a262 a263 a264 a281 a282 a283 c292_firstLevel c292_firstOpen c292_firstLeft c295_way a296 kv).1  v3 v4 v5 a293 a294 a297 a298 a299 c313_rows a314 a315) (fun r => v3.toInt ≤ 4 ∧ 0 ≤ v3.toInt ∧ v3.toInt ≤ c248_pots.toInt ∧ dz_rg r.1 v3.toInt.toNat 0 (((dz_kr κ : Nat) : Int) - 1)) := by
  unfold s243_X6_walk_0
  refine dz_Tlt (fun h1 => ?_) (fun h1 => ?_)
  · skip
    refine dz_Tb (t180_X10_ranksOpen fu hfu _ _ _ _ (by first | assumption | omega) (hr_a281) (hr_a282)) (fun r1 q => ?_)
    obtain ⟨q1_0, q1_1⟩ := q
    refine dz_Teq (fun h2 => ?_) (fun h2 => ?_)
    · skip
      obtain ⟨k1, rfl⟩ : ∃ x, kv = x + 1 := ⟨kv - 1, by omega⟩
      show dz_T (s243_X6_walk_1 fu c248_groups c248_pots c261_groups c261_many a262 a263 a264 a281 a282 a283 c292_firstLevel c292_firstOpen c292_firstLeft c295_way a296 (F243_X6_walk fu c248_groups c248_pots c261_groups c261_many a262 a263 a264 a281 a282 a283 c292_firstLevel c292_firstOpen c292_firstLeft c295_way a296 k1).2.1 (F243_X6_walk fu c248_groups c248_pots c261_groups c261_many a262 a263 a264 a281 a282 a283 c292_firstLevel c292_firstOpen c292_firstLeft c295_way a296 k1).2.2.1 v3 v4 v5 (r1 &&& c292_firstOpen) c292_firstLeft a293 a294 a297 a298 a299 c313_rows a314 a315) _
      unfold s243_X6_walk_1
      have e3 := dz_l1
      have e4 := dz_sub (a := c248_pots) (b := (1 : Int32)) (by omega) (by omega)
      refine dz_Teq (fun h5 => ?_) (fun h5 => ?_)
      · skip
        have e6 := dz_andr (a := r1) (b := c292_firstOpen) (by omega)
        have e7 := dz_andl (a := r1) (b := c292_firstOpen) (by omega)
        refine dz_Tb (t232_X7_slotOf_s fu hfu κ hκ _ _ _ p4 p5 (by omega) o3) (fun r2 q => ?_)
        obtain ⟨q2_0, q2_1⟩ := q
        refine dz_Tbe (show f233_X7_isKept fu a298 r2 (r1 &&& c292_firstOpen) = (if ((64 : Int32) ≤ r2) then (some (0 : Int32)) else (if dz_in r2 64 then (if ((a298 r2.toNatClampNeg) = (r1 &&& c292_firstOpen)) then (some (1 : Int32)) else (some (0 : Int32))) else none)) from rfl) ?_
        have e8 := dz_l64
        refine dz_Tleb (fun h9 => ?_) (fun h9 => ?_)
        · skip
          refine dz_Tsb ?_
          have e10 := dz_l0
          refine dz_Teq (fun h11 => ?_) (fun h11 => ?_)
          · skip
            refine dz_Tb (t231_X7_fillRows_s fu hfu κ hκ _ _ _ _ _ _ _ _ p4 p5 p6 p7 (by omega) (by omega) p13 p12 (hr_a264) (hr_a296) o3 o4) (fun r4 _ => ?_)
            refine dz_Tb (t235_X7_keepRows_s fu hfu κ hκ _ _ _ _ _ _ _ _ p4 p5 p6 p7 q2_1 q2_0 (hr_a262) o3 o4) (fun r5 _ => ?_)
            obtain ⟨k2, rfl⟩ : ∃ x, k1 = x + 1 := ⟨k1 - 1, by omega⟩
            show dz_T (s243_X6_walk_3 fu c248_groups c248_pots c261_groups c261_many a262 a263 a264 a281 a282 a283 c292_firstLevel c292_firstOpen c292_firstLeft c295_way a296 v5 r2 a293 a294 r4 r5.1 r5.2 c313_rows a314 a315) _
            unfold s243_X6_walk_3
            have e12 := dz_l16
            have e13 := dz_mull (a := r2) (b := (16 : Int32)) 64 (by omega) (by omega) (by omega)
            refine dz_Tb (t237_X6_addLast_s fu hfu κ hκ _ _ _ _ _ _ _ _ _ _ _ p0 p1 p2 p3 (by omega) (by omega) (by first | assumption | omega) (hr_a263) (hr_a283) (dz_rgs (hr_a293) (by omega)) o1 o2) (fun r6 _ => ?_)
            refine dz_Ts ?_
            dsimp only
            exact ⟨(by first | assumption | omega), (by first | assumption | omega), (by first | assumption | omega), (dz_rgs (hr_a293) (by omega))⟩
          · skip
            exfalso; omega
        · skip
          refine dz_Tinb (by omega) (by omega) ?_
          refine dz_Teqb (fun h14 => ?_) (fun h14 => ?_)
          · skip
            refine dz_Tsb ?_
            have e15 := dz_l0
            refine dz_Teq (fun h16 => ?_) (fun h16 => ?_)
            · skip
              exfalso; omega
            · skip
              obtain ⟨k3, rfl⟩ : ∃ x, k1 = x + 1 := ⟨k1 - 1, by omega⟩
              show dz_T (s243_X6_walk_3 fu c248_groups c248_pots c261_groups c261_many a262 a263 a264 a281 a282 a283 c292_firstLevel c292_firstOpen c292_firstLeft c295_way a296 v5 r2 a293 a294 a297 a298 a299 c313_rows a314 a315) _
              unfold s243_X6_walk_3
              have e17 := dz_l16
              have e18 := dz_mulr (a := r2) (b := (16 : Int32)) 16 (by omega) (by omega) (by omega)
              refine dz_Tb (t237_X6_addLast_s fu hfu κ hκ _ _ _ _ _ _ _ _ _ _ _ p0 p1 p2 p3 (by omega) (by omega) (by first | assumption | omega) (hr_a263) (hr_a283) (dz_rgs (hr_a293) (by omega)) o1 o2) (fun r7 _ => ?_)
              refine dz_Ts ?_
              dsimp only
              exact ⟨(by first | assumption | omega), (by first | assumption | omega), (by first | assumption | omega), (dz_rgs (hr_a293) (by omega))⟩
          · skip
            refine dz_Tsb ?_
            have e19 := dz_l0
            refine dz_Teq (fun h20 => ?_) (fun h20 => ?_)
            · skip
              refine dz_Tb (t231_X7_fillRows_s fu hfu κ hκ _ _ _ _ _ _ _ _ p4 p5 p6 p7 (by omega) (by omega) p13 p12 (hr_a264) (hr_a296) o3 o4) (fun r8 _ => ?_)
              refine dz_Tb (t235_X7_keepRows_s fu hfu κ hκ _ _ _ _ _ _ _ _ p4 p5 p6 p7 q2_1 q2_0 (hr_a262) o3 o4) (fun r9 _ => ?_)
              obtain ⟨k4, rfl⟩ : ∃ x, k1 = x + 1 := ⟨k1 - 1, by omega⟩
              show dz_T (s243_X6_walk_3 fu c248_groups c248_pots c261_groups c261_many a262 a263 a264 a281 a282 a283 c292_firstLevel c292_firstOpen c292_firstLeft c295_way a296 v5 r2 a293 a294 r8 r9.1 r9.2 c313_rows a314 a315) _
              unfold s243_X6_walk_3
              have e21 := dz_l16
              have e22 := dz_mulr (a := r2) (b := (16 : Int32)) 16 (by omega) (by omega) (by omega)
              refine dz_Tb (t237_X6_addLast_s fu hfu κ hκ _ _ _ _ _ _ _ _ _ _ _ p0 p1 p2 p3 (by omega) (by omega) (by first | assumption | omega) (hr_a263) (hr_a283) (dz_rgs (hr_a293) (by omega)) o1 o2) (fun r10 _ => ?_)
              refine dz_Ts ?_
              dsimp only
              exact ⟨(by first | assumption | omega), (by first | assumption | omega), (by first | assumption | omega), (dz_rgs (hr_a293) (by omega))⟩
            · skip
              exfalso; omega
      · skip
        have e23 := dz_andr (a := r1) (b := c292_firstOpen) (by omega)
        have e24 := dz_andl (a := r1) (b := c292_firstOpen) (by omega)
        refine dz_Tb (t231_X7_fillRows_s fu hfu κ hκ _ _ _ _ _ _ _ _ p4 p5 p6 p7 (by omega) (by omega) p13 p12 (hr_a264) (hr_a296) o3 o4) (fun r11 _ => ?_)
        have e25 := dz_l0
        refine dz_Tng (by omega) ?_
        have e26 := dz_l24
        have e27 := dz_mulr (a := v3) (b := (24 : Int32)) 24 (by omega) (by omega) (by omega)
        refine dz_Tng (by omega) ?_
        refine dz_Tng (by omega) ?_
        have e28 := dz_tn (0 : Int32)
        have e29 := dz_tn (24 : Int32)
        refine dz_Tg (by omega) ?_
        have e30 := dz_tn (v3 * (24 : Int32))
        refine dz_Tg (by omega) ?_
        exact (t243_X6_walk_I_s fu hfu κ hκ c248_groups c248_pots c261_groups c261_many a262 a263 a264 a281 a282 a283 c292_firstLevel c292_firstOpen c292_firstLeft c295_way a296 v3 p0 p1 p2 p3 p4 p5 p6 p7 p8 p9 p10 p11 p12 p13 hr_a262 hr_a263 hr_a264 hr_a281 hr_a282 hr_a283 hr_a296 o1 o2 o3 o4 k1) v3 v4 v5 (v3 * (24 : Int32)) (0 : Int32) a293 (va_cpy r11 a294 (0 : Int32).toNatClampNeg (v3 * (24 : Int32)).toNatClampNeg (24 : Int32).toNatClampNeg) r11 a298 a299 c313_rows a314 a315 (by first | assumption | omega) (by first | assumption | omega) (by first | assumption | omega) (by first | assumption | omega) p14 p18 p17 (by omega) (by omega) (by omega) (by omega) (by first | assumption | omega) (by omega) (by omega) (by first | assumption | omega) (by first | assumption | omega) (hr_a293) (by omega) (by omega)
    · skip
      obtain ⟨k5, rfl⟩ : ∃ x, kv = x + 1 := ⟨kv - 1, by omega⟩
      show dz_T (s243_X6_walk_1 fu c248_groups c248_pots c261_groups c261_many a262 a263 a264 a281 a282 a283 c292_firstLevel c292_firstOpen c292_firstLeft c295_way a296 (F243_X6_walk fu c248_groups c248_pots c261_groups c261_many a262 a263 a264 a281 a282 a283 c292_firstLevel c292_firstOpen c292_firstLeft c295_way a296 k5).2.1 (F243_X6_walk fu c248_groups c248_pots c261_groups c261_many a262 a263 a264 a281 a282 a283 c292_firstLevel c292_firstOpen c292_firstLeft c295_way a296 k5).2.2.1 v3 v4 v5 r1 (((1 : Int32) <<< (c248_groups &&& (31 : Int32))) - (1 : Int32)) a293 a294 a297 a298 a299 c313_rows a314 a315) _
      unfold s243_X6_walk_1
      have e31 := dz_l1
      have e32 := dz_sub (a := c248_pots) (b := (1 : Int32)) (by omega) (by omega)
      refine dz_Teq (fun h33 => ?_) (fun h33 => ?_)
      · skip
        have e34 := dz_l31
        have e35 := dz_andr (a := c248_groups) (b := (31 : Int32)) (by omega)
        have e36 := dz_andl (a := c248_groups) (b := (31 : Int32)) (by omega)
        have e37 := dz_shl1 (b := c248_groups) 2 4 (by omega) (by omega) (by omega)
        have e38 := dz_sub (a := ((1 : Int32) <<< (c248_groups &&& (31 : Int32)))) (b := (1 : Int32)) (by omega) (by omega)
        refine dz_Tb (t232_X7_slotOf_s fu hfu κ hκ _ _ _ p4 p5 q1_1 o3) (fun r12 q => ?_)
        obtain ⟨q12_0, q12_1⟩ := q
        refine dz_Tbe (show f233_X7_isKept fu a298 r12 r1 = (if ((64 : Int32) ≤ r12) then (some (0 : Int32)) else (if dz_in r12 64 then (if ((a298 r12.toNatClampNeg) = r1) then (some (1 : Int32)) else (some (0 : Int32))) else none)) from rfl) ?_
        have e39 := dz_l64
        refine dz_Tleb (fun h40 => ?_) (fun h40 => ?_)
        · skip
          refine dz_Tsb ?_
          have e41 := dz_l0
          refine dz_Teq (fun h42 => ?_) (fun h42 => ?_)
          · skip
            refine dz_Tb (t231_X7_fillRows_s fu hfu κ hκ _ _ _ _ _ _ _ _ p4 p5 p6 p7 q1_1 q1_0 (by omega) (by omega) (hr_a264) (hr_a296) o3 o4) (fun r14 _ => ?_)
            refine dz_Tb (t235_X7_keepRows_s fu hfu κ hκ _ _ _ _ _ _ _ _ p4 p5 p6 p7 q12_1 q12_0 (hr_a262) o3 o4) (fun r15 _ => ?_)
            obtain ⟨k6, rfl⟩ : ∃ x, k5 = x + 1 := ⟨k5 - 1, by omega⟩
            show dz_T (s243_X6_walk_3 fu c248_groups c248_pots c261_groups c261_many a262 a263 a264 a281 a282 a283 c292_firstLevel c292_firstOpen c292_firstLeft c295_way a296 v5 r12 a293 a294 r14 r15.1 r15.2 c313_rows a314 a315) _
            unfold s243_X6_walk_3
            have e43 := dz_l16
            have e44 := dz_mull (a := r12) (b := (16 : Int32)) 64 (by omega) (by omega) (by omega)
            refine dz_Tb (t237_X6_addLast_s fu hfu κ hκ _ _ _ _ _ _ _ _ _ _ _ p0 p1 p2 p3 (by omega) (by omega) (by first | assumption | omega) (hr_a263) (hr_a283) (dz_rgs (hr_a293) (by omega)) o1 o2) (fun r16 _ => ?_)
            refine dz_Ts ?_
            dsimp only
            exact ⟨(by first | assumption | omega), (by first | assumption | omega), (by first | assumption | omega), (dz_rgs (hr_a293) (by omega))⟩
          · skip
            exfalso; omega
        · skip
          refine dz_Tinb (by omega) (by omega) ?_
          refine dz_Teqb (fun h45 => ?_) (fun h45 => ?_)
          · skip
            refine dz_Tsb ?_
            have e46 := dz_l0
            refine dz_Teq (fun h47 => ?_) (fun h47 => ?_)
            · skip
              exfalso; omega
            · skip
              obtain ⟨k7, rfl⟩ : ∃ x, k5 = x + 1 := ⟨k5 - 1, by omega⟩
              show dz_T (s243_X6_walk_3 fu c248_groups c248_pots c261_groups c261_many a262 a263 a264 a281 a282 a283 c292_firstLevel c292_firstOpen c292_firstLeft c295_way a296 v5 r12 a293 a294 a297 a298 a299 c313_rows a314 a315) _
              unfold s243_X6_walk_3
              have e48 := dz_l16
              have e49 := dz_mulr (a := r12) (b := (16 : Int32)) 16 (by omega) (by omega) (by omega)
              refine dz_Tb (t237_X6_addLast_s fu hfu κ hκ _ _ _ _ _ _ _ _ _ _ _ p0 p1 p2 p3 (by omega) (by omega) (by first | assumption | omega) (hr_a263) (hr_a283) (dz_rgs (hr_a293) (by omega)) o1 o2) (fun r17 _ => ?_)
              refine dz_Ts ?_
              dsimp only
              exact ⟨(by first | assumption | omega), (by first | assumption | omega), (by first | assumption | omega), (dz_rgs (hr_a293) (by omega))⟩
          · skip
            refine dz_Tsb ?_
            have e50 := dz_l0
            refine dz_Teq (fun h51 => ?_) (fun h51 => ?_)
            · skip
              refine dz_Tb (t231_X7_fillRows_s fu hfu κ hκ _ _ _ _ _ _ _ _ p4 p5 p6 p7 q1_1 q1_0 (by omega) (by omega) (hr_a264) (hr_a296) o3 o4) (fun r18 _ => ?_)
              refine dz_Tb (t235_X7_keepRows_s fu hfu κ hκ _ _ _ _ _ _ _ _ p4 p5 p6 p7 q12_1 q12_0 (hr_a262) o3 o4) (fun r19 _ => ?_)
              obtain ⟨k8, rfl⟩ : ∃ x, k5 = x + 1 := ⟨k5 - 1, by omega⟩
              show dz_T (s243_X6_walk_3 fu c248_groups c248_pots c261_groups c261_many a262 a263 a264 a281 a282 a283 c292_firstLevel c292_firstOpen c292_firstLeft c295_way a296 v5 r12 a293 a294 r18 r19.1 r19.2 c313_rows a314 a315) _
              unfold s243_X6_walk_3
              have e52 := dz_l16
              have e53 := dz_mulr (a := r12) (b := (16 : Int32)) 16 (by omega) (by omega) (by omega)
              refine dz_Tb (t237_X6_addLast_s fu hfu κ hκ _ _ _ _ _ _ _ _ _ _ _ p0 p1 p2 p3 (by omega) (by omega) (by first | assumption | omega) (hr_a263) (hr_a283) (dz_rgs (hr_a293) (by omega)) o1 o2) (fun r20 _ => ?_)
              refine dz_Ts ?_
              dsimp only
              exact ⟨(by first | assumption | omega), (by first | assumption | omega), (by first | assumption | omega), (dz_rgs (hr_a293) (by omega))⟩
            · skip
              exfalso; omega
      · skip
        have e54 := dz_l31
        have e55 := dz_andr (a := c248_groups) (b := (31 : Int32)) (by omega)
        have e56 := dz_andl (a := c248_groups) (b := (31 : Int32)) (by omega)
        have e57 := dz_shl1 (b := c248_groups) 2 4 (by omega) (by omega) (by omega)
        have e58 := dz_sub (a := ((1 : Int32) <<< (c248_groups &&& (31 : Int32)))) (b := (1 : Int32)) (by omega) (by omega)
        refine dz_Tb (t231_X7_fillRows_s fu hfu κ hκ _ _ _ _ _ _ _ _ p4 p5 p6 p7 q1_1 q1_0 (by omega) (by omega) (hr_a264) (hr_a296) o3 o4) (fun r21 _ => ?_)
        have e59 := dz_l0
        refine dz_Tng (by omega) ?_
        have e60 := dz_l24
        have e61 := dz_mulr (a := v3) (b := (24 : Int32)) 24 (by omega) (by omega) (by omega)
        refine dz_Tng (by omega) ?_
        refine dz_Tng (by omega) ?_
        have e62 := dz_tn (0 : Int32)
        have e63 := dz_tn (24 : Int32)
        refine dz_Tg (by omega) ?_
        have e64 := dz_tn (v3 * (24 : Int32))
        refine dz_Tg (by omega) ?_
        exact (t243_X6_walk_I_s fu hfu κ hκ c248_groups c248_pots c261_groups c261_many a262 a263 a264 a281 a282 a283 c292_firstLevel c292_firstOpen c292_firstLeft c295_way a296 v3 p0 p1 p2 p3 p4 p5 p6 p7 p8 p9 p10 p11 p12 p13 hr_a262 hr_a263 hr_a264 hr_a281 hr_a282 hr_a283 hr_a296 o1 o2 o3 o4 k5) v3 v4 v5 (v3 * (24 : Int32)) (0 : Int32) a293 (va_cpy r21 a294 (0 : Int32).toNatClampNeg (v3 * (24 : Int32)).toNatClampNeg (24 : Int32).toNatClampNeg) r21 a298 a299 c313_rows a314 a315 (by first | assumption | omega) (by first | assumption | omega) (by first | assumption | omega) (by first | assumption | omega) p14 p18 p17 (by omega) (by omega) (by omega) (by omega) (by first | assumption | omega) (by omega) (by omega) (by first | assumption | omega) (by first | assumption | omega) (hr_a293) (by omega) (by omega)
  · skip
    refine dz_Ts ?_
    dsimp only
    exact ⟨(by first | assumption | omega), (by first | assumption | omega), (by first | assumption | omega), (dz_rgs (hr_a293) (by omega))⟩
theorem t243_X6_walk_s (fu : Nat) (hfu : 1000000000000 ≤ fu) (κ : Nat) (hκ : κ < 14) (c248_groups : Int32) (c248_pots : Int32) (c261_groups : Int32) (c261_many : Int32) (a262 : Nat → Int32) (a263 : Nat → Int32) (a264 : Nat → Int32) (a281 : Nat → Int32) (a282 : Nat → Int32) (a283 : Nat → Int32) (c292_firstLevel : Int32) (c292_firstOpen : Int32) (c292_firstLeft : Int32) (c295_way : Int32) (a296 : Nat → Int32) (v3 : Int32) (v4 : Int32) (v5 : Int64) (a293 : Nat → Int32) (a294 : Nat → Int64) (a297 : Nat → Int64) (a298 : Nat → Int32) (a299 : Nat → Int64) (c313_rows : Int64) (a314 : Nat → Int64) (a315 : Nat → Int64) (p0 : c248_groups.toInt ≤ 4) (p1 : 2 ≤ c248_groups.toInt) (p2 : c248_pots.toInt ≤ 4) (p3 : 0 ≤ c248_pots.toInt) (p4 : c261_groups.toInt ≤ 4) (p5 : 0 ≤ c261_groups.toInt) (p6 : c261_many.toInt ≤ 24) (p7 : 0 ≤ c261_many.toInt) (p8 : c292_firstLevel.toInt ≤ 4) (p9 : 0 ≤ c292_firstLevel.toInt) (p10 : c292_firstOpen.toInt ≤ 16777215) (p11 : 0 ≤ c292_firstOpen.toInt) (p12 : c292_firstLeft.toInt ≤ 15) (p13 : 0 ≤ c292_firstLeft.toInt) (p14 : 0 ≤ v3.toInt) (p15 : v3.toInt ≤ c248_pots.toInt) (p16 : v3.toInt ≤ 4) (p17 : 0 ≤ v4.toInt) (p18 : v4.toInt ≤ 331775) (hr_a262 : dz_rg a262 96 0 3) (hr_a263 : dz_rq a263 (dz_kr κ) (dz_kg κ) 0 (((dz_kg κ : Nat) : Int) - 1)) (hr_a264 : dz_rg a264 16 0 16777215) (hr_a281 : dz_rg a281 601 0 16777215) (hr_a282 : dz_rg a282 5 0 14425) (hr_a283 : dz_pm a283 (dz_kp κ)) (hr_a296 : dz_rg a296 4 0 3) (hr_a293 : dz_rg a293 v3.toInt.toNat 0 (((dz_kr κ : Nat) : Int) - 1)) (o0 : ((v3.toInt = 0 ∧ v4.toInt < 1) ∨ (v3.toInt = 1 ∧ v4.toInt < 24) ∨ (v3.toInt = 2 ∧ v4.toInt < 576) ∨ (v3.toInt = 3 ∧ v4.toInt < 13824) ∨ (v3.toInt = 4 ∧ v4.toInt < 331776))) (o1 : c248_groups.toInt = ((dz_kg κ : Nat) : Int)) (o2 : c248_pots.toInt = ((dz_kp κ : Nat) : Int)) (o3 : c261_groups.toInt = ((dz_kg κ : Nat) : Int)) (o4 : c261_many.toInt = ((dz_kr κ : Nat) : Int)) : dz_T (f243_X6_walk fu c248_groups c248_pots c261_groups c261_many a262 a263 a264 a281 a282 a283 c292_firstLevel c292_firstOpen c292_firstLeft c295_way a296 v3 v4 v5 a293 a294 a297 a298 a299 c313_rows a314 a315) (fun r => v3.toInt ≤ 4 ∧ 0 ≤ v3.toInt ∧ v3.toInt ≤ c248_pots.toInt ∧ dz_rg r.1 v3.toInt.toNat 0 (((dz_kr κ : Nat) : Int) - 1)) :=
  t243_X6_walk_E_s fu hfu κ hκ c248_groups c248_pots c261_groups c261_many a262 a263 a264 a281 a282 a283 c292_firstLevel c292_firstOpen c292_firstLeft c295_way a296 v3 v4 v5 a293 a294 a297 a298 a299 c313_rows a314 a315 p0 p1 p2 p3 p4 p5 p6 p7 p8 p9 p10 p11 p12 p13 p14 p15 p16 p17 p18 hr_a262 hr_a263 hr_a264 hr_a281 hr_a282 hr_a283 hr_a296 hr_a293 o0 o1 o2 o3 o4 fu hfu
set_option maxHeartbeats 1000000 in
set_option maxRecDepth 10000 in
theorem t244_X6_reckon_s (fu : Nat) (hfu : 1000000000000 ≤ fu) (κ : Nat) (hκ : κ < 14) (c248_groups : Int32) (c248_pots : Int32) (c261_groups : Int32) (c261_many : Int32) (a262 : Nat → Int32) (a263 : Nat → Int32) (a264 : Nat → Int32) (a281 : Nat → Int32) (a282 : Nat → Int32) (a283 : Nat → Int32) (c292_firstLevel : Int32) (c292_firstPrefix : Int32) (c292_firstOpen : Int32) (c292_firstLeft : Int32) (c295_way : Int32) (a296 : Nat → Int32) (a293 : Nat → Int32) (a294 : Nat → Int64) (a297 : Nat → Int64) (a298 : Nat → Int32) (a299 : Nat → Int64) (c313_rows : Int64) (c313_fresh : Int32) (a314 : Nat → Int64) (a315 : Nat → Int64) (p0 : c248_groups.toInt ≤ 4) (p1 : 2 ≤ c248_groups.toInt) (p2 : c248_pots.toInt ≤ 4) (p3 : 0 ≤ c248_pots.toInt) (p4 : c261_groups.toInt ≤ 4) (p5 : 0 ≤ c261_groups.toInt) (p6 : c261_many.toInt ≤ 24) (p7 : 0 ≤ c261_many.toInt) (p8 : c292_firstLevel.toInt ≤ 4) (p9 : 0 ≤ c292_firstLevel.toInt) (p10 : c292_firstPrefix.toInt ≤ 331775) (p11 : 0 ≤ c292_firstPrefix.toInt) (p12 : c292_firstOpen.toInt ≤ 16777215) (p13 : 0 ≤ c292_firstOpen.toInt) (p14 : c292_firstLeft.toInt ≤ 15) (p15 : 0 ≤ c292_firstLeft.toInt) (hr_a262 : dz_rg a262 96 0 3) (hr_a263 : dz_rq a263 (dz_kr κ) (dz_kg κ) 0 (((dz_kg κ : Nat) : Int) - 1)) (hr_a264 : dz_rg a264 16 0 16777215) (hr_a281 : dz_rg a281 601 0 16777215) (hr_a282 : dz_rg a282 5 0 14425) (hr_a283 : dz_pm a283 (dz_kp κ)) (hr_a296 : dz_rg a296 4 0 3) (hr_a293 : dz_rg a293 c292_firstLevel.toInt.toNat 0 (((dz_kr κ : Nat) : Int) - 1)) (o0 : ((c292_firstLevel.toInt = 0 ∧ c292_firstPrefix.toInt < 1) ∨ (c292_firstLevel.toInt = 1 ∧ c292_firstPrefix.toInt < 24) ∨ (c292_firstLevel.toInt = 2 ∧ c292_firstPrefix.toInt < 576) ∨ (c292_firstLevel.toInt = 3 ∧ c292_firstPrefix.toInt < 13824) ∨ (c292_firstLevel.toInt = 4 ∧ c292_firstPrefix.toInt < 331776))) (o1 : c248_groups.toInt = ((dz_kg κ : Nat) : Int)) (o2 : c248_pots.toInt = ((dz_kp κ : Nat) : Int)) (o3 : c261_groups.toInt = ((dz_kg κ : Nat) : Int)) (o4 : c261_many.toInt = ((dz_kr κ : Nat) : Int)) : dz_T (f244_X6_reckon fu c248_groups c248_pots c261_groups c261_many a262 a263 a264 a281 a282 a283 c292_firstLevel c292_firstPrefix c292_firstOpen c292_firstLeft c295_way a296 a293 a294 a297 a298 a299 c313_rows c313_fresh a314 a315) (fun r => dz_rg r.1 c292_firstLevel.toInt.toNat 0 (((dz_kr κ : Nat) : Int) - 1)) := by
  unfold f244_X6_reckon s244_X6_reckon_0
  refine dz_Tb (t207_X1_forget fu hfu _ _ _ ) (fun r1 _ => ?_)
  refine dz_Tle (fun h1 => ?_) (fun h1 => ?_)
  · skip
    refine dz_Tb (t208_X6_addAhead_s fu hfu κ hκ _ _ _ _ _ _ _ _ _ p0 p1 p3 p2 (hr_a263) (hr_a283) (dz_rgs (hr_a293) (by omega)) (by first | assumption | omega) o1) (fun r2 _ => ?_)
    unfold d244_X6_reckon_1 s244_X6_reckon_1
    have e2 := dz_l1
    refine dz_Ts ?_
    dsimp only
    exact (hr_a293)
  · skip
    refine dz_Tb (t243_X6_walk_s fu hfu κ hκ _ _ _ _ _ _ _ _ _ _ _ _ _ _ _ _ _ _ _ _ _ _ _ _ _ _ p0 p1 p2 p3 p4 p5 p6 p7 p8 p9 p12 p13 p14 p15 p9 (by first | assumption | omega) p8 p11 p10 (hr_a262) (hr_a263) (hr_a264) (hr_a281) (hr_a282) (hr_a283) (hr_a296) (hr_a293) o0 o1 o2 o3 o4) (fun r3 q => ?_)
    obtain ⟨q3_0, q3_1, q3_2, qa3_0⟩ := q
    unfold d244_X6_reckon_1 s244_X6_reckon_1
    have e3 := dz_l1
    refine dz_Ts ?_
    dsimp only
    exact (qa3_0)
set_option maxHeartbeats 1000000 in
set_option maxRecDepth 10000 in
theorem t245_X11_chancesAtStart_s (fu : Nat) (hfu : 1000000000000 ≤ fu) (κ : Nat) (hκ : κ < 14) (c248_groups : Int32) (c248_pots : Int32) (c261_groups : Int32) (c261_many : Int32) (c261_everyRank : Int32) (a262 : Nat → Int32) (a263 : Nat → Int32) (a264 : Nat → Int32) (c267_total : Int32) (a268 : Nat → Int32) (a269 : Nat → Int32) (n269 : Nat) (a275 : Nat → Int32) (a276 : Nat → Int32) (v1 : Int32) (c280_fresh : Int32) (a281 : Nat → Int32) (a282 : Nat → Int32) (a283 : Nat → Int32) (c292_firstLevel : Int32) (c292_firstPrefix : Int32) (c292_firstOpen : Int32) (c292_firstLeft : Int32) (a293 : Nat → Int32) (a294 : Nat → Int64) (c295_way : Int32) (a296 : Nat → Int32) (a297 : Nat → Int64) (a298 : Nat → Int32) (a299 : Nat → Int64) (c310_rows : Int64) (c310_fresh : Int32) (a311 : Nat → Int64) (a312 : Nat → Int64) (c316_rows : Int64) (c316_fresh : Int32) (a317 : Nat → Int64) (a318 : Nat → Int64) (c322_rows : Int64) (c322_fresh : Int32) (a323 : Nat → Int64) (a324 : Nat → Int64) (p0 : c248_groups.toInt ≤ 4) (p1 : 2 ≤ c248_groups.toInt) (p2 : c248_pots.toInt ≤ 4) (p3 : 0 ≤ c248_pots.toInt) (p4 : c261_groups.toInt ≤ 4) (p5 : 0 ≤ c261_groups.toInt) (p6 : c261_many.toInt ≤ 24) (p7 : 0 ≤ c261_many.toInt) (p8 : c261_everyRank.toInt ≤ 16777215) (p9 : 0 ≤ c261_everyRank.toInt) (p10 : c267_total.toInt ≤ 13824) (p11 : 1 ≤ c267_total.toInt) (p12 : ((n269 : Nat) : Int) ≤ 13824) (p13 : 1 ≤ ((n269 : Nat) : Int)) (p14 : c280_fresh.toInt ≤ 1) (p15 : 0 ≤ c280_fresh.toInt) (p16 : c292_firstLevel.toInt ≤ 4) (p17 : 0 ≤ c292_firstLevel.toInt) (p18 : c292_firstPrefix.toInt ≤ 331775) (p19 : 0 ≤ c292_firstPrefix.toInt) (p20 : c292_firstOpen.toInt ≤ 16777215) (p21 : 0 ≤ c292_firstOpen.toInt) (p22 : c292_firstLeft.toInt ≤ 15) (p23 : 0 ≤ c292_firstLeft.toInt) (p24 : c267_total.toInt ≤ ((n269 : Nat) : Int)) (p25 : 0 ≤ v1.toInt) (p26 : v1.toInt ≤ 2) (hr_a262 : dz_rg a262 96 0 3) (hr_a263 : dz_rq a263 (dz_kr κ) (dz_kg κ) 0 (((dz_kg κ : Nat) : Int) - 1)) (hr_a264 : dz_rg a264 16 0 16777215) (hr_a268 : dz_pt a268 (dz_kS κ)) (hr_a269 : dz_rg a269 n269 0 1023) (hr_a275 : dz_pm a275 (dz_kp κ)) (hr_a276 : dz_rg a276 4 0 3) (hr_a281 : dz_rg a281 601 0 16777215) (hr_a282 : dz_rg a282 5 0 14425) (hr_a283 : (c280_fresh.toInt = 0 ∨ dz_pm a283 (dz_kp κ))) (hr_a296 : dz_rg a296 4 0 3) (o0 : c248_groups.toInt = ((dz_kg κ : Nat) : Int)) (o1 : c248_pots.toInt = ((dz_kp κ : Nat) : Int)) (o2 : c261_groups.toInt = ((dz_kg κ : Nat) : Int)) (o3 : c261_many.toInt = ((dz_kr κ : Nat) : Int)) (o4 : c261_everyRank.toInt = ((dz_ke κ : Nat) : Int)) (o5 : c267_total.toInt = ((dz_kt κ : Nat) : Int)) : dz_T (f245_X11_chancesAtStart fu c248_groups c248_pots c261_groups c261_many c261_everyRank a262 a263 a264 c267_total a268 a269 n269 a275 a276 v1 c280_fresh a281 a282 a283 c292_firstLevel c292_firstPrefix c292_firstOpen c292_firstLeft a293 a294 c295_way a296 a297 a298 a299 c310_rows c310_fresh a311 a312 c316_rows c316_fresh a317 a318 c322_rows c322_fresh a323 a324) (fun r => ((r.1 : Nat) : Int) ≤ 2 ∧ r.2.1.toInt ≤ 1 ∧ 0 ≤ r.2.1.toInt ∧ r.2.2.2.2.2.1.toInt ≤ 4 ∧ 0 ≤ r.2.2.2.2.2.1.toInt ∧ r.2.2.2.2.2.2.1.toInt ≤ 331775 ∧ 0 ≤ r.2.2.2.2.2.2.1.toInt ∧ r.2.2.2.2.2.2.2.1.toInt ≤ 16777215 ∧ 0 ≤ r.2.2.2.2.2.2.2.1.toInt ∧ r.2.2.2.2.2.2.2.2.1.toInt ≤ 15 ∧ 0 ≤ r.2.2.2.2.2.2.2.2.1.toInt ∧ ((r.1 : Nat) : Int) ≤ v1.toInt ∧ v1.toInt ≤ ((r.1 : Nat) : Int) ∧ dz_rg r.2.2.1 601 0 16777215 ∧ dz_rg r.2.2.2.1 5 0 14425 ∧ dz_rg r.2.2.2.2.2.2.2.2.2.2.2.2.1 4 0 3 ∧ (r.2.1.toInt = 0 ∨ dz_pm r.2.2.2.2.1 (dz_kp κ))) := by
  unfold f245_X11_chancesAtStart s245_X11_chancesAtStart_0
  have e1 := dz_l0
  refine dz_Teq (fun h2 => ?_) (fun h2 => ?_)
  · skip
    refine dz_Teq (fun h3 => ?_) (fun h3 => ?_)
    · skip
      refine dz_Tb (t202_X6_beginAtStart_s fu hfu κ hκ _ _ _ _ _ _ _ _ _ _ _ p0 p1 p8 p9 p16 p17 p18 p19 p20 p21 p22 p23 (hr_a276) (hr_a296) o0 o4) (fun r1 q => ?_)
      obtain ⟨q1_0, q1_1, q1_2, q1_3, q1_4, q1_5, q1_6, q1_7, qa1_5⟩ := q
      refine dz_Tb (t175_X11_treeOfNow_s fu hfu κ hκ _ _ _ _ _ _ _ _ _ _ _ p2 p3 p6 p7 p10 p11 p12 p13 p14 p15 p24 (hr_a268) (hr_a269) (hr_a275) (hr_a281) (hr_a282) hr_a283 o1 o3 o5) (fun r2 q => ?_)
      obtain ⟨q2_0, q2_1, qa2_1, qa2_2, qa2_3⟩ := q
      refine dz_Tb (t244_X6_reckon_s fu hfu κ hκ _ _ _ _ _ _ _ _ _ _ _ _ _ _ _ _ _ _ _ _ _ _ _ _ _ p0 p1 p2 p3 p4 p5 p6 p7 (by first | assumption | omega) q1_1 (by first | assumption | omega) q1_3 q1_4 q1_5 q1_6 (by first | assumption | omega) (hr_a262) (hr_a263) (hr_a264) (qa2_1) (qa2_2) (qa2_3) (qa1_5) (dz_rgz (by omega)) (by first | assumption | omega) o0 o1 o2 o3) (fun r3 q => ?_)
      have qa3_0 := q
      refine dz_Ts ?_
      dsimp only
      exact ⟨(by first | assumption | omega), q2_0, (by first | assumption | omega), (by first | assumption | omega), q1_1, (by first | assumption | omega), q1_3, q1_4, q1_5, q1_6, (by first | assumption | omega), (by first | assumption | omega), (by first | assumption | omega), (qa2_1), (qa2_2), (qa1_5), (Or.inr (qa2_3))⟩
    · skip
      refine dz_Ts ?_
      dsimp only
      exact ⟨(by first | assumption | omega), p14, p15, p16, p17, p18, p19, p20, p21, p22, p23, (by first | assumption | omega), (by first | assumption | omega), (hr_a281), (hr_a282), (hr_a296), hr_a283⟩
  · skip
    have e4 := dz_l1
    refine dz_Teq (fun h5 => ?_) (fun h5 => ?_)
    · skip
      refine dz_Teq (fun h6 => ?_) (fun h6 => ?_)
      · skip
        refine dz_Tb (t202_X6_beginAtStart_s fu hfu κ hκ _ _ _ _ _ _ _ _ _ _ _ p0 p1 p8 p9 p16 p17 p18 p19 p20 p21 p22 p23 (hr_a276) (hr_a296) o0 o4) (fun r4 q => ?_)
        obtain ⟨q4_0, q4_1, q4_2, q4_3, q4_4, q4_5, q4_6, q4_7, qa4_5⟩ := q
        refine dz_Tb (t175_X11_treeOfNow_s fu hfu κ hκ _ _ _ _ _ _ _ _ _ _ _ p2 p3 p6 p7 p10 p11 p12 p13 p14 p15 p24 (hr_a268) (hr_a269) (hr_a275) (hr_a281) (hr_a282) hr_a283 o1 o3 o5) (fun r5 q => ?_)
        obtain ⟨q5_0, q5_1, qa5_1, qa5_2, qa5_3⟩ := q
        refine dz_Tb (t244_X6_reckon_s fu hfu κ hκ _ _ _ _ _ _ _ _ _ _ _ _ _ _ _ _ _ _ _ _ _ _ _ _ _ p0 p1 p2 p3 p4 p5 p6 p7 (by first | assumption | omega) q4_1 (by first | assumption | omega) q4_3 q4_4 q4_5 q4_6 (by first | assumption | omega) (hr_a262) (hr_a263) (hr_a264) (qa5_1) (qa5_2) (qa5_3) (qa4_5) (dz_rgz (by omega)) (by first | assumption | omega) o0 o1 o2 o3) (fun r6 q => ?_)
        have qa6_0 := q
        refine dz_Ts ?_
        dsimp only
        exact ⟨(by first | assumption | omega), q5_0, (by first | assumption | omega), (by first | assumption | omega), q4_1, (by first | assumption | omega), q4_3, q4_4, q4_5, q4_6, (by first | assumption | omega), (by first | assumption | omega), (by first | assumption | omega), (qa5_1), (qa5_2), (qa4_5), (Or.inr (qa5_3))⟩
      · skip
        refine dz_Ts ?_
        dsimp only
        exact ⟨(by first | assumption | omega), p14, p15, p16, p17, p18, p19, p20, p21, p22, p23, (by first | assumption | omega), (by first | assumption | omega), (hr_a281), (hr_a282), (hr_a296), hr_a283⟩
    · skip
      have e7 := dz_l2
      refine dz_Tg (Int32.toInt_inj.mp (by omega)) ?_
      refine dz_Teq (fun h8 => ?_) (fun h8 => ?_)
      · skip
        refine dz_Tb (t202_X6_beginAtStart_s fu hfu κ hκ _ _ _ _ _ _ _ _ _ _ _ p0 p1 p8 p9 p16 p17 p18 p19 p20 p21 p22 p23 (hr_a276) (hr_a296) o0 o4) (fun r7 q => ?_)
        obtain ⟨q7_0, q7_1, q7_2, q7_3, q7_4, q7_5, q7_6, q7_7, qa7_5⟩ := q
        refine dz_Tb (t175_X11_treeOfNow_s fu hfu κ hκ _ _ _ _ _ _ _ _ _ _ _ p2 p3 p6 p7 p10 p11 p12 p13 p14 p15 p24 (hr_a268) (hr_a269) (hr_a275) (hr_a281) (hr_a282) hr_a283 o1 o3 o5) (fun r8 q => ?_)
        obtain ⟨q8_0, q8_1, qa8_1, qa8_2, qa8_3⟩ := q
        refine dz_Tb (t244_X6_reckon_s fu hfu κ hκ _ _ _ _ _ _ _ _ _ _ _ _ _ _ _ _ _ _ _ _ _ _ _ _ _ p0 p1 p2 p3 p4 p5 p6 p7 (by first | assumption | omega) q7_1 (by first | assumption | omega) q7_3 q7_4 q7_5 q7_6 (by first | assumption | omega) (hr_a262) (hr_a263) (hr_a264) (qa8_1) (qa8_2) (qa8_3) (qa7_5) (dz_rgz (by omega)) (by first | assumption | omega) o0 o1 o2 o3) (fun r9 q => ?_)
        have qa9_0 := q
        refine dz_Ts ?_
        dsimp only
        exact ⟨(by first | assumption | omega), q8_0, (by first | assumption | omega), (by first | assumption | omega), q7_1, (by first | assumption | omega), q7_3, q7_4, q7_5, q7_6, (by first | assumption | omega), (by first | assumption | omega), (by first | assumption | omega), (qa8_1), (qa8_2), (qa7_5), (Or.inr (qa8_3))⟩
      · skip
        refine dz_Ts ?_
        dsimp only
        exact ⟨(by first | assumption | omega), p14, p15, p16, p17, p18, p19, p20, p21, p22, p23, (by first | assumption | omega), (by first | assumption | omega), (hr_a281), (hr_a282), (hr_a296), hr_a283⟩
set_option maxHeartbeats 1000000 in
set_option maxRecDepth 10000 in
theorem t246_X11_chancesNow_s (fu : Nat) (hfu : 1000000000000 ≤ fu) (κ : Nat) (hκ : κ < 14) (c248_groups : Int32) (c248_pots : Int32) (c248_teams : Int32) (c261_groups : Int32) (c261_many : Int32) (c261_everyRank : Int32) (a262 : Nat → Int32) (a263 : Nat → Int32) (a264 : Nat → Int32) (c267_total : Int32) (a268 : Nat → Int32) (a269 : Nat → Int32) (n269 : Nat) (c274_out : Int32) (a275 : Nat → Int32) (a276 : Nat → Int32) (a277 : Nat → Int32) (v1 : Int32) (c280_fresh : Int32) (a281 : Nat → Int32) (a282 : Nat → Int32) (a283 : Nat → Int32) (c292_firstLevel : Int32) (c292_firstPrefix : Int32) (c292_firstOpen : Int32) (c292_firstLeft : Int32) (a293 : Nat → Int32) (a294 : Nat → Int64) (c295_way : Int32) (a296 : Nat → Int32) (a297 : Nat → Int64) (a298 : Nat → Int32) (a299 : Nat → Int64) (c310_rows : Int64) (c310_fresh : Int32) (a311 : Nat → Int64) (a312 : Nat → Int64) (c313_rows : Int64) (c313_fresh : Int32) (a314 : Nat → Int64) (a315 : Nat → Int64) (c316_rows : Int64) (c316_fresh : Int32) (a317 : Nat → Int64) (a318 : Nat → Int64) (c319_rows : Int64) (c319_fresh : Int32) (a320 : Nat → Int64) (a321 : Nat → Int64) (c322_rows : Int64) (c322_fresh : Int32) (a323 : Nat → Int64) (a324 : Nat → Int64) (c325_rows : Int64) (c325_fresh : Int32) (a326 : Nat → Int64) (a327 : Nat → Int64) (p0 : c248_groups.toInt ≤ 4) (p1 : 2 ≤ c248_groups.toInt) (p2 : c248_pots.toInt ≤ 4) (p3 : 0 ≤ c248_pots.toInt) (p4 : c248_teams.toInt ≤ 12) (p5 : 0 ≤ c248_teams.toInt) (p6 : c261_groups.toInt ≤ 4) (p7 : 0 ≤ c261_groups.toInt) (p8 : c261_many.toInt ≤ 24) (p9 : 0 ≤ c261_many.toInt) (p10 : c261_everyRank.toInt ≤ 16777215) (p11 : 0 ≤ c261_everyRank.toInt) (p12 : c267_total.toInt ≤ 13824) (p13 : 1 ≤ c267_total.toInt) (p14 : ((n269 : Nat) : Int) ≤ 13824) (p15 : 1 ≤ ((n269 : Nat) : Int)) (p16 : c274_out.toInt ≤ 12) (p17 : 0 ≤ c274_out.toInt) (p18 : c280_fresh.toInt ≤ 1) (p19 : 0 ≤ c280_fresh.toInt) (p20 : c292_firstLevel.toInt ≤ 4) (p21 : 0 ≤ c292_firstLevel.toInt) (p22 : c292_firstPrefix.toInt ≤ 331775) (p23 : 0 ≤ c292_firstPrefix.toInt) (p24 : c292_firstOpen.toInt ≤ 16777215) (p25 : 0 ≤ c292_firstOpen.toInt) (p26 : c292_firstLeft.toInt ≤ 15) (p27 : 0 ≤ c292_firstLeft.toInt) (p28 : c267_total.toInt ≤ ((n269 : Nat) : Int)) (p29 : c274_out.toInt ≤ c248_teams.toInt) (p30 : 0 ≤ v1.toInt) (p31 : v1.toInt ≤ 2) (hr_a262 : dz_rg a262 96 0 3) (hr_a263 : dz_rq a263 (dz_kr κ) (dz_kg κ) 0 (((dz_kg κ : Nat) : Int) - 1)) (hr_a264 : dz_rg a264 16 0 16777215) (hr_a268 : dz_pt a268 (dz_kS κ)) (hr_a269 : dz_rg a269 n269 0 1023) (hr_a275 : dz_pm a275 (dz_kp κ)) (hr_a276 : dz_rg a276 4 0 3) (hr_a277 : dz_rg a277 12 (-1) 3) (hr_a281 : dz_rg a281 601 0 16777215) (hr_a282 : dz_rg a282 5 0 14425) (hr_a283 : (c280_fresh.toInt = 0 ∨ dz_pm a283 (dz_kp κ))) (hr_a296 : dz_rg a296 4 0 3) (o0 : c248_groups.toInt = ((dz_kg κ : Nat) : Int)) (o1 : c248_pots.toInt = ((dz_kp κ : Nat) : Int)) (o2 : c248_teams.toInt = ((dz_km κ : Nat) : Int)) (o3 : c261_groups.toInt = ((dz_kg κ : Nat) : Int)) (o4 : c261_many.toInt = ((dz_kr κ : Nat) : Int)) (o5 : c261_everyRank.toInt = ((dz_ke κ : Nat) : Int)) (o6 : c267_total.toInt = ((dz_kt κ : Nat) : Int)) (o7 : c274_out.toInt ≤ ((dz_km κ : Nat) : Int)) : dz_T (f246_X11_chancesNow fu c248_groups c248_pots c248_teams c261_groups c261_many c261_everyRank a262 a263 a264 c267_total a268 a269 n269 c274_out a275 a276 a277 v1 c280_fresh a281 a282 a283 c292_firstLevel c292_firstPrefix c292_firstOpen c292_firstLeft a293 a294 c295_way a296 a297 a298 a299 c310_rows c310_fresh a311 a312 c313_rows c313_fresh a314 a315 c316_rows c316_fresh a317 a318 c319_rows c319_fresh a320 a321 c322_rows c322_fresh a323 a324 c325_rows c325_fresh a326 a327) (fun r => ((r.1 : Nat) : Int) ≤ 5 ∧ r.2.1.toInt ≤ 1 ∧ 0 ≤ r.2.1.toInt ∧ r.2.2.2.2.2.1.toInt ≤ 4 ∧ 0 ≤ r.2.2.2.2.2.1.toInt ∧ r.2.2.2.2.2.2.1.toInt ≤ 331775 ∧ 0 ≤ r.2.2.2.2.2.2.1.toInt ∧ r.2.2.2.2.2.2.2.1.toInt ≤ 16777215 ∧ 0 ≤ r.2.2.2.2.2.2.2.1.toInt ∧ r.2.2.2.2.2.2.2.2.1.toInt ≤ 15 ∧ 0 ≤ r.2.2.2.2.2.2.2.2.1.toInt ∧ v1.toInt ≤ ((r.1 : Nat) : Int) ∧ ((r.1 : Nat) : Int) ≤ v1.toInt + 3 ∧ dz_rg r.2.2.1 601 0 16777215 ∧ dz_rg r.2.2.2.1 5 0 14425 ∧ dz_rg r.2.2.2.2.2.2.2.2.2.2.2.2.1 4 0 3 ∧ (r.2.1.toInt = 0 ∨ dz_pm r.2.2.2.2.1 (dz_kp κ))) := by
  unfold f246_X11_chancesNow s246_X11_chancesNow_0
  have e1 := dz_l0
  refine dz_Teq (fun h2 => ?_) (fun h2 => ?_)
  · skip
    refine dz_Tb (t245_X11_chancesAtStart_s fu hfu κ hκ _ _ _ _ _ _ _ _ _ _ _ _ _ _ _ _ _ _ _ _ _ _ _ _ _ _ _ _ _ _ _ _ _ _ _ _ _ _ _ _ _ _ p0 p1 p2 p3 p6 p7 p8 p9 p10 p11 p12 p13 p14 p15 p18 p19 p20 p21 p22 p23 p24 p25 p26 p27 p28 p30 p31 (hr_a262) (hr_a263) (hr_a264) (hr_a268) (hr_a269) (hr_a275) (hr_a276) (hr_a281) (hr_a282) hr_a283 (hr_a296) o0 o1 o3 o4 o5 o6) (fun r1 q => ?_)
    obtain ⟨q1_0, q1_1, q1_2, q1_3, q1_4, q1_5, q1_6, q1_7, q1_8, q1_9, q1_10, q1_11, q1_12, qa1_2, qa1_3, qa1_12, qa1_4⟩ := q
    refine dz_Ti (fun h3 => ?_) (fun h3 => ?_)
    · skip
      refine dz_Ts ?_
      dsimp only
      exact ⟨(by first | assumption | omega), q1_1, q1_2, q1_3, q1_4, q1_5, q1_6, q1_7, q1_8, q1_9, q1_10, (by first | assumption | omega), (by first | assumption | omega), (qa1_2), (qa1_3), (qa1_12), qa1_4⟩
    · skip
      refine dz_Ti (fun h4 => ?_) (fun h4 => ?_)
      · skip
        refine dz_Ts ?_
        dsimp only
        exact ⟨(by first | assumption | omega), q1_1, q1_2, q1_3, q1_4, q1_5, q1_6, q1_7, q1_8, q1_9, q1_10, (by first | assumption | omega), (by first | assumption | omega), (qa1_2), (qa1_3), (qa1_12), qa1_4⟩
      · skip
        refine dz_Tg (by omega) ?_
        refine dz_Ts ?_
        dsimp only
        exact ⟨(by first | assumption | omega), q1_1, q1_2, q1_3, q1_4, q1_5, q1_6, q1_7, q1_8, q1_9, q1_10, (by first | assumption | omega), (by first | assumption | omega), (qa1_2), (qa1_3), (qa1_12), qa1_4⟩
  · skip
    refine dz_Teq (fun h5 => ?_) (fun h5 => ?_)
    · skip
      refine dz_Teq (fun h6 => ?_) (fun h6 => ?_)
      · skip
        refine dz_Tb (t204_X6_beginAtStage_s fu hfu κ hκ _ _ _ _ _ _ _ _ _ _ _ _ _ _ _ _ _ _ p0 p1 p4 p5 p8 p9 p10 p11 p16 p17 p20 p21 p22 p23 p24 p25 p26 p27 p29 (hr_a264) (hr_a275) (hr_a276) (hr_a277) (hr_a296) o0 o2 o4 o5 o7) (fun r2 q => ?_)
        obtain ⟨q2_0, q2_1, q2_2, q2_3, q2_4, q2_5, q2_6, q2_7, qa2_6, qa2_4, qo2_0⟩ := q
        refine dz_Tb (t175_X11_treeOfNow_s fu hfu κ hκ _ _ _ _ _ _ _ _ _ _ _ p2 p3 p8 p9 p12 p13 p14 p15 p18 p19 p28 (hr_a268) (hr_a269) (hr_a275) (hr_a281) (hr_a282) hr_a283 o1 o4 o6) (fun r3 q => ?_)
        obtain ⟨q3_0, q3_1, qa3_1, qa3_2, qa3_3⟩ := q
        refine dz_Tb (t244_X6_reckon_s fu hfu κ hκ _ _ _ _ _ _ _ _ _ _ _ _ _ _ _ _ _ _ _ _ _ _ _ _ _ p0 p1 p2 p3 p6 p7 p8 p9 q2_0 q2_1 q2_2 q2_3 q2_4 q2_5 q2_6 q2_7 (hr_a262) (hr_a263) (hr_a264) (qa3_1) (qa3_2) (qa3_3) (qa2_6) (qa2_4) (by first | assumption | omega) o0 o1 o3 o4) (fun r4 q => ?_)
        have qa4_0 := q
        refine dz_Ts ?_
        dsimp only
        exact ⟨(by first | assumption | omega), q3_0, (by first | assumption | omega), q2_0, q2_1, q2_2, q2_3, q2_4, q2_5, q2_6, q2_7, (by first | assumption | omega), (by first | assumption | omega), (qa3_1), (qa3_2), (qa2_6), (Or.inr (qa3_3))⟩
      · skip
        refine dz_Ts ?_
        dsimp only
        exact ⟨(by first | assumption | omega), p18, p19, p20, p21, p22, p23, p24, p25, p26, p27, (by first | assumption | omega), (by first | assumption | omega), (hr_a281), (hr_a282), (hr_a296), hr_a283⟩
    · skip
      have e7 := dz_l1
      refine dz_Teq (fun h8 => ?_) (fun h8 => ?_)
      · skip
        refine dz_Teq (fun h9 => ?_) (fun h9 => ?_)
        · skip
          refine dz_Tb (t204_X6_beginAtStage_s fu hfu κ hκ _ _ _ _ _ _ _ _ _ _ _ _ _ _ _ _ _ _ p0 p1 p4 p5 p8 p9 p10 p11 p16 p17 p20 p21 p22 p23 p24 p25 p26 p27 p29 (hr_a264) (hr_a275) (hr_a276) (hr_a277) (hr_a296) o0 o2 o4 o5 o7) (fun r5 q => ?_)
          obtain ⟨q5_0, q5_1, q5_2, q5_3, q5_4, q5_5, q5_6, q5_7, qa5_6, qa5_4, qo5_0⟩ := q
          refine dz_Tb (t175_X11_treeOfNow_s fu hfu κ hκ _ _ _ _ _ _ _ _ _ _ _ p2 p3 p8 p9 p12 p13 p14 p15 p18 p19 p28 (hr_a268) (hr_a269) (hr_a275) (hr_a281) (hr_a282) hr_a283 o1 o4 o6) (fun r6 q => ?_)
          obtain ⟨q6_0, q6_1, qa6_1, qa6_2, qa6_3⟩ := q
          refine dz_Tb (t244_X6_reckon_s fu hfu κ hκ _ _ _ _ _ _ _ _ _ _ _ _ _ _ _ _ _ _ _ _ _ _ _ _ _ p0 p1 p2 p3 p6 p7 p8 p9 q5_0 q5_1 q5_2 q5_3 q5_4 q5_5 q5_6 q5_7 (hr_a262) (hr_a263) (hr_a264) (qa6_1) (qa6_2) (qa6_3) (qa5_6) (qa5_4) (by first | assumption | omega) o0 o1 o3 o4) (fun r7 q => ?_)
          have qa7_0 := q
          refine dz_Ts ?_
          dsimp only
          exact ⟨(by first | assumption | omega), q6_0, (by first | assumption | omega), q5_0, q5_1, q5_2, q5_3, q5_4, q5_5, q5_6, q5_7, (by first | assumption | omega), (by first | assumption | omega), (qa6_1), (qa6_2), (qa5_6), (Or.inr (qa6_3))⟩
        · skip
          refine dz_Ts ?_
          dsimp only
          exact ⟨(by first | assumption | omega), p18, p19, p20, p21, p22, p23, p24, p25, p26, p27, (by first | assumption | omega), (by first | assumption | omega), (hr_a281), (hr_a282), (hr_a296), hr_a283⟩
      · skip
        have e10 := dz_l2
        refine dz_Tg (Int32.toInt_inj.mp (by omega)) ?_
        refine dz_Teq (fun h11 => ?_) (fun h11 => ?_)
        · skip
          refine dz_Tb (t204_X6_beginAtStage_s fu hfu κ hκ _ _ _ _ _ _ _ _ _ _ _ _ _ _ _ _ _ _ p0 p1 p4 p5 p8 p9 p10 p11 p16 p17 p20 p21 p22 p23 p24 p25 p26 p27 p29 (hr_a264) (hr_a275) (hr_a276) (hr_a277) (hr_a296) o0 o2 o4 o5 o7) (fun r8 q => ?_)
          obtain ⟨q8_0, q8_1, q8_2, q8_3, q8_4, q8_5, q8_6, q8_7, qa8_6, qa8_4, qo8_0⟩ := q
          refine dz_Tb (t175_X11_treeOfNow_s fu hfu κ hκ _ _ _ _ _ _ _ _ _ _ _ p2 p3 p8 p9 p12 p13 p14 p15 p18 p19 p28 (hr_a268) (hr_a269) (hr_a275) (hr_a281) (hr_a282) hr_a283 o1 o4 o6) (fun r9 q => ?_)
          obtain ⟨q9_0, q9_1, qa9_1, qa9_2, qa9_3⟩ := q
          refine dz_Tb (t244_X6_reckon_s fu hfu κ hκ _ _ _ _ _ _ _ _ _ _ _ _ _ _ _ _ _ _ _ _ _ _ _ _ _ p0 p1 p2 p3 p6 p7 p8 p9 q8_0 q8_1 q8_2 q8_3 q8_4 q8_5 q8_6 q8_7 (hr_a262) (hr_a263) (hr_a264) (qa9_1) (qa9_2) (qa9_3) (qa8_6) (qa8_4) (by first | assumption | omega) o0 o1 o3 o4) (fun r10 q => ?_)
          have qa10_0 := q
          refine dz_Ts ?_
          dsimp only
          exact ⟨(by first | assumption | omega), q9_0, (by first | assumption | omega), q8_0, q8_1, q8_2, q8_3, q8_4, q8_5, q8_6, q8_7, (by first | assumption | omega), (by first | assumption | omega), (qa9_1), (qa9_2), (qa8_6), (Or.inr (qa9_3))⟩
        · skip
          refine dz_Ts ?_
          dsimp only
          exact ⟨(by first | assumption | omega), p18, p19, p20, p21, p22, p23, p24, p25, p26, p27, (by first | assumption | omega), (by first | assumption | omega), (hr_a281), (hr_a282), (hr_a296), hr_a283⟩
set_option maxHeartbeats 1000000 in
set_option maxRecDepth 10000 in
theorem t247_X1_ofPair (fu : Nat) (hfu : 1000000000000 ≤ fu) (a314 : Nat → Int64) (v1 : Int32) (v2 : Int32) (p0 : 0 ≤ v1.toInt) (p1 : v1.toInt ≤ 11) (p2 : 0 ≤ v2.toInt) (p3 : v2.toInt ≤ 11) : dz_T (f247_X1_ofPair fu a314 v1 v2) (fun r => True) := by
  unfold f247_X1_ofPair s247_X1_ofPair_0
  have e1 := dz_l12
  have e2 := dz_mulr (a := v1) (b := (12 : Int32)) 12 (by omega) (by omega) (by omega)
  have e3 := dz_add (a := (v1 * (12 : Int32))) (b := v2) (by omega) (by omega)
  refine dz_Tin (by omega) (by omega) ?_
  have e4 := dz_mulr (a := v2) (b := (12 : Int32)) 12 (by omega) (by omega) (by omega)
  have e5 := dz_add (a := (v2 * (12 : Int32))) (b := v1) (by omega) (by omega)
  refine dz_Tin (by omega) (by omega) ?_
  exact dz_Ts trivial
set_option maxHeartbeats 1000000 in
set_option maxRecDepth 10000 in
theorem t248_X11_pair_s (fu : Nat) (hfu : 1000000000000 ≤ fu) (κ : Nat) (hκ : κ < 14) (c248_groups : Int32) (c248_pots : Int32) (c248_teams : Int32) (c261_groups : Int32) (c261_many : Int32) (c261_everyRank : Int32) (a262 : Nat → Int32) (a263 : Nat → Int32) (a264 : Nat → Int32) (c267_total : Int32) (c267_lawfulOnes : Int32) (a268 : Nat → Int32) (a269 : Nat → Int32) (n269 : Nat) (c274_out : Int32) (a275 : Nat → Int32) (a276 : Nat → Int32) (a277 : Nat → Int32) (v1 : Int32) (v2 : Int32) (v3 : Int32) (c280_fresh : Int32) (a281 : Nat → Int32) (a282 : Nat → Int32) (a283 : Nat → Int32) (c292_firstLevel : Int32) (c292_firstPrefix : Int32) (c292_firstOpen : Int32) (c292_firstLeft : Int32) (a293 : Nat → Int32) (a294 : Nat → Int64) (c295_way : Int32) (a296 : Nat → Int32) (a297 : Nat → Int64) (a298 : Nat → Int32) (a299 : Nat → Int64) (c310_rows : Int64) (c310_fresh : Int32) (a311 : Nat → Int64) (a312 : Nat → Int64) (c313_rows : Int64) (c313_fresh : Int32) (a314 : Nat → Int64) (a315 : Nat → Int64) (c316_rows : Int64) (c316_fresh : Int32) (a317 : Nat → Int64) (a318 : Nat → Int64) (c319_rows : Int64) (c319_fresh : Int32) (a320 : Nat → Int64) (a321 : Nat → Int64) (c322_rows : Int64) (c322_fresh : Int32) (a323 : Nat → Int64) (a324 : Nat → Int64) (c325_rows : Int64) (c325_fresh : Int32) (a326 : Nat → Int64) (a327 : Nat → Int64) (p0 : c248_groups.toInt ≤ 4) (p1 : 2 ≤ c248_groups.toInt) (p2 : c248_pots.toInt ≤ 4) (p3 : 0 ≤ c248_pots.toInt) (p4 : c248_teams.toInt ≤ 12) (p5 : 0 ≤ c248_teams.toInt) (p6 : c261_groups.toInt ≤ 4) (p7 : 0 ≤ c261_groups.toInt) (p8 : c261_many.toInt ≤ 24) (p9 : 0 ≤ c261_many.toInt) (p10 : c261_everyRank.toInt ≤ 16777215) (p11 : 0 ≤ c261_everyRank.toInt) (p12 : c267_total.toInt ≤ 13824) (p13 : 1 ≤ c267_total.toInt) (p14 : c267_lawfulOnes.toInt ≤ 13824) (p15 : 0 ≤ c267_lawfulOnes.toInt) (p16 : ((n269 : Nat) : Int) ≤ 13824) (p17 : 1 ≤ ((n269 : Nat) : Int)) (p18 : c274_out.toInt ≤ 12) (p19 : 0 ≤ c274_out.toInt) (p20 : c280_fresh.toInt ≤ 1) (p21 : 0 ≤ c280_fresh.toInt) (p22 : c292_firstLevel.toInt ≤ 4) (p23 : 0 ≤ c292_firstLevel.toInt) (p24 : c292_firstPrefix.toInt ≤ 331775) (p25 : 0 ≤ c292_firstPrefix.toInt) (p26 : c292_firstOpen.toInt ≤ 16777215) (p27 : 0 ≤ c292_firstOpen.toInt) (p28 : c292_firstLeft.toInt ≤ 15) (p29 : 0 ≤ c292_firstLeft.toInt) (p30 : c267_total.toInt ≤ ((n269 : Nat) : Int)) (p31 : c267_lawfulOnes.toInt ≤ c267_total.toInt) (p32 : c274_out.toInt ≤ c248_teams.toInt) (hr_a262 : dz_rg a262 96 0 3) (hr_a263 : dz_rq a263 (dz_kr κ) (dz_kg κ) 0 (((dz_kg κ : Nat) : Int) - 1)) (hr_a264 : dz_rg a264 16 0 16777215) (hr_a268 : dz_pt a268 (dz_kS κ)) (hr_a269 : dz_rg a269 n269 0 1023) (hr_a275 : dz_pm a275 (dz_kp κ)) (hr_a276 : dz_rg a276 4 0 3) (hr_a277 : dz_rg a277 12 (-1) 3) (hr_a281 : dz_rg a281 601 0 16777215) (hr_a282 : dz_rg a282 5 0 14425) (hr_a283 : (c280_fresh.toInt = 0 ∨ dz_pm a283 (dz_kp κ))) (hr_a296 : dz_rg a296 4 0 3) (o0 : c248_groups.toInt = ((dz_kg κ : Nat) : Int)) (o1 : c248_pots.toInt = ((dz_kp κ : Nat) : Int)) (o2 : c248_teams.toInt = ((dz_km κ : Nat) : Int)) (o3 : c261_groups.toInt = ((dz_kg κ : Nat) : Int)) (o4 : c261_many.toInt = ((dz_kr κ : Nat) : Int)) (o5 : c261_everyRank.toInt = ((dz_ke κ : Nat) : Int)) (o6 : c267_total.toInt = ((dz_kt κ : Nat) : Int)) (o7 : c274_out.toInt ≤ ((dz_km κ : Nat) : Int)) : dz_T (f248_X11_pair fu c248_groups c248_pots c248_teams c261_groups c261_many c261_everyRank a262 a263 a264 c267_total c267_lawfulOnes a268 a269 n269 c274_out a275 a276 a277 v1 v2 v3 c280_fresh a281 a282 a283 c292_firstLevel c292_firstPrefix c292_firstOpen c292_firstLeft a293 a294 c295_way a296 a297 a298 a299 c310_rows c310_fresh a311 a312 c313_rows c313_fresh a314 a315 c316_rows c316_fresh a317 a318 c319_rows c319_fresh a320 a321 c322_rows c322_fresh a323 a324 c325_rows c325_fresh a326 a327) (fun r => r.2.1.toInt ≤ 1 ∧ 0 ≤ r.2.1.toInt ∧ r.2.2.2.2.2.1.toInt ≤ 4 ∧ 0 ≤ r.2.2.2.2.2.1.toInt ∧ r.2.2.2.2.2.2.1.toInt ≤ 331775 ∧ 0 ≤ r.2.2.2.2.2.2.1.toInt ∧ r.2.2.2.2.2.2.2.1.toInt ≤ 16777215 ∧ 0 ≤ r.2.2.2.2.2.2.2.1.toInt ∧ r.2.2.2.2.2.2.2.2.1.toInt ≤ 15 ∧ 0 ≤ r.2.2.2.2.2.2.2.2.1.toInt ∧ dz_rg r.2.2.1 601 0 16777215 ∧ dz_rg r.2.2.2.1 5 0 14425 ∧ dz_rg r.2.2.2.2.2.2.2.2.2.2.2.2.1 4 0 3 ∧ (r.2.1.toInt = 0 ∨ dz_pm r.2.2.2.2.1 (dz_kp κ))) := by
  unfold f248_X11_pair s248_X11_pair_0
  refine dz_Tbe (show f159_X11_isTeam fu c248_teams v1 = (if (v1 < (0 : Int32)) then (some (0 : Int32)) else (if (c248_teams ≤ v1) then (some (0 : Int32)) else (some (1 : Int32)))) from rfl) ?_
  have e1 := dz_l0
  refine dz_Tltb (fun h2 => ?_) (fun h2 => ?_)
  · skip
    refine dz_Tsb ?_
    refine dz_Teq (fun h3 => ?_) (fun h3 => ?_)
    · skip
      refine dz_Ts ?_
      dsimp only
      exact ⟨p20, p21, p22, p23, p24, p25, p26, p27, p28, p29, (hr_a281), (hr_a282), (hr_a296), hr_a283⟩
    · skip
      exfalso; omega
  · skip
    refine dz_Tleb (fun h4 => ?_) (fun h4 => ?_)
    · skip
      refine dz_Tsb ?_
      refine dz_Teq (fun h5 => ?_) (fun h5 => ?_)
      · skip
        refine dz_Ts ?_
        dsimp only
        exact ⟨p20, p21, p22, p23, p24, p25, p26, p27, p28, p29, (hr_a281), (hr_a282), (hr_a296), hr_a283⟩
      · skip
        exfalso; omega
    · skip
      refine dz_Tsb ?_
      have e6 := dz_l1
      refine dz_Teq (fun h7 => ?_) (fun h7 => ?_)
      · skip
        exfalso; omega
      · skip
        refine dz_Tbe (show f159_X11_isTeam fu c248_teams v2 = (if (v2 < (0 : Int32)) then (some (0 : Int32)) else (if (c248_teams ≤ v2) then (some (0 : Int32)) else (some (1 : Int32)))) from rfl) ?_
        refine dz_Tltb (fun h8 => ?_) (fun h8 => ?_)
        · skip
          refine dz_Tsb ?_
          refine dz_Teq (fun h9 => ?_) (fun h9 => ?_)
          · skip
            refine dz_Ts ?_
            dsimp only
            exact ⟨p20, p21, p22, p23, p24, p25, p26, p27, p28, p29, (hr_a281), (hr_a282), (hr_a296), hr_a283⟩
          · skip
            exfalso; omega
        · skip
          refine dz_Tleb (fun h10 => ?_) (fun h10 => ?_)
          · skip
            refine dz_Tsb ?_
            refine dz_Teq (fun h11 => ?_) (fun h11 => ?_)
            · skip
              refine dz_Ts ?_
              dsimp only
              exact ⟨p20, p21, p22, p23, p24, p25, p26, p27, p28, p29, (hr_a281), (hr_a282), (hr_a296), hr_a283⟩
            · skip
              exfalso; omega
          · skip
            refine dz_Tsb ?_
            refine dz_Teq (fun h12 => ?_) (fun h12 => ?_)
            · skip
              exfalso; omega
            · skip
              refine dz_Teq (fun h13 => ?_) (fun h13 => ?_)
              · skip
                refine dz_Ts ?_
                dsimp only
                exact ⟨p20, p21, p22, p23, p24, p25, p26, p27, p28, p29, (hr_a281), (hr_a282), (hr_a296), hr_a283⟩
              · skip
                refine dz_Tbe (show f199_X11_isWay fu v3 = (if (v3 < (0 : Int32)) then (some (0 : Int32)) else (if ((3 : Int32) ≤ v3) then (some (0 : Int32)) else (some (1 : Int32)))) from rfl) ?_
                refine dz_Tltb (fun h14 => ?_) (fun h14 => ?_)
                · skip
                  refine dz_Tsb ?_
                  refine dz_Teq (fun h15 => ?_) (fun h15 => ?_)
                  · skip
                    refine dz_Ts ?_
                    dsimp only
                    exact ⟨p20, p21, p22, p23, p24, p25, p26, p27, p28, p29, (hr_a281), (hr_a282), (hr_a296), hr_a283⟩
                  · skip
                    exfalso; omega
                · skip
                  have e16 := dz_l3
                  refine dz_Tleb (fun h17 => ?_) (fun h17 => ?_)
                  · skip
                    refine dz_Tsb ?_
                    refine dz_Teq (fun h18 => ?_) (fun h18 => ?_)
                    · skip
                      refine dz_Ts ?_
                      dsimp only
                      exact ⟨p20, p21, p22, p23, p24, p25, p26, p27, p28, p29, (hr_a281), (hr_a282), (hr_a296), hr_a283⟩
                    · skip
                      exfalso; omega
                  · skip
                    refine dz_Tsb ?_
                    refine dz_Teq (fun h19 => ?_) (fun h19 => ?_)
                    · skip
                      exfalso; omega
                    · skip
                      refine dz_Teq (fun h20 => ?_) (fun h20 => ?_)
                      · skip
                        refine dz_Ts ?_
                        dsimp only
                        exact ⟨p20, p21, p22, p23, p24, p25, p26, p27, p28, p29, (hr_a281), (hr_a282), (hr_a296), hr_a283⟩
                      · skip
                        refine dz_Tb (t246_X11_chancesNow_s fu hfu κ hκ _ _ _ _ _ _ _ _ _ _ _ _ _ _ _ _ _ _ _ _ _ _ _ _ _ _ _ _ _ _ _ _ _ _ _ _ _ _ _ _ _ _ _ _ _ _ _ _ _ _ _ _ _ _ _ _ _ p0 p1 p2 p3 p4 p5 p6 p7 p8 p9 p10 p11 p12 p13 p16 p17 p18 p19 p20 p21 p22 p23 p24 p25 p26 p27 p28 p29 p30 p32 (by first | assumption | omega) (by first | assumption | omega) (hr_a262) (hr_a263) (hr_a264) (hr_a268) (hr_a269) (hr_a275) (hr_a276) (hr_a277) (hr_a281) (hr_a282) hr_a283 (hr_a296) o0 o1 o2 o3 o4 o5 o6 o7) (fun r4 q => ?_)
                        obtain ⟨q4_0, q4_1, q4_2, q4_3, q4_4, q4_5, q4_6, q4_7, q4_8, q4_9, q4_10, q4_11, q4_12, qa4_2, qa4_3, qa4_12, qa4_4⟩ := q
                        refine dz_Ti (fun h21 => ?_) (fun h21 => ?_)
                        · skip
                          refine dz_Tb (t247_X1_ofPair fu hfu _ _ _ (by first | assumption | omega) (by first | assumption | omega) (by first | assumption | omega) (by first | assumption | omega)) (fun r5 _ => ?_)
                          refine dz_Ts ?_
                          dsimp only
                          exact ⟨q4_1, q4_2, q4_3, q4_4, q4_5, q4_6, q4_7, q4_8, q4_9, q4_10, (qa4_2), (qa4_3), (qa4_12), qa4_4⟩
                        · skip
                          refine dz_Ti (fun h22 => ?_) (fun h22 => ?_)
                          · skip
                            refine dz_Tb (t247_X1_ofPair fu hfu _ _ _ (by first | assumption | omega) (by first | assumption | omega) (by first | assumption | omega) (by first | assumption | omega)) (fun r6 _ => ?_)
                            refine dz_Ts ?_
                            dsimp only
                            exact ⟨q4_1, q4_2, q4_3, q4_4, q4_5, q4_6, q4_7, q4_8, q4_9, q4_10, (qa4_2), (qa4_3), (qa4_12), qa4_4⟩
                          · skip
                            refine dz_Ti (fun h23 => ?_) (fun h23 => ?_)
                            · skip
                              refine dz_Tb (t247_X1_ofPair fu hfu _ _ _ (by first | assumption | omega) (by first | assumption | omega) (by first | assumption | omega) (by first | assumption | omega)) (fun r7 _ => ?_)
                              refine dz_Ts ?_
                              dsimp only
                              exact ⟨q4_1, q4_2, q4_3, q4_4, q4_5, q4_6, q4_7, q4_8, q4_9, q4_10, (qa4_2), (qa4_3), (qa4_12), qa4_4⟩
                            · skip
                              refine dz_Ti (fun h24 => ?_) (fun h24 => ?_)
                              · skip
                                refine dz_Tb (t247_X1_ofPair fu hfu _ _ _ (by first | assumption | omega) (by first | assumption | omega) (by first | assumption | omega) (by first | assumption | omega)) (fun r8 _ => ?_)
                                refine dz_Ts ?_
                                dsimp only
                                exact ⟨q4_1, q4_2, q4_3, q4_4, q4_5, q4_6, q4_7, q4_8, q4_9, q4_10, (qa4_2), (qa4_3), (qa4_12), qa4_4⟩
                              · skip
                                refine dz_Ti (fun h25 => ?_) (fun h25 => ?_)
                                · skip
                                  refine dz_Tb (t247_X1_ofPair fu hfu _ _ _ (by first | assumption | omega) (by first | assumption | omega) (by first | assumption | omega) (by first | assumption | omega)) (fun r9 _ => ?_)
                                  refine dz_Ts ?_
                                  dsimp only
                                  exact ⟨q4_1, q4_2, q4_3, q4_4, q4_5, q4_6, q4_7, q4_8, q4_9, q4_10, (qa4_2), (qa4_3), (qa4_12), qa4_4⟩
                                · skip
                                  refine dz_Tg (by omega) ?_
                                  refine dz_Tb (t247_X1_ofPair fu hfu _ _ _ (by first | assumption | omega) (by first | assumption | omega) (by first | assumption | omega) (by first | assumption | omega)) (fun r10 _ => ?_)
                                  refine dz_Ts ?_
                                  dsimp only
                                  exact ⟨q4_1, q4_2, q4_3, q4_4, q4_5, q4_6, q4_7, q4_8, q4_9, q4_10, (qa4_2), (qa4_3), (qa4_12), qa4_4⟩
set_option maxHeartbeats 1000000 in
set_option maxRecDepth 10000 in
theorem t249_X1_ofPlace (fu : Nat) (hfu : 1000000000000 ≤ fu) (a315 : Nat → Int64) (v1 : Int32) (v2 : Int32) (p0 : 0 ≤ v1.toInt) (p1 : v1.toInt ≤ 11) (p2 : 0 ≤ v2.toInt) (p3 : v2.toInt ≤ 3) : dz_T (f249_X1_ofPlace fu a315 v1 v2) (fun r => True) := by
  unfold f249_X1_ofPlace s249_X1_ofPlace_0
  have e1 := dz_l4
  have e2 := dz_mulr (a := v1) (b := (4 : Int32)) 4 (by omega) (by omega) (by omega)
  have e3 := dz_add (a := (v1 * (4 : Int32))) (b := v2) (by omega) (by omega)
  refine dz_Tin (by omega) (by omega) ?_
  exact dz_Ts trivial
set_option maxHeartbeats 1000000 in
set_option maxRecDepth 10000 in
theorem t250_X11_place_s (fu : Nat) (hfu : 1000000000000 ≤ fu) (κ : Nat) (hκ : κ < 14) (c248_groups : Int32) (c248_pots : Int32) (c248_teams : Int32) (c261_groups : Int32) (c261_many : Int32) (c261_everyRank : Int32) (a262 : Nat → Int32) (a263 : Nat → Int32) (a264 : Nat → Int32) (c267_total : Int32) (c267_lawfulOnes : Int32) (a268 : Nat → Int32) (a269 : Nat → Int32) (n269 : Nat) (c274_out : Int32) (a275 : Nat → Int32) (a276 : Nat → Int32) (a277 : Nat → Int32) (v1 : Int32) (v2 : Int32) (v3 : Int32) (c280_fresh : Int32) (a281 : Nat → Int32) (a282 : Nat → Int32) (a283 : Nat → Int32) (c292_firstLevel : Int32) (c292_firstPrefix : Int32) (c292_firstOpen : Int32) (c292_firstLeft : Int32) (a293 : Nat → Int32) (a294 : Nat → Int64) (c295_way : Int32) (a296 : Nat → Int32) (a297 : Nat → Int64) (a298 : Nat → Int32) (a299 : Nat → Int64) (c310_rows : Int64) (c310_fresh : Int32) (a311 : Nat → Int64) (a312 : Nat → Int64) (c313_rows : Int64) (c313_fresh : Int32) (a314 : Nat → Int64) (a315 : Nat → Int64) (c316_rows : Int64) (c316_fresh : Int32) (a317 : Nat → Int64) (a318 : Nat → Int64) (c319_rows : Int64) (c319_fresh : Int32) (a320 : Nat → Int64) (a321 : Nat → Int64) (c322_rows : Int64) (c322_fresh : Int32) (a323 : Nat → Int64) (a324 : Nat → Int64) (c325_rows : Int64) (c325_fresh : Int32) (a326 : Nat → Int64) (a327 : Nat → Int64) (p0 : c248_groups.toInt ≤ 4) (p1 : 2 ≤ c248_groups.toInt) (p2 : c248_pots.toInt ≤ 4) (p3 : 0 ≤ c248_pots.toInt) (p4 : c248_teams.toInt ≤ 12) (p5 : 0 ≤ c248_teams.toInt) (p6 : c261_groups.toInt ≤ 4) (p7 : 0 ≤ c261_groups.toInt) (p8 : c261_many.toInt ≤ 24) (p9 : 0 ≤ c261_many.toInt) (p10 : c261_everyRank.toInt ≤ 16777215) (p11 : 0 ≤ c261_everyRank.toInt) (p12 : c267_total.toInt ≤ 13824) (p13 : 1 ≤ c267_total.toInt) (p14 : c267_lawfulOnes.toInt ≤ 13824) (p15 : 0 ≤ c267_lawfulOnes.toInt) (p16 : ((n269 : Nat) : Int) ≤ 13824) (p17 : 1 ≤ ((n269 : Nat) : Int)) (p18 : c274_out.toInt ≤ 12) (p19 : 0 ≤ c274_out.toInt) (p20 : c280_fresh.toInt ≤ 1) (p21 : 0 ≤ c280_fresh.toInt) (p22 : c292_firstLevel.toInt ≤ 4) (p23 : 0 ≤ c292_firstLevel.toInt) (p24 : c292_firstPrefix.toInt ≤ 331775) (p25 : 0 ≤ c292_firstPrefix.toInt) (p26 : c292_firstOpen.toInt ≤ 16777215) (p27 : 0 ≤ c292_firstOpen.toInt) (p28 : c292_firstLeft.toInt ≤ 15) (p29 : 0 ≤ c292_firstLeft.toInt) (p30 : c267_total.toInt ≤ ((n269 : Nat) : Int)) (p31 : c267_lawfulOnes.toInt ≤ c267_total.toInt) (p32 : c274_out.toInt ≤ c248_teams.toInt) (hr_a262 : dz_rg a262 96 0 3) (hr_a263 : dz_rq a263 (dz_kr κ) (dz_kg κ) 0 (((dz_kg κ : Nat) : Int) - 1)) (hr_a264 : dz_rg a264 16 0 16777215) (hr_a268 : dz_pt a268 (dz_kS κ)) (hr_a269 : dz_rg a269 n269 0 1023) (hr_a275 : dz_pm a275 (dz_kp κ)) (hr_a276 : dz_rg a276 4 0 3) (hr_a277 : dz_rg a277 12 (-1) 3) (hr_a281 : dz_rg a281 601 0 16777215) (hr_a282 : dz_rg a282 5 0 14425) (hr_a283 : (c280_fresh.toInt = 0 ∨ dz_pm a283 (dz_kp κ))) (hr_a296 : dz_rg a296 4 0 3) (o0 : c248_groups.toInt = ((dz_kg κ : Nat) : Int)) (o1 : c248_pots.toInt = ((dz_kp κ : Nat) : Int)) (o2 : c248_teams.toInt = ((dz_km κ : Nat) : Int)) (o3 : c261_groups.toInt = ((dz_kg κ : Nat) : Int)) (o4 : c261_many.toInt = ((dz_kr κ : Nat) : Int)) (o5 : c261_everyRank.toInt = ((dz_ke κ : Nat) : Int)) (o6 : c267_total.toInt = ((dz_kt κ : Nat) : Int)) (o7 : c274_out.toInt ≤ ((dz_km κ : Nat) : Int)) : dz_T (f250_X11_place fu c248_groups c248_pots c248_teams c261_groups c261_many c261_everyRank a262 a263 a264 c267_total c267_lawfulOnes a268 a269 n269 c274_out a275 a276 a277 v1 v2 v3 c280_fresh a281 a282 a283 c292_firstLevel c292_firstPrefix c292_firstOpen c292_firstLeft a293 a294 c295_way a296 a297 a298 a299 c310_rows c310_fresh a311 a312 c313_rows c313_fresh a314 a315 c316_rows c316_fresh a317 a318 c319_rows c319_fresh a320 a321 c322_rows c322_fresh a323 a324 c325_rows c325_fresh a326 a327) (fun r => r.2.1.toInt ≤ 1 ∧ 0 ≤ r.2.1.toInt ∧ r.2.2.2.2.2.1.toInt ≤ 4 ∧ 0 ≤ r.2.2.2.2.2.1.toInt ∧ r.2.2.2.2.2.2.1.toInt ≤ 331775 ∧ 0 ≤ r.2.2.2.2.2.2.1.toInt ∧ r.2.2.2.2.2.2.2.1.toInt ≤ 16777215 ∧ 0 ≤ r.2.2.2.2.2.2.2.1.toInt ∧ r.2.2.2.2.2.2.2.2.1.toInt ≤ 15 ∧ 0 ≤ r.2.2.2.2.2.2.2.2.1.toInt ∧ dz_rg r.2.2.1 601 0 16777215 ∧ dz_rg r.2.2.2.1 5 0 14425 ∧ dz_rg r.2.2.2.2.2.2.2.2.2.2.2.2.1 4 0 3 ∧ (r.2.1.toInt = 0 ∨ dz_pm r.2.2.2.2.1 (dz_kp κ))) := by
  unfold f250_X11_place s250_X11_place_0
  refine dz_Tbe (show f159_X11_isTeam fu c248_teams v1 = (if (v1 < (0 : Int32)) then (some (0 : Int32)) else (if (c248_teams ≤ v1) then (some (0 : Int32)) else (some (1 : Int32)))) from rfl) ?_
  have e1 := dz_l0
  refine dz_Tltb (fun h2 => ?_) (fun h2 => ?_)
  · skip
    refine dz_Tsb ?_
    refine dz_Teq (fun h3 => ?_) (fun h3 => ?_)
    · skip
      refine dz_Ts ?_
      dsimp only
      exact ⟨p20, p21, p22, p23, p24, p25, p26, p27, p28, p29, (hr_a281), (hr_a282), (hr_a296), hr_a283⟩
    · skip
      exfalso; omega
  · skip
    refine dz_Tleb (fun h4 => ?_) (fun h4 => ?_)
    · skip
      refine dz_Tsb ?_
      refine dz_Teq (fun h5 => ?_) (fun h5 => ?_)
      · skip
        refine dz_Ts ?_
        dsimp only
        exact ⟨p20, p21, p22, p23, p24, p25, p26, p27, p28, p29, (hr_a281), (hr_a282), (hr_a296), hr_a283⟩
      · skip
        exfalso; omega
    · skip
      refine dz_Tsb ?_
      have e6 := dz_l1
      refine dz_Teq (fun h7 => ?_) (fun h7 => ?_)
      · skip
        exfalso; omega
      · skip
        refine dz_Tbe (show f185_X11_isGroup fu c248_groups v2 = (if (v2 < (0 : Int32)) then (some (0 : Int32)) else (if (c248_groups ≤ v2) then (some (0 : Int32)) else (some (1 : Int32)))) from rfl) ?_
        refine dz_Tltb (fun h8 => ?_) (fun h8 => ?_)
        · skip
          refine dz_Tsb ?_
          refine dz_Teq (fun h9 => ?_) (fun h9 => ?_)
          · skip
            refine dz_Ts ?_
            dsimp only
            exact ⟨p20, p21, p22, p23, p24, p25, p26, p27, p28, p29, (hr_a281), (hr_a282), (hr_a296), hr_a283⟩
          · skip
            exfalso; omega
        · skip
          refine dz_Tleb (fun h10 => ?_) (fun h10 => ?_)
          · skip
            refine dz_Tsb ?_
            refine dz_Teq (fun h11 => ?_) (fun h11 => ?_)
            · skip
              refine dz_Ts ?_
              dsimp only
              exact ⟨p20, p21, p22, p23, p24, p25, p26, p27, p28, p29, (hr_a281), (hr_a282), (hr_a296), hr_a283⟩
            · skip
              exfalso; omega
          · skip
            refine dz_Tsb ?_
            refine dz_Teq (fun h12 => ?_) (fun h12 => ?_)
            · skip
              exfalso; omega
            · skip
              refine dz_Tbe (show f199_X11_isWay fu v3 = (if (v3 < (0 : Int32)) then (some (0 : Int32)) else (if ((3 : Int32) ≤ v3) then (some (0 : Int32)) else (some (1 : Int32)))) from rfl) ?_
              refine dz_Tltb (fun h13 => ?_) (fun h13 => ?_)
              · skip
                refine dz_Tsb ?_
                refine dz_Teq (fun h14 => ?_) (fun h14 => ?_)
                · skip
                  refine dz_Ts ?_
                  dsimp only
                  exact ⟨p20, p21, p22, p23, p24, p25, p26, p27, p28, p29, (hr_a281), (hr_a282), (hr_a296), hr_a283⟩
                · skip
                  exfalso; omega
              · skip
                have e15 := dz_l3
                refine dz_Tleb (fun h16 => ?_) (fun h16 => ?_)
                · skip
                  refine dz_Tsb ?_
                  refine dz_Teq (fun h17 => ?_) (fun h17 => ?_)
                  · skip
                    refine dz_Ts ?_
                    dsimp only
                    exact ⟨p20, p21, p22, p23, p24, p25, p26, p27, p28, p29, (hr_a281), (hr_a282), (hr_a296), hr_a283⟩
                  · skip
                    exfalso; omega
                · skip
                  refine dz_Tsb ?_
                  refine dz_Teq (fun h18 => ?_) (fun h18 => ?_)
                  · skip
                    exfalso; omega
                  · skip
                    refine dz_Teq (fun h19 => ?_) (fun h19 => ?_)
                    · skip
                      refine dz_Ts ?_
                      dsimp only
                      exact ⟨p20, p21, p22, p23, p24, p25, p26, p27, p28, p29, (hr_a281), (hr_a282), (hr_a296), hr_a283⟩
                    · skip
                      refine dz_Tb (t246_X11_chancesNow_s fu hfu κ hκ _ _ _ _ _ _ _ _ _ _ _ _ _ _ _ _ _ _ _ _ _ _ _ _ _ _ _ _ _ _ _ _ _ _ _ _ _ _ _ _ _ _ _ _ _ _ _ _ _ _ _ _ _ _ _ _ _ p0 p1 p2 p3 p4 p5 p6 p7 p8 p9 p10 p11 p12 p13 p16 p17 p18 p19 p20 p21 p22 p23 p24 p25 p26 p27 p28 p29 p30 p32 (by first | assumption | omega) (by first | assumption | omega) (hr_a262) (hr_a263) (hr_a264) (hr_a268) (hr_a269) (hr_a275) (hr_a276) (hr_a277) (hr_a281) (hr_a282) hr_a283 (hr_a296) o0 o1 o2 o3 o4 o5 o6 o7) (fun r4 q => ?_)
                      obtain ⟨q4_0, q4_1, q4_2, q4_3, q4_4, q4_5, q4_6, q4_7, q4_8, q4_9, q4_10, q4_11, q4_12, qa4_2, qa4_3, qa4_12, qa4_4⟩ := q
                      refine dz_Ti (fun h20 => ?_) (fun h20 => ?_)
                      · skip
                        refine dz_Tb (t249_X1_ofPlace fu hfu _ _ _ (by first | assumption | omega) (by first | assumption | omega) (by first | assumption | omega) (by first | assumption | omega)) (fun r5 _ => ?_)
                        refine dz_Ts ?_
                        dsimp only
                        exact ⟨q4_1, q4_2, q4_3, q4_4, q4_5, q4_6, q4_7, q4_8, q4_9, q4_10, (qa4_2), (qa4_3), (qa4_12), qa4_4⟩
                      · skip
                        refine dz_Ti (fun h21 => ?_) (fun h21 => ?_)
                        · skip
                          refine dz_Tb (t249_X1_ofPlace fu hfu _ _ _ (by first | assumption | omega) (by first | assumption | omega) (by first | assumption | omega) (by first | assumption | omega)) (fun r6 _ => ?_)
                          refine dz_Ts ?_
                          dsimp only
                          exact ⟨q4_1, q4_2, q4_3, q4_4, q4_5, q4_6, q4_7, q4_8, q4_9, q4_10, (qa4_2), (qa4_3), (qa4_12), qa4_4⟩
                        · skip
                          refine dz_Ti (fun h22 => ?_) (fun h22 => ?_)
                          · skip
                            refine dz_Tb (t249_X1_ofPlace fu hfu _ _ _ (by first | assumption | omega) (by first | assumption | omega) (by first | assumption | omega) (by first | assumption | omega)) (fun r7 _ => ?_)
                            refine dz_Ts ?_
                            dsimp only
                            exact ⟨q4_1, q4_2, q4_3, q4_4, q4_5, q4_6, q4_7, q4_8, q4_9, q4_10, (qa4_2), (qa4_3), (qa4_12), qa4_4⟩
                          · skip
                            refine dz_Ti (fun h23 => ?_) (fun h23 => ?_)
                            · skip
                              refine dz_Tb (t249_X1_ofPlace fu hfu _ _ _ (by first | assumption | omega) (by first | assumption | omega) (by first | assumption | omega) (by first | assumption | omega)) (fun r8 _ => ?_)
                              refine dz_Ts ?_
                              dsimp only
                              exact ⟨q4_1, q4_2, q4_3, q4_4, q4_5, q4_6, q4_7, q4_8, q4_9, q4_10, (qa4_2), (qa4_3), (qa4_12), qa4_4⟩
                            · skip
                              refine dz_Ti (fun h24 => ?_) (fun h24 => ?_)
                              · skip
                                refine dz_Tb (t249_X1_ofPlace fu hfu _ _ _ (by first | assumption | omega) (by first | assumption | omega) (by first | assumption | omega) (by first | assumption | omega)) (fun r9 _ => ?_)
                                refine dz_Ts ?_
                                dsimp only
                                exact ⟨q4_1, q4_2, q4_3, q4_4, q4_5, q4_6, q4_7, q4_8, q4_9, q4_10, (qa4_2), (qa4_3), (qa4_12), qa4_4⟩
                              · skip
                                refine dz_Tg (by omega) ?_
                                refine dz_Tb (t249_X1_ofPlace fu hfu _ _ _ (by first | assumption | omega) (by first | assumption | omega) (by first | assumption | omega) (by first | assumption | omega)) (fun r10 _ => ?_)
                                refine dz_Ts ?_
                                dsimp only
                                exact ⟨q4_1, q4_2, q4_3, q4_4, q4_5, q4_6, q4_7, q4_8, q4_9, q4_10, (qa4_2), (qa4_3), (qa4_12), qa4_4⟩
abbrev p252_X8_rowsLeft_s (fu : Nat) (κ : Nat) (c248_groups : Int32) (c248_pots : Int32) (c274_out : Int32) (k : Nat) : Prop :=
  (∀ (v2 : Int64) (v4 : Int32) (v5 : Int32), v4.toInt ≤ 6 → 0 ≤ v4.toInt → v5.toInt ≤ 6 → 0 ≤ v5.toInt → v4.toInt ≤ c274_out.toInt → v4.toInt ≤ v5.toInt → v5.toInt ≤ c274_out.toInt + 4 → v5.toInt ≤ v4.toInt + 4 → 0 + 0 + (6 - v5.toInt) * 12 + 6 ≤ ((k : Nat) : Int) → dz_T ((F252_X8_rowsLeft fu c248_groups c248_pots c274_out k).1 v2 v4 v5) (fun r => True))
set_option maxHeartbeats 1000000 in
set_option maxRecDepth 10000 in
theorem t252_X8_rowsLeft_h1_s (fu : Nat) (hfu : 1000000000000 ≤ fu) (κ : Nat) (hκ : κ < 14) (c248_groups : Int32) (c248_pots : Int32) (c274_out : Int32) (p0 : c248_groups.toInt ≤ 4) (p1 : 2 ≤ c248_groups.toInt) (p2 : c248_pots.toInt ≤ 4) (p3 : 0 ≤ c248_pots.toInt) (p4 : c274_out.toInt ≤ 12) (p5 : 0 ≤ c274_out.toInt) (o0 : c248_groups.toInt = ((dz_kg κ : Nat) : Int)) (o1 : c248_pots.toInt = ((dz_kp κ : Nat) : Int)) (o2 : c274_out.toInt ≤ ((dz_km κ : Nat) : Int)) (k : Nat) (ih : ∀ j9, j9 < k → p252_X8_rowsLeft_s fu κ c248_groups c248_pots c274_out j9) : ∀ (v2 : Int64) (v4 : Int32) (v5 : Int32), v4.toInt ≤ 6 → 0 ≤ v4.toInt → v5.toInt ≤ 6 → 0 ≤ v5.toInt → v4.toInt ≤ c274_out.toInt → v4.toInt ≤ v5.toInt → v5.toInt ≤ c274_out.toInt + 4 → v5.toInt ≤ v4.toInt + 4 → 0 + 0 + (6 - v5.toInt) * 12 + 6 ≤ ((k : Nat) : Int) → dz_T ((F252_X8_rowsLeft fu c248_groups c248_pots c274_out k).1 v2 v4 v5) (fun r => True) := by
  intro v2 v4 v5 i0 i1 i2 i3 i4 i5 i6 i7 hm
  obtain ⟨k0, rfl⟩ : ∃ x, k = x + 1 := ⟨k - 1, by omega⟩
  show dz_T (s252_X8_rowsLeft_1 fu c248_groups c248_pots c274_out (F252_X8_rowsLeft fu c248_groups c248_pots c274_out k0).2  v2 v4 v5) _
  unfold s252_X8_rowsLeft_1
  refine dz_Tle (fun h1 => ?_) (fun h1 => ?_)
  · skip
    exact dz_Ts trivial
  · skip
    refine dz_Teq (fun h2 => ?_) (fun h2 => ?_)
    · skip
      refine dz_Tbe (show f251_X8_begun fu c248_groups c274_out = (Option.bind (f161_X3_placeOf fu c248_groups c274_out) (fun b2 => (some b2))) from rfl) ?_
      refine dz_Tba ?_
      refine dz_Tbe (show f161_X3_placeOf fu c248_groups c274_out = (if (c248_groups ≤ (0 : Int32)) then (some (0 : Int32)) else (if (¬ (c248_groups = (0 : Int32))) then (some (dz_rem c274_out c248_groups)) else none)) from rfl) ?_
      have e3 := dz_l0
      refine dz_Tleb (fun h4 => ?_) (fun h4 => ?_)
      · skip
        exfalso; omega
      · skip
        refine dz_Tzb (by omega) ?_
        refine dz_Tsb ?_
        refine dz_Tsb ?_
        obtain ⟨k1, rfl⟩ : ∃ x, k0 = x + 1 := ⟨k0 - 1, by omega⟩
        show dz_T (s252_X8_rowsLeft_2 fu c248_groups c248_pots c274_out (F252_X8_rowsLeft fu c248_groups c248_pots c274_out k1).1 v2 v4 v5 (c248_groups - (dz_rem c274_out c248_groups))) _
        unfold s252_X8_rowsLeft_2
        have e5 := dz_remv (a := c274_out) (b := c248_groups) (by omega) (by omega)
        have e6 := dz_sub (a := c248_groups) (b := (dz_rem c274_out c248_groups)) (by omega) (by omega)
        refine dz_Tin (by omega) (by omega) ?_
        have e7 := dz_l1
        have e8 := dz_add (a := v5) (b := (1 : Int32)) (by omega) (by omega)
        exact (ih k1 (by omega)) (v2 * (jw_s2 (c248_groups - (dz_rem c274_out c248_groups)).toNatClampNeg).toInt64) v4 (v5 + (1 : Int32)) i0 i1 (by omega) (by omega) i4 (by omega) (by omega) (by omega) (by omega)
    · skip
      obtain ⟨k2, rfl⟩ : ∃ x, k0 = x + 1 := ⟨k0 - 1, by omega⟩
      show dz_T (s252_X8_rowsLeft_2 fu c248_groups c248_pots c274_out (F252_X8_rowsLeft fu c248_groups c248_pots c274_out k2).1 v2 v4 v5 c248_groups) _
      unfold s252_X8_rowsLeft_2
      refine dz_Tin (by omega) (by omega) ?_
      have e9 := dz_l1
      have e10 := dz_add (a := v5) (b := (1 : Int32)) (by omega) (by omega)
      exact (ih k2 (by omega)) (v2 * (jw_s2 c248_groups.toNatClampNeg).toInt64) v4 (v5 + (1 : Int32)) i0 i1 (by omega) (by omega) i4 (by omega) (by omega) (by omega) (by omega)
theorem t252_X8_rowsLeft_I_s (fu : Nat) (hfu : 1000000000000 ≤ fu) (κ : Nat) (hκ : κ < 14) (c248_groups : Int32) (c248_pots : Int32) (c274_out : Int32) (p0 : c248_groups.toInt ≤ 4) (p1 : 2 ≤ c248_groups.toInt) (p2 : c248_pots.toInt ≤ 4) (p3 : 0 ≤ c248_pots.toInt) (p4 : c274_out.toInt ≤ 12) (p5 : 0 ≤ c274_out.toInt) (o0 : c248_groups.toInt = ((dz_kg κ : Nat) : Int)) (o1 : c248_pots.toInt = ((dz_kp κ : Nat) : Int)) (o2 : c274_out.toInt ≤ ((dz_km κ : Nat) : Int)) (k : Nat) : p252_X8_rowsLeft_s fu κ c248_groups c248_pots c274_out k := by
  induction k using Nat.strongRecOn with
  | _ k ih => exact t252_X8_rowsLeft_h1_s fu hfu κ hκ c248_groups c248_pots c274_out p0 p1 p2 p3 p4 p5 o0 o1 o2 k ih
set_option maxHeartbeats 1000000 in
set_option maxRecDepth 10000 in
theorem t252_X8_rowsLeft_E_s (fu : Nat) (hfu : 1000000000000 ≤ fu) (κ : Nat) (hκ : κ < 14) (c248_groups : Int32) (c248_pots : Int32) (c274_out : Int32) (p0 : c248_groups.toInt ≤ 4) (p1 : 2 ≤ c248_groups.toInt) (p2 : c248_pots.toInt ≤ 4) (p3 : 0 ≤ c248_pots.toInt) (p4 : c274_out.toInt ≤ 12) (p5 : 0 ≤ c274_out.toInt) (o0 : c248_groups.toInt = ((dz_kg κ : Nat) : Int)) (o1 : c248_pots.toInt = ((dz_kp κ : Nat) : Int)) (o2 : c274_out.toInt ≤ ((dz_km κ : Nat) : Int)) (kv : Nat) (hkv : 1000000000000 ≤ kv) : dz_T (s252_X8_rowsLeft_0 fu c248_groups c248_pots c274_out (F252_X8_rowsLeft fu c248_groups c248_pots c274_out kv).1 ) (fun r => True) := by
  unfold s252_X8_rowsLeft_0
  have hfull := dz_kfull hκ (o := c274_out) (g := c248_groups) (by omega) (by omega) (by omega)
  have hk4 := dz_kp4 hκ
  refine dz_Tbe (show f169_X8_fullPots fu c248_groups c274_out = (Option.bind (f160_X3_potOf fu c248_groups c274_out) (fun b2 => (some b2))) from rfl) ?_
  refine dz_Tba ?_
  refine dz_Tbe (show f160_X3_potOf fu c248_groups c274_out = (if (c248_groups ≤ (0 : Int32)) then (some (0 : Int32)) else (if (¬ (c248_groups = (0 : Int32))) then (some (c274_out / c248_groups)) else none)) from rfl) ?_
  have e1 := dz_l0
  refine dz_Tleb (fun h2 => ?_) (fun h2 => ?_)
  · skip
    exfalso; omega
  · skip
    refine dz_Tzb (by omega) ?_
    refine dz_Tsb ?_
    refine dz_Tsb ?_
    have e3 := dz_divq (a := c274_out) (b := c248_groups) 2 12 (by omega) (by omega) (by omega) (by omega)
    exact (t252_X8_rowsLeft_I_s fu hfu κ hκ c248_groups c248_pots c274_out p0 p1 p2 p3 p4 p5 o0 o1 o2 kv) (1 : Int64) (c274_out / c248_groups) (c274_out / c248_groups) (by omega) (by omega) (by omega) (by omega) (by omega) (by omega) (by omega) (by omega) (by omega)
theorem t252_X8_rowsLeft_s (fu : Nat) (hfu : 1000000000000 ≤ fu) (κ : Nat) (hκ : κ < 14) (c248_groups : Int32) (c248_pots : Int32) (c274_out : Int32) (p0 : c248_groups.toInt ≤ 4) (p1 : 2 ≤ c248_groups.toInt) (p2 : c248_pots.toInt ≤ 4) (p3 : 0 ≤ c248_pots.toInt) (p4 : c274_out.toInt ≤ 12) (p5 : 0 ≤ c274_out.toInt) (o0 : c248_groups.toInt = ((dz_kg κ : Nat) : Int)) (o1 : c248_pots.toInt = ((dz_kp κ : Nat) : Int)) (o2 : c274_out.toInt ≤ ((dz_km κ : Nat) : Int)) : dz_T (f252_X8_rowsLeft fu c248_groups c248_pots c274_out) (fun r => True) :=
  t252_X8_rowsLeft_E_s fu hfu κ hκ c248_groups c248_pots c274_out p0 p1 p2 p3 p4 p5 o0 o1 o2 fu hfu
abbrev p253_X8_rowsLeft_s (fu : Nat) (κ : Nat) (c248_groups : Int32) (c248_pots : Int32) (c274_out : Int32) (k : Nat) : Prop :=
  (∀ (v2 : Int64) (v4 : Int32) (v5 : Int32), v4.toInt ≤ 6 → 0 ≤ v4.toInt → v5.toInt ≤ 6 → 0 ≤ v5.toInt → v4.toInt ≤ c274_out.toInt → v4.toInt ≤ v5.toInt → v5.toInt ≤ c274_out.toInt + 4 → v5.toInt ≤ v4.toInt + 4 → 0 + 0 + (6 - v5.toInt) * 12 + 6 ≤ ((k : Nat) : Int) → dz_T ((F253_X8_rowsLeft fu c248_groups c248_pots c274_out k).1 v2 v4 v5) (fun r => True))
set_option maxHeartbeats 1000000 in
set_option maxRecDepth 10000 in
theorem t253_X8_rowsLeft_h1_s (fu : Nat) (hfu : 1000000000000 ≤ fu) (κ : Nat) (hκ : κ < 14) (c248_groups : Int32) (c248_pots : Int32) (c274_out : Int32) (p0 : c248_groups.toInt ≤ 4) (p1 : 2 ≤ c248_groups.toInt) (p2 : c248_pots.toInt ≤ 4) (p3 : 0 ≤ c248_pots.toInt) (p4 : c274_out.toInt ≤ 12) (p5 : 0 ≤ c274_out.toInt) (o0 : c248_groups.toInt = ((dz_kg κ : Nat) : Int)) (o1 : c248_pots.toInt = ((dz_kp κ : Nat) : Int)) (o2 : c274_out.toInt ≤ ((dz_km κ : Nat) : Int)) (k : Nat) (ih : ∀ j9, j9 < k → p253_X8_rowsLeft_s fu κ c248_groups c248_pots c274_out j9) : ∀ (v2 : Int64) (v4 : Int32) (v5 : Int32), v4.toInt ≤ 6 → 0 ≤ v4.toInt → v5.toInt ≤ 6 → 0 ≤ v5.toInt → v4.toInt ≤ c274_out.toInt → v4.toInt ≤ v5.toInt → v5.toInt ≤ c274_out.toInt + 4 → v5.toInt ≤ v4.toInt + 4 → 0 + 0 + (6 - v5.toInt) * 12 + 6 ≤ ((k : Nat) : Int) → dz_T ((F253_X8_rowsLeft fu c248_groups c248_pots c274_out k).1 v2 v4 v5) (fun r => True) := by
  intro v2 v4 v5 i0 i1 i2 i3 i4 i5 i6 i7 hm
  obtain ⟨k0, rfl⟩ : ∃ x, k = x + 1 := ⟨k - 1, by omega⟩
  show dz_T (s253_X8_rowsLeft_1 fu c248_groups c248_pots c274_out (F253_X8_rowsLeft fu c248_groups c248_pots c274_out k0).2  v2 v4 v5) _
  unfold s253_X8_rowsLeft_1
  refine dz_Tle (fun h1 => ?_) (fun h1 => ?_)
  · skip
    exact dz_Ts trivial
  · skip
    refine dz_Teq (fun h2 => ?_) (fun h2 => ?_)
    · skip
      refine dz_Tbe (show f251_X8_begun fu c248_groups c274_out = (Option.bind (f161_X3_placeOf fu c248_groups c274_out) (fun b2 => (some b2))) from rfl) ?_
      refine dz_Tba ?_
      refine dz_Tbe (show f161_X3_placeOf fu c248_groups c274_out = (if (c248_groups ≤ (0 : Int32)) then (some (0 : Int32)) else (if (¬ (c248_groups = (0 : Int32))) then (some (dz_rem c274_out c248_groups)) else none)) from rfl) ?_
      have e3 := dz_l0
      refine dz_Tleb (fun h4 => ?_) (fun h4 => ?_)
      · skip
        exfalso; omega
      · skip
        refine dz_Tzb (by omega) ?_
        refine dz_Tsb ?_
        refine dz_Tsb ?_
        obtain ⟨k1, rfl⟩ : ∃ x, k0 = x + 1 := ⟨k0 - 1, by omega⟩
        show dz_T (s253_X8_rowsLeft_2 fu c248_groups c248_pots c274_out (F253_X8_rowsLeft fu c248_groups c248_pots c274_out k1).1 v2 v4 v5 (c248_groups - (dz_rem c274_out c248_groups))) _
        unfold s253_X8_rowsLeft_2
        have e5 := dz_remv (a := c274_out) (b := c248_groups) (by omega) (by omega)
        have e6 := dz_sub (a := c248_groups) (b := (dz_rem c274_out c248_groups)) (by omega) (by omega)
        refine dz_Tin (by omega) (by omega) ?_
        have e7 := dz_l1
        have e8 := dz_add (a := v5) (b := (1 : Int32)) (by omega) (by omega)
        exact (ih k1 (by omega)) (v2 * (jw_s1 (c248_groups - (dz_rem c274_out c248_groups)).toNatClampNeg).toInt64) v4 (v5 + (1 : Int32)) i0 i1 (by omega) (by omega) i4 (by omega) (by omega) (by omega) (by omega)
    · skip
      obtain ⟨k2, rfl⟩ : ∃ x, k0 = x + 1 := ⟨k0 - 1, by omega⟩
      show dz_T (s253_X8_rowsLeft_2 fu c248_groups c248_pots c274_out (F253_X8_rowsLeft fu c248_groups c248_pots c274_out k2).1 v2 v4 v5 c248_groups) _
      unfold s253_X8_rowsLeft_2
      refine dz_Tin (by omega) (by omega) ?_
      have e9 := dz_l1
      have e10 := dz_add (a := v5) (b := (1 : Int32)) (by omega) (by omega)
      exact (ih k2 (by omega)) (v2 * (jw_s1 c248_groups.toNatClampNeg).toInt64) v4 (v5 + (1 : Int32)) i0 i1 (by omega) (by omega) i4 (by omega) (by omega) (by omega) (by omega)
theorem t253_X8_rowsLeft_I_s (fu : Nat) (hfu : 1000000000000 ≤ fu) (κ : Nat) (hκ : κ < 14) (c248_groups : Int32) (c248_pots : Int32) (c274_out : Int32) (p0 : c248_groups.toInt ≤ 4) (p1 : 2 ≤ c248_groups.toInt) (p2 : c248_pots.toInt ≤ 4) (p3 : 0 ≤ c248_pots.toInt) (p4 : c274_out.toInt ≤ 12) (p5 : 0 ≤ c274_out.toInt) (o0 : c248_groups.toInt = ((dz_kg κ : Nat) : Int)) (o1 : c248_pots.toInt = ((dz_kp κ : Nat) : Int)) (o2 : c274_out.toInt ≤ ((dz_km κ : Nat) : Int)) (k : Nat) : p253_X8_rowsLeft_s fu κ c248_groups c248_pots c274_out k := by
  induction k using Nat.strongRecOn with
  | _ k ih => exact t253_X8_rowsLeft_h1_s fu hfu κ hκ c248_groups c248_pots c274_out p0 p1 p2 p3 p4 p5 o0 o1 o2 k ih
set_option maxHeartbeats 1000000 in
set_option maxRecDepth 10000 in
theorem t253_X8_rowsLeft_E_s (fu : Nat) (hfu : 1000000000000 ≤ fu) (κ : Nat) (hκ : κ < 14) (c248_groups : Int32) (c248_pots : Int32) (c274_out : Int32) (p0 : c248_groups.toInt ≤ 4) (p1 : 2 ≤ c248_groups.toInt) (p2 : c248_pots.toInt ≤ 4) (p3 : 0 ≤ c248_pots.toInt) (p4 : c274_out.toInt ≤ 12) (p5 : 0 ≤ c274_out.toInt) (o0 : c248_groups.toInt = ((dz_kg κ : Nat) : Int)) (o1 : c248_pots.toInt = ((dz_kp κ : Nat) : Int)) (o2 : c274_out.toInt ≤ ((dz_km κ : Nat) : Int)) (kv : Nat) (hkv : 1000000000000 ≤ kv) : dz_T (s253_X8_rowsLeft_0 fu c248_groups c248_pots c274_out (F253_X8_rowsLeft fu c248_groups c248_pots c274_out kv).1 ) (fun r => True) := by
  unfold s253_X8_rowsLeft_0
  have hfull := dz_kfull hκ (o := c274_out) (g := c248_groups) (by omega) (by omega) (by omega)
  have hk4 := dz_kp4 hκ
  refine dz_Tbe (show f169_X8_fullPots fu c248_groups c274_out = (Option.bind (f160_X3_potOf fu c248_groups c274_out) (fun b2 => (some b2))) from rfl) ?_
  refine dz_Tba ?_
  refine dz_Tbe (show f160_X3_potOf fu c248_groups c274_out = (if (c248_groups ≤ (0 : Int32)) then (some (0 : Int32)) else (if (¬ (c248_groups = (0 : Int32))) then (some (c274_out / c248_groups)) else none)) from rfl) ?_
  have e1 := dz_l0
  refine dz_Tleb (fun h2 => ?_) (fun h2 => ?_)
  · skip
    exfalso; omega
  · skip
    refine dz_Tzb (by omega) ?_
    refine dz_Tsb ?_
    refine dz_Tsb ?_
    have e3 := dz_divq (a := c274_out) (b := c248_groups) 2 12 (by omega) (by omega) (by omega) (by omega)
    exact (t253_X8_rowsLeft_I_s fu hfu κ hκ c248_groups c248_pots c274_out p0 p1 p2 p3 p4 p5 o0 o1 o2 kv) (1 : Int64) (c274_out / c248_groups) (c274_out / c248_groups) (by omega) (by omega) (by omega) (by omega) (by omega) (by omega) (by omega) (by omega) (by omega)
theorem t253_X8_rowsLeft_s (fu : Nat) (hfu : 1000000000000 ≤ fu) (κ : Nat) (hκ : κ < 14) (c248_groups : Int32) (c248_pots : Int32) (c274_out : Int32) (p0 : c248_groups.toInt ≤ 4) (p1 : 2 ≤ c248_groups.toInt) (p2 : c248_pots.toInt ≤ 4) (p3 : 0 ≤ c248_pots.toInt) (p4 : c274_out.toInt ≤ 12) (p5 : 0 ≤ c274_out.toInt) (o0 : c248_groups.toInt = ((dz_kg κ : Nat) : Int)) (o1 : c248_pots.toInt = ((dz_kp κ : Nat) : Int)) (o2 : c274_out.toInt ≤ ((dz_km κ : Nat) : Int)) : dz_T (f253_X8_rowsLeft fu c248_groups c248_pots c274_out) (fun r => True) :=
  t253_X8_rowsLeft_E_s fu hfu κ hκ c248_groups c248_pots c274_out p0 p1 p2 p3 p4 p5 o0 o1 o2 fu hfu
set_option maxHeartbeats 1000000 in
set_option maxRecDepth 10000 in
theorem t254_X11_all_s (fu : Nat) (hfu : 1000000000000 ≤ fu) (κ : Nat) (hκ : κ < 14) (c248_groups : Int32) (c248_pots : Int32) (c248_teams : Int32) (c261_groups : Int32) (c261_many : Int32) (c261_everyRank : Int32) (a262 : Nat → Int32) (a263 : Nat → Int32) (a264 : Nat → Int32) (c267_total : Int32) (c267_lawfulOnes : Int32) (a268 : Nat → Int32) (a269 : Nat → Int32) (n269 : Nat) (c274_out : Int32) (a275 : Nat → Int32) (a276 : Nat → Int32) (a277 : Nat → Int32) (v1 : Int32) (c280_fresh : Int32) (a281 : Nat → Int32) (a282 : Nat → Int32) (a283 : Nat → Int32) (c292_firstLevel : Int32) (c292_firstPrefix : Int32) (c292_firstOpen : Int32) (c292_firstLeft : Int32) (a293 : Nat → Int32) (a294 : Nat → Int64) (c295_way : Int32) (a296 : Nat → Int32) (a297 : Nat → Int64) (a298 : Nat → Int32) (a299 : Nat → Int64) (c310_rows : Int64) (c310_fresh : Int32) (a311 : Nat → Int64) (a312 : Nat → Int64) (c313_rows : Int64) (c313_fresh : Int32) (a314 : Nat → Int64) (a315 : Nat → Int64) (c316_rows : Int64) (c316_fresh : Int32) (a317 : Nat → Int64) (a318 : Nat → Int64) (c319_rows : Int64) (c319_fresh : Int32) (a320 : Nat → Int64) (a321 : Nat → Int64) (c322_rows : Int64) (c322_fresh : Int32) (a323 : Nat → Int64) (a324 : Nat → Int64) (c325_rows : Int64) (c325_fresh : Int32) (a326 : Nat → Int64) (a327 : Nat → Int64) (p0 : c248_groups.toInt ≤ 4) (p1 : 2 ≤ c248_groups.toInt) (p2 : c248_pots.toInt ≤ 4) (p3 : 0 ≤ c248_pots.toInt) (p4 : c248_teams.toInt ≤ 12) (p5 : 0 ≤ c248_teams.toInt) (p6 : c261_groups.toInt ≤ 4) (p7 : 0 ≤ c261_groups.toInt) (p8 : c261_many.toInt ≤ 24) (p9 : 0 ≤ c261_many.toInt) (p10 : c261_everyRank.toInt ≤ 16777215) (p11 : 0 ≤ c261_everyRank.toInt) (p12 : c267_total.toInt ≤ 13824) (p13 : 1 ≤ c267_total.toInt) (p14 : c267_lawfulOnes.toInt ≤ 13824) (p15 : 0 ≤ c267_lawfulOnes.toInt) (p16 : ((n269 : Nat) : Int) ≤ 13824) (p17 : 1 ≤ ((n269 : Nat) : Int)) (p18 : c274_out.toInt ≤ 12) (p19 : 0 ≤ c274_out.toInt) (p20 : c280_fresh.toInt ≤ 1) (p21 : 0 ≤ c280_fresh.toInt) (p22 : c292_firstLevel.toInt ≤ 4) (p23 : 0 ≤ c292_firstLevel.toInt) (p24 : c292_firstPrefix.toInt ≤ 331775) (p25 : 0 ≤ c292_firstPrefix.toInt) (p26 : c292_firstOpen.toInt ≤ 16777215) (p27 : 0 ≤ c292_firstOpen.toInt) (p28 : c292_firstLeft.toInt ≤ 15) (p29 : 0 ≤ c292_firstLeft.toInt) (p30 : c267_total.toInt ≤ ((n269 : Nat) : Int)) (p31 : c267_lawfulOnes.toInt ≤ c267_total.toInt) (p32 : c274_out.toInt ≤ c248_teams.toInt) (hr_a262 : dz_rg a262 96 0 3) (hr_a263 : dz_rq a263 (dz_kr κ) (dz_kg κ) 0 (((dz_kg κ : Nat) : Int) - 1)) (hr_a264 : dz_rg a264 16 0 16777215) (hr_a268 : dz_pt a268 (dz_kS κ)) (hr_a269 : dz_rg a269 n269 0 1023) (hr_a275 : dz_pm a275 (dz_kp κ)) (hr_a276 : dz_rg a276 4 0 3) (hr_a277 : dz_rg a277 12 (-1) 3) (hr_a281 : dz_rg a281 601 0 16777215) (hr_a282 : dz_rg a282 5 0 14425) (hr_a283 : (c280_fresh.toInt = 0 ∨ dz_pm a283 (dz_kp κ))) (hr_a296 : dz_rg a296 4 0 3) (o0 : c248_groups.toInt = ((dz_kg κ : Nat) : Int)) (o1 : c248_pots.toInt = ((dz_kp κ : Nat) : Int)) (o2 : c248_teams.toInt = ((dz_km κ : Nat) : Int)) (o3 : c261_groups.toInt = ((dz_kg κ : Nat) : Int)) (o4 : c261_many.toInt = ((dz_kr κ : Nat) : Int)) (o5 : c261_everyRank.toInt = ((dz_ke κ : Nat) : Int)) (o6 : c267_total.toInt = ((dz_kt κ : Nat) : Int)) (o7 : c274_out.toInt ≤ ((dz_km κ : Nat) : Int)) : dz_T (f254_X11_all fu c248_groups c248_pots c248_teams c261_groups c261_many c261_everyRank a262 a263 a264 c267_total c267_lawfulOnes a268 a269 n269 c274_out a275 a276 a277 v1 c280_fresh a281 a282 a283 c292_firstLevel c292_firstPrefix c292_firstOpen c292_firstLeft a293 a294 c295_way a296 a297 a298 a299 c310_rows c310_fresh a311 a312 c313_rows c313_fresh a314 a315 c316_rows c316_fresh a317 a318 c319_rows c319_fresh a320 a321 c322_rows c322_fresh a323 a324 c325_rows c325_fresh a326 a327) (fun r => r.2.1.toInt ≤ 1 ∧ 0 ≤ r.2.1.toInt ∧ r.2.2.2.2.2.1.toInt ≤ 4 ∧ 0 ≤ r.2.2.2.2.2.1.toInt ∧ r.2.2.2.2.2.2.1.toInt ≤ 331775 ∧ 0 ≤ r.2.2.2.2.2.2.1.toInt ∧ r.2.2.2.2.2.2.2.1.toInt ≤ 16777215 ∧ 0 ≤ r.2.2.2.2.2.2.2.1.toInt ∧ r.2.2.2.2.2.2.2.2.1.toInt ≤ 15 ∧ 0 ≤ r.2.2.2.2.2.2.2.2.1.toInt ∧ dz_rg r.2.2.1 601 0 16777215 ∧ dz_rg r.2.2.2.1 5 0 14425 ∧ dz_rg r.2.2.2.2.2.2.2.2.2.2.2.2.1 4 0 3 ∧ (r.2.1.toInt = 0 ∨ dz_pm r.2.2.2.2.1 (dz_kp κ))) := by
  unfold f254_X11_all s254_X11_all_0
  refine dz_Tbe (show f199_X11_isWay fu v1 = (if (v1 < (0 : Int32)) then (some (0 : Int32)) else (if ((3 : Int32) ≤ v1) then (some (0 : Int32)) else (some (1 : Int32)))) from rfl) ?_
  have e1 := dz_l0
  refine dz_Tltb (fun h2 => ?_) (fun h2 => ?_)
  · skip
    refine dz_Tsb ?_
    refine dz_Teq (fun h3 => ?_) (fun h3 => ?_)
    · skip
      refine dz_Ts ?_
      dsimp only
      exact ⟨p20, p21, p22, p23, p24, p25, p26, p27, p28, p29, (hr_a281), (hr_a282), (hr_a296), hr_a283⟩
    · skip
      exfalso; omega
  · skip
    have e4 := dz_l3
    refine dz_Tleb (fun h5 => ?_) (fun h5 => ?_)
    · skip
      refine dz_Tsb ?_
      refine dz_Teq (fun h6 => ?_) (fun h6 => ?_)
      · skip
        refine dz_Ts ?_
        dsimp only
        exact ⟨p20, p21, p22, p23, p24, p25, p26, p27, p28, p29, (hr_a281), (hr_a282), (hr_a296), hr_a283⟩
      · skip
        exfalso; omega
    · skip
      refine dz_Tsb ?_
      have e7 := dz_l1
      refine dz_Teq (fun h8 => ?_) (fun h8 => ?_)
      · skip
        exfalso; omega
      · skip
        refine dz_Teq (fun h9 => ?_) (fun h9 => ?_)
        · skip
          refine dz_Ts ?_
          dsimp only
          exact ⟨p20, p21, p22, p23, p24, p25, p26, p27, p28, p29, (hr_a281), (hr_a282), (hr_a296), hr_a283⟩
        · skip
          refine dz_Teq (fun h10 => ?_) (fun h10 => ?_)
          · skip
            refine dz_Tb (t246_X11_chancesNow_s fu hfu κ hκ _ _ _ _ _ _ _ _ _ _ _ _ _ _ _ _ _ _ _ _ _ _ _ _ _ _ _ _ _ _ _ _ _ _ _ _ _ _ _ _ _ _ _ _ _ _ _ _ _ _ _ _ _ _ _ _ _ p0 p1 p2 p3 p4 p5 p6 p7 p8 p9 p10 p11 p12 p13 p16 p17 p18 p19 p20 p21 p22 p23 p24 p25 p26 p27 p28 p29 p30 p32 (by omega) (by omega) (hr_a262) (hr_a263) (hr_a264) (hr_a268) (hr_a269) (hr_a275) (hr_a276) (hr_a277) (hr_a281) (hr_a282) hr_a283 (hr_a296) o0 o1 o2 o3 o4 o5 o6 o7) (fun r2 q => ?_)
            obtain ⟨q2_0, q2_1, q2_2, q2_3, q2_4, q2_5, q2_6, q2_7, q2_8, q2_9, q2_10, q2_11, q2_12, qa2_2, qa2_3, qa2_12, qa2_4⟩ := q
            refine dz_Ti (fun h11 => ?_) (fun h11 => ?_)
            · skip
              exfalso; omega
            · skip
              refine dz_Ti (fun h12 => ?_) (fun h12 => ?_)
              · skip
                refine dz_Ts ?_
                dsimp only
                exact ⟨q2_1, q2_2, q2_3, q2_4, q2_5, q2_6, q2_7, q2_8, q2_9, q2_10, (qa2_2), (qa2_3), (qa2_12), qa2_4⟩
              · skip
                refine dz_Ti (fun h13 => ?_) (fun h13 => ?_)
                · skip
                  refine dz_Ts ?_
                  dsimp only
                  exact ⟨q2_1, q2_2, q2_3, q2_4, q2_5, q2_6, q2_7, q2_8, q2_9, q2_10, (qa2_2), (qa2_3), (qa2_12), qa2_4⟩
                · skip
                  refine dz_Ti (fun h14 => ?_) (fun h14 => ?_)
                  · skip
                    refine dz_Ts ?_
                    dsimp only
                    exact ⟨q2_1, q2_2, q2_3, q2_4, q2_5, q2_6, q2_7, q2_8, q2_9, q2_10, (qa2_2), (qa2_3), (qa2_12), qa2_4⟩
                  · skip
                    refine dz_Ti (fun h15 => ?_) (fun h15 => ?_)
                    · skip
                      refine dz_Ts ?_
                      dsimp only
                      exact ⟨q2_1, q2_2, q2_3, q2_4, q2_5, q2_6, q2_7, q2_8, q2_9, q2_10, (qa2_2), (qa2_3), (qa2_12), qa2_4⟩
                    · skip
                      exfalso; omega
          · skip
            refine dz_Teq (fun h16 => ?_) (fun h16 => ?_)
            · skip
              unfold d254_X11_all_2 s254_X11_all_2
              refine dz_Tb (t253_X8_rowsLeft_s fu hfu κ hκ _ _ _ p0 p1 p2 p3 p18 p19 o0 o1 o7) (fun r3 _ => ?_)
              refine dz_Ts ?_
              dsimp only
              exact ⟨p20, p21, p22, p23, p24, p25, p26, p27, p28, p29, (hr_a281), (hr_a282), (hr_a296), hr_a283⟩
            · skip
              unfold d254_X11_all_1 s254_X11_all_1
              refine dz_Tb (t252_X8_rowsLeft_s fu hfu κ hκ _ _ _ p0 p1 p2 p3 p18 p19 o0 o1 o7) (fun r4 _ => ?_)
              refine dz_Ts ?_
              dsimp only
              exact ⟨p20, p21, p22, p23, p24, p25, p26, p27, p28, p29, (hr_a281), (hr_a282), (hr_a296), hr_a283⟩
set_option maxHeartbeats 1000000 in
set_option maxRecDepth 10000 in
theorem t256_X11_far (fu : Nat) (hfu : 1000000000000 ≤ fu) (c310_rows : Int64) (a311 : Nat → Int64) (v2 : Int32) (v3 : Int32) (p0 : 0 ≤ v2.toInt) (p1 : v2.toInt ≤ 11) (p2 : 0 ≤ v3.toInt) (p3 : v3.toInt ≤ 11) : dz_T (f256_X11_far fu c310_rows a311 v2 v3) (fun r => True) := by
  unfold f256_X11_far s256_X11_far_0
  refine dz_Tb (t247_X1_ofPair fu hfu _ _ _ p0 p1 p2 p3) (fun r1 _ => ?_)
  refine dz_Tb (t247_X1_ofPair fu hfu _ _ _ p0 p1 p2 p3) (fun r2 _ => ?_)
  exact dz_Ts trivial
