abbrev p208_X6_addAhead_g34 (fu : Nat) (c248_groups : Int32) (a263 : Nat → Int32) (a283 : Nat → Int32) (a293 : Nat → Int32) (k : Nat) : Prop :=
  (∀ (v3 : Int32) (v4 : Int64) (v6 : Int32) (c313_rows : Int64) (a314 : Nat → Int64) (a315 : Nat → Int64), v3.toInt ≤ 4 → 0 ≤ v3.toInt → v6.toInt ≤ 4 → 0 ≤ v6.toInt → v6.toInt ≤ v3.toInt → dz_rg a293 v3.toInt.toNat 0 5 → 0 + 0 + (4 - v6.toInt) * 392 + 7 ≤ ((k : Nat) : Int) → dz_T ((F208_X6_addAhead fu c248_groups a263 a283 a293 k).1 v3 v4 v6 c313_rows a314 a315) (fun r => True)) ∧ (∀ (v3 : Int32) (v4 : Int64) (v6 : Int32) (v7 : Int32) (v8 : Int32) (c313_rows : Int64) (a314 : Nat → Int64) (a315 : Nat → Int64), v3.toInt ≤ 4 → 1 ≤ v3.toInt → v6.toInt ≤ 3 → 0 ≤ v6.toInt → v7.toInt ≤ 9 → 0 ≤ v7.toInt → v8.toInt ≤ 3 → 0 ≤ v8.toInt → v6.toInt + 1 ≤ v3.toInt → dz_rg a293 v3.toInt.toNat 0 5 → 0 + 0 + ((4 - v6.toInt) - 1) * 392 + 0 + (3 - v8.toInt) * 91 + 14 ≤ ((k : Nat) : Int) → dz_T ((F208_X6_addAhead fu c248_groups a263 a283 a293 k).2.1 v3 v4 v6 v7 v8 c313_rows a314 a315) (fun r => True)) ∧ (∀ (v3 : Int32) (v4 : Int64) (v6 : Int32) (v7 : Int32) (v8 : Int32) (v9 : Int32) (v10 : Int32) (c313_rows : Int64) (a314 : Nat → Int64) (a315 : Nat → Int64), v3.toInt ≤ 4 → 1 ≤ v3.toInt → v6.toInt ≤ 3 → 0 ≤ v6.toInt → v7.toInt ≤ 9 → 0 ≤ v7.toInt → v8.toInt ≤ 2 → 0 ≤ v8.toInt → v9.toInt ≤ 11 → 0 ≤ v9.toInt → v10.toInt ≤ 4 → 1 ≤ v10.toInt → v6.toInt + 1 ≤ v10.toInt → v6.toInt + 1 ≤ v3.toInt → v10.toInt ≤ v3.toInt → v7.toInt ≤ v9.toInt → v9.toInt ≤ v7.toInt + 2 → dz_rg a293 v3.toInt.toNat 0 5 → 0 + 0 + ((4 - v6.toInt) - 1) * 392 + 0 + ((3 - v8.toInt) - 1) * 91 + 0 + (4 - v10.toInt) * 14 + 21 ≤ ((k : Nat) : Int) → dz_T ((F208_X6_addAhead fu c248_groups a263 a283 a293 k).2.2 v3 v4 v6 v7 v8 v9 v10 c313_rows a314 a315) (fun r => True))
set_option maxHeartbeats 1000000 in
set_option maxRecDepth 10000 in
theorem t208_X6_addAhead_h1_g34 (fu : Nat) (hfu : 1000000000000 ≤ fu) (c248_groups : Int32) (a263 : Nat → Int32) (a283 : Nat → Int32) (a293 : Nat → Int32) (p0 : c248_groups.toInt ≤ 3) (p1 : 3 ≤ c248_groups.toInt) (hr_a263 : dz_rq a263 6 3 0 2) (hr_a283 : dz_pm a283 4) (k : Nat) (ih : ∀ j9, j9 < k → p208_X6_addAhead_g34 fu c248_groups a263 a283 a293 j9) : ∀ (v3 : Int32) (v4 : Int64) (v6 : Int32) (c313_rows : Int64) (a314 : Nat → Int64) (a315 : Nat → Int64), v3.toInt ≤ 4 → 0 ≤ v3.toInt → v6.toInt ≤ 4 → 0 ≤ v6.toInt → v6.toInt ≤ v3.toInt → dz_rg a293 v3.toInt.toNat 0 5 → 0 + 0 + (4 - v6.toInt) * 392 + 7 ≤ ((k : Nat) : Int) → dz_T ((F208_X6_addAhead fu c248_groups a263 a283 a293 k).1 v3 v4 v6 c313_rows a314 a315) (fun r => True) := by
  intro v3 v4 v6 c313_rows a314 a315 i0 i1 i2 i3 i4 hr_a293 hm
  obtain ⟨k0, rfl⟩ : ∃ x, k = x + 1 := ⟨k - 1, by omega⟩
  show dz_T (s208_X6_addAhead_1 fu c248_groups a263 a283 a293 (F208_X6_addAhead fu c248_groups a263 a283 a293 k0).2.1  v3 v4 v6 c313_rows a314 a315) _
  unfold s208_X6_addAhead_1
  refine dz_Tle (fun h1 => ?_) (fun h1 => ?_)
  · skip
    exact dz_Ts trivial
  · skip
    refine dz_Tin (by omega) (by omega) ?_
    have e2 := dz_pmat (hr_a283) (i := v6) (by decide) (by omega) (by omega)
    have e3 := dz_mulr (a := (a283 v6.toNatClampNeg)) (b := c248_groups) 3 (by omega) (by omega) (by omega)
    have e4 := dz_l0
    exact (ih k0 (by omega)).2.1 v3 v4 v6 ((a283 v6.toNatClampNeg) * c248_groups) (0 : Int32) c313_rows a314 a315 i0 (by first | assumption | omega) (by first | assumption | omega) i3 (by omega) (by omega) (by omega) (by omega) (by first | assumption | omega) (dz_rgs (hr_a293) (by omega)) (by omega)
set_option maxHeartbeats 1000000 in
set_option maxRecDepth 10000 in
theorem t208_X6_addAhead_h2_g34 (fu : Nat) (hfu : 1000000000000 ≤ fu) (c248_groups : Int32) (a263 : Nat → Int32) (a283 : Nat → Int32) (a293 : Nat → Int32) (p0 : c248_groups.toInt ≤ 3) (p1 : 3 ≤ c248_groups.toInt) (hr_a263 : dz_rq a263 6 3 0 2) (hr_a283 : dz_pm a283 4) (k : Nat) (ih : ∀ j9, j9 < k → p208_X6_addAhead_g34 fu c248_groups a263 a283 a293 j9) : ∀ (v3 : Int32) (v4 : Int64) (v6 : Int32) (v7 : Int32) (v8 : Int32) (c313_rows : Int64) (a314 : Nat → Int64) (a315 : Nat → Int64), v3.toInt ≤ 4 → 1 ≤ v3.toInt → v6.toInt ≤ 3 → 0 ≤ v6.toInt → v7.toInt ≤ 9 → 0 ≤ v7.toInt → v8.toInt ≤ 3 → 0 ≤ v8.toInt → v6.toInt + 1 ≤ v3.toInt → dz_rg a293 v3.toInt.toNat 0 5 → 0 + 0 + ((4 - v6.toInt) - 1) * 392 + 0 + (3 - v8.toInt) * 91 + 14 ≤ ((k : Nat) : Int) → dz_T ((F208_X6_addAhead fu c248_groups a263 a283 a293 k).2.1 v3 v4 v6 v7 v8 c313_rows a314 a315) (fun r => True) := by
  intro v3 v4 v6 v7 v8 c313_rows a314 a315 i0 i1 i2 i3 i4 i5 i6 i7 i8 hr_a293 hm
  obtain ⟨k0, rfl⟩ : ∃ x, k = x + 1 := ⟨k - 1, by omega⟩
  show dz_T (s208_X6_addAhead_2 fu c248_groups a263 a283 a293 (F208_X6_addAhead fu c248_groups a263 a283 a293 k0).1 (F208_X6_addAhead fu c248_groups a263 a283 a293 k0).2.2  v3 v4 v6 v7 v8 c313_rows a314 a315) _
  unfold s208_X6_addAhead_2
  refine dz_Tle (fun h1 => ?_) (fun h1 => ?_)
  · skip
    have e2 := dz_l1
    have e3 := dz_add (a := v6) (b := (1 : Int32)) (by omega) (by omega)
    exact (ih k0 (by omega)).1 v3 v4 (v6 + (1 : Int32)) c313_rows a314 a315 i0 (by first | assumption | omega) (by omega) (by omega) (by omega) (dz_rgs (hr_a293) (by omega)) (by omega)
  · skip
    refine dz_Tin (by omega) (by omega) ?_
    have e4 := dz_rgat (hr_a293) (i := v6) (by omega) (by omega)
    have e5 := dz_l4
    have e6 := dz_mulr (a := (a293 v6.toNatClampNeg)) (b := (4 : Int32)) 4 (by omega) (by omega) (by omega)
    have e7 := dz_add (a := ((a293 v6.toNatClampNeg) * (4 : Int32))) (b := v8) (by omega) (by omega)
    refine dz_Tin (by omega) (by omega) ?_
    have e8 := dz_rqat (hr_a263) (x := (a293 v6.toNatClampNeg)) (y := v8) (by omega) (by omega) (by omega) (by omega) (by omega)
    have e9 := dz_add (a := v7) (b := (a263 (((a293 v6.toNatClampNeg) * (4 : Int32)) + v8).toNatClampNeg)) (by omega) (by omega)
    have e10 := dz_mulr (a := (v7 + (a263 (((a293 v6.toNatClampNeg) * (4 : Int32)) + v8).toNatClampNeg))) (b := (4 : Int32)) 4 (by omega) (by omega) (by omega)
    have e11 := dz_add (a := ((v7 + (a263 (((a293 v6.toNatClampNeg) * (4 : Int32)) + v8).toNatClampNeg)) * (4 : Int32))) (b := v8) (by omega) (by omega)
    refine dz_Tin (by omega) (by omega) ?_
    refine dz_Tin (by omega) (by omega) ?_
    have e12 := dz_l1
    have e13 := dz_add (a := v6) (b := (1 : Int32)) (by omega) (by omega)
    exact (ih k0 (by omega)).2.2 v3 v4 v6 v7 v8 (v7 + (a263 (((a293 v6.toNatClampNeg) * (4 : Int32)) + v8).toNatClampNeg)) (v6 + (1 : Int32)) c313_rows a314 (vp_updL a315 (((v7 + (a263 (((a293 v6.toNatClampNeg) * (4 : Int32)) + v8).toNatClampNeg)) * (4 : Int32)) + v8).toNatClampNeg ((a315 (((v7 + (a263 (((a293 v6.toNatClampNeg) * (4 : Int32)) + v8).toNatClampNeg)) * (4 : Int32)) + v8).toNatClampNeg) + v4)) i0 i1 i2 i3 i4 i5 (by first | assumption | omega) i7 (by omega) (by omega) (by omega) (by omega) (by omega) i8 (by omega) (by omega) (by omega) (dz_rgs (hr_a293) (by omega)) (by omega)
set_option maxHeartbeats 1000000 in
set_option maxRecDepth 10000 in
theorem t208_X6_addAhead_h3_g34 (fu : Nat) (hfu : 1000000000000 ≤ fu) (c248_groups : Int32) (a263 : Nat → Int32) (a283 : Nat → Int32) (a293 : Nat → Int32) (p0 : c248_groups.toInt ≤ 3) (p1 : 3 ≤ c248_groups.toInt) (hr_a263 : dz_rq a263 6 3 0 2) (hr_a283 : dz_pm a283 4) (k : Nat) (ih : ∀ j9, j9 < k → p208_X6_addAhead_g34 fu c248_groups a263 a283 a293 j9) : ∀ (v3 : Int32) (v4 : Int64) (v6 : Int32) (v7 : Int32) (v8 : Int32) (v9 : Int32) (v10 : Int32) (c313_rows : Int64) (a314 : Nat → Int64) (a315 : Nat → Int64), v3.toInt ≤ 4 → 1 ≤ v3.toInt → v6.toInt ≤ 3 → 0 ≤ v6.toInt → v7.toInt ≤ 9 → 0 ≤ v7.toInt → v8.toInt ≤ 2 → 0 ≤ v8.toInt → v9.toInt ≤ 11 → 0 ≤ v9.toInt → v10.toInt ≤ 4 → 1 ≤ v10.toInt → v6.toInt + 1 ≤ v10.toInt → v6.toInt + 1 ≤ v3.toInt → v10.toInt ≤ v3.toInt → v7.toInt ≤ v9.toInt → v9.toInt ≤ v7.toInt + 2 → dz_rg a293 v3.toInt.toNat 0 5 → 0 + 0 + ((4 - v6.toInt) - 1) * 392 + 0 + ((3 - v8.toInt) - 1) * 91 + 0 + (4 - v10.toInt) * 14 + 21 ≤ ((k : Nat) : Int) → dz_T ((F208_X6_addAhead fu c248_groups a263 a283 a293 k).2.2 v3 v4 v6 v7 v8 v9 v10 c313_rows a314 a315) (fun r => True) := by
  intro v3 v4 v6 v7 v8 v9 v10 c313_rows a314 a315 i0 i1 i2 i3 i4 i5 i6 i7 i8 i9 i10 i11 i12 i13 i14 i15 i16 hr_a293 hm
  obtain ⟨k0, rfl⟩ : ∃ x, k = x + 1 := ⟨k - 1, by omega⟩
  show dz_T (s208_X6_addAhead_3 fu c248_groups a263 a283 a293 (F208_X6_addAhead fu c248_groups a263 a283 a293 k0).2.1 (F208_X6_addAhead fu c248_groups a263 a283 a293 k0).2.2  v3 v4 v6 v7 v8 v9 v10 c313_rows a314 a315) _
  unfold s208_X6_addAhead_3
  refine dz_Tle (fun h1 => ?_) (fun h1 => ?_)
  · skip
    have e2 := dz_l1
    have e3 := dz_add (a := v8) (b := (1 : Int32)) (by omega) (by omega)
    exact (ih k0 (by omega)).2.1 v3 v4 v6 v7 (v8 + (1 : Int32)) c313_rows a314 a315 i0 i1 i2 i3 i4 i5 (by omega) (by omega) i13 (dz_rgs (hr_a293) (by omega)) (by omega)
  · skip
    refine dz_Tin (by omega) (by omega) ?_
    have e4 := dz_rgat (hr_a293) (i := v10) (by omega) (by omega)
    have e5 := dz_l4
    have e6 := dz_mulr (a := (a293 v10.toNatClampNeg)) (b := (4 : Int32)) 4 (by omega) (by omega) (by omega)
    have e7 := dz_add (a := ((a293 v10.toNatClampNeg) * (4 : Int32))) (b := v8) (by omega) (by omega)
    refine dz_Tin (by omega) (by omega) ?_
    refine dz_Tin (by omega) (by omega) ?_
    have e8 := dz_l12
    have e9 := dz_mulr (a := v9) (b := (12 : Int32)) 12 (by omega) (by omega) (by omega)
    have e10 := dz_pmat (hr_a283) (i := v10) (by decide) (by omega) (by omega)
    have e11 := dz_mulr (a := (a283 v10.toNatClampNeg)) (b := c248_groups) 3 (by omega) (by omega) (by omega)
    have e12 := dz_add (a := (v9 * (12 : Int32))) (b := ((a283 v10.toNatClampNeg) * c248_groups)) (by omega) (by omega)
    have e13 := dz_rqat (hr_a263) (x := (a293 v10.toNatClampNeg)) (y := v8) (by omega) (by omega) (by omega) (by omega) (by omega)
    have e14 := dz_add (a := ((v9 * (12 : Int32)) + ((a283 v10.toNatClampNeg) * c248_groups))) (b := (a263 (((a293 v10.toNatClampNeg) * (4 : Int32)) + v8).toNatClampNeg)) (by omega) (by omega)
    refine dz_Tin (by omega) (by omega) ?_
    refine dz_Tin (by omega) (by omega) ?_
    have e15 := dz_l1
    have e16 := dz_add (a := v10) (b := (1 : Int32)) (by omega) (by omega)
    exact (ih k0 (by omega)).2.2 v3 v4 v6 v7 v8 v9 (v10 + (1 : Int32)) c313_rows (vp_updL a314 (((v9 * (12 : Int32)) + ((a283 v10.toNatClampNeg) * c248_groups)) + (a263 (((a293 v10.toNatClampNeg) * (4 : Int32)) + v8).toNatClampNeg)).toNatClampNeg ((a314 (((v9 * (12 : Int32)) + ((a283 v10.toNatClampNeg) * c248_groups)) + (a263 (((a293 v10.toNatClampNeg) * (4 : Int32)) + v8).toNatClampNeg)).toNatClampNeg) + v4)) a315 i0 i1 i2 i3 i4 i5 i6 i7 i8 i9 (by omega) (by omega) (by omega) i13 (by omega) i15 i16 (dz_rgs (hr_a293) (by omega)) (by omega)
theorem t208_X6_addAhead_I_g34 (fu : Nat) (hfu : 1000000000000 ≤ fu) (c248_groups : Int32) (a263 : Nat → Int32) (a283 : Nat → Int32) (a293 : Nat → Int32) (p0 : c248_groups.toInt ≤ 3) (p1 : 3 ≤ c248_groups.toInt) (hr_a263 : dz_rq a263 6 3 0 2) (hr_a283 : dz_pm a283 4) (k : Nat) : p208_X6_addAhead_g34 fu c248_groups a263 a283 a293 k := by
  induction k using Nat.strongRecOn with
  | _ k ih => exact ⟨t208_X6_addAhead_h1_g34 fu hfu c248_groups a263 a283 a293 p0 p1 hr_a263 hr_a283 k ih, t208_X6_addAhead_h2_g34 fu hfu c248_groups a263 a283 a293 p0 p1 hr_a263 hr_a283 k ih, t208_X6_addAhead_h3_g34 fu hfu c248_groups a263 a283 a293 p0 p1 hr_a263 hr_a283 k ih⟩
set_option maxHeartbeats 1000000 in
set_option maxRecDepth 10000 in
theorem t208_X6_addAhead_E_g34 (fu : Nat) (hfu : 1000000000000 ≤ fu) (c248_groups : Int32) (a263 : Nat → Int32) (a283 : Nat → Int32) (a293 : Nat → Int32) (v3 : Int32) (v4 : Int64) (c313_rows : Int64) (a314 : Nat → Int64) (a315 : Nat → Int64) (p0 : c248_groups.toInt ≤ 3) (p1 : 3 ≤ c248_groups.toInt) (p2 : 0 ≤ v3.toInt) (p3 : v3.toInt ≤ 4) (hr_a263 : dz_rq a263 6 3 0 2) (hr_a283 : dz_pm a283 4) (hr_a293 : dz_rg a293 v3.toInt.toNat 0 5) (kv : Nat) (hkv : 1000000000000 ≤ kv) : dz_T (s208_X6_addAhead_0 fu c248_groups a263 a283 a293 (F208_X6_addAhead fu c248_groups a263 a283 a293 kv).1  v3 v4 c313_rows a314 a315) (fun r => True) := by
  unfold s208_X6_addAhead_0
  have e1 := dz_l0
  exact (t208_X6_addAhead_I_g34 fu hfu c248_groups a263 a283 a293 p0 p1 hr_a263 hr_a283 kv).1 v3 v4 (0 : Int32) (c313_rows + v4) a314 a315 p3 p2 (by omega) (by omega) (by omega) (dz_rgs (hr_a293) (by omega)) (by omega)
theorem t208_X6_addAhead_g34 (fu : Nat) (hfu : 1000000000000 ≤ fu) (c248_groups : Int32) (a263 : Nat → Int32) (a283 : Nat → Int32) (a293 : Nat → Int32) (v3 : Int32) (v4 : Int64) (c313_rows : Int64) (a314 : Nat → Int64) (a315 : Nat → Int64) (p0 : c248_groups.toInt ≤ 3) (p1 : 3 ≤ c248_groups.toInt) (p2 : 0 ≤ v3.toInt) (p3 : v3.toInt ≤ 4) (hr_a263 : dz_rq a263 6 3 0 2) (hr_a283 : dz_pm a283 4) (hr_a293 : dz_rg a293 v3.toInt.toNat 0 5) : dz_T (f208_X6_addAhead fu c248_groups a263 a283 a293 v3 v4 c313_rows a314 a315) (fun r => True) :=
  t208_X6_addAhead_E_g34 fu hfu c248_groups a263 a283 a293 v3 v4 c313_rows a314 a315 p0 p1 p2 p3 hr_a263 hr_a283 hr_a293 fu hfu
abbrev p208_X6_addAhead_g40 (fu : Nat) (c248_groups : Int32) (a263 : Nat → Int32) (a283 : Nat → Int32) (a293 : Nat → Int32) (k : Nat) : Prop :=
  (∀ (v3 : Int32) (v4 : Int64) (v6 : Int32) (c313_rows : Int64) (a314 : Nat → Int64) (a315 : Nat → Int64), v3.toInt ≤ 0 → 0 ≤ v3.toInt → v6.toInt ≤ 0 → 0 ≤ v6.toInt → dz_rg a293 v3.toInt.toNat 0 23 → 0 + 0 + (0 - v6.toInt) * 77 + 7 ≤ ((k : Nat) : Int) → dz_T ((F208_X6_addAhead fu c248_groups a263 a283 a293 k).1 v3 v4 v6 c313_rows a314 a315) (fun r => True))
set_option maxHeartbeats 1000000 in
set_option maxRecDepth 10000 in
theorem t208_X6_addAhead_h1_g40 (fu : Nat) (hfu : 1000000000000 ≤ fu) (c248_groups : Int32) (a263 : Nat → Int32) (a283 : Nat → Int32) (a293 : Nat → Int32) (p0 : c248_groups.toInt ≤ 4) (p1 : 4 ≤ c248_groups.toInt) (hr_a263 : dz_rq a263 24 4 0 3) (hr_a283 : dz_pm a283 0) (k : Nat) (ih : ∀ j9, j9 < k → p208_X6_addAhead_g40 fu c248_groups a263 a283 a293 j9) : ∀ (v3 : Int32) (v4 : Int64) (v6 : Int32) (c313_rows : Int64) (a314 : Nat → Int64) (a315 : Nat → Int64), v3.toInt ≤ 0 → 0 ≤ v3.toInt → v6.toInt ≤ 0 → 0 ≤ v6.toInt → dz_rg a293 v3.toInt.toNat 0 23 → 0 + 0 + (0 - v6.toInt) * 77 + 7 ≤ ((k : Nat) : Int) → dz_T ((F208_X6_addAhead fu c248_groups a263 a283 a293 k).1 v3 v4 v6 c313_rows a314 a315) (fun r => True) := by
  intro v3 v4 v6 c313_rows a314 a315 i0 i1 i2 i3 hr_a293 hm
  obtain ⟨k0, rfl⟩ : ∃ x, k = x + 1 := ⟨k - 1, by omega⟩
  show dz_T (s208_X6_addAhead_1 fu c248_groups a263 a283 a293 (F208_X6_addAhead fu c248_groups a263 a283 a293 k0).2.1  v3 v4 v6 c313_rows a314 a315) _
  unfold s208_X6_addAhead_1
  refine dz_Tle (fun h1 => ?_) (fun h1 => ?_)
  · skip
    exact dz_Ts trivial
  · skip
    exfalso; omega
theorem t208_X6_addAhead_I_g40 (fu : Nat) (hfu : 1000000000000 ≤ fu) (c248_groups : Int32) (a263 : Nat → Int32) (a283 : Nat → Int32) (a293 : Nat → Int32) (p0 : c248_groups.toInt ≤ 4) (p1 : 4 ≤ c248_groups.toInt) (hr_a263 : dz_rq a263 24 4 0 3) (hr_a283 : dz_pm a283 0) (k : Nat) : p208_X6_addAhead_g40 fu c248_groups a263 a283 a293 k := by
  induction k using Nat.strongRecOn with
  | _ k ih => exact t208_X6_addAhead_h1_g40 fu hfu c248_groups a263 a283 a293 p0 p1 hr_a263 hr_a283 k ih
set_option maxHeartbeats 1000000 in
set_option maxRecDepth 10000 in
theorem t208_X6_addAhead_E_g40 (fu : Nat) (hfu : 1000000000000 ≤ fu) (c248_groups : Int32) (a263 : Nat → Int32) (a283 : Nat → Int32) (a293 : Nat → Int32) (v3 : Int32) (v4 : Int64) (c313_rows : Int64) (a314 : Nat → Int64) (a315 : Nat → Int64) (p0 : c248_groups.toInt ≤ 4) (p1 : 4 ≤ c248_groups.toInt) (p2 : 0 ≤ v3.toInt) (p3 : v3.toInt ≤ 0) (hr_a263 : dz_rq a263 24 4 0 3) (hr_a283 : dz_pm a283 0) (hr_a293 : dz_rg a293 v3.toInt.toNat 0 23) (kv : Nat) (hkv : 1000000000000 ≤ kv) : dz_T (s208_X6_addAhead_0 fu c248_groups a263 a283 a293 (F208_X6_addAhead fu c248_groups a263 a283 a293 kv).1  v3 v4 c313_rows a314 a315) (fun r => True) := by
  unfold s208_X6_addAhead_0
  have e1 := dz_l0
  exact (t208_X6_addAhead_I_g40 fu hfu c248_groups a263 a283 a293 p0 p1 hr_a263 hr_a283 kv) v3 v4 (0 : Int32) (c313_rows + v4) a314 a315 p3 p2 (by omega) (by omega) (dz_rgs (hr_a293) (by omega)) (by omega)
theorem t208_X6_addAhead_g40 (fu : Nat) (hfu : 1000000000000 ≤ fu) (c248_groups : Int32) (a263 : Nat → Int32) (a283 : Nat → Int32) (a293 : Nat → Int32) (v3 : Int32) (v4 : Int64) (c313_rows : Int64) (a314 : Nat → Int64) (a315 : Nat → Int64) (p0 : c248_groups.toInt ≤ 4) (p1 : 4 ≤ c248_groups.toInt) (p2 : 0 ≤ v3.toInt) (p3 : v3.toInt ≤ 0) (hr_a263 : dz_rq a263 24 4 0 3) (hr_a283 : dz_pm a283 0) (hr_a293 : dz_rg a293 v3.toInt.toNat 0 23) : dz_T (f208_X6_addAhead fu c248_groups a263 a283 a293 v3 v4 c313_rows a314 a315) (fun r => True) :=
  t208_X6_addAhead_E_g40 fu hfu c248_groups a263 a283 a293 v3 v4 c313_rows a314 a315 p0 p1 p2 p3 hr_a263 hr_a283 hr_a293 fu hfu
abbrev p208_X6_addAhead_g41 (fu : Nat) (c248_groups : Int32) (a263 : Nat → Int32) (a283 : Nat → Int32) (a293 : Nat → Int32) (k : Nat) : Prop :=
  (∀ (v3 : Int32) (v4 : Int64) (v6 : Int32) (c313_rows : Int64) (a314 : Nat → Int64) (a315 : Nat → Int64), v3.toInt ≤ 1 → 0 ≤ v3.toInt → v6.toInt ≤ 1 → 0 ≤ v6.toInt → v6.toInt ≤ v3.toInt → dz_rg a293 v3.toInt.toNat 0 23 → 0 + 0 + (1 - v6.toInt) * 273 + 7 ≤ ((k : Nat) : Int) → dz_T ((F208_X6_addAhead fu c248_groups a263 a283 a293 k).1 v3 v4 v6 c313_rows a314 a315) (fun r => True)) ∧ (∀ (v3 : Int32) (v4 : Int64) (v6 : Int32) (v7 : Int32) (v8 : Int32) (c313_rows : Int64) (a314 : Nat → Int64) (a315 : Nat → Int64), v3.toInt ≤ 1 → 1 ≤ v3.toInt → v6.toInt ≤ 0 → 0 ≤ v6.toInt → v7.toInt ≤ 0 → 0 ≤ v7.toInt → v8.toInt ≤ 4 → 0 ≤ v8.toInt → dz_rg a293 v3.toInt.toNat 0 23 → 0 + 0 + ((1 - v6.toInt) - 1) * 273 + 0 + (4 - v8.toInt) * 49 + 14 ≤ ((k : Nat) : Int) → dz_T ((F208_X6_addAhead fu c248_groups a263 a283 a293 k).2.1 v3 v4 v6 v7 v8 c313_rows a314 a315) (fun r => True)) ∧ (∀ (v3 : Int32) (v4 : Int64) (v6 : Int32) (v7 : Int32) (v8 : Int32) (v9 : Int32) (v10 : Int32) (c313_rows : Int64) (a314 : Nat → Int64) (a315 : Nat → Int64), v3.toInt ≤ 1 → 1 ≤ v3.toInt → v6.toInt ≤ 0 → 0 ≤ v6.toInt → v7.toInt ≤ 0 → 0 ≤ v7.toInt → v8.toInt ≤ 3 → 0 ≤ v8.toInt → v9.toInt ≤ 3 → 0 ≤ v9.toInt → v10.toInt ≤ 1 → 1 ≤ v10.toInt → dz_rg a293 v3.toInt.toNat 0 23 → 0 + 0 + ((1 - v6.toInt) - 1) * 273 + 0 + ((4 - v8.toInt) - 1) * 49 + 0 + (1 - v10.toInt) * 14 + 21 ≤ ((k : Nat) : Int) → dz_T ((F208_X6_addAhead fu c248_groups a263 a283 a293 k).2.2 v3 v4 v6 v7 v8 v9 v10 c313_rows a314 a315) (fun r => True))
set_option maxHeartbeats 1000000 in
set_option maxRecDepth 10000 in
theorem t208_X6_addAhead_h1_g41 (fu : Nat) (hfu : 1000000000000 ≤ fu) (c248_groups : Int32) (a263 : Nat → Int32) (a283 : Nat → Int32) (a293 : Nat → Int32) (p0 : c248_groups.toInt ≤ 4) (p1 : 4 ≤ c248_groups.toInt) (hr_a263 : dz_rq a263 24 4 0 3) (hr_a283 : dz_pm a283 1) (k : Nat) (ih : ∀ j9, j9 < k → p208_X6_addAhead_g41 fu c248_groups a263 a283 a293 j9) : ∀ (v3 : Int32) (v4 : Int64) (v6 : Int32) (c313_rows : Int64) (a314 : Nat → Int64) (a315 : Nat → Int64), v3.toInt ≤ 1 → 0 ≤ v3.toInt → v6.toInt ≤ 1 → 0 ≤ v6.toInt → v6.toInt ≤ v3.toInt → dz_rg a293 v3.toInt.toNat 0 23 → 0 + 0 + (1 - v6.toInt) * 273 + 7 ≤ ((k : Nat) : Int) → dz_T ((F208_X6_addAhead fu c248_groups a263 a283 a293 k).1 v3 v4 v6 c313_rows a314 a315) (fun r => True) := by
  intro v3 v4 v6 c313_rows a314 a315 i0 i1 i2 i3 i4 hr_a293 hm
  obtain ⟨k0, rfl⟩ : ∃ x, k = x + 1 := ⟨k - 1, by omega⟩
  show dz_T (s208_X6_addAhead_1 fu c248_groups a263 a283 a293 (F208_X6_addAhead fu c248_groups a263 a283 a293 k0).2.1  v3 v4 v6 c313_rows a314 a315) _
  unfold s208_X6_addAhead_1
  refine dz_Tle (fun h1 => ?_) (fun h1 => ?_)
  · skip
    exact dz_Ts trivial
  · skip
    refine dz_Tin (by omega) (by omega) ?_
    have e2 := dz_pmat (hr_a283) (i := v6) (by decide) (by omega) (by omega)
    have e3 := dz_mull (a := (a283 v6.toNatClampNeg)) (b := c248_groups) 0 (by omega) (by omega) (by omega)
    have e4 := dz_l0
    exact (ih k0 (by omega)).2.1 v3 v4 v6 ((a283 v6.toNatClampNeg) * c248_groups) (0 : Int32) c313_rows a314 a315 i0 (by first | assumption | omega) (by first | assumption | omega) i3 (by omega) (by omega) (by omega) (by omega) (dz_rgs (hr_a293) (by omega)) (by omega)
set_option maxHeartbeats 1000000 in
set_option maxRecDepth 10000 in
theorem t208_X6_addAhead_h2_g41 (fu : Nat) (hfu : 1000000000000 ≤ fu) (c248_groups : Int32) (a263 : Nat → Int32) (a283 : Nat → Int32) (a293 : Nat → Int32) (p0 : c248_groups.toInt ≤ 4) (p1 : 4 ≤ c248_groups.toInt) (hr_a263 : dz_rq a263 24 4 0 3) (hr_a283 : dz_pm a283 1) (k : Nat) (ih : ∀ j9, j9 < k → p208_X6_addAhead_g41 fu c248_groups a263 a283 a293 j9) : ∀ (v3 : Int32) (v4 : Int64) (v6 : Int32) (v7 : Int32) (v8 : Int32) (c313_rows : Int64) (a314 : Nat → Int64) (a315 : Nat → Int64), v3.toInt ≤ 1 → 1 ≤ v3.toInt → v6.toInt ≤ 0 → 0 ≤ v6.toInt → v7.toInt ≤ 0 → 0 ≤ v7.toInt → v8.toInt ≤ 4 → 0 ≤ v8.toInt → dz_rg a293 v3.toInt.toNat 0 23 → 0 + 0 + ((1 - v6.toInt) - 1) * 273 + 0 + (4 - v8.toInt) * 49 + 14 ≤ ((k : Nat) : Int) → dz_T ((F208_X6_addAhead fu c248_groups a263 a283 a293 k).2.1 v3 v4 v6 v7 v8 c313_rows a314 a315) (fun r => True) := by
  intro v3 v4 v6 v7 v8 c313_rows a314 a315 i0 i1 i2 i3 i4 i5 i6 i7 hr_a293 hm
  obtain ⟨k0, rfl⟩ : ∃ x, k = x + 1 := ⟨k - 1, by omega⟩
  show dz_T (s208_X6_addAhead_2 fu c248_groups a263 a283 a293 (F208_X6_addAhead fu c248_groups a263 a283 a293 k0).1 (F208_X6_addAhead fu c248_groups a263 a283 a293 k0).2.2  v3 v4 v6 v7 v8 c313_rows a314 a315) _
  unfold s208_X6_addAhead_2
  refine dz_Tle (fun h1 => ?_) (fun h1 => ?_)
  · skip
    have e2 := dz_l1
    have e3 := dz_add (a := v6) (b := (1 : Int32)) (by omega) (by omega)
    exact (ih k0 (by omega)).1 v3 v4 (v6 + (1 : Int32)) c313_rows a314 a315 i0 (by first | assumption | omega) (by omega) (by omega) (by omega) (dz_rgs (hr_a293) (by omega)) (by omega)
  · skip
    refine dz_Tin (by omega) (by omega) ?_
    have e4 := dz_rgat (hr_a293) (i := v6) (by omega) (by omega)
    have e5 := dz_l4
    have e6 := dz_mulr (a := (a293 v6.toNatClampNeg)) (b := (4 : Int32)) 4 (by omega) (by omega) (by omega)
    have e7 := dz_add (a := ((a293 v6.toNatClampNeg) * (4 : Int32))) (b := v8) (by omega) (by omega)
    refine dz_Tin (by omega) (by omega) ?_
    have e8 := dz_rqat (hr_a263) (x := (a293 v6.toNatClampNeg)) (y := v8) (by omega) (by omega) (by omega) (by omega) (by omega)
    have e9 := dz_add (a := v7) (b := (a263 (((a293 v6.toNatClampNeg) * (4 : Int32)) + v8).toNatClampNeg)) (by omega) (by omega)
    have e10 := dz_mulr (a := (v7 + (a263 (((a293 v6.toNatClampNeg) * (4 : Int32)) + v8).toNatClampNeg))) (b := (4 : Int32)) 4 (by omega) (by omega) (by omega)
    have e11 := dz_add (a := ((v7 + (a263 (((a293 v6.toNatClampNeg) * (4 : Int32)) + v8).toNatClampNeg)) * (4 : Int32))) (b := v8) (by omega) (by omega)
    refine dz_Tin (by omega) (by omega) ?_
    refine dz_Tin (by omega) (by omega) ?_
    have e12 := dz_l1
    have e13 := dz_add (a := v6) (b := (1 : Int32)) (by omega) (by omega)
    exact (ih k0 (by omega)).2.2 v3 v4 v6 v7 v8 (v7 + (a263 (((a293 v6.toNatClampNeg) * (4 : Int32)) + v8).toNatClampNeg)) (v6 + (1 : Int32)) c313_rows a314 (vp_updL a315 (((v7 + (a263 (((a293 v6.toNatClampNeg) * (4 : Int32)) + v8).toNatClampNeg)) * (4 : Int32)) + v8).toNatClampNeg ((a315 (((v7 + (a263 (((a293 v6.toNatClampNeg) * (4 : Int32)) + v8).toNatClampNeg)) * (4 : Int32)) + v8).toNatClampNeg) + v4)) i0 i1 i2 i3 i4 i5 (by first | assumption | omega) i7 (by omega) (by omega) (by omega) (by omega) (dz_rgs (hr_a293) (by omega)) (by omega)
set_option maxHeartbeats 1000000 in
set_option maxRecDepth 10000 in
theorem t208_X6_addAhead_h3_g41 (fu : Nat) (hfu : 1000000000000 ≤ fu) (c248_groups : Int32) (a263 : Nat → Int32) (a283 : Nat → Int32) (a293 : Nat → Int32) (p0 : c248_groups.toInt ≤ 4) (p1 : 4 ≤ c248_groups.toInt) (hr_a263 : dz_rq a263 24 4 0 3) (hr_a283 : dz_pm a283 1) (k : Nat) (ih : ∀ j9, j9 < k → p208_X6_addAhead_g41 fu c248_groups a263 a283 a293 j9) : ∀ (v3 : Int32) (v4 : Int64) (v6 : Int32) (v7 : Int32) (v8 : Int32) (v9 : Int32) (v10 : Int32) (c313_rows : Int64) (a314 : Nat → Int64) (a315 : Nat → Int64), v3.toInt ≤ 1 → 1 ≤ v3.toInt → v6.toInt ≤ 0 → 0 ≤ v6.toInt → v7.toInt ≤ 0 → 0 ≤ v7.toInt → v8.toInt ≤ 3 → 0 ≤ v8.toInt → v9.toInt ≤ 3 → 0 ≤ v9.toInt → v10.toInt ≤ 1 → 1 ≤ v10.toInt → dz_rg a293 v3.toInt.toNat 0 23 → 0 + 0 + ((1 - v6.toInt) - 1) * 273 + 0 + ((4 - v8.toInt) - 1) * 49 + 0 + (1 - v10.toInt) * 14 + 21 ≤ ((k : Nat) : Int) → dz_T ((F208_X6_addAhead fu c248_groups a263 a283 a293 k).2.2 v3 v4 v6 v7 v8 v9 v10 c313_rows a314 a315) (fun r => True) := by
  intro v3 v4 v6 v7 v8 v9 v10 c313_rows a314 a315 i0 i1 i2 i3 i4 i5 i6 i7 i8 i9 i10 i11 hr_a293 hm
  obtain ⟨k0, rfl⟩ : ∃ x, k = x + 1 := ⟨k - 1, by omega⟩
  show dz_T (s208_X6_addAhead_3 fu c248_groups a263 a283 a293 (F208_X6_addAhead fu c248_groups a263 a283 a293 k0).2.1 (F208_X6_addAhead fu c248_groups a263 a283 a293 k0).2.2  v3 v4 v6 v7 v8 v9 v10 c313_rows a314 a315) _
  unfold s208_X6_addAhead_3
  refine dz_Tle (fun h1 => ?_) (fun h1 => ?_)
  · skip
    have e2 := dz_l1
    have e3 := dz_add (a := v8) (b := (1 : Int32)) (by omega) (by omega)
    exact (ih k0 (by omega)).2.1 v3 v4 v6 v7 (v8 + (1 : Int32)) c313_rows a314 a315 i0 i1 i2 i3 i4 i5 (by omega) (by omega) (dz_rgs (hr_a293) (by omega)) (by omega)
  · skip
    exfalso; omega
theorem t208_X6_addAhead_I_g41 (fu : Nat) (hfu : 1000000000000 ≤ fu) (c248_groups : Int32) (a263 : Nat → Int32) (a283 : Nat → Int32) (a293 : Nat → Int32) (p0 : c248_groups.toInt ≤ 4) (p1 : 4 ≤ c248_groups.toInt) (hr_a263 : dz_rq a263 24 4 0 3) (hr_a283 : dz_pm a283 1) (k : Nat) : p208_X6_addAhead_g41 fu c248_groups a263 a283 a293 k := by
  induction k using Nat.strongRecOn with
  | _ k ih => exact ⟨t208_X6_addAhead_h1_g41 fu hfu c248_groups a263 a283 a293 p0 p1 hr_a263 hr_a283 k ih, t208_X6_addAhead_h2_g41 fu hfu c248_groups a263 a283 a293 p0 p1 hr_a263 hr_a283 k ih, t208_X6_addAhead_h3_g41 fu hfu c248_groups a263 a283 a293 p0 p1 hr_a263 hr_a283 k ih⟩
set_option maxHeartbeats 1000000 in
set_option maxRecDepth 10000 in
theorem t208_X6_addAhead_E_g41 (fu : Nat) (hfu : 1000000000000 ≤ fu) (c248_groups : Int32) (a263 : Nat → Int32) (a283 : Nat → Int32) (a293 : Nat → Int32) (v3 : Int32) (v4 : Int64) (c313_rows : Int64) (a314 : Nat → Int64) (a315 : Nat → Int64) (p0 : c248_groups.toInt ≤ 4) (p1 : 4 ≤ c248_groups.toInt) (p2 : 0 ≤ v3.toInt) (p3 : v3.toInt ≤ 1) (hr_a263 : dz_rq a263 24 4 0 3) (hr_a283 : dz_pm a283 1) (hr_a293 : dz_rg a293 v3.toInt.toNat 0 23) (kv : Nat) (hkv : 1000000000000 ≤ kv) : dz_T (s208_X6_addAhead_0 fu c248_groups a263 a283 a293 (F208_X6_addAhead fu c248_groups a263 a283 a293 kv).1  v3 v4 c313_rows a314 a315) (fun r => True) := by
  unfold s208_X6_addAhead_0
  have e1 := dz_l0
  exact (t208_X6_addAhead_I_g41 fu hfu c248_groups a263 a283 a293 p0 p1 hr_a263 hr_a283 kv).1 v3 v4 (0 : Int32) (c313_rows + v4) a314 a315 p3 p2 (by omega) (by omega) (by omega) (dz_rgs (hr_a293) (by omega)) (by omega)
theorem t208_X6_addAhead_g41 (fu : Nat) (hfu : 1000000000000 ≤ fu) (c248_groups : Int32) (a263 : Nat → Int32) (a283 : Nat → Int32) (a293 : Nat → Int32) (v3 : Int32) (v4 : Int64) (c313_rows : Int64) (a314 : Nat → Int64) (a315 : Nat → Int64) (p0 : c248_groups.toInt ≤ 4) (p1 : 4 ≤ c248_groups.toInt) (p2 : 0 ≤ v3.toInt) (p3 : v3.toInt ≤ 1) (hr_a263 : dz_rq a263 24 4 0 3) (hr_a283 : dz_pm a283 1) (hr_a293 : dz_rg a293 v3.toInt.toNat 0 23) : dz_T (f208_X6_addAhead fu c248_groups a263 a283 a293 v3 v4 c313_rows a314 a315) (fun r => True) :=
  t208_X6_addAhead_E_g41 fu hfu c248_groups a263 a283 a293 v3 v4 c313_rows a314 a315 p0 p1 p2 p3 hr_a263 hr_a283 hr_a293 fu hfu
abbrev p208_X6_addAhead_g42 (fu : Nat) (c248_groups : Int32) (a263 : Nat → Int32) (a283 : Nat → Int32) (a293 : Nat → Int32) (k : Nat) : Prop :=
  (∀ (v3 : Int32) (v4 : Int64) (v6 : Int32) (c313_rows : Int64) (a314 : Nat → Int64) (a315 : Nat → Int64), v3.toInt ≤ 2 → 0 ≤ v3.toInt → v6.toInt ≤ 2 → 0 ≤ v6.toInt → v6.toInt ≤ v3.toInt → dz_rg a293 v3.toInt.toNat 0 23 → 0 + 0 + (2 - v6.toInt) * 343 + 7 ≤ ((k : Nat) : Int) → dz_T ((F208_X6_addAhead fu c248_groups a263 a283 a293 k).1 v3 v4 v6 c313_rows a314 a315) (fun r => True)) ∧ (∀ (v3 : Int32) (v4 : Int64) (v6 : Int32) (v7 : Int32) (v8 : Int32) (c313_rows : Int64) (a314 : Nat → Int64) (a315 : Nat → Int64), v3.toInt ≤ 2 → 1 ≤ v3.toInt → v6.toInt ≤ 1 → 0 ≤ v6.toInt → v7.toInt ≤ 4 → 0 ≤ v7.toInt → v8.toInt ≤ 4 → 0 ≤ v8.toInt → v6.toInt + 1 ≤ v3.toInt → dz_rg a293 v3.toInt.toNat 0 23 → 0 + 0 + ((2 - v6.toInt) - 1) * 343 + 0 + (4 - v8.toInt) * 63 + 14 ≤ ((k : Nat) : Int) → dz_T ((F208_X6_addAhead fu c248_groups a263 a283 a293 k).2.1 v3 v4 v6 v7 v8 c313_rows a314 a315) (fun r => True)) ∧ (∀ (v3 : Int32) (v4 : Int64) (v6 : Int32) (v7 : Int32) (v8 : Int32) (v9 : Int32) (v10 : Int32) (c313_rows : Int64) (a314 : Nat → Int64) (a315 : Nat → Int64), v3.toInt ≤ 2 → 1 ≤ v3.toInt → v6.toInt ≤ 1 → 0 ≤ v6.toInt → v7.toInt ≤ 4 → 0 ≤ v7.toInt → v8.toInt ≤ 3 → 0 ≤ v8.toInt → v9.toInt ≤ 7 → 0 ≤ v9.toInt → v10.toInt ≤ 2 → 1 ≤ v10.toInt → v6.toInt + 1 ≤ v10.toInt → v6.toInt + 1 ≤ v3.toInt → v10.toInt ≤ v3.toInt → v7.toInt ≤ v9.toInt → v9.toInt ≤ v7.toInt + 3 → dz_rg a293 v3.toInt.toNat 0 23 → 0 + 0 + ((2 - v6.toInt) - 1) * 343 + 0 + ((4 - v8.toInt) - 1) * 63 + 0 + (2 - v10.toInt) * 14 + 21 ≤ ((k : Nat) : Int) → dz_T ((F208_X6_addAhead fu c248_groups a263 a283 a293 k).2.2 v3 v4 v6 v7 v8 v9 v10 c313_rows a314 a315) (fun r => True))
set_option maxHeartbeats 1000000 in
set_option maxRecDepth 10000 in
theorem t208_X6_addAhead_h1_g42 (fu : Nat) (hfu : 1000000000000 ≤ fu) (c248_groups : Int32) (a263 : Nat → Int32) (a283 : Nat → Int32) (a293 : Nat → Int32) (p0 : c248_groups.toInt ≤ 4) (p1 : 4 ≤ c248_groups.toInt) (hr_a263 : dz_rq a263 24 4 0 3) (hr_a283 : dz_pm a283 2) (k : Nat) (ih : ∀ j9, j9 < k → p208_X6_addAhead_g42 fu c248_groups a263 a283 a293 j9) : ∀ (v3 : Int32) (v4 : Int64) (v6 : Int32) (c313_rows : Int64) (a314 : Nat → Int64) (a315 : Nat → Int64), v3.toInt ≤ 2 → 0 ≤ v3.toInt → v6.toInt ≤ 2 → 0 ≤ v6.toInt → v6.toInt ≤ v3.toInt → dz_rg a293 v3.toInt.toNat 0 23 → 0 + 0 + (2 - v6.toInt) * 343 + 7 ≤ ((k : Nat) : Int) → dz_T ((F208_X6_addAhead fu c248_groups a263 a283 a293 k).1 v3 v4 v6 c313_rows a314 a315) (fun r => True) := by
  intro v3 v4 v6 c313_rows a314 a315 i0 i1 i2 i3 i4 hr_a293 hm
  obtain ⟨k0, rfl⟩ : ∃ x, k = x + 1 := ⟨k - 1, by omega⟩
  show dz_T (s208_X6_addAhead_1 fu c248_groups a263 a283 a293 (F208_X6_addAhead fu c248_groups a263 a283 a293 k0).2.1  v3 v4 v6 c313_rows a314 a315) _
  unfold s208_X6_addAhead_1
  refine dz_Tle (fun h1 => ?_) (fun h1 => ?_)
  · skip
    exact dz_Ts trivial
  · skip
    refine dz_Tin (by omega) (by omega) ?_
    have e2 := dz_pmat (hr_a283) (i := v6) (by decide) (by omega) (by omega)
    have e3 := dz_mulr (a := (a283 v6.toNatClampNeg)) (b := c248_groups) 4 (by omega) (by omega) (by omega)
    have e4 := dz_l0
    exact (ih k0 (by omega)).2.1 v3 v4 v6 ((a283 v6.toNatClampNeg) * c248_groups) (0 : Int32) c313_rows a314 a315 i0 (by first | assumption | omega) (by first | assumption | omega) i3 (by omega) (by omega) (by omega) (by omega) (by first | assumption | omega) (dz_rgs (hr_a293) (by omega)) (by omega)
set_option maxHeartbeats 1000000 in
set_option maxRecDepth 10000 in
theorem t208_X6_addAhead_h2_g42 (fu : Nat) (hfu : 1000000000000 ≤ fu) (c248_groups : Int32) (a263 : Nat → Int32) (a283 : Nat → Int32) (a293 : Nat → Int32) (p0 : c248_groups.toInt ≤ 4) (p1 : 4 ≤ c248_groups.toInt) (hr_a263 : dz_rq a263 24 4 0 3) (hr_a283 : dz_pm a283 2) (k : Nat) (ih : ∀ j9, j9 < k → p208_X6_addAhead_g42 fu c248_groups a263 a283 a293 j9) : ∀ (v3 : Int32) (v4 : Int64) (v6 : Int32) (v7 : Int32) (v8 : Int32) (c313_rows : Int64) (a314 : Nat → Int64) (a315 : Nat → Int64), v3.toInt ≤ 2 → 1 ≤ v3.toInt → v6.toInt ≤ 1 → 0 ≤ v6.toInt → v7.toInt ≤ 4 → 0 ≤ v7.toInt → v8.toInt ≤ 4 → 0 ≤ v8.toInt → v6.toInt + 1 ≤ v3.toInt → dz_rg a293 v3.toInt.toNat 0 23 → 0 + 0 + ((2 - v6.toInt) - 1) * 343 + 0 + (4 - v8.toInt) * 63 + 14 ≤ ((k : Nat) : Int) → dz_T ((F208_X6_addAhead fu c248_groups a263 a283 a293 k).2.1 v3 v4 v6 v7 v8 c313_rows a314 a315) (fun r => True) := by
  intro v3 v4 v6 v7 v8 c313_rows a314 a315 i0 i1 i2 i3 i4 i5 i6 i7 i8 hr_a293 hm
  obtain ⟨k0, rfl⟩ : ∃ x, k = x + 1 := ⟨k - 1, by omega⟩
  show dz_T (s208_X6_addAhead_2 fu c248_groups a263 a283 a293 (F208_X6_addAhead fu c248_groups a263 a283 a293 k0).1 (F208_X6_addAhead fu c248_groups a263 a283 a293 k0).2.2  v3 v4 v6 v7 v8 c313_rows a314 a315) _
  unfold s208_X6_addAhead_2
  refine dz_Tle (fun h1 => ?_) (fun h1 => ?_)
  · skip
    have e2 := dz_l1
    have e3 := dz_add (a := v6) (b := (1 : Int32)) (by omega) (by omega)
    exact (ih k0 (by omega)).1 v3 v4 (v6 + (1 : Int32)) c313_rows a314 a315 i0 (by first | assumption | omega) (by omega) (by omega) (by omega) (dz_rgs (hr_a293) (by omega)) (by omega)
  · skip
    refine dz_Tin (by omega) (by omega) ?_
    have e4 := dz_rgat (hr_a293) (i := v6) (by omega) (by omega)
    have e5 := dz_l4
    have e6 := dz_mulr (a := (a293 v6.toNatClampNeg)) (b := (4 : Int32)) 4 (by omega) (by omega) (by omega)
    have e7 := dz_add (a := ((a293 v6.toNatClampNeg) * (4 : Int32))) (b := v8) (by omega) (by omega)
    refine dz_Tin (by omega) (by omega) ?_
    have e8 := dz_rqat (hr_a263) (x := (a293 v6.toNatClampNeg)) (y := v8) (by omega) (by omega) (by omega) (by omega) (by omega)
    have e9 := dz_add (a := v7) (b := (a263 (((a293 v6.toNatClampNeg) * (4 : Int32)) + v8).toNatClampNeg)) (by omega) (by omega)
    have e10 := dz_mulr (a := (v7 + (a263 (((a293 v6.toNatClampNeg) * (4 : Int32)) + v8).toNatClampNeg))) (b := (4 : Int32)) 4 (by omega) (by omega) (by omega)
    have e11 := dz_add (a := ((v7 + (a263 (((a293 v6.toNatClampNeg) * (4 : Int32)) + v8).toNatClampNeg)) * (4 : Int32))) (b := v8) (by omega) (by omega)
    refine dz_Tin (by omega) (by omega) ?_
    refine dz_Tin (by omega) (by omega) ?_
    have e12 := dz_l1
    have e13 := dz_add (a := v6) (b := (1 : Int32)) (by omega) (by omega)
    exact (ih k0 (by omega)).2.2 v3 v4 v6 v7 v8 (v7 + (a263 (((a293 v6.toNatClampNeg) * (4 : Int32)) + v8).toNatClampNeg)) (v6 + (1 : Int32)) c313_rows a314 (vp_updL a315 (((v7 + (a263 (((a293 v6.toNatClampNeg) * (4 : Int32)) + v8).toNatClampNeg)) * (4 : Int32)) + v8).toNatClampNeg ((a315 (((v7 + (a263 (((a293 v6.toNatClampNeg) * (4 : Int32)) + v8).toNatClampNeg)) * (4 : Int32)) + v8).toNatClampNeg) + v4)) i0 i1 i2 i3 i4 i5 (by first | assumption | omega) i7 (by omega) (by omega) (by omega) (by omega) (by omega) i8 (by omega) (by omega) (by omega) (dz_rgs (hr_a293) (by omega)) (by omega)
set_option maxHeartbeats 1000000 in
set_option maxRecDepth 10000 in
theorem t208_X6_addAhead_h3_g42 (fu : Nat) (hfu : 1000000000000 ≤ fu) (c248_groups : Int32) (a263 : Nat → Int32) (a283 : Nat → Int32) (a293 : Nat → Int32) (p0 : c248_groups.toInt ≤ 4) (p1 : 4 ≤ c248_groups.toInt) (hr_a263 : dz_rq a263 24 4 0 3) (hr_a283 : dz_pm a283 2) (k : Nat) (ih : ∀ j9, j9 < k → p208_X6_addAhead_g42 fu c248_groups a263 a283 a293 j9) : ∀ (v3 : Int32) (v4 : Int64) (v6 : Int32) (v7 : Int32) (v8 : Int32) (v9 : Int32) (v10 : Int32) (c313_rows : Int64) (a314 : Nat → Int64) (a315 : Nat → Int64), v3.toInt ≤ 2 → 1 ≤ v3.toInt → v6.toInt ≤ 1 → 0 ≤ v6.toInt → v7.toInt ≤ 4 → 0 ≤ v7.toInt → v8.toInt ≤ 3 → 0 ≤ v8.toInt → v9.toInt ≤ 7 → 0 ≤ v9.toInt → v10.toInt ≤ 2 → 1 ≤ v10.toInt → v6.toInt + 1 ≤ v10.toInt → v6.toInt + 1 ≤ v3.toInt → v10.toInt ≤ v3.toInt → v7.toInt ≤ v9.toInt → v9.toInt ≤ v7.toInt + 3 → dz_rg a293 v3.toInt.toNat 0 23 → 0 + 0 + ((2 - v6.toInt) - 1) * 343 + 0 + ((4 - v8.toInt) - 1) * 63 + 0 + (2 - v10.toInt) * 14 + 21 ≤ ((k : Nat) : Int) → dz_T ((F208_X6_addAhead fu c248_groups a263 a283 a293 k).2.2 v3 v4 v6 v7 v8 v9 v10 c313_rows a314 a315) (fun r => True) := by
  intro v3 v4 v6 v7 v8 v9 v10 c313_rows a314 a315 i0 i1 i2 i3 i4 i5 i6 i7 i8 i9 i10 i11 i12 i13 i14 i15 i16 hr_a293 hm
  obtain ⟨k0, rfl⟩ : ∃ x, k = x + 1 := ⟨k - 1, by omega⟩
  show dz_T (s208_X6_addAhead_3 fu c248_groups a263 a283 a293 (F208_X6_addAhead fu c248_groups a263 a283 a293 k0).2.1 (F208_X6_addAhead fu c248_groups a263 a283 a293 k0).2.2  v3 v4 v6 v7 v8 v9 v10 c313_rows a314 a315) _
  unfold s208_X6_addAhead_3
  refine dz_Tle (fun h1 => ?_) (fun h1 => ?_)
  · skip
    have e2 := dz_l1
    have e3 := dz_add (a := v8) (b := (1 : Int32)) (by omega) (by omega)
    exact (ih k0 (by omega)).2.1 v3 v4 v6 v7 (v8 + (1 : Int32)) c313_rows a314 a315 i0 i1 i2 i3 i4 i5 (by omega) (by omega) i13 (dz_rgs (hr_a293) (by omega)) (by omega)
  · skip
    refine dz_Tin (by omega) (by omega) ?_
    have e4 := dz_rgat (hr_a293) (i := v10) (by omega) (by omega)
    have e5 := dz_l4
    have e6 := dz_mulr (a := (a293 v10.toNatClampNeg)) (b := (4 : Int32)) 4 (by omega) (by omega) (by omega)
    have e7 := dz_add (a := ((a293 v10.toNatClampNeg) * (4 : Int32))) (b := v8) (by omega) (by omega)
    refine dz_Tin (by omega) (by omega) ?_
    refine dz_Tin (by omega) (by omega) ?_
    have e8 := dz_l12
    have e9 := dz_mulr (a := v9) (b := (12 : Int32)) 12 (by omega) (by omega) (by omega)
    have e10 := dz_pmat (hr_a283) (i := v10) (by decide) (by omega) (by omega)
    have e11 := dz_mulr (a := (a283 v10.toNatClampNeg)) (b := c248_groups) 4 (by omega) (by omega) (by omega)
    have e12 := dz_add (a := (v9 * (12 : Int32))) (b := ((a283 v10.toNatClampNeg) * c248_groups)) (by omega) (by omega)
    have e13 := dz_rqat (hr_a263) (x := (a293 v10.toNatClampNeg)) (y := v8) (by omega) (by omega) (by omega) (by omega) (by omega)
    have e14 := dz_add (a := ((v9 * (12 : Int32)) + ((a283 v10.toNatClampNeg) * c248_groups))) (b := (a263 (((a293 v10.toNatClampNeg) * (4 : Int32)) + v8).toNatClampNeg)) (by omega) (by omega)
    refine dz_Tin (by omega) (by omega) ?_
    refine dz_Tin (by omega) (by omega) ?_
    have e15 := dz_l1
    have e16 := dz_add (a := v10) (b := (1 : Int32)) (by omega) (by omega)
    exact (ih k0 (by omega)).2.2 v3 v4 v6 v7 v8 v9 (v10 + (1 : Int32)) c313_rows (vp_updL a314 (((v9 * (12 : Int32)) + ((a283 v10.toNatClampNeg) * c248_groups)) + (a263 (((a293 v10.toNatClampNeg) * (4 : Int32)) + v8).toNatClampNeg)).toNatClampNeg ((a314 (((v9 * (12 : Int32)) + ((a283 v10.toNatClampNeg) * c248_groups)) + (a263 (((a293 v10.toNatClampNeg) * (4 : Int32)) + v8).toNatClampNeg)).toNatClampNeg) + v4)) a315 i0 i1 i2 i3 i4 i5 i6 i7 i8 i9 (by omega) (by omega) (by omega) i13 (by omega) i15 i16 (dz_rgs (hr_a293) (by omega)) (by omega)
theorem t208_X6_addAhead_I_g42 (fu : Nat) (hfu : 1000000000000 ≤ fu) (c248_groups : Int32) (a263 : Nat → Int32) (a283 : Nat → Int32) (a293 : Nat → Int32) (p0 : c248_groups.toInt ≤ 4) (p1 : 4 ≤ c248_groups.toInt) (hr_a263 : dz_rq a263 24 4 0 3) (hr_a283 : dz_pm a283 2) (k : Nat) : p208_X6_addAhead_g42 fu c248_groups a263 a283 a293 k := by
  induction k using Nat.strongRecOn with
  | _ k ih => exact ⟨t208_X6_addAhead_h1_g42 fu hfu c248_groups a263 a283 a293 p0 p1 hr_a263 hr_a283 k ih, t208_X6_addAhead_h2_g42 fu hfu c248_groups a263 a283 a293 p0 p1 hr_a263 hr_a283 k ih, t208_X6_addAhead_h3_g42 fu hfu c248_groups a263 a283 a293 p0 p1 hr_a263 hr_a283 k ih⟩
set_option maxHeartbeats 1000000 in
set_option maxRecDepth 10000 in
theorem t208_X6_addAhead_E_g42 (fu : Nat) (hfu : 1000000000000 ≤ fu) (c248_groups : Int32) (a263 : Nat → Int32) (a283 : Nat → Int32) (a293 : Nat → Int32) (v3 : Int32) (v4 : Int64) (c313_rows : Int64) (a314 : Nat → Int64) (a315 : Nat → Int64) (p0 : c248_groups.toInt ≤ 4) (p1 : 4 ≤ c248_groups.toInt) (p2 : 0 ≤ v3.toInt) (p3 : v3.toInt ≤ 2) (hr_a263 : dz_rq a263 24 4 0 3) (hr_a283 : dz_pm a283 2) (hr_a293 : dz_rg a293 v3.toInt.toNat 0 23) (kv : Nat) (hkv : 1000000000000 ≤ kv) : dz_T (s208_X6_addAhead_0 fu c248_groups a263 a283 a293 (F208_X6_addAhead fu c248_groups a263 a283 a293 kv).1  v3 v4 c313_rows a314 a315) (fun r => True) := by
  unfold s208_X6_addAhead_0
  have e1 := dz_l0
  exact (t208_X6_addAhead_I_g42 fu hfu c248_groups a263 a283 a293 p0 p1 hr_a263 hr_a283 kv).1 v3 v4 (0 : Int32) (c313_rows + v4) a314 a315 p3 p2 (by omega) (by omega) (by omega) (dz_rgs (hr_a293) (by omega)) (by omega)
theorem t208_X6_addAhead_g42 (fu : Nat) (hfu : 1000000000000 ≤ fu) (c248_groups : Int32) (a263 : Nat → Int32) (a283 : Nat → Int32) (a293 : Nat → Int32) (v3 : Int32) (v4 : Int64) (c313_rows : Int64) (a314 : Nat → Int64) (a315 : Nat → Int64) (p0 : c248_groups.toInt ≤ 4) (p1 : 4 ≤ c248_groups.toInt) (p2 : 0 ≤ v3.toInt) (p3 : v3.toInt ≤ 2) (hr_a263 : dz_rq a263 24 4 0 3) (hr_a283 : dz_pm a283 2) (hr_a293 : dz_rg a293 v3.toInt.toNat 0 23) : dz_T (f208_X6_addAhead fu c248_groups a263 a283 a293 v3 v4 c313_rows a314 a315) (fun r => True) :=
  t208_X6_addAhead_E_g42 fu hfu c248_groups a263 a283 a293 v3 v4 c313_rows a314 a315 p0 p1 p2 p3 hr_a263 hr_a283 hr_a293 fu hfu
abbrev p208_X6_addAhead_g43 (fu : Nat) (c248_groups : Int32) (a263 : Nat → Int32) (a283 : Nat → Int32) (a293 : Nat → Int32) (k : Nat) : Prop :=
  (∀ (v3 : Int32) (v4 : Int64) (v6 : Int32) (c313_rows : Int64) (a314 : Nat → Int64) (a315 : Nat → Int64), v3.toInt ≤ 3 → 0 ≤ v3.toInt → v6.toInt ≤ 3 → 0 ≤ v6.toInt → v6.toInt ≤ v3.toInt → dz_rg a293 v3.toInt.toNat 0 23 → 0 + 0 + (3 - v6.toInt) * 413 + 7 ≤ ((k : Nat) : Int) → dz_T ((F208_X6_addAhead fu c248_groups a263 a283 a293 k).1 v3 v4 v6 c313_rows a314 a315) (fun r => True)) ∧ (∀ (v3 : Int32) (v4 : Int64) (v6 : Int32) (v7 : Int32) (v8 : Int32) (c313_rows : Int64) (a314 : Nat → Int64) (a315 : Nat → Int64), v3.toInt ≤ 3 → 1 ≤ v3.toInt → v6.toInt ≤ 2 → 0 ≤ v6.toInt → v7.toInt ≤ 8 → 0 ≤ v7.toInt → v8.toInt ≤ 4 → 0 ≤ v8.toInt → v6.toInt + 1 ≤ v3.toInt → dz_rg a293 v3.toInt.toNat 0 23 → 0 + 0 + ((3 - v6.toInt) - 1) * 413 + 0 + (4 - v8.toInt) * 77 + 14 ≤ ((k : Nat) : Int) → dz_T ((F208_X6_addAhead fu c248_groups a263 a283 a293 k).2.1 v3 v4 v6 v7 v8 c313_rows a314 a315) (fun r => True)) ∧ (∀ (v3 : Int32) (v4 : Int64) (v6 : Int32) (v7 : Int32) (v8 : Int32) (v9 : Int32) (v10 : Int32) (c313_rows : Int64) (a314 : Nat → Int64) (a315 : Nat → Int64), v3.toInt ≤ 3 → 1 ≤ v3.toInt → v6.toInt ≤ 2 → 0 ≤ v6.toInt → v7.toInt ≤ 8 → 0 ≤ v7.toInt → v8.toInt ≤ 3 → 0 ≤ v8.toInt → v9.toInt ≤ 11 → 0 ≤ v9.toInt → v10.toInt ≤ 3 → 1 ≤ v10.toInt → v6.toInt + 1 ≤ v10.toInt → v6.toInt + 1 ≤ v3.toInt → v10.toInt ≤ v3.toInt → v7.toInt ≤ v9.toInt → v9.toInt ≤ v7.toInt + 3 → dz_rg a293 v3.toInt.toNat 0 23 → 0 + 0 + ((3 - v6.toInt) - 1) * 413 + 0 + ((4 - v8.toInt) - 1) * 77 + 0 + (3 - v10.toInt) * 14 + 21 ≤ ((k : Nat) : Int) → dz_T ((F208_X6_addAhead fu c248_groups a263 a283 a293 k).2.2 v3 v4 v6 v7 v8 v9 v10 c313_rows a314 a315) (fun r => True))
set_option maxHeartbeats 1000000 in
set_option maxRecDepth 10000 in
theorem t208_X6_addAhead_h1_g43 (fu : Nat) (hfu : 1000000000000 ≤ fu) (c248_groups : Int32) (a263 : Nat → Int32) (a283 : Nat → Int32) (a293 : Nat → Int32) (p0 : c248_groups.toInt ≤ 4) (p1 : 4 ≤ c248_groups.toInt) (hr_a263 : dz_rq a263 24 4 0 3) (hr_a283 : dz_pm a283 3) (k : Nat) (ih : ∀ j9, j9 < k → p208_X6_addAhead_g43 fu c248_groups a263 a283 a293 j9) : ∀ (v3 : Int32) (v4 : Int64) (v6 : Int32) (c313_rows : Int64) (a314 : Nat → Int64) (a315 : Nat → Int64), v3.toInt ≤ 3 → 0 ≤ v3.toInt → v6.toInt ≤ 3 → 0 ≤ v6.toInt → v6.toInt ≤ v3.toInt → dz_rg a293 v3.toInt.toNat 0 23 → 0 + 0 + (3 - v6.toInt) * 413 + 7 ≤ ((k : Nat) : Int) → dz_T ((F208_X6_addAhead fu c248_groups a263 a283 a293 k).1 v3 v4 v6 c313_rows a314 a315) (fun r => True) := by
  intro v3 v4 v6 c313_rows a314 a315 i0 i1 i2 i3 i4 hr_a293 hm
  obtain ⟨k0, rfl⟩ : ∃ x, k = x + 1 := ⟨k - 1, by omega⟩
  show dz_T (s208_X6_addAhead_1 fu c248_groups a263 a283 a293 (F208_X6_addAhead fu c248_groups a263 a283 a293 k0).2.1  v3 v4 v6 c313_rows a314 a315) _
  unfold s208_X6_addAhead_1
  refine dz_Tle (fun h1 => ?_) (fun h1 => ?_)
  · skip
    exact dz_Ts trivial
  · skip
    refine dz_Tin (by omega) (by omega) ?_
    have e2 := dz_pmat (hr_a283) (i := v6) (by decide) (by omega) (by omega)
    have e3 := dz_mulr (a := (a283 v6.toNatClampNeg)) (b := c248_groups) 4 (by omega) (by omega) (by omega)
    have e4 := dz_l0
    exact (ih k0 (by omega)).2.1 v3 v4 v6 ((a283 v6.toNatClampNeg) * c248_groups) (0 : Int32) c313_rows a314 a315 i0 (by first | assumption | omega) (by first | assumption | omega) i3 (by omega) (by omega) (by omega) (by omega) (by first | assumption | omega) (dz_rgs (hr_a293) (by omega)) (by omega)
set_option maxHeartbeats 1000000 in
set_option maxRecDepth 10000 in
theorem t208_X6_addAhead_h2_g43 (fu : Nat) (hfu : 1000000000000 ≤ fu) (c248_groups : Int32) (a263 : Nat → Int32) (a283 : Nat → Int32) (a293 : Nat → Int32) (p0 : c248_groups.toInt ≤ 4) (p1 : 4 ≤ c248_groups.toInt) (hr_a263 : dz_rq a263 24 4 0 3) (hr_a283 : dz_pm a283 3) (k : Nat) (ih : ∀ j9, j9 < k → p208_X6_addAhead_g43 fu c248_groups a263 a283 a293 j9) : ∀ (v3 : Int32) (v4 : Int64) (v6 : Int32) (v7 : Int32) (v8 : Int32) (c313_rows : Int64) (a314 : Nat → Int64) (a315 : Nat → Int64), v3.toInt ≤ 3 → 1 ≤ v3.toInt → v6.toInt ≤ 2 → 0 ≤ v6.toInt → v7.toInt ≤ 8 → 0 ≤ v7.toInt → v8.toInt ≤ 4 → 0 ≤ v8.toInt → v6.toInt + 1 ≤ v3.toInt → dz_rg a293 v3.toInt.toNat 0 23 → 0 + 0 + ((3 - v6.toInt) - 1) * 413 + 0 + (4 - v8.toInt) * 77 + 14 ≤ ((k : Nat) : Int) → dz_T ((F208_X6_addAhead fu c248_groups a263 a283 a293 k).2.1 v3 v4 v6 v7 v8 c313_rows a314 a315) (fun r => True) := by
  intro v3 v4 v6 v7 v8 c313_rows a314 a315 i0 i1 i2 i3 i4 i5 i6 i7 i8 hr_a293 hm
  obtain ⟨k0, rfl⟩ : ∃ x, k = x + 1 := ⟨k - 1, by omega⟩
  show dz_T (s208_X6_addAhead_2 fu c248_groups a263 a283 a293 (F208_X6_addAhead fu c248_groups a263 a283 a293 k0).1 (F208_X6_addAhead fu c248_groups a263 a283 a293 k0).2.2  v3 v4 v6 v7 v8 c313_rows a314 a315) _
  unfold s208_X6_addAhead_2
  refine dz_Tle (fun h1 => ?_) (fun h1 => ?_)
  · skip
    have e2 := dz_l1
    have e3 := dz_add (a := v6) (b := (1 : Int32)) (by omega) (by omega)
    exact (ih k0 (by omega)).1 v3 v4 (v6 + (1 : Int32)) c313_rows a314 a315 i0 (by first | assumption | omega) (by omega) (by omega) (by omega) (dz_rgs (hr_a293) (by omega)) (by omega)
  · skip
    refine dz_Tin (by omega) (by omega) ?_
    have e4 := dz_rgat (hr_a293) (i := v6) (by omega) (by omega)
    have e5 := dz_l4
    have e6 := dz_mulr (a := (a293 v6.toNatClampNeg)) (b := (4 : Int32)) 4 (by omega) (by omega) (by omega)
    have e7 := dz_add (a := ((a293 v6.toNatClampNeg) * (4 : Int32))) (b := v8) (by omega) (by omega)
    refine dz_Tin (by omega) (by omega) ?_
    have e8 := dz_rqat (hr_a263) (x := (a293 v6.toNatClampNeg)) (y := v8) (by omega) (by omega) (by omega) (by omega) (by omega)
    have e9 := dz_add (a := v7) (b := (a263 (((a293 v6.toNatClampNeg) * (4 : Int32)) + v8).toNatClampNeg)) (by omega) (by omega)
    have e10 := dz_mulr (a := (v7 + (a263 (((a293 v6.toNatClampNeg) * (4 : Int32)) + v8).toNatClampNeg))) (b := (4 : Int32)) 4 (by omega) (by omega) (by omega)
    have e11 := dz_add (a := ((v7 + (a263 (((a293 v6.toNatClampNeg) * (4 : Int32)) + v8).toNatClampNeg)) * (4 : Int32))) (b := v8) (by omega) (by omega)
    refine dz_Tin (by omega) (by omega) ?_
    refine dz_Tin (by omega) (by omega) ?_
    have e12 := dz_l1
    have e13 := dz_add (a := v6) (b := (1 : Int32)) (by omega) (by omega)
    exact (ih k0 (by omega)).2.2 v3 v4 v6 v7 v8 (v7 + (a263 (((a293 v6.toNatClampNeg) * (4 : Int32)) + v8).toNatClampNeg)) (v6 + (1 : Int32)) c313_rows a314 (vp_updL a315 (((v7 + (a263 (((a293 v6.toNatClampNeg) * (4 : Int32)) + v8).toNatClampNeg)) * (4 : Int32)) + v8).toNatClampNeg ((a315 (((v7 + (a263 (((a293 v6.toNatClampNeg) * (4 : Int32)) + v8).toNatClampNeg)) * (4 : Int32)) + v8).toNatClampNeg) + v4)) i0 i1 i2 i3 i4 i5 (by first | assumption | omega) i7 (by omega) (by omega) (by omega) (by omega) (by omega) i8 (by omega) (by omega) (by omega) (dz_rgs (hr_a293) (by omega)) (by omega)
set_option maxHeartbeats 1000000 in
set_option maxRecDepth 10000 in
theorem t208_X6_addAhead_h3_g43 (fu : Nat) (hfu : 1000000000000 ≤ fu) (c248_groups : Int32) (a263 : Nat → Int32) (a283 : Nat → Int32) (a293 : Nat → Int32) (p0 : c248_groups.toInt ≤ 4) (p1 : 4 ≤ c248_groups.toInt) (hr_a263 : dz_rq a263 24 4 0 3) (hr_a283 : dz_pm a283 3) (k : Nat) (ih : ∀ j9, j9 < k → p208_X6_addAhead_g43 fu c248_groups a263 a283 a293 j9) : ∀ (v3 : Int32) (v4 : Int64) (v6 : Int32) (v7 : Int32) (v8 : Int32) (v9 : Int32) (v10 : Int32) (c313_rows : Int64) (a314 : Nat → Int64) (a315 : Nat → Int64), v3.toInt ≤ 3 → 1 ≤ v3.toInt → v6.toInt ≤ 2 → 0 ≤ v6.toInt → v7.toInt ≤ 8 → 0 ≤ v7.toInt → v8.toInt ≤ 3 → 0 ≤ v8.toInt → v9.toInt ≤ 11 → 0 ≤ v9.toInt → v10.toInt ≤ 3 → 1 ≤ v10.toInt → v6.toInt + 1 ≤ v10.toInt → v6.toInt + 1 ≤ v3.toInt → v10.toInt ≤ v3.toInt → v7.toInt ≤ v9.toInt → v9.toInt ≤ v7.toInt + 3 → dz_rg a293 v3.toInt.toNat 0 23 → 0 + 0 + ((3 - v6.toInt) - 1) * 413 + 0 + ((4 - v8.toInt) - 1) * 77 + 0 + (3 - v10.toInt) * 14 + 21 ≤ ((k : Nat) : Int) → dz_T ((F208_X6_addAhead fu c248_groups a263 a283 a293 k).2.2 v3 v4 v6 v7 v8 v9 v10 c313_rows a314 a315) (fun r => True) := by
  intro v3 v4 v6 v7 v8 v9 v10 c313_rows a314 a315 i0 i1 i2 i3 i4 i5 i6 i7 i8 i9 i10 i11 i12 i13 i14 i15 i16 hr_a293 hm
  obtain ⟨k0, rfl⟩ : ∃ x, k = x + 1 := ⟨k - 1, by omega⟩
  show dz_T (s208_X6_addAhead_3 fu c248_groups a263 a283 a293 (F208_X6_addAhead fu c248_groups a263 a283 a293 k0).2.1 (F208_X6_addAhead fu c248_groups a263 a283 a293 k0).2.2  v3 v4 v6 v7 v8 v9 v10 c313_rows a314 a315) _
  unfold s208_X6_addAhead_3
  refine dz_Tle (fun h1 => ?_) (fun h1 => ?_)
  · skip
    have e2 := dz_l1
    have e3 := dz_add (a := v8) (b := (1 : Int32)) (by omega) (by omega)
    exact (ih k0 (by omega)).2.1 v3 v4 v6 v7 (v8 + (1 : Int32)) c313_rows a314 a315 i0 i1 i2 i3 i4 i5 (by omega) (by omega) i13 (dz_rgs (hr_a293) (by omega)) (by omega)
  · skip
    refine dz_Tin (by omega) (by omega) ?_
    have e4 := dz_rgat (hr_a293) (i := v10) (by omega) (by omega)
    have e5 := dz_l4
    have e6 := dz_mulr (a := (a293 v10.toNatClampNeg)) (b := (4 : Int32)) 4 (by omega) (by omega) (by omega)
    have e7 := dz_add (a := ((a293 v10.toNatClampNeg) * (4 : Int32))) (b := v8) (by omega) (by omega)
    refine dz_Tin (by omega) (by omega) ?_
    refine dz_Tin (by omega) (by omega) ?_
    have e8 := dz_l12
    have e9 := dz_mulr (a := v9) (b := (12 : Int32)) 12 (by omega) (by omega) (by omega)
    have e10 := dz_pmat (hr_a283) (i := v10) (by decide) (by omega) (by omega)
    have e11 := dz_mulr (a := (a283 v10.toNatClampNeg)) (b := c248_groups) 4 (by omega) (by omega) (by omega)
    have e12 := dz_add (a := (v9 * (12 : Int32))) (b := ((a283 v10.toNatClampNeg) * c248_groups)) (by omega) (by omega)
    have e13 := dz_rqat (hr_a263) (x := (a293 v10.toNatClampNeg)) (y := v8) (by omega) (by omega) (by omega) (by omega) (by omega)
    have e14 := dz_add (a := ((v9 * (12 : Int32)) + ((a283 v10.toNatClampNeg) * c248_groups))) (b := (a263 (((a293 v10.toNatClampNeg) * (4 : Int32)) + v8).toNatClampNeg)) (by omega) (by omega)
    refine dz_Tin (by omega) (by omega) ?_
    refine dz_Tin (by omega) (by omega) ?_
    have e15 := dz_l1
    have e16 := dz_add (a := v10) (b := (1 : Int32)) (by omega) (by omega)
    exact (ih k0 (by omega)).2.2 v3 v4 v6 v7 v8 v9 (v10 + (1 : Int32)) c313_rows (vp_updL a314 (((v9 * (12 : Int32)) + ((a283 v10.toNatClampNeg) * c248_groups)) + (a263 (((a293 v10.toNatClampNeg) * (4 : Int32)) + v8).toNatClampNeg)).toNatClampNeg ((a314 (((v9 * (12 : Int32)) + ((a283 v10.toNatClampNeg) * c248_groups)) + (a263 (((a293 v10.toNatClampNeg) * (4 : Int32)) + v8).toNatClampNeg)).toNatClampNeg) + v4)) a315 i0 i1 i2 i3 i4 i5 i6 i7 i8 i9 (by omega) (by omega) (by omega) i13 (by omega) i15 i16 (dz_rgs (hr_a293) (by omega)) (by omega)
theorem t208_X6_addAhead_I_g43 (fu : Nat) (hfu : 1000000000000 ≤ fu) (c248_groups : Int32) (a263 : Nat → Int32) (a283 : Nat → Int32) (a293 : Nat → Int32) (p0 : c248_groups.toInt ≤ 4) (p1 : 4 ≤ c248_groups.toInt) (hr_a263 : dz_rq a263 24 4 0 3) (hr_a283 : dz_pm a283 3) (k : Nat) : p208_X6_addAhead_g43 fu c248_groups a263 a283 a293 k := by
  induction k using Nat.strongRecOn with
  | _ k ih => exact ⟨t208_X6_addAhead_h1_g43 fu hfu c248_groups a263 a283 a293 p0 p1 hr_a263 hr_a283 k ih, t208_X6_addAhead_h2_g43 fu hfu c248_groups a263 a283 a293 p0 p1 hr_a263 hr_a283 k ih, t208_X6_addAhead_h3_g43 fu hfu c248_groups a263 a283 a293 p0 p1 hr_a263 hr_a283 k ih⟩
set_option maxHeartbeats 1000000 in
set_option maxRecDepth 10000 in
theorem t208_X6_addAhead_E_g43 (fu : Nat) (hfu : 1000000000000 ≤ fu) (c248_groups : Int32) (a263 : Nat → Int32) (a283 : Nat → Int32) (a293 : Nat → Int32) (v3 : Int32) (v4 : Int64) (c313_rows : Int64) (a314 : Nat → Int64) (a315 : Nat → Int64) (p0 : c248_groups.toInt ≤ 4) (p1 : 4 ≤ c248_groups.toInt) (p2 : 0 ≤ v3.toInt) (p3 : v3.toInt ≤ 3) (hr_a263 : dz_rq a263 24 4 0 3) (hr_a283 : dz_pm a283 3) (hr_a293 : dz_rg a293 v3.toInt.toNat 0 23) (kv : Nat) (hkv : 1000000000000 ≤ kv) : dz_T (s208_X6_addAhead_0 fu c248_groups a263 a283 a293 (F208_X6_addAhead fu c248_groups a263 a283 a293 kv).1  v3 v4 c313_rows a314 a315) (fun r => True) := by
  unfold s208_X6_addAhead_0
  have e1 := dz_l0
  exact (t208_X6_addAhead_I_g43 fu hfu c248_groups a263 a283 a293 p0 p1 hr_a263 hr_a283 kv).1 v3 v4 (0 : Int32) (c313_rows + v4) a314 a315 p3 p2 (by omega) (by omega) (by omega) (dz_rgs (hr_a293) (by omega)) (by omega)
theorem t208_X6_addAhead_g43 (fu : Nat) (hfu : 1000000000000 ≤ fu) (c248_groups : Int32) (a263 : Nat → Int32) (a283 : Nat → Int32) (a293 : Nat → Int32) (v3 : Int32) (v4 : Int64) (c313_rows : Int64) (a314 : Nat → Int64) (a315 : Nat → Int64) (p0 : c248_groups.toInt ≤ 4) (p1 : 4 ≤ c248_groups.toInt) (p2 : 0 ≤ v3.toInt) (p3 : v3.toInt ≤ 3) (hr_a263 : dz_rq a263 24 4 0 3) (hr_a283 : dz_pm a283 3) (hr_a293 : dz_rg a293 v3.toInt.toNat 0 23) : dz_T (f208_X6_addAhead fu c248_groups a263 a283 a293 v3 v4 c313_rows a314 a315) (fun r => True) :=
  t208_X6_addAhead_E_g43 fu hfu c248_groups a263 a283 a293 v3 v4 c313_rows a314 a315 p0 p1 p2 p3 hr_a263 hr_a283 hr_a293 fu hfu
set_option maxHeartbeats 1000000 in
theorem t208_X6_addAhead_s (fu : Nat) (hfu : 1000000000000 ≤ fu) (κ : Nat) (hκ : κ < 14) (c248_groups : Int32) (a263 : Nat → Int32) (a283 : Nat → Int32) (a293 : Nat → Int32) (v3 : Int32) (v4 : Int64) (c313_rows : Int64) (a314 : Nat → Int64) (a315 : Nat → Int64) (p0 : c248_groups.toInt ≤ 4) (p1 : 2 ≤ c248_groups.toInt) (p2 : 0 ≤ v3.toInt) (p3 : v3.toInt ≤ 4) (hr_a263 : dz_rq a263 (dz_kr κ) (dz_kg κ) 0 (((dz_kg κ : Nat) : Int) - 1)) (hr_a283 : dz_pm a283 (dz_kp κ)) (hr_a293 : dz_rg a293 v3.toInt.toNat 0 (((dz_kr κ : Nat) : Int) - 1)) (o0 : v3.toInt ≤ ((dz_kp κ : Nat) : Int)) (o1 : c248_groups.toInt = ((dz_kg κ : Nat) : Int)) : dz_T (f208_X6_addAhead fu c248_groups a263 a283 a293 v3 v4 c313_rows a314 a315) (fun r => True) := by
  rcases (show κ = 0 ∨ κ = 1 ∨ κ = 2 ∨ κ = 3 ∨ κ = 4 ∨ κ = 5 ∨ κ = 6 ∨ κ = 7 ∨ κ = 8 ∨ κ = 9 ∨ κ = 10 ∨ κ = 11 ∨ κ = 12 ∨ κ = 13 by omega) with rfl | rfl | rfl | rfl | rfl | rfl | rfl | rfl | rfl | rfl | rfl | rfl | rfl | rfl
  · skip
    have o0 : v3.toInt ≤ (0 : Int) := o0
    have o1 : c248_groups.toInt = (2 : Int) := o1
    refine dz_Tw (t208_X6_addAhead_g20 fu hfu c248_groups a263 a283 a293 v3 v4 c313_rows a314 a315 (by first | assumption | omega) (by first | assumption | omega) (by first | assumption | omega) (by first | assumption | omega) (by first | exact hr_a263 | exact dz_rgm hr_a263 (by omega) (by omega) | exact dz_pmr hr_a263 (by decide) (by omega) (by omega) (by omega) | exact dz_ptr hr_a263 (by decide) (by decide) (by omega) | exact dz_ptr hr_a263 (by decide) (by decide) (by show _ ≤ 0; omega) | exact dz_rgs hr_a263 (by omega)) (by first | exact hr_a283 | exact dz_rgm hr_a283 (by omega) (by omega) | exact dz_pmr hr_a283 (by decide) (by omega) (by omega) (by omega) | exact dz_ptr hr_a283 (by decide) (by decide) (by omega) | exact dz_ptr hr_a283 (by decide) (by decide) (by show _ ≤ 0; omega) | exact dz_rgs hr_a283 (by omega)) (by first | exact hr_a293 | exact dz_rgm hr_a293 (by omega) (by omega) | exact dz_pmr hr_a293 (by decide) (by omega) (by omega) (by omega) | exact dz_ptr hr_a293 (by decide) (by decide) (by omega) | exact dz_ptr hr_a293 (by decide) (by decide) (by show _ ≤ 0; omega) | exact dz_rgs hr_a293 (by omega))) (fun r h => ?_)
    exact trivial
  · skip
    have o0 : v3.toInt ≤ (1 : Int) := o0
    have o1 : c248_groups.toInt = (2 : Int) := o1
    refine dz_Tw (t208_X6_addAhead_g21 fu hfu c248_groups a263 a283 a293 v3 v4 c313_rows a314 a315 (by first | assumption | omega) (by first | assumption | omega) (by first | assumption | omega) (by first | assumption | omega) (by first | exact hr_a263 | exact dz_rgm hr_a263 (by omega) (by omega) | exact dz_pmr hr_a263 (by decide) (by omega) (by omega) (by omega) | exact dz_ptr hr_a263 (by decide) (by decide) (by omega) | exact dz_ptr hr_a263 (by decide) (by decide) (by show _ ≤ 1; omega) | exact dz_rgs hr_a263 (by omega)) (by first | exact hr_a283 | exact dz_rgm hr_a283 (by omega) (by omega) | exact dz_pmr hr_a283 (by decide) (by omega) (by omega) (by omega) | exact dz_ptr hr_a283 (by decide) (by decide) (by omega) | exact dz_ptr hr_a283 (by decide) (by decide) (by show _ ≤ 1; omega) | exact dz_rgs hr_a283 (by omega)) (by first | exact hr_a293 | exact dz_rgm hr_a293 (by omega) (by omega) | exact dz_pmr hr_a293 (by decide) (by omega) (by omega) (by omega) | exact dz_ptr hr_a293 (by decide) (by decide) (by omega) | exact dz_ptr hr_a293 (by decide) (by decide) (by show _ ≤ 1; omega) | exact dz_rgs hr_a293 (by omega))) (fun r h => ?_)
    exact trivial
  · skip
    have o0 : v3.toInt ≤ (2 : Int) := o0
    have o1 : c248_groups.toInt = (2 : Int) := o1
    refine dz_Tw (t208_X6_addAhead_g22 fu hfu c248_groups a263 a283 a293 v3 v4 c313_rows a314 a315 (by first | assumption | omega) (by first | assumption | omega) (by first | assumption | omega) (by first | assumption | omega) (by first | exact hr_a263 | exact dz_rgm hr_a263 (by omega) (by omega) | exact dz_pmr hr_a263 (by decide) (by omega) (by omega) (by omega) | exact dz_ptr hr_a263 (by decide) (by decide) (by omega) | exact dz_ptr hr_a263 (by decide) (by decide) (by show _ ≤ 2; omega) | exact dz_rgs hr_a263 (by omega)) (by first | exact hr_a283 | exact dz_rgm hr_a283 (by omega) (by omega) | exact dz_pmr hr_a283 (by decide) (by omega) (by omega) (by omega) | exact dz_ptr hr_a283 (by decide) (by decide) (by omega) | exact dz_ptr hr_a283 (by decide) (by decide) (by show _ ≤ 2; omega) | exact dz_rgs hr_a283 (by omega)) (by first | exact hr_a293 | exact dz_rgm hr_a293 (by omega) (by omega) | exact dz_pmr hr_a293 (by decide) (by omega) (by omega) (by omega) | exact dz_ptr hr_a293 (by decide) (by decide) (by omega) | exact dz_ptr hr_a293 (by decide) (by decide) (by show _ ≤ 2; omega) | exact dz_rgs hr_a293 (by omega))) (fun r h => ?_)
    exact trivial
  · skip
    have o0 : v3.toInt ≤ (3 : Int) := o0
    have o1 : c248_groups.toInt = (2 : Int) := o1
    refine dz_Tw (t208_X6_addAhead_g23 fu hfu c248_groups a263 a283 a293 v3 v4 c313_rows a314 a315 (by first | assumption | omega) (by first | assumption | omega) (by first | assumption | omega) (by first | assumption | omega) (by first | exact hr_a263 | exact dz_rgm hr_a263 (by omega) (by omega) | exact dz_pmr hr_a263 (by decide) (by omega) (by omega) (by omega) | exact dz_ptr hr_a263 (by decide) (by decide) (by omega) | exact dz_ptr hr_a263 (by decide) (by decide) (by show _ ≤ 3; omega) | exact dz_rgs hr_a263 (by omega)) (by first | exact hr_a283 | exact dz_rgm hr_a283 (by omega) (by omega) | exact dz_pmr hr_a283 (by decide) (by omega) (by omega) (by omega) | exact dz_ptr hr_a283 (by decide) (by decide) (by omega) | exact dz_ptr hr_a283 (by decide) (by decide) (by show _ ≤ 3; omega) | exact dz_rgs hr_a283 (by omega)) (by first | exact hr_a293 | exact dz_rgm hr_a293 (by omega) (by omega) | exact dz_pmr hr_a293 (by decide) (by omega) (by omega) (by omega) | exact dz_ptr hr_a293 (by decide) (by decide) (by omega) | exact dz_ptr hr_a293 (by decide) (by decide) (by show _ ≤ 3; omega) | exact dz_rgs hr_a293 (by omega))) (fun r h => ?_)
    exact trivial
  · skip
    have o0 : v3.toInt ≤ (4 : Int) := o0
    have o1 : c248_groups.toInt = (2 : Int) := o1
    refine dz_Tw (t208_X6_addAhead_g24 fu hfu c248_groups a263 a283 a293 v3 v4 c313_rows a314 a315 (by first | assumption | omega) (by first | assumption | omega) (by first | assumption | omega) (by first | assumption | omega) (by first | exact hr_a263 | exact dz_rgm hr_a263 (by omega) (by omega) | exact dz_pmr hr_a263 (by decide) (by omega) (by omega) (by omega) | exact dz_ptr hr_a263 (by decide) (by decide) (by omega) | exact dz_ptr hr_a263 (by decide) (by decide) (by show _ ≤ 4; omega) | exact dz_rgs hr_a263 (by omega)) (by first | exact hr_a283 | exact dz_rgm hr_a283 (by omega) (by omega) | exact dz_pmr hr_a283 (by decide) (by omega) (by omega) (by omega) | exact dz_ptr hr_a283 (by decide) (by decide) (by omega) | exact dz_ptr hr_a283 (by decide) (by decide) (by show _ ≤ 4; omega) | exact dz_rgs hr_a283 (by omega)) (by first | exact hr_a293 | exact dz_rgm hr_a293 (by omega) (by omega) | exact dz_pmr hr_a293 (by decide) (by omega) (by omega) (by omega) | exact dz_ptr hr_a293 (by decide) (by decide) (by omega) | exact dz_ptr hr_a293 (by decide) (by decide) (by show _ ≤ 4; omega) | exact dz_rgs hr_a293 (by omega))) (fun r h => ?_)
    exact trivial
  · skip
    have o0 : v3.toInt ≤ (0 : Int) := o0
    have o1 : c248_groups.toInt = (3 : Int) := o1
    refine dz_Tw (t208_X6_addAhead_g30 fu hfu c248_groups a263 a283 a293 v3 v4 c313_rows a314 a315 (by first | assumption | omega) (by first | assumption | omega) (by first | assumption | omega) (by first | assumption | omega) (by first | exact hr_a263 | exact dz_rgm hr_a263 (by omega) (by omega) | exact dz_pmr hr_a263 (by decide) (by omega) (by omega) (by omega) | exact dz_ptr hr_a263 (by decide) (by decide) (by omega) | exact dz_ptr hr_a263 (by decide) (by decide) (by show _ ≤ 0; omega) | exact dz_rgs hr_a263 (by omega)) (by first | exact hr_a283 | exact dz_rgm hr_a283 (by omega) (by omega) | exact dz_pmr hr_a283 (by decide) (by omega) (by omega) (by omega) | exact dz_ptr hr_a283 (by decide) (by decide) (by omega) | exact dz_ptr hr_a283 (by decide) (by decide) (by show _ ≤ 0; omega) | exact dz_rgs hr_a283 (by omega)) (by first | exact hr_a293 | exact dz_rgm hr_a293 (by omega) (by omega) | exact dz_pmr hr_a293 (by decide) (by omega) (by omega) (by omega) | exact dz_ptr hr_a293 (by decide) (by decide) (by omega) | exact dz_ptr hr_a293 (by decide) (by decide) (by show _ ≤ 0; omega) | exact dz_rgs hr_a293 (by omega))) (fun r h => ?_)
    exact trivial
  · skip
    have o0 : v3.toInt ≤ (1 : Int) := o0
    have o1 : c248_groups.toInt = (3 : Int) := o1
    refine dz_Tw (t208_X6_addAhead_g31 fu hfu c248_groups a263 a283 a293 v3 v4 c313_rows a314 a315 (by first | assumption | omega) (by first | assumption | omega) (by first | assumption | omega) (by first | assumption | omega) (by first | exact hr_a263 | exact dz_rgm hr_a263 (by omega) (by omega) | exact dz_pmr hr_a263 (by decide) (by omega) (by omega) (by omega) | exact dz_ptr hr_a263 (by decide) (by decide) (by omega) | exact dz_ptr hr_a263 (by decide) (by decide) (by show _ ≤ 1; omega) | exact dz_rgs hr_a263 (by omega)) (by first | exact hr_a283 | exact dz_rgm hr_a283 (by omega) (by omega) | exact dz_pmr hr_a283 (by decide) (by omega) (by omega) (by omega) | exact dz_ptr hr_a283 (by decide) (by decide) (by omega) | exact dz_ptr hr_a283 (by decide) (by decide) (by show _ ≤ 1; omega) | exact dz_rgs hr_a283 (by omega)) (by first | exact hr_a293 | exact dz_rgm hr_a293 (by omega) (by omega) | exact dz_pmr hr_a293 (by decide) (by omega) (by omega) (by omega) | exact dz_ptr hr_a293 (by decide) (by decide) (by omega) | exact dz_ptr hr_a293 (by decide) (by decide) (by show _ ≤ 1; omega) | exact dz_rgs hr_a293 (by omega))) (fun r h => ?_)
    exact trivial
  · skip
    have o0 : v3.toInt ≤ (2 : Int) := o0
    have o1 : c248_groups.toInt = (3 : Int) := o1
    refine dz_Tw (t208_X6_addAhead_g32 fu hfu c248_groups a263 a283 a293 v3 v4 c313_rows a314 a315 (by first | assumption | omega) (by first | assumption | omega) (by first | assumption | omega) (by first | assumption | omega) (by first | exact hr_a263 | exact dz_rgm hr_a263 (by omega) (by omega) | exact dz_pmr hr_a263 (by decide) (by omega) (by omega) (by omega) | exact dz_ptr hr_a263 (by decide) (by decide) (by omega) | exact dz_ptr hr_a263 (by decide) (by decide) (by show _ ≤ 2; omega) | exact dz_rgs hr_a263 (by omega)) (by first | exact hr_a283 | exact dz_rgm hr_a283 (by omega) (by omega) | exact dz_pmr hr_a283 (by decide) (by omega) (by omega) (by omega) | exact dz_ptr hr_a283 (by decide) (by decide) (by omega) | exact dz_ptr hr_a283 (by decide) (by decide) (by show _ ≤ 2; omega) | exact dz_rgs hr_a283 (by omega)) (by first | exact hr_a293 | exact dz_rgm hr_a293 (by omega) (by omega) | exact dz_pmr hr_a293 (by decide) (by omega) (by omega) (by omega) | exact dz_ptr hr_a293 (by decide) (by decide) (by omega) | exact dz_ptr hr_a293 (by decide) (by decide) (by show _ ≤ 2; omega) | exact dz_rgs hr_a293 (by omega))) (fun r h => ?_)
    exact trivial
  · skip
    have o0 : v3.toInt ≤ (3 : Int) := o0
    have o1 : c248_groups.toInt = (3 : Int) := o1
    refine dz_Tw (t208_X6_addAhead_g33 fu hfu c248_groups a263 a283 a293 v3 v4 c313_rows a314 a315 (by first | assumption | omega) (by first | assumption | omega) (by first | assumption | omega) (by first | assumption | omega) (by first | exact hr_a263 | exact dz_rgm hr_a263 (by omega) (by omega) | exact dz_pmr hr_a263 (by decide) (by omega) (by omega) (by omega) | exact dz_ptr hr_a263 (by decide) (by decide) (by omega) | exact dz_ptr hr_a263 (by decide) (by decide) (by show _ ≤ 3; omega) | exact dz_rgs hr_a263 (by omega)) (by first | exact hr_a283 | exact dz_rgm hr_a283 (by omega) (by omega) | exact dz_pmr hr_a283 (by decide) (by omega) (by omega) (by omega) | exact dz_ptr hr_a283 (by decide) (by decide) (by omega) | exact dz_ptr hr_a283 (by decide) (by decide) (by show _ ≤ 3; omega) | exact dz_rgs hr_a283 (by omega)) (by first | exact hr_a293 | exact dz_rgm hr_a293 (by omega) (by omega) | exact dz_pmr hr_a293 (by decide) (by omega) (by omega) (by omega) | exact dz_ptr hr_a293 (by decide) (by decide) (by omega) | exact dz_ptr hr_a293 (by decide) (by decide) (by show _ ≤ 3; omega) | exact dz_rgs hr_a293 (by omega))) (fun r h => ?_)
    exact trivial
  · skip
    have o0 : v3.toInt ≤ (4 : Int) := o0
    have o1 : c248_groups.toInt = (3 : Int) := o1
    refine dz_Tw (t208_X6_addAhead_g34 fu hfu c248_groups a263 a283 a293 v3 v4 c313_rows a314 a315 (by first | assumption | omega) (by first | assumption | omega) (by first | assumption | omega) (by first | assumption | omega) (by first | exact hr_a263 | exact dz_rgm hr_a263 (by omega) (by omega) | exact dz_pmr hr_a263 (by decide) (by omega) (by omega) (by omega) | exact dz_ptr hr_a263 (by decide) (by decide) (by omega) | exact dz_ptr hr_a263 (by decide) (by decide) (by show _ ≤ 4; omega) | exact dz_rgs hr_a263 (by omega)) (by first | exact hr_a283 | exact dz_rgm hr_a283 (by omega) (by omega) | exact dz_pmr hr_a283 (by decide) (by omega) (by omega) (by omega) | exact dz_ptr hr_a283 (by decide) (by decide) (by omega) | exact dz_ptr hr_a283 (by decide) (by decide) (by show _ ≤ 4; omega) | exact dz_rgs hr_a283 (by omega)) (by first | exact hr_a293 | exact dz_rgm hr_a293 (by omega) (by omega) | exact dz_pmr hr_a293 (by decide) (by omega) (by omega) (by omega) | exact dz_ptr hr_a293 (by decide) (by decide) (by omega) | exact dz_ptr hr_a293 (by decide) (by decide) (by show _ ≤ 4; omega) | exact dz_rgs hr_a293 (by omega))) (fun r h => ?_)
    exact trivial
  · skip
    have o0 : v3.toInt ≤ (0 : Int) := o0
    have o1 : c248_groups.toInt = (4 : Int) := o1
    refine dz_Tw (t208_X6_addAhead_g40 fu hfu c248_groups a263 a283 a293 v3 v4 c313_rows a314 a315 (by first | assumption | omega) (by first | assumption | omega) (by first | assumption | omega) (by first | assumption | omega) (by first | exact hr_a263 | exact dz_rgm hr_a263 (by omega) (by omega) | exact dz_pmr hr_a263 (by decide) (by omega) (by omega) (by omega) | exact dz_ptr hr_a263 (by decide) (by decide) (by omega) | exact dz_ptr hr_a263 (by decide) (by decide) (by show _ ≤ 0; omega) | exact dz_rgs hr_a263 (by omega)) (by first | exact hr_a283 | exact dz_rgm hr_a283 (by omega) (by omega) | exact dz_pmr hr_a283 (by decide) (by omega) (by omega) (by omega) | exact dz_ptr hr_a283 (by decide) (by decide) (by omega) | exact dz_ptr hr_a283 (by decide) (by decide) (by show _ ≤ 0; omega) | exact dz_rgs hr_a283 (by omega)) (by first | exact hr_a293 | exact dz_rgm hr_a293 (by omega) (by omega) | exact dz_pmr hr_a293 (by decide) (by omega) (by omega) (by omega) | exact dz_ptr hr_a293 (by decide) (by decide) (by omega) | exact dz_ptr hr_a293 (by decide) (by decide) (by show _ ≤ 0; omega) | exact dz_rgs hr_a293 (by omega))) (fun r h => ?_)
    exact trivial
  · skip
    have o0 : v3.toInt ≤ (1 : Int) := o0
    have o1 : c248_groups.toInt = (4 : Int) := o1
    refine dz_Tw (t208_X6_addAhead_g41 fu hfu c248_groups a263 a283 a293 v3 v4 c313_rows a314 a315 (by first | assumption | omega) (by first | assumption | omega) (by first | assumption | omega) (by first | assumption | omega) (by first | exact hr_a263 | exact dz_rgm hr_a263 (by omega) (by omega) | exact dz_pmr hr_a263 (by decide) (by omega) (by omega) (by omega) | exact dz_ptr hr_a263 (by decide) (by decide) (by omega) | exact dz_ptr hr_a263 (by decide) (by decide) (by show _ ≤ 1; omega) | exact dz_rgs hr_a263 (by omega)) (by first | exact hr_a283 | exact dz_rgm hr_a283 (by omega) (by omega) | exact dz_pmr hr_a283 (by decide) (by omega) (by omega) (by omega) | exact dz_ptr hr_a283 (by decide) (by decide) (by omega) | exact dz_ptr hr_a283 (by decide) (by decide) (by show _ ≤ 1; omega) | exact dz_rgs hr_a283 (by omega)) (by first | exact hr_a293 | exact dz_rgm hr_a293 (by omega) (by omega) | exact dz_pmr hr_a293 (by decide) (by omega) (by omega) (by omega) | exact dz_ptr hr_a293 (by decide) (by decide) (by omega) | exact dz_ptr hr_a293 (by decide) (by decide) (by show _ ≤ 1; omega) | exact dz_rgs hr_a293 (by omega))) (fun r h => ?_)
    exact trivial
  · skip
    have o0 : v3.toInt ≤ (2 : Int) := o0
    have o1 : c248_groups.toInt = (4 : Int) := o1
    refine dz_Tw (t208_X6_addAhead_g42 fu hfu c248_groups a263 a283 a293 v3 v4 c313_rows a314 a315 (by first | assumption | omega) (by first | assumption | omega) (by first | assumption | omega) (by first | assumption | omega) (by first | exact hr_a263 | exact dz_rgm hr_a263 (by omega) (by omega) | exact dz_pmr hr_a263 (by decide) (by omega) (by omega) (by omega) | exact dz_ptr hr_a263 (by decide) (by decide) (by omega) | exact dz_ptr hr_a263 (by decide) (by decide) (by show _ ≤ 2; omega) | exact dz_rgs hr_a263 (by omega)) (by first | exact hr_a283 | exact dz_rgm hr_a283 (by omega) (by omega) | exact dz_pmr hr_a283 (by decide) (by omega) (by omega) (by omega) | exact dz_ptr hr_a283 (by decide) (by decide) (by omega) | exact dz_ptr hr_a283 (by decide) (by decide) (by show _ ≤ 2; omega) | exact dz_rgs hr_a283 (by omega)) (by first | exact hr_a293 | exact dz_rgm hr_a293 (by omega) (by omega) | exact dz_pmr hr_a293 (by decide) (by omega) (by omega) (by omega) | exact dz_ptr hr_a293 (by decide) (by decide) (by omega) | exact dz_ptr hr_a293 (by decide) (by decide) (by show _ ≤ 2; omega) | exact dz_rgs hr_a293 (by omega))) (fun r h => ?_)
    exact trivial
  · skip
    have o0 : v3.toInt ≤ (3 : Int) := o0
    have o1 : c248_groups.toInt = (4 : Int) := o1
    refine dz_Tw (t208_X6_addAhead_g43 fu hfu c248_groups a263 a283 a293 v3 v4 c313_rows a314 a315 (by first | assumption | omega) (by first | assumption | omega) (by first | assumption | omega) (by first | assumption | omega) (by first | exact hr_a263 | exact dz_rgm hr_a263 (by omega) (by omega) | exact dz_pmr hr_a263 (by decide) (by omega) (by omega) (by omega) | exact dz_ptr hr_a263 (by decide) (by decide) (by omega) | exact dz_ptr hr_a263 (by decide) (by decide) (by show _ ≤ 3; omega) | exact dz_rgs hr_a263 (by omega)) (by first | exact hr_a283 | exact dz_rgm hr_a283 (by omega) (by omega) | exact dz_pmr hr_a283 (by decide) (by omega) (by omega) (by omega) | exact dz_ptr hr_a283 (by decide) (by decide) (by omega) | exact dz_ptr hr_a283 (by decide) (by decide) (by show _ ≤ 3; omega) | exact dz_rgs hr_a283 (by omega)) (by first | exact hr_a293 | exact dz_rgm hr_a293 (by omega) (by omega) | exact dz_pmr hr_a293 (by decide) (by omega) (by omega) (by omega) | exact dz_ptr hr_a293 (by decide) (by decide) (by omega) | exact dz_ptr hr_a293 (by decide) (by decide) (by show _ ≤ 3; omega) | exact dz_rgs hr_a293 (by omega))) (fun r h => ?_)
    exact trivial
abbrev p209_J7_fill_d0a16 (fu : Nat) (k : Nat) : Prop :=
  (∀ (v1 : Int64) (v3 : Int32) (v4 : Int32) (a297 : Nat → Int64), v3.toInt ≤ 24 → 0 ≤ v3.toInt → v4.toInt ≤ 24 → 24 ≤ v4.toInt → 0 + 0 + (24 - v3.toInt) * 10 + 5 ≤ ((k : Nat) : Int) → dz_T ((F209_J7_fill_d0a16 fu k) v1 v3 v4 a297) (fun r => True))
set_option maxHeartbeats 1000000 in
set_option maxRecDepth 10000 in
theorem t209_J7_fill_d0a16_h1 (fu : Nat) (hfu : 1000000000000 ≤ fu) (k : Nat) (ih : ∀ j9, j9 < k → p209_J7_fill_d0a16 fu j9) : ∀ (v1 : Int64) (v3 : Int32) (v4 : Int32) (a297 : Nat → Int64), v3.toInt ≤ 24 → 0 ≤ v3.toInt → v4.toInt ≤ 24 → 24 ≤ v4.toInt → 0 + 0 + (24 - v3.toInt) * 10 + 5 ≤ ((k : Nat) : Int) → dz_T ((F209_J7_fill_d0a16 fu k) v1 v3 v4 a297) (fun r => True) := by
  intro v1 v3 v4 a297 i0 i1 i2 i3 hm
  obtain ⟨k0, rfl⟩ : ∃ x, k = x + 1 := ⟨k - 1, by omega⟩
  show dz_T (s209_J7_fill_d0a16_1 fu (F209_J7_fill_d0a16 fu k0)  v1 v3 v4 a297) _
  unfold s209_J7_fill_d0a16_1
  refine dz_Tle (fun h1 => ?_) (fun h1 => ?_)
  · skip
    exact dz_Ts trivial
  · skip
    refine dz_Tin (by omega) (by omega) ?_
    have e2 := dz_l1
    have e3 := dz_add (a := v3) (b := (1 : Int32)) (by omega) (by omega)
    exact (ih k0 (by omega)) v1 (v3 + (1 : Int32)) v4 (vp_updL a297 v3.toNatClampNeg v1) (by omega) (by omega) i2 i3 (by omega)
theorem t209_J7_fill_d0a16_I (fu : Nat) (hfu : 1000000000000 ≤ fu) (k : Nat) : p209_J7_fill_d0a16 fu k := by
  induction k using Nat.strongRecOn with
  | _ k ih => exact t209_J7_fill_d0a16_h1 fu hfu k ih
set_option maxHeartbeats 1000000 in
set_option maxRecDepth 10000 in
theorem t209_J7_fill_d0a16_E (fu : Nat) (hfu : 1000000000000 ≤ fu) (v1 : Int64) (a297 : Nat → Int64) (kv : Nat) (hkv : 1000000000000 ≤ kv) : dz_T (s209_J7_fill_d0a16_0 fu (F209_J7_fill_d0a16 fu kv)  v1 a297) (fun r => True) := by
  unfold s209_J7_fill_d0a16_0
  have e1 := dz_l0
  have e2 := dz_l24
  exact (t209_J7_fill_d0a16_I fu hfu kv) v1 (0 : Int32) (24 : Int32) a297 (by omega) (by omega) (by omega) (by omega) (by omega)
theorem t209_J7_fill_d0a16 (fu : Nat) (hfu : 1000000000000 ≤ fu) (v1 : Int64) (a297 : Nat → Int64) : dz_T (f209_J7_fill_d0a16 fu v1 a297) (fun r => True) :=
  t209_J7_fill_d0a16_E fu hfu v1 a297 fu hfu
abbrev p210_X7_groupsOpen_s (fu : Nat) (κ : Nat) (c261_groups : Int32) (a264 : Nat → Int32) (k : Nat) : Prop :=
  (∀ (v1 : Int32) (v2 : Int32) (v3 : Int32) (v4 : Int32), 0 ≤ v1.toInt → v2.toInt ≤ 3 → 0 ≤ v2.toInt → v3.toInt ≤ 4 → 0 ≤ v3.toInt → v4.toInt ≤ 4 → 0 ≤ v4.toInt → v3.toInt ≤ c261_groups.toInt → v3.toInt ≤ v4.toInt → v4.toInt ≤ c261_groups.toInt → v3.toInt ≤ v1.toInt + 3 → 0 + 0 + (4 - v4.toInt) * 12 + 6 ≤ ((k : Nat) : Int) → dz_T ((F210_X7_groupsOpen fu c261_groups a264 k).1 v1 v2 v3 v4) (fun r => r.toInt ≤ 4 ∧ 0 ≤ r.toInt ∧ r.toInt ≤ c261_groups.toInt))
set_option maxHeartbeats 1000000 in
set_option maxRecDepth 10000 in
theorem t210_X7_groupsOpen_h1_s (fu : Nat) (hfu : 1000000000000 ≤ fu) (κ : Nat) (hκ : κ < 14) (c261_groups : Int32) (a264 : Nat → Int32) (p0 : c261_groups.toInt ≤ 4) (p1 : 0 ≤ c261_groups.toInt) (hr_a264 : dz_rg a264 16 0 16777215) (o0 : c261_groups.toInt = ((dz_kg κ : Nat) : Int)) (k : Nat) (ih : ∀ j9, j9 < k → p210_X7_groupsOpen_s fu κ c261_groups a264 j9) : ∀ (v1 : Int32) (v2 : Int32) (v3 : Int32) (v4 : Int32), 0 ≤ v1.toInt → v2.toInt ≤ 3 → 0 ≤ v2.toInt → v3.toInt ≤ 4 → 0 ≤ v3.toInt → v4.toInt ≤ 4 → 0 ≤ v4.toInt → v3.toInt ≤ c261_groups.toInt → v3.toInt ≤ v4.toInt → v4.toInt ≤ c261_groups.toInt → v3.toInt ≤ v1.toInt + 3 → 0 + 0 + (4 - v4.toInt) * 12 + 6 ≤ ((k : Nat) : Int) → dz_T ((F210_X7_groupsOpen fu c261_groups a264 k).1 v1 v2 v3 v4) (fun r => r.toInt ≤ 4 ∧ 0 ≤ r.toInt ∧ r.toInt ≤ c261_groups.toInt) := by
  intro v1 v2 v3 v4 i0 i1 i2 i3 i4 i5 i6 i7 i8 i9 i10 hm
  obtain ⟨k0, rfl⟩ : ∃ x, k = x + 1 := ⟨k - 1, by omega⟩
  show dz_T (s210_X7_groupsOpen_1 fu c261_groups a264 (F210_X7_groupsOpen fu c261_groups a264 k0).2  v1 v2 v3 v4) _
  unfold s210_X7_groupsOpen_1
  refine dz_Tle (fun h1 => ?_) (fun h1 => ?_)
  · skip
    exact dz_Ts ⟨i3, i4, i7⟩
  · skip
    have e2 := dz_l4
    have e3 := dz_mulr (a := v2) (b := (4 : Int32)) 4 (by omega) (by omega) (by omega)
    have e4 := dz_add (a := (v2 * (4 : Int32))) (b := v4) (by omega) (by omega)
    refine dz_Tin (by omega) (by omega) ?_
    have e5 := dz_rgat (hr_a264) (i := ((v2 * (4 : Int32)) + v4)) (by omega) (by omega)
    have e6 := dz_andr (a := v1) (b := (a264 ((v2 * (4 : Int32)) + v4).toNatClampNeg)) (by omega)
    have e7 := dz_andl (a := v1) (b := (a264 ((v2 * (4 : Int32)) + v4).toNatClampNeg)) (by omega)
    have e8 := dz_l0
    refine dz_Teq (fun h9 => ?_) (fun h9 => ?_)
    · skip
      obtain ⟨k1, rfl⟩ : ∃ x, k0 = x + 1 := ⟨k0 - 1, by omega⟩
      show dz_T (s210_X7_groupsOpen_2 fu c261_groups a264 (F210_X7_groupsOpen fu c261_groups a264 k1).1 v1 v2 v3 v4) _
      unfold s210_X7_groupsOpen_2
      have e10 := dz_l1
      have e11 := dz_add (a := v4) (b := (1 : Int32)) (by omega) (by omega)
      exact (ih k1 (by omega)) v1 v2 v3 (v4 + (1 : Int32)) i0 i1 i2 i3 i4 (by omega) (by omega) i7 (by omega) (by omega) i10 (by omega)
    · skip
      obtain ⟨k2, rfl⟩ : ∃ x, k0 = x + 1 := ⟨k0 - 1, by omega⟩
      show dz_T (s210_X7_groupsOpen_2 fu c261_groups a264 (F210_X7_groupsOpen fu c261_groups a264 k2).1 v1 v2 (v3 + (1 : Int32)) v4) _
      unfold s210_X7_groupsOpen_2
      have e12 := dz_l1
      have e13 := dz_add (a := v3) (b := (1 : Int32)) (by omega) (by omega)
      have e14 := dz_add (a := v4) (b := (1 : Int32)) (by omega) (by omega)
      exact (ih k2 (by omega)) v1 v2 (v3 + (1 : Int32)) (v4 + (1 : Int32)) i0 i1 i2 (by omega) (by omega) (by omega) (by omega) (by omega) (by omega) (by omega) (by omega) (by omega)
theorem t210_X7_groupsOpen_I_s (fu : Nat) (hfu : 1000000000000 ≤ fu) (κ : Nat) (hκ : κ < 14) (c261_groups : Int32) (a264 : Nat → Int32) (p0 : c261_groups.toInt ≤ 4) (p1 : 0 ≤ c261_groups.toInt) (hr_a264 : dz_rg a264 16 0 16777215) (o0 : c261_groups.toInt = ((dz_kg κ : Nat) : Int)) (k : Nat) : p210_X7_groupsOpen_s fu κ c261_groups a264 k := by
  induction k using Nat.strongRecOn with
  | _ k ih => exact t210_X7_groupsOpen_h1_s fu hfu κ hκ c261_groups a264 p0 p1 hr_a264 o0 k ih
set_option maxHeartbeats 1000000 in
set_option maxRecDepth 10000 in
theorem t210_X7_groupsOpen_E_s (fu : Nat) (hfu : 1000000000000 ≤ fu) (κ : Nat) (hκ : κ < 14) (c261_groups : Int32) (a264 : Nat → Int32) (v1 : Int32) (v2 : Int32) (p0 : c261_groups.toInt ≤ 4) (p1 : 0 ≤ c261_groups.toInt) (p2 : 0 ≤ v1.toInt) (p3 : 0 ≤ v2.toInt) (p4 : v2.toInt ≤ 3) (hr_a264 : dz_rg a264 16 0 16777215) (o0 : c261_groups.toInt = ((dz_kg κ : Nat) : Int)) (kv : Nat) (hkv : 1000000000000 ≤ kv) : dz_T (s210_X7_groupsOpen_0 fu c261_groups a264 (F210_X7_groupsOpen fu c261_groups a264 kv).1  v1 v2) (fun r => r.toInt ≤ 4 ∧ 0 ≤ r.toInt ∧ r.toInt ≤ c261_groups.toInt) := by
  unfold s210_X7_groupsOpen_0
  have e1 := dz_l0
  exact (t210_X7_groupsOpen_I_s fu hfu κ hκ c261_groups a264 p0 p1 hr_a264 o0 kv) v1 v2 (0 : Int32) (0 : Int32) p2 p4 p3 (by omega) (by omega) (by omega) (by omega) (by omega) (by omega) (by omega) (by omega) (by omega)
theorem t210_X7_groupsOpen_s (fu : Nat) (hfu : 1000000000000 ≤ fu) (κ : Nat) (hκ : κ < 14) (c261_groups : Int32) (a264 : Nat → Int32) (v1 : Int32) (v2 : Int32) (p0 : c261_groups.toInt ≤ 4) (p1 : 0 ≤ c261_groups.toInt) (p2 : 0 ≤ v1.toInt) (p3 : 0 ≤ v2.toInt) (p4 : v2.toInt ≤ 3) (hr_a264 : dz_rg a264 16 0 16777215) (o0 : c261_groups.toInt = ((dz_kg κ : Nat) : Int)) : dz_T (f210_X7_groupsOpen fu c261_groups a264 v1 v2) (fun r => r.toInt ≤ 4 ∧ 0 ≤ r.toInt ∧ r.toInt ≤ c261_groups.toInt) :=
  t210_X7_groupsOpen_E_s fu hfu κ hκ c261_groups a264 v1 v2 p0 p1 p2 p3 p4 hr_a264 o0 fu hfu
set_option maxHeartbeats 1000000 in
set_option maxRecDepth 10000 in
theorem t212_X7_fieldBall_E_s (fu : Nat) (hfu : 1000000000000 ≤ fu) (κ : Nat) (hκ : κ < 14) (c261_groups : Int32) (a264 : Nat → Int32) (v1 : Int32) (v2 : Int32) (v3 : Int32) (v4 : Int64) (v6 : Int32) (p0 : c261_groups.toInt ≤ 4) (p1 : 0 ≤ c261_groups.toInt) (p2 : 0 ≤ v1.toInt) (p3 : v1.toInt ≤ 16777215) (p4 : 0 ≤ v2.toInt) (p5 : v2.toInt ≤ 15) (p6 : 1 ≤ v3.toInt) (p7 : v3.toInt ≤ (-1)) (p8 : 0 ≤ v6.toInt) (p9 : v6.toInt ≤ 3) (hr_a264 : dz_rg a264 16 0 16777215) (o0 : c261_groups.toInt = ((dz_kg κ : Nat) : Int)) (kv : Nat) (hkv : 1000000000000 ≤ kv) : dz_T (s212_X7_fieldBall_0 fu c261_groups a264 (F212_X7_fieldBall fu c261_groups a264 kv).1  v1 v2 v3 v4 v6) (fun r => True) := by
  unfold s212_X7_fieldBall_0
  exfalso; omega
theorem t212_X7_fieldBall_s (fu : Nat) (hfu : 1000000000000 ≤ fu) (κ : Nat) (hκ : κ < 14) (c261_groups : Int32) (a264 : Nat → Int32) (v1 : Int32) (v2 : Int32) (v3 : Int32) (v4 : Int64) (v6 : Int32) (p0 : c261_groups.toInt ≤ 4) (p1 : 0 ≤ c261_groups.toInt) (p2 : 0 ≤ v1.toInt) (p3 : v1.toInt ≤ 16777215) (p4 : 0 ≤ v2.toInt) (p5 : v2.toInt ≤ 15) (p6 : 1 ≤ v3.toInt) (p7 : v3.toInt ≤ (-1)) (p8 : 0 ≤ v6.toInt) (p9 : v6.toInt ≤ 3) (hr_a264 : dz_rg a264 16 0 16777215) (o0 : c261_groups.toInt = ((dz_kg κ : Nat) : Int)) : dz_T (f212_X7_fieldBall fu c261_groups a264 v1 v2 v3 v4 v6) (fun r => True) :=
  t212_X7_fieldBall_E_s fu hfu κ hκ c261_groups a264 v1 v2 v3 v4 v6 p0 p1 p2 p3 p4 p5 p6 p7 p8 p9 hr_a264 o0 fu hfu
set_option maxHeartbeats 1000000 in
set_option maxRecDepth 10000 in
theorem t213_X7_field_E_s (fu : Nat) (hfu : 1000000000000 ≤ fu) (κ : Nat) (hκ : κ < 14) (c261_groups : Int32) (a264 : Nat → Int32) (v1 : Int32) (v2 : Int32) (v3 : Int32) (v4 : Int64) (a297 : Nat → Int64) (p0 : c261_groups.toInt ≤ 4) (p1 : 0 ≤ c261_groups.toInt) (p2 : 0 ≤ v1.toInt) (p3 : v1.toInt ≤ 16777215) (p4 : 0 ≤ v2.toInt) (p5 : v2.toInt ≤ 15) (p6 : 0 ≤ v3.toInt) (p7 : v3.toInt ≤ (-1)) (hr_a264 : dz_rg a264 16 0 16777215) (o0 : c261_groups.toInt = ((dz_kg κ : Nat) : Int)) (kv : Nat) (hkv : 1000000000000 ≤ kv) : dz_T (s213_X7_field_0 fu c261_groups a264 (F213_X7_field fu c261_groups a264 kv).1 (F213_X7_field fu c261_groups a264 kv).2.1  v1 v2 v3 v4 a297) (fun r => True) := by
  unfold s213_X7_field_0
  exfalso; omega
theorem t213_X7_field_s (fu : Nat) (hfu : 1000000000000 ≤ fu) (κ : Nat) (hκ : κ < 14) (c261_groups : Int32) (a264 : Nat → Int32) (v1 : Int32) (v2 : Int32) (v3 : Int32) (v4 : Int64) (a297 : Nat → Int64) (p0 : c261_groups.toInt ≤ 4) (p1 : 0 ≤ c261_groups.toInt) (p2 : 0 ≤ v1.toInt) (p3 : v1.toInt ≤ 16777215) (p4 : 0 ≤ v2.toInt) (p5 : v2.toInt ≤ 15) (p6 : 0 ≤ v3.toInt) (p7 : v3.toInt ≤ (-1)) (hr_a264 : dz_rg a264 16 0 16777215) (o0 : c261_groups.toInt = ((dz_kg κ : Nat) : Int)) : dz_T (f213_X7_field fu c261_groups a264 v1 v2 v3 v4 a297) (fun r => True) :=
  t213_X7_field_E_s fu hfu κ hκ c261_groups a264 v1 v2 v3 v4 a297 p0 p1 p2 p3 p4 p5 p6 p7 hr_a264 o0 fu hfu
set_option maxHeartbeats 1000000 in
set_option maxRecDepth 10000 in
theorem t214_X7_fieldBall_E_s (fu : Nat) (hfu : 1000000000000 ≤ fu) (κ : Nat) (hκ : κ < 14) (c261_groups : Int32) (a264 : Nat → Int32) (v1 : Int32) (v2 : Int32) (v3 : Int32) (v4 : Int64) (v6 : Int32) (a297 : Nat → Int64) (p0 : c261_groups.toInt ≤ 4) (p1 : 0 ≤ c261_groups.toInt) (p2 : 0 ≤ v1.toInt) (p3 : v1.toInt ≤ 16777215) (p4 : 0 ≤ v2.toInt) (p5 : v2.toInt ≤ 15) (p6 : 1 ≤ v3.toInt) (p7 : v3.toInt ≤ 0) (p8 : 0 ≤ v6.toInt) (p9 : v6.toInt ≤ 3) (hr_a264 : dz_rg a264 16 0 16777215) (o0 : c261_groups.toInt = ((dz_kg κ : Nat) : Int)) (kv : Nat) (hkv : 1000000000000 ≤ kv) : dz_T (s214_X7_fieldBall_0 fu c261_groups a264 (F214_X7_fieldBall fu c261_groups a264 kv).1  v1 v2 v3 v4 v6 a297) (fun r => True) := by
  unfold s214_X7_fieldBall_0
  exfalso; omega
theorem t214_X7_fieldBall_s (fu : Nat) (hfu : 1000000000000 ≤ fu) (κ : Nat) (hκ : κ < 14) (c261_groups : Int32) (a264 : Nat → Int32) (v1 : Int32) (v2 : Int32) (v3 : Int32) (v4 : Int64) (v6 : Int32) (a297 : Nat → Int64) (p0 : c261_groups.toInt ≤ 4) (p1 : 0 ≤ c261_groups.toInt) (p2 : 0 ≤ v1.toInt) (p3 : v1.toInt ≤ 16777215) (p4 : 0 ≤ v2.toInt) (p5 : v2.toInt ≤ 15) (p6 : 1 ≤ v3.toInt) (p7 : v3.toInt ≤ 0) (p8 : 0 ≤ v6.toInt) (p9 : v6.toInt ≤ 3) (hr_a264 : dz_rg a264 16 0 16777215) (o0 : c261_groups.toInt = ((dz_kg κ : Nat) : Int)) : dz_T (f214_X7_fieldBall fu c261_groups a264 v1 v2 v3 v4 v6 a297) (fun r => True) :=
  t214_X7_fieldBall_E_s fu hfu κ hκ c261_groups a264 v1 v2 v3 v4 v6 a297 p0 p1 p2 p3 p4 p5 p6 p7 p8 p9 hr_a264 o0 fu hfu
set_option maxHeartbeats 1000000 in
set_option maxRecDepth 10000 in
theorem t215_X7_field_E_s (fu : Nat) (hfu : 1000000000000 ≤ fu) (κ : Nat) (hκ : κ < 14) (c261_groups : Int32) (a264 : Nat → Int32) (v1 : Int32) (v2 : Int32) (v3 : Int32) (v4 : Int64) (a297 : Nat → Int64) (p0 : c261_groups.toInt ≤ 4) (p1 : 0 ≤ c261_groups.toInt) (p2 : 0 ≤ v1.toInt) (p3 : v1.toInt ≤ 16777215) (p4 : 0 ≤ v2.toInt) (p5 : v2.toInt ≤ 15) (p6 : 0 ≤ v3.toInt) (p7 : v3.toInt ≤ 0) (hr_a264 : dz_rg a264 16 0 16777215) (o0 : c261_groups.toInt = ((dz_kg κ : Nat) : Int)) (kv : Nat) (hkv : 1000000000000 ≤ kv) : dz_T (s215_X7_field_0 fu c261_groups a264 (F215_X7_field fu c261_groups a264 kv).1 (F215_X7_field fu c261_groups a264 kv).2.1  v1 v2 v3 v4 a297) (fun r => True) := by
  unfold s215_X7_field_0
  have e1 := dz_l1
  have e2 := dz_sub (a := v1) (b := (1 : Int32)) (by omega) (by omega)
  have e3 := dz_andl (a := v1) (b := (v1 - (1 : Int32))) (by omega)
  have e4 := dz_l0
  refine dz_Teq (fun h5 => ?_) (fun h5 => ?_)
  · skip
    obtain ⟨k1, rfl⟩ : ∃ x, kv = x + 1 := ⟨kv - 1, by omega⟩
    show dz_T (s215_X7_field_1 fu c261_groups a264 v1 v3 v4 a297) _
    unfold s215_X7_field_1
    refine dz_Tb (t129_X4_only fu hfu _ 24 (by omega) (by omega) (by decide)) (fun r1 q => ?_)
    obtain ⟨q1_0, q1_1⟩ := q
    refine dz_Tin (by omega) (by omega) ?_
    refine dz_Tin (by omega) (by omega) ?_
    refine dz_Tin (by omega) (by omega) ?_
    exact dz_Ts trivial
  · skip
    refine dz_Tlt (fun h6 => ?_) (fun h6 => ?_)
    · skip
      exfalso; omega
    · skip
      obtain ⟨k2, rfl⟩ : ∃ x, kv = x + 1 := ⟨kv - 1, by omega⟩
      show dz_T (s215_X7_field_1 fu c261_groups a264 v1 v3 v4 a297) _
      unfold s215_X7_field_1
      refine dz_Tb (t129_X4_only fu hfu _ 24 (by omega) (by omega) (by decide)) (fun r2 q => ?_)
      obtain ⟨q2_0, q2_1⟩ := q
      refine dz_Tin (by omega) (by omega) ?_
      refine dz_Tin (by omega) (by omega) ?_
      refine dz_Tin (by omega) (by omega) ?_
      exact dz_Ts trivial
theorem t215_X7_field_s (fu : Nat) (hfu : 1000000000000 ≤ fu) (κ : Nat) (hκ : κ < 14) (c261_groups : Int32) (a264 : Nat → Int32) (v1 : Int32) (v2 : Int32) (v3 : Int32) (v4 : Int64) (a297 : Nat → Int64) (p0 : c261_groups.toInt ≤ 4) (p1 : 0 ≤ c261_groups.toInt) (p2 : 0 ≤ v1.toInt) (p3 : v1.toInt ≤ 16777215) (p4 : 0 ≤ v2.toInt) (p5 : v2.toInt ≤ 15) (p6 : 0 ≤ v3.toInt) (p7 : v3.toInt ≤ 0) (hr_a264 : dz_rg a264 16 0 16777215) (o0 : c261_groups.toInt = ((dz_kg κ : Nat) : Int)) : dz_T (f215_X7_field fu c261_groups a264 v1 v2 v3 v4 a297) (fun r => True) :=
  t215_X7_field_E_s fu hfu κ hκ c261_groups a264 v1 v2 v3 v4 a297 p0 p1 p2 p3 p4 p5 p6 p7 hr_a264 o0 fu hfu
abbrev p216_X7_fieldBall_s (fu : Nat) (κ : Nat) (c261_groups : Int32) (a264 : Nat → Int32) (k : Nat) : Prop :=
  (∀ (v1 : Int32) (v2 : Int32) (v3 : Int32) (v4 : Int64) (v6 : Int32) (v7 : Int32) (a297 : Nat → Int64), v1.toInt ≤ 16777215 → 0 ≤ v1.toInt → v2.toInt ≤ 15 → 0 ≤ v2.toInt → v3.toInt ≤ 1 → 1 ≤ v3.toInt → v6.toInt ≤ 3 → 0 ≤ v6.toInt → v7.toInt ≤ 4 → 0 ≤ v7.toInt → v7.toInt ≤ c261_groups.toInt → 0 + 0 + (4 - v7.toInt) * 12 + 6 ≤ ((k : Nat) : Int) → dz_T ((F216_X7_fieldBall fu c261_groups a264 k).1 v1 v2 v3 v4 v6 v7 a297) (fun r => True))
set_option maxHeartbeats 1000000 in
set_option maxRecDepth 10000 in
theorem t216_X7_fieldBall_h1_s (fu : Nat) (hfu : 1000000000000 ≤ fu) (κ : Nat) (hκ : κ < 14) (c261_groups : Int32) (a264 : Nat → Int32) (p0 : c261_groups.toInt ≤ 4) (p1 : 0 ≤ c261_groups.toInt) (hr_a264 : dz_rg a264 16 0 16777215) (o0 : c261_groups.toInt = ((dz_kg κ : Nat) : Int)) (k : Nat) (ih : ∀ j9, j9 < k → p216_X7_fieldBall_s fu κ c261_groups a264 j9) : ∀ (v1 : Int32) (v2 : Int32) (v3 : Int32) (v4 : Int64) (v6 : Int32) (v7 : Int32) (a297 : Nat → Int64), v1.toInt ≤ 16777215 → 0 ≤ v1.toInt → v2.toInt ≤ 15 → 0 ≤ v2.toInt → v3.toInt ≤ 1 → 1 ≤ v3.toInt → v6.toInt ≤ 3 → 0 ≤ v6.toInt → v7.toInt ≤ 4 → 0 ≤ v7.toInt → v7.toInt ≤ c261_groups.toInt → 0 + 0 + (4 - v7.toInt) * 12 + 6 ≤ ((k : Nat) : Int) → dz_T ((F216_X7_fieldBall fu c261_groups a264 k).1 v1 v2 v3 v4 v6 v7 a297) (fun r => True) := by
  intro v1 v2 v3 v4 v6 v7 a297 i0 i1 i2 i3 i4 i5 i6 i7 i8 i9 i10 hm
  obtain ⟨k0, rfl⟩ : ∃ x, k = x + 1 := ⟨k - 1, by omega⟩
  show dz_T (s216_X7_fieldBall_1 fu c261_groups a264 (F216_X7_fieldBall fu c261_groups a264 k0).2  v1 v2 v3 v4 v6 v7 a297) _
  unfold s216_X7_fieldBall_1
  refine dz_Tle (fun h1 => ?_) (fun h1 => ?_)
  · skip
    exact dz_Ts trivial
  · skip
    have e2 := dz_l4
    have e3 := dz_mulr (a := v6) (b := (4 : Int32)) 4 (by omega) (by omega) (by omega)
    have e4 := dz_add (a := (v6 * (4 : Int32))) (b := v7) (by omega) (by omega)
    refine dz_Tin (by omega) (by omega) ?_
    have e5 := dz_rgat (hr_a264) (i := ((v6 * (4 : Int32)) + v7)) (by omega) (by omega)
    have e6 := dz_andr (a := v1) (b := (a264 ((v6 * (4 : Int32)) + v7).toNatClampNeg)) (by omega)
    have e7 := dz_andl (a := v1) (b := (a264 ((v6 * (4 : Int32)) + v7).toNatClampNeg)) (by omega)
    have e8 := dz_l0
    refine dz_Teq (fun h9 => ?_) (fun h9 => ?_)
    · skip
      obtain ⟨k1, rfl⟩ : ∃ x, k0 = x + 1 := ⟨k0 - 1, by omega⟩
      show dz_T (s216_X7_fieldBall_2 fu c261_groups a264 (F216_X7_fieldBall fu c261_groups a264 k1).1 v1 v2 v3 v4 v6 v7 a297) _
      unfold s216_X7_fieldBall_2
      have e10 := dz_l1
      have e11 := dz_add (a := v7) (b := (1 : Int32)) (by omega) (by omega)
      exact (ih k1 (by omega)) v1 v2 v3 v4 v6 (v7 + (1 : Int32)) a297 i0 i1 i2 i3 i4 i5 i6 i7 (by omega) (by omega) (by omega) (by omega)
    · skip
      have e12 := dz_l1
      have e13 := dz_l31
      have e14 := dz_andr (a := v6) (b := (31 : Int32)) (by omega)
      have e15 := dz_andl (a := v6) (b := (31 : Int32)) (by omega)
      have e16 := dz_shl1 (b := v6) 0 3 (by omega) (by omega) (by omega)
      have e17 := dz_lm1
      have e18 := dz_andl (a := v2) (b := (((1 : Int32) <<< (v6 &&& (31 : Int32))) ^^^ (-(1 : Int32)))) (by omega)
      have e19 := dz_sub (a := v3) (b := (1 : Int32)) (by omega) (by omega)
      refine dz_Tb (t215_X7_field_s fu hfu κ hκ _ _ _ _ _ _ _ p0 p1 (by omega) (by omega) (by omega) (by omega) (by omega) (by omega) (hr_a264) o0) (fun r1 _ => ?_)
      obtain ⟨k2, rfl⟩ : ∃ x, k0 = x + 1 := ⟨k0 - 1, by omega⟩
      show dz_T (s216_X7_fieldBall_2 fu c261_groups a264 (F216_X7_fieldBall fu c261_groups a264 k2).1 v1 v2 v3 v4 v6 v7 r1) _
      unfold s216_X7_fieldBall_2
      have e20 := dz_add (a := v7) (b := (1 : Int32)) (by omega) (by omega)
      exact (ih k2 (by omega)) v1 v2 v3 v4 v6 (v7 + (1 : Int32)) r1 i0 i1 i2 i3 i4 i5 i6 i7 (by omega) (by omega) (by omega) (by omega)
theorem t216_X7_fieldBall_I_s (fu : Nat) (hfu : 1000000000000 ≤ fu) (κ : Nat) (hκ : κ < 14) (c261_groups : Int32) (a264 : Nat → Int32) (p0 : c261_groups.toInt ≤ 4) (p1 : 0 ≤ c261_groups.toInt) (hr_a264 : dz_rg a264 16 0 16777215) (o0 : c261_groups.toInt = ((dz_kg κ : Nat) : Int)) (k : Nat) : p216_X7_fieldBall_s fu κ c261_groups a264 k := by
  induction k using Nat.strongRecOn with
  | _ k ih => exact t216_X7_fieldBall_h1_s fu hfu κ hκ c261_groups a264 p0 p1 hr_a264 o0 k ih
set_option maxHeartbeats 1000000 in
set_option maxRecDepth 10000 in
theorem t216_X7_fieldBall_E_s (fu : Nat) (hfu : 1000000000000 ≤ fu) (κ : Nat) (hκ : κ < 14) (c261_groups : Int32) (a264 : Nat → Int32) (v1 : Int32) (v2 : Int32) (v3 : Int32) (v4 : Int64) (v6 : Int32) (a297 : Nat → Int64) (p0 : c261_groups.toInt ≤ 4) (p1 : 0 ≤ c261_groups.toInt) (p2 : 0 ≤ v1.toInt) (p3 : v1.toInt ≤ 16777215) (p4 : 0 ≤ v2.toInt) (p5 : v2.toInt ≤ 15) (p6 : 1 ≤ v3.toInt) (p7 : v3.toInt ≤ 1) (p8 : 0 ≤ v6.toInt) (p9 : v6.toInt ≤ 3) (hr_a264 : dz_rg a264 16 0 16777215) (o0 : c261_groups.toInt = ((dz_kg κ : Nat) : Int)) (kv : Nat) (hkv : 1000000000000 ≤ kv) : dz_T (s216_X7_fieldBall_0 fu c261_groups a264 (F216_X7_fieldBall fu c261_groups a264 kv).1  v1 v2 v3 v4 v6 a297) (fun r => True) := by
  unfold s216_X7_fieldBall_0
  have e1 := dz_l0
  exact (t216_X7_fieldBall_I_s fu hfu κ hκ c261_groups a264 p0 p1 hr_a264 o0 kv) v1 v2 v3 v4 v6 (0 : Int32) a297 p3 p2 p5 p4 p7 p6 p9 p8 (by omega) (by omega) (by omega) (by omega)
theorem t216_X7_fieldBall_s (fu : Nat) (hfu : 1000000000000 ≤ fu) (κ : Nat) (hκ : κ < 14) (c261_groups : Int32) (a264 : Nat → Int32) (v1 : Int32) (v2 : Int32) (v3 : Int32) (v4 : Int64) (v6 : Int32) (a297 : Nat → Int64) (p0 : c261_groups.toInt ≤ 4) (p1 : 0 ≤ c261_groups.toInt) (p2 : 0 ≤ v1.toInt) (p3 : v1.toInt ≤ 16777215) (p4 : 0 ≤ v2.toInt) (p5 : v2.toInt ≤ 15) (p6 : 1 ≤ v3.toInt) (p7 : v3.toInt ≤ 1) (p8 : 0 ≤ v6.toInt) (p9 : v6.toInt ≤ 3) (hr_a264 : dz_rg a264 16 0 16777215) (o0 : c261_groups.toInt = ((dz_kg κ : Nat) : Int)) : dz_T (f216_X7_fieldBall fu c261_groups a264 v1 v2 v3 v4 v6 a297) (fun r => True) :=
  t216_X7_fieldBall_E_s fu hfu κ hκ c261_groups a264 v1 v2 v3 v4 v6 a297 p0 p1 p2 p3 p4 p5 p6 p7 p8 p9 hr_a264 o0 fu hfu
abbrev p217_X7_field_s (fu : Nat) (κ : Nat) (c261_groups : Int32) (a264 : Nat → Int32) (k : Nat) : Prop :=
  (∀ (v1 : Int32) (v2 : Int32) (v3 : Int32) (v4 : Int64) (v6 : Int32) (a297 : Nat → Int64), v1.toInt ≤ 16777215 → 1 ≤ v1.toInt → v2.toInt ≤ 15 → 0 ≤ v2.toInt → v3.toInt ≤ 1 → 1 ≤ v3.toInt → v6.toInt ≤ 4 → 0 ≤ v6.toInt → v6.toInt ≤ c261_groups.toInt → 0 + 0 + (4 - v6.toInt) * 14 + 7 ≤ ((k : Nat) : Int) → dz_T ((F217_X7_field fu c261_groups a264 k).2.1 v1 v2 v3 v4 v6 a297) (fun r => True))
set_option maxHeartbeats 1000000 in
set_option maxRecDepth 10000 in
theorem t217_X7_field_h2_s (fu : Nat) (hfu : 1000000000000 ≤ fu) (κ : Nat) (hκ : κ < 14) (c261_groups : Int32) (a264 : Nat → Int32) (p0 : c261_groups.toInt ≤ 4) (p1 : 0 ≤ c261_groups.toInt) (hr_a264 : dz_rg a264 16 0 16777215) (o0 : c261_groups.toInt = ((dz_kg κ : Nat) : Int)) (k : Nat) (ih : ∀ j9, j9 < k → p217_X7_field_s fu κ c261_groups a264 j9) : ∀ (v1 : Int32) (v2 : Int32) (v3 : Int32) (v4 : Int64) (v6 : Int32) (a297 : Nat → Int64), v1.toInt ≤ 16777215 → 1 ≤ v1.toInt → v2.toInt ≤ 15 → 0 ≤ v2.toInt → v3.toInt ≤ 1 → 1 ≤ v3.toInt → v6.toInt ≤ 4 → 0 ≤ v6.toInt → v6.toInt ≤ c261_groups.toInt → 0 + 0 + (4 - v6.toInt) * 14 + 7 ≤ ((k : Nat) : Int) → dz_T ((F217_X7_field fu c261_groups a264 k).2.1 v1 v2 v3 v4 v6 a297) (fun r => True) := by
  intro v1 v2 v3 v4 v6 a297 i0 i1 i2 i3 i4 i5 i6 i7 i8 hm
  obtain ⟨k0, rfl⟩ : ∃ x, k = x + 1 := ⟨k - 1, by omega⟩
  show dz_T (s217_X7_field_2 fu c261_groups a264 (F217_X7_field fu c261_groups a264 k0).2.2  v1 v2 v3 v4 v6 a297) _
  unfold s217_X7_field_2
  refine dz_Tle (fun h1 => ?_) (fun h1 => ?_)
  · skip
    exact dz_Ts trivial
  · skip
    have e2 := dz_ushp (a := v2) (b := v6) (by omega)
    have e3 := dz_l1
    have e4 := dz_andr (a := (dz_ush v2 v6)) (b := (1 : Int32)) (by omega)
    have e5 := dz_andl (a := (dz_ush v2 v6)) (b := (1 : Int32)) (by omega)
    have e6 := dz_l0
    refine dz_Teq (fun h7 => ?_) (fun h7 => ?_)
    · skip
      obtain ⟨k1, rfl⟩ : ∃ x, k0 = x + 1 := ⟨k0 - 1, by omega⟩
      show dz_T (s217_X7_field_3 fu c261_groups a264 (F217_X7_field fu c261_groups a264 k1).2.1 v1 v2 v3 v4 v6 a297) _
      unfold s217_X7_field_3
      have e8 := dz_add (a := v6) (b := (1 : Int32)) (by omega) (by omega)
      exact (ih k1 (by omega)) v1 v2 v3 v4 (v6 + (1 : Int32)) a297 i0 i1 i2 i3 i4 i5 (by omega) (by omega) (by omega) (by omega)
    · skip
      refine dz_Tb (t210_X7_groupsOpen_s fu hfu κ hκ _ _ _ _ p0 p1 (by first | assumption | omega) i7 (by first | assumption | omega) (hr_a264) o0) (fun r1 q => ?_)
      obtain ⟨q1_0, q1_1, q1_2⟩ := q
      refine dz_Tle (fun h9 => ?_) (fun h9 => ?_)
      · skip
        obtain ⟨k2, rfl⟩ : ∃ x, k0 = x + 1 := ⟨k0 - 1, by omega⟩
        show dz_T (s217_X7_field_3 fu c261_groups a264 (F217_X7_field fu c261_groups a264 k2).2.1 v1 v2 v3 v4 v6 a297) _
        unfold s217_X7_field_3
        have e10 := dz_add (a := v6) (b := (1 : Int32)) (by omega) (by omega)
        exact (ih k2 (by omega)) v1 v2 v3 v4 (v6 + (1 : Int32)) a297 i0 i1 i2 i3 i4 i5 (by omega) (by omega) (by omega) (by omega)
      · skip
        refine dz_Tin (by omega) (by omega) ?_
        refine dz_Tz (by omega) ?_
        refine dz_Tb (t216_X7_fieldBall_s fu hfu κ hκ _ _ _ _ _ _ _ _ p0 p1 (by first | assumption | omega) i0 i3 i2 i5 i4 i7 (by first | assumption | omega) (hr_a264) o0) (fun r2 _ => ?_)
        obtain ⟨k3, rfl⟩ : ∃ x, k0 = x + 1 := ⟨k0 - 1, by omega⟩
        show dz_T (s217_X7_field_3 fu c261_groups a264 (F217_X7_field fu c261_groups a264 k3).2.1 v1 v2 v3 v4 v6 r2) _
        unfold s217_X7_field_3
        have e11 := dz_add (a := v6) (b := (1 : Int32)) (by omega) (by omega)
        exact (ih k3 (by omega)) v1 v2 v3 v4 (v6 + (1 : Int32)) r2 i0 i1 i2 i3 i4 i5 (by omega) (by omega) (by omega) (by omega)
theorem t217_X7_field_I_s (fu : Nat) (hfu : 1000000000000 ≤ fu) (κ : Nat) (hκ : κ < 14) (c261_groups : Int32) (a264 : Nat → Int32) (p0 : c261_groups.toInt ≤ 4) (p1 : 0 ≤ c261_groups.toInt) (hr_a264 : dz_rg a264 16 0 16777215) (o0 : c261_groups.toInt = ((dz_kg κ : Nat) : Int)) (k : Nat) : p217_X7_field_s fu κ c261_groups a264 k := by
  induction k using Nat.strongRecOn with
  | _ k ih => exact t217_X7_field_h2_s fu hfu κ hκ c261_groups a264 p0 p1 hr_a264 o0 k ih
set_option maxHeartbeats 1000000 in
set_option maxRecDepth 10000 in
theorem t217_X7_field_E_s (fu : Nat) (hfu : 1000000000000 ≤ fu) (κ : Nat) (hκ : κ < 14) (c261_groups : Int32) (a264 : Nat → Int32) (v1 : Int32) (v2 : Int32) (v3 : Int32) (v4 : Int64) (a297 : Nat → Int64) (p0 : c261_groups.toInt ≤ 4) (p1 : 0 ≤ c261_groups.toInt) (p2 : 0 ≤ v1.toInt) (p3 : v1.toInt ≤ 16777215) (p4 : 0 ≤ v2.toInt) (p5 : v2.toInt ≤ 15) (p6 : 0 ≤ v3.toInt) (p7 : v3.toInt ≤ 1) (hr_a264 : dz_rg a264 16 0 16777215) (o0 : c261_groups.toInt = ((dz_kg κ : Nat) : Int)) (kv : Nat) (hkv : 1000000000000 ≤ kv) : dz_T (s217_X7_field_0 fu c261_groups a264 (F217_X7_field fu c261_groups a264 kv).1 (F217_X7_field fu c261_groups a264 kv).2.1  v1 v2 v3 v4 a297) (fun r => True) := by
  unfold s217_X7_field_0
  have e1 := dz_l1
  have e2 := dz_sub (a := v1) (b := (1 : Int32)) (by omega) (by omega)
  have e3 := dz_andl (a := v1) (b := (v1 - (1 : Int32))) (by omega)
  have e4 := dz_l0
  refine dz_Teq (fun h5 => ?_) (fun h5 => ?_)
  · skip
    obtain ⟨k1, rfl⟩ : ∃ x, kv = x + 1 := ⟨kv - 1, by omega⟩
    show dz_T (s217_X7_field_1 fu c261_groups a264 v1 v3 v4 a297) _
    unfold s217_X7_field_1
    refine dz_Tb (t129_X4_only fu hfu _ 24 (by omega) (by omega) (by decide)) (fun r1 q => ?_)
    obtain ⟨q1_0, q1_1⟩ := q
    refine dz_Tin (by omega) (by omega) ?_
    refine dz_Tin (by omega) (by omega) ?_
    refine dz_Tin (by omega) (by omega) ?_
    exact dz_Ts trivial
  · skip
    refine dz_Tlt (fun h6 => ?_) (fun h6 => ?_)
    · skip
      exact (t217_X7_field_I_s fu hfu κ hκ c261_groups a264 p0 p1 hr_a264 o0 kv) v1 v2 v3 v4 (0 : Int32) a297 p3 (by first | assumption | omega) p5 p4 p7 (by first | assumption | omega) (by omega) (by omega) (by omega) (by omega)
    · skip
      obtain ⟨k2, rfl⟩ : ∃ x, kv = x + 1 := ⟨kv - 1, by omega⟩
      show dz_T (s217_X7_field_1 fu c261_groups a264 v1 v3 v4 a297) _
      unfold s217_X7_field_1
      refine dz_Tb (t129_X4_only fu hfu _ 24 (by omega) (by omega) (by decide)) (fun r2 q => ?_)
      obtain ⟨q2_0, q2_1⟩ := q
      refine dz_Tin (by omega) (by omega) ?_
      refine dz_Tin (by omega) (by omega) ?_
      refine dz_Tin (by omega) (by omega) ?_
      exact dz_Ts trivial
theorem t217_X7_field_s (fu : Nat) (hfu : 1000000000000 ≤ fu) (κ : Nat) (hκ : κ < 14) (c261_groups : Int32) (a264 : Nat → Int32) (v1 : Int32) (v2 : Int32) (v3 : Int32) (v4 : Int64) (a297 : Nat → Int64) (p0 : c261_groups.toInt ≤ 4) (p1 : 0 ≤ c261_groups.toInt) (p2 : 0 ≤ v1.toInt) (p3 : v1.toInt ≤ 16777215) (p4 : 0 ≤ v2.toInt) (p5 : v2.toInt ≤ 15) (p6 : 0 ≤ v3.toInt) (p7 : v3.toInt ≤ 1) (hr_a264 : dz_rg a264 16 0 16777215) (o0 : c261_groups.toInt = ((dz_kg κ : Nat) : Int)) : dz_T (f217_X7_field fu c261_groups a264 v1 v2 v3 v4 a297) (fun r => True) :=
  t217_X7_field_E_s fu hfu κ hκ c261_groups a264 v1 v2 v3 v4 a297 p0 p1 p2 p3 p4 p5 p6 p7 hr_a264 o0 fu hfu
abbrev p218_X7_fieldBall_s (fu : Nat) (κ : Nat) (c261_groups : Int32) (a264 : Nat → Int32) (k : Nat) : Prop :=
  (∀ (v1 : Int32) (v2 : Int32) (v3 : Int32) (v4 : Int64) (v6 : Int32) (v7 : Int32) (a297 : Nat → Int64), v1.toInt ≤ 16777215 → 0 ≤ v1.toInt → v2.toInt ≤ 15 → 0 ≤ v2.toInt → v3.toInt ≤ 2 → 1 ≤ v3.toInt → v6.toInt ≤ 3 → 0 ≤ v6.toInt → v7.toInt ≤ 4 → 0 ≤ v7.toInt → v7.toInt ≤ c261_groups.toInt → 0 + 0 + (4 - v7.toInt) * 12 + 6 ≤ ((k : Nat) : Int) → dz_T ((F218_X7_fieldBall fu c261_groups a264 k).1 v1 v2 v3 v4 v6 v7 a297) (fun r => True))
set_option maxHeartbeats 1000000 in
set_option maxRecDepth 10000 in
theorem t218_X7_fieldBall_h1_s (fu : Nat) (hfu : 1000000000000 ≤ fu) (κ : Nat) (hκ : κ < 14) (c261_groups : Int32) (a264 : Nat → Int32) (p0 : c261_groups.toInt ≤ 4) (p1 : 0 ≤ c261_groups.toInt) (hr_a264 : dz_rg a264 16 0 16777215) (o0 : c261_groups.toInt = ((dz_kg κ : Nat) : Int)) (k : Nat) (ih : ∀ j9, j9 < k → p218_X7_fieldBall_s fu κ c261_groups a264 j9) : ∀ (v1 : Int32) (v2 : Int32) (v3 : Int32) (v4 : Int64) (v6 : Int32) (v7 : Int32) (a297 : Nat → Int64), v1.toInt ≤ 16777215 → 0 ≤ v1.toInt → v2.toInt ≤ 15 → 0 ≤ v2.toInt → v3.toInt ≤ 2 → 1 ≤ v3.toInt → v6.toInt ≤ 3 → 0 ≤ v6.toInt → v7.toInt ≤ 4 → 0 ≤ v7.toInt → v7.toInt ≤ c261_groups.toInt → 0 + 0 + (4 - v7.toInt) * 12 + 6 ≤ ((k : Nat) : Int) → dz_T ((F218_X7_fieldBall fu c261_groups a264 k).1 v1 v2 v3 v4 v6 v7 a297) (fun r => True) := by
  intro v1 v2 v3 v4 v6 v7 a297 i0 i1 i2 i3 i4 i5 i6 i7 i8 i9 i10 hm
  obtain ⟨k0, rfl⟩ : ∃ x, k = x + 1 := ⟨k - 1, by omega⟩
  show dz_T (s218_X7_fieldBall_1 fu c261_groups a264 (F218_X7_fieldBall fu c261_groups a264 k0).2  v1 v2 v3 v4 v6 v7 a297) _
  unfold s218_X7_fieldBall_1
  refine dz_Tle (fun h1 => ?_) (fun h1 => ?_)
  · skip
    exact dz_Ts trivial
  · skip
    have e2 := dz_l4
    have e3 := dz_mulr (a := v6) (b := (4 : Int32)) 4 (by omega) (by omega) (by omega)
    have e4 := dz_add (a := (v6 * (4 : Int32))) (b := v7) (by omega) (by omega)
    refine dz_Tin (by omega) (by omega) ?_
    have e5 := dz_rgat (hr_a264) (i := ((v6 * (4 : Int32)) + v7)) (by omega) (by omega)
    have e6 := dz_andr (a := v1) (b := (a264 ((v6 * (4 : Int32)) + v7).toNatClampNeg)) (by omega)
    have e7 := dz_andl (a := v1) (b := (a264 ((v6 * (4 : Int32)) + v7).toNatClampNeg)) (by omega)
    have e8 := dz_l0
    refine dz_Teq (fun h9 => ?_) (fun h9 => ?_)
    · skip
      obtain ⟨k1, rfl⟩ : ∃ x, k0 = x + 1 := ⟨k0 - 1, by omega⟩
      show dz_T (s218_X7_fieldBall_2 fu c261_groups a264 (F218_X7_fieldBall fu c261_groups a264 k1).1 v1 v2 v3 v4 v6 v7 a297) _
      unfold s218_X7_fieldBall_2
      have e10 := dz_l1
      have e11 := dz_add (a := v7) (b := (1 : Int32)) (by omega) (by omega)
      exact (ih k1 (by omega)) v1 v2 v3 v4 v6 (v7 + (1 : Int32)) a297 i0 i1 i2 i3 i4 i5 i6 i7 (by omega) (by omega) (by omega) (by omega)
    · skip
      have e12 := dz_l1
      have e13 := dz_l31
      have e14 := dz_andr (a := v6) (b := (31 : Int32)) (by omega)
      have e15 := dz_andl (a := v6) (b := (31 : Int32)) (by omega)
      have e16 := dz_shl1 (b := v6) 0 3 (by omega) (by omega) (by omega)
      have e17 := dz_lm1
      have e18 := dz_andl (a := v2) (b := (((1 : Int32) <<< (v6 &&& (31 : Int32))) ^^^ (-(1 : Int32)))) (by omega)
      have e19 := dz_sub (a := v3) (b := (1 : Int32)) (by omega) (by omega)
      refine dz_Tb (t217_X7_field_s fu hfu κ hκ _ _ _ _ _ _ _ p0 p1 (by omega) (by omega) (by omega) (by omega) (by omega) (by omega) (hr_a264) o0) (fun r1 _ => ?_)
      obtain ⟨k2, rfl⟩ : ∃ x, k0 = x + 1 := ⟨k0 - 1, by omega⟩
      show dz_T (s218_X7_fieldBall_2 fu c261_groups a264 (F218_X7_fieldBall fu c261_groups a264 k2).1 v1 v2 v3 v4 v6 v7 r1) _
      unfold s218_X7_fieldBall_2
      have e20 := dz_add (a := v7) (b := (1 : Int32)) (by omega) (by omega)
      exact (ih k2 (by omega)) v1 v2 v3 v4 v6 (v7 + (1 : Int32)) r1 i0 i1 i2 i3 i4 i5 i6 i7 (by omega) (by omega) (by omega) (by omega)
theorem t218_X7_fieldBall_I_s (fu : Nat) (hfu : 1000000000000 ≤ fu) (κ : Nat) (hκ : κ < 14) (c261_groups : Int32) (a264 : Nat → Int32) (p0 : c261_groups.toInt ≤ 4) (p1 : 0 ≤ c261_groups.toInt) (hr_a264 : dz_rg a264 16 0 16777215) (o0 : c261_groups.toInt = ((dz_kg κ : Nat) : Int)) (k : Nat) : p218_X7_fieldBall_s fu κ c261_groups a264 k := by
  induction k using Nat.strongRecOn with
  | _ k ih => exact t218_X7_fieldBall_h1_s fu hfu κ hκ c261_groups a264 p0 p1 hr_a264 o0 k ih
set_option maxHeartbeats 1000000 in
set_option maxRecDepth 10000 in
theorem t218_X7_fieldBall_E_s (fu : Nat) (hfu : 1000000000000 ≤ fu) (κ : Nat) (hκ : κ < 14) (c261_groups : Int32) (a264 : Nat → Int32) (v1 : Int32) (v2 : Int32) (v3 : Int32) (v4 : Int64) (v6 : Int32) (a297 : Nat → Int64) (p0 : c261_groups.toInt ≤ 4) (p1 : 0 ≤ c261_groups.toInt) (p2 : 0 ≤ v1.toInt) (p3 : v1.toInt ≤ 16777215) (p4 : 0 ≤ v2.toInt) (p5 : v2.toInt ≤ 15) (p6 : 1 ≤ v3.toInt) (p7 : v3.toInt ≤ 2) (p8 : 0 ≤ v6.toInt) (p9 : v6.toInt ≤ 3) (hr_a264 : dz_rg a264 16 0 16777215) (o0 : c261_groups.toInt = ((dz_kg κ : Nat) : Int)) (kv : Nat) (hkv : 1000000000000 ≤ kv) : dz_T (s218_X7_fieldBall_0 fu c261_groups a264 (F218_X7_fieldBall fu c261_groups a264 kv).1  v1 v2 v3 v4 v6 a297) (fun r => True) := by
  unfold s218_X7_fieldBall_0
  have e1 := dz_l0
  exact (t218_X7_fieldBall_I_s fu hfu κ hκ c261_groups a264 p0 p1 hr_a264 o0 kv) v1 v2 v3 v4 v6 (0 : Int32) a297 p3 p2 p5 p4 p7 p6 p9 p8 (by omega) (by omega) (by omega) (by omega)
theorem t218_X7_fieldBall_s (fu : Nat) (hfu : 1000000000000 ≤ fu) (κ : Nat) (hκ : κ < 14) (c261_groups : Int32) (a264 : Nat → Int32) (v1 : Int32) (v2 : Int32) (v3 : Int32) (v4 : Int64) (v6 : Int32) (a297 : Nat → Int64) (p0 : c261_groups.toInt ≤ 4) (p1 : 0 ≤ c261_groups.toInt) (p2 : 0 ≤ v1.toInt) (p3 : v1.toInt ≤ 16777215) (p4 : 0 ≤ v2.toInt) (p5 : v2.toInt ≤ 15) (p6 : 1 ≤ v3.toInt) (p7 : v3.toInt ≤ 2) (p8 : 0 ≤ v6.toInt) (p9 : v6.toInt ≤ 3) (hr_a264 : dz_rg a264 16 0 16777215) (o0 : c261_groups.toInt = ((dz_kg κ : Nat) : Int)) : dz_T (f218_X7_fieldBall fu c261_groups a264 v1 v2 v3 v4 v6 a297) (fun r => True) :=
  t218_X7_fieldBall_E_s fu hfu κ hκ c261_groups a264 v1 v2 v3 v4 v6 a297 p0 p1 p2 p3 p4 p5 p6 p7 p8 p9 hr_a264 o0 fu hfu
abbrev p219_X7_field_s (fu : Nat) (κ : Nat) (c261_groups : Int32) (a264 : Nat → Int32) (k : Nat) : Prop :=
  (∀ (v1 : Int32) (v2 : Int32) (v3 : Int32) (v4 : Int64) (v6 : Int32) (a297 : Nat → Int64), v1.toInt ≤ 16777215 → 1 ≤ v1.toInt → v2.toInt ≤ 15 → 0 ≤ v2.toInt → v3.toInt ≤ 2 → 1 ≤ v3.toInt → v6.toInt ≤ 4 → 0 ≤ v6.toInt → v6.toInt ≤ c261_groups.toInt → 0 + 0 + (4 - v6.toInt) * 14 + 7 ≤ ((k : Nat) : Int) → dz_T ((F219_X7_field fu c261_groups a264 k).2.1 v1 v2 v3 v4 v6 a297) (fun r => True))
set_option maxHeartbeats 1000000 in
set_option maxRecDepth 10000 in
theorem t219_X7_field_h2_s (fu : Nat) (hfu : 1000000000000 ≤ fu) (κ : Nat) (hκ : κ < 14) (c261_groups : Int32) (a264 : Nat → Int32) (p0 : c261_groups.toInt ≤ 4) (p1 : 0 ≤ c261_groups.toInt) (hr_a264 : dz_rg a264 16 0 16777215) (o0 : c261_groups.toInt = ((dz_kg κ : Nat) : Int)) (k : Nat) (ih : ∀ j9, j9 < k → p219_X7_field_s fu κ c261_groups a264 j9) : ∀ (v1 : Int32) (v2 : Int32) (v3 : Int32) (v4 : Int64) (v6 : Int32) (a297 : Nat → Int64), v1.toInt ≤ 16777215 → 1 ≤ v1.toInt → v2.toInt ≤ 15 → 0 ≤ v2.toInt → v3.toInt ≤ 2 → 1 ≤ v3.toInt → v6.toInt ≤ 4 → 0 ≤ v6.toInt → v6.toInt ≤ c261_groups.toInt → 0 + 0 + (4 - v6.toInt) * 14 + 7 ≤ ((k : Nat) : Int) → dz_T ((F219_X7_field fu c261_groups a264 k).2.1 v1 v2 v3 v4 v6 a297) (fun r => True) := by
  intro v1 v2 v3 v4 v6 a297 i0 i1 i2 i3 i4 i5 i6 i7 i8 hm
  obtain ⟨k0, rfl⟩ : ∃ x, k = x + 1 := ⟨k - 1, by omega⟩
  show dz_T (s219_X7_field_2 fu c261_groups a264 (F219_X7_field fu c261_groups a264 k0).2.2  v1 v2 v3 v4 v6 a297) _
  unfold s219_X7_field_2
  refine dz_Tle (fun h1 => ?_) (fun h1 => ?_)
  · skip
    exact dz_Ts trivial
  · skip
    have e2 := dz_ushp (a := v2) (b := v6) (by omega)
    have e3 := dz_l1
    have e4 := dz_andr (a := (dz_ush v2 v6)) (b := (1 : Int32)) (by omega)
    have e5 := dz_andl (a := (dz_ush v2 v6)) (b := (1 : Int32)) (by omega)
    have e6 := dz_l0
    refine dz_Teq (fun h7 => ?_) (fun h7 => ?_)
    · skip
      obtain ⟨k1, rfl⟩ : ∃ x, k0 = x + 1 := ⟨k0 - 1, by omega⟩
      show dz_T (s219_X7_field_3 fu c261_groups a264 (F219_X7_field fu c261_groups a264 k1).2.1 v1 v2 v3 v4 v6 a297) _
      unfold s219_X7_field_3
      have e8 := dz_add (a := v6) (b := (1 : Int32)) (by omega) (by omega)
      exact (ih k1 (by omega)) v1 v2 v3 v4 (v6 + (1 : Int32)) a297 i0 i1 i2 i3 i4 i5 (by omega) (by omega) (by omega) (by omega)
    · skip
      refine dz_Tb (t210_X7_groupsOpen_s fu hfu κ hκ _ _ _ _ p0 p1 (by first | assumption | omega) i7 (by first | assumption | omega) (hr_a264) o0) (fun r1 q => ?_)
      obtain ⟨q1_0, q1_1, q1_2⟩ := q
      refine dz_Tle (fun h9 => ?_) (fun h9 => ?_)
      · skip
        obtain ⟨k2, rfl⟩ : ∃ x, k0 = x + 1 := ⟨k0 - 1, by omega⟩
        show dz_T (s219_X7_field_3 fu c261_groups a264 (F219_X7_field fu c261_groups a264 k2).2.1 v1 v2 v3 v4 v6 a297) _
        unfold s219_X7_field_3
        have e10 := dz_add (a := v6) (b := (1 : Int32)) (by omega) (by omega)
        exact (ih k2 (by omega)) v1 v2 v3 v4 (v6 + (1 : Int32)) a297 i0 i1 i2 i3 i4 i5 (by omega) (by omega) (by omega) (by omega)
      · skip
        refine dz_Tin (by omega) (by omega) ?_
        refine dz_Tz (by omega) ?_
        refine dz_Tb (t218_X7_fieldBall_s fu hfu κ hκ _ _ _ _ _ _ _ _ p0 p1 (by first | assumption | omega) i0 i3 i2 i5 i4 i7 (by first | assumption | omega) (hr_a264) o0) (fun r2 _ => ?_)
        obtain ⟨k3, rfl⟩ : ∃ x, k0 = x + 1 := ⟨k0 - 1, by omega⟩
        show dz_T (s219_X7_field_3 fu c261_groups a264 (F219_X7_field fu c261_groups a264 k3).2.1 v1 v2 v3 v4 v6 r2) _
        unfold s219_X7_field_3
        have e11 := dz_add (a := v6) (b := (1 : Int32)) (by omega) (by omega)
        exact (ih k3 (by omega)) v1 v2 v3 v4 (v6 + (1 : Int32)) r2 i0 i1 i2 i3 i4 i5 (by omega) (by omega) (by omega) (by omega)
theorem t219_X7_field_I_s (fu : Nat) (hfu : 1000000000000 ≤ fu) (κ : Nat) (hκ : κ < 14) (c261_groups : Int32) (a264 : Nat → Int32) (p0 : c261_groups.toInt ≤ 4) (p1 : 0 ≤ c261_groups.toInt) (hr_a264 : dz_rg a264 16 0 16777215) (o0 : c261_groups.toInt = ((dz_kg κ : Nat) : Int)) (k : Nat) : p219_X7_field_s fu κ c261_groups a264 k := by
  induction k using Nat.strongRecOn with
  | _ k ih => exact t219_X7_field_h2_s fu hfu κ hκ c261_groups a264 p0 p1 hr_a264 o0 k ih
set_option maxHeartbeats 1000000 in
set_option maxRecDepth 10000 in
theorem t219_X7_field_E_s (fu : Nat) (hfu : 1000000000000 ≤ fu) (κ : Nat) (hκ : κ < 14) (c261_groups : Int32) (a264 : Nat → Int32) (v1 : Int32) (v2 : Int32) (v3 : Int32) (v4 : Int64) (a297 : Nat → Int64) (p0 : c261_groups.toInt ≤ 4) (p1 : 0 ≤ c261_groups.toInt) (p2 : 0 ≤ v1.toInt) (p3 : v1.toInt ≤ 16777215) (p4 : 0 ≤ v2.toInt) (p5 : v2.toInt ≤ 15) (p6 : 0 ≤ v3.toInt) (p7 : v3.toInt ≤ 2) (hr_a264 : dz_rg a264 16 0 16777215) (o0 : c261_groups.toInt = ((dz_kg κ : Nat) : Int)) (kv : Nat) (hkv : 1000000000000 ≤ kv) : dz_T (s219_X7_field_0 fu c261_groups a264 (F219_X7_field fu c261_groups a264 kv).1 (F219_X7_field fu c261_groups a264 kv).2.1  v1 v2 v3 v4 a297) (fun r => True) := by
  unfold s219_X7_field_0
  have e1 := dz_l1
  have e2 := dz_sub (a := v1) (b := (1 : Int32)) (by omega) (by omega)
  have e3 := dz_andl (a := v1) (b := (v1 - (1 : Int32))) (by omega)
  have e4 := dz_l0
  refine dz_Teq (fun h5 => ?_) (fun h5 => ?_)
  · skip
    obtain ⟨k1, rfl⟩ : ∃ x, kv = x + 1 := ⟨kv - 1, by omega⟩
    show dz_T (s219_X7_field_1 fu c261_groups a264 v1 v3 v4 a297) _
    unfold s219_X7_field_1
    refine dz_Tb (t129_X4_only fu hfu _ 24 (by omega) (by omega) (by decide)) (fun r1 q => ?_)
    obtain ⟨q1_0, q1_1⟩ := q
    refine dz_Tin (by omega) (by omega) ?_
    refine dz_Tin (by omega) (by omega) ?_
    refine dz_Tin (by omega) (by omega) ?_
    exact dz_Ts trivial
  · skip
    refine dz_Tlt (fun h6 => ?_) (fun h6 => ?_)
    · skip
      exact (t219_X7_field_I_s fu hfu κ hκ c261_groups a264 p0 p1 hr_a264 o0 kv) v1 v2 v3 v4 (0 : Int32) a297 p3 (by first | assumption | omega) p5 p4 p7 (by first | assumption | omega) (by omega) (by omega) (by omega) (by omega)
    · skip
      obtain ⟨k2, rfl⟩ : ∃ x, kv = x + 1 := ⟨kv - 1, by omega⟩
      show dz_T (s219_X7_field_1 fu c261_groups a264 v1 v3 v4 a297) _
      unfold s219_X7_field_1
      refine dz_Tb (t129_X4_only fu hfu _ 24 (by omega) (by omega) (by decide)) (fun r2 q => ?_)
      obtain ⟨q2_0, q2_1⟩ := q
      refine dz_Tin (by omega) (by omega) ?_
      refine dz_Tin (by omega) (by omega) ?_
      refine dz_Tin (by omega) (by omega) ?_
      exact dz_Ts trivial
theorem t219_X7_field_s (fu : Nat) (hfu : 1000000000000 ≤ fu) (κ : Nat) (hκ : κ < 14) (c261_groups : Int32) (a264 : Nat → Int32) (v1 : Int32) (v2 : Int32) (v3 : Int32) (v4 : Int64) (a297 : Nat → Int64) (p0 : c261_groups.toInt ≤ 4) (p1 : 0 ≤ c261_groups.toInt) (p2 : 0 ≤ v1.toInt) (p3 : v1.toInt ≤ 16777215) (p4 : 0 ≤ v2.toInt) (p5 : v2.toInt ≤ 15) (p6 : 0 ≤ v3.toInt) (p7 : v3.toInt ≤ 2) (hr_a264 : dz_rg a264 16 0 16777215) (o0 : c261_groups.toInt = ((dz_kg κ : Nat) : Int)) : dz_T (f219_X7_field fu c261_groups a264 v1 v2 v3 v4 a297) (fun r => True) :=
  t219_X7_field_E_s fu hfu κ hκ c261_groups a264 v1 v2 v3 v4 a297 p0 p1 p2 p3 p4 p5 p6 p7 hr_a264 o0 fu hfu
abbrev p220_X7_fieldBall_s (fu : Nat) (κ : Nat) (c261_groups : Int32) (a264 : Nat → Int32) (k : Nat) : Prop :=
  (∀ (v1 : Int32) (v2 : Int32) (v3 : Int32) (v4 : Int64) (v6 : Int32) (v7 : Int32) (a297 : Nat → Int64), v1.toInt ≤ 16777215 → 0 ≤ v1.toInt → v2.toInt ≤ 15 → 0 ≤ v2.toInt → v3.toInt ≤ 3 → 1 ≤ v3.toInt → v6.toInt ≤ 3 → 0 ≤ v6.toInt → v7.toInt ≤ 4 → 0 ≤ v7.toInt → v7.toInt ≤ c261_groups.toInt → 0 + 0 + (4 - v7.toInt) * 12 + 6 ≤ ((k : Nat) : Int) → dz_T ((F220_X7_fieldBall fu c261_groups a264 k).1 v1 v2 v3 v4 v6 v7 a297) (fun r => True))
set_option maxHeartbeats 1000000 in
set_option maxRecDepth 10000 in
theorem t220_X7_fieldBall_h1_s (fu : Nat) (hfu : 1000000000000 ≤ fu) (κ : Nat) (hκ : κ < 14) (c261_groups : Int32) (a264 : Nat → Int32) (p0 : c261_groups.toInt ≤ 4) (p1 : 0 ≤ c261_groups.toInt) (hr_a264 : dz_rg a264 16 0 16777215) (o0 : c261_groups.toInt = ((dz_kg κ : Nat) : Int)) (k : Nat) (ih : ∀ j9, j9 < k → p220_X7_fieldBall_s fu κ c261_groups a264 j9) : ∀ (v1 : Int32) (v2 : Int32) (v3 : Int32) (v4 : Int64) (v6 : Int32) (v7 : Int32) (a297 : Nat → Int64), v1.toInt ≤ 16777215 → 0 ≤ v1.toInt → v2.toInt ≤ 15 → 0 ≤ v2.toInt → v3.toInt ≤ 3 → 1 ≤ v3.toInt → v6.toInt ≤ 3 → 0 ≤ v6.toInt → v7.toInt ≤ 4 → 0 ≤ v7.toInt → v7.toInt ≤ c261_groups.toInt → 0 + 0 + (4 - v7.toInt) * 12 + 6 ≤ ((k : Nat) : Int) → dz_T ((F220_X7_fieldBall fu c261_groups a264 k).1 v1 v2 v3 v4 v6 v7 a297) (fun r => True) := by
  intro v1 v2 v3 v4 v6 v7 a297 i0 i1 i2 i3 i4 i5 i6 i7 i8 i9 i10 hm
  obtain ⟨k0, rfl⟩ : ∃ x, k = x + 1 := ⟨k - 1, by omega⟩
  show dz_T (s220_X7_fieldBall_1 fu c261_groups a264 (F220_X7_fieldBall fu c261_groups a264 k0).2  v1 v2 v3 v4 v6 v7 a297) _
  unfold s220_X7_fieldBall_1
  refine dz_Tle (fun h1 => ?_) (fun h1 => ?_)
  · skip
    exact dz_Ts trivial
  · skip
    have e2 := dz_l4
    have e3 := dz_mulr (a := v6) (b := (4 : Int32)) 4 (by omega) (by omega) (by omega)
    have e4 := dz_add (a := (v6 * (4 : Int32))) (b := v7) (by omega) (by omega)
    refine dz_Tin (by omega) (by omega) ?_
    have e5 := dz_rgat (hr_a264) (i := ((v6 * (4 : Int32)) + v7)) (by omega) (by omega)
    have e6 := dz_andr (a := v1) (b := (a264 ((v6 * (4 : Int32)) + v7).toNatClampNeg)) (by omega)
    have e7 := dz_andl (a := v1) (b := (a264 ((v6 * (4 : Int32)) + v7).toNatClampNeg)) (by omega)
    have e8 := dz_l0
    refine dz_Teq (fun h9 => ?_) (fun h9 => ?_)
    · skip
      obtain ⟨k1, rfl⟩ : ∃ x, k0 = x + 1 := ⟨k0 - 1, by omega⟩
      show dz_T (s220_X7_fieldBall_2 fu c261_groups a264 (F220_X7_fieldBall fu c261_groups a264 k1).1 v1 v2 v3 v4 v6 v7 a297) _
      unfold s220_X7_fieldBall_2
      have e10 := dz_l1
      have e11 := dz_add (a := v7) (b := (1 : Int32)) (by omega) (by omega)
      exact (ih k1 (by omega)) v1 v2 v3 v4 v6 (v7 + (1 : Int32)) a297 i0 i1 i2 i3 i4 i5 i6 i7 (by omega) (by omega) (by omega) (by omega)
    · skip
      have e12 := dz_l1
      have e13 := dz_l31
      have e14 := dz_andr (a := v6) (b := (31 : Int32)) (by omega)
      have e15 := dz_andl (a := v6) (b := (31 : Int32)) (by omega)
      have e16 := dz_shl1 (b := v6) 0 3 (by omega) (by omega) (by omega)
      have e17 := dz_lm1
      have e18 := dz_andl (a := v2) (b := (((1 : Int32) <<< (v6 &&& (31 : Int32))) ^^^ (-(1 : Int32)))) (by omega)
      have e19 := dz_sub (a := v3) (b := (1 : Int32)) (by omega) (by omega)
      refine dz_Tb (t219_X7_field_s fu hfu κ hκ _ _ _ _ _ _ _ p0 p1 (by omega) (by omega) (by omega) (by omega) (by omega) (by omega) (hr_a264) o0) (fun r1 _ => ?_)
      obtain ⟨k2, rfl⟩ : ∃ x, k0 = x + 1 := ⟨k0 - 1, by omega⟩
      show dz_T (s220_X7_fieldBall_2 fu c261_groups a264 (F220_X7_fieldBall fu c261_groups a264 k2).1 v1 v2 v3 v4 v6 v7 r1) _
      unfold s220_X7_fieldBall_2
      have e20 := dz_add (a := v7) (b := (1 : Int32)) (by omega) (by omega)
      exact (ih k2 (by omega)) v1 v2 v3 v4 v6 (v7 + (1 : Int32)) r1 i0 i1 i2 i3 i4 i5 i6 i7 (by omega) (by omega) (by omega) (by omega)
theorem t220_X7_fieldBall_I_s (fu : Nat) (hfu : 1000000000000 ≤ fu) (κ : Nat) (hκ : κ < 14) (c261_groups : Int32) (a264 : Nat → Int32) (p0 : c261_groups.toInt ≤ 4) (p1 : 0 ≤ c261_groups.toInt) (hr_a264 : dz_rg a264 16 0 16777215) (o0 : c261_groups.toInt = ((dz_kg κ : Nat) : Int)) (k : Nat) : p220_X7_fieldBall_s fu κ c261_groups a264 k := by
  induction k using Nat.strongRecOn with
  | _ k ih => exact t220_X7_fieldBall_h1_s fu hfu κ hκ c261_groups a264 p0 p1 hr_a264 o0 k ih
set_option maxHeartbeats 1000000 in
set_option maxRecDepth 10000 in
theorem t220_X7_fieldBall_E_s (fu : Nat) (hfu : 1000000000000 ≤ fu) (κ : Nat) (hκ : κ < 14) (c261_groups : Int32) (a264 : Nat → Int32) (v1 : Int32) (v2 : Int32) (v3 : Int32) (v4 : Int64) (v6 : Int32) (a297 : Nat → Int64) (p0 : c261_groups.toInt ≤ 4) (p1 : 0 ≤ c261_groups.toInt) (p2 : 0 ≤ v1.toInt) (p3 : v1.toInt ≤ 16777215) (p4 : 0 ≤ v2.toInt) (p5 : v2.toInt ≤ 15) (p6 : 1 ≤ v3.toInt) (p7 : v3.toInt ≤ 3) (p8 : 0 ≤ v6.toInt) (p9 : v6.toInt ≤ 3) (hr_a264 : dz_rg a264 16 0 16777215) (o0 : c261_groups.toInt = ((dz_kg κ : Nat) : Int)) (kv : Nat) (hkv : 1000000000000 ≤ kv) : dz_T (s220_X7_fieldBall_0 fu c261_groups a264 (F220_X7_fieldBall fu c261_groups a264 kv).1  v1 v2 v3 v4 v6 a297) (fun r => True) := by
  unfold s220_X7_fieldBall_0
  have e1 := dz_l0
  exact (t220_X7_fieldBall_I_s fu hfu κ hκ c261_groups a264 p0 p1 hr_a264 o0 kv) v1 v2 v3 v4 v6 (0 : Int32) a297 p3 p2 p5 p4 p7 p6 p9 p8 (by omega) (by omega) (by omega) (by omega)
theorem t220_X7_fieldBall_s (fu : Nat) (hfu : 1000000000000 ≤ fu) (κ : Nat) (hκ : κ < 14) (c261_groups : Int32) (a264 : Nat → Int32) (v1 : Int32) (v2 : Int32) (v3 : Int32) (v4 : Int64) (v6 : Int32) (a297 : Nat → Int64) (p0 : c261_groups.toInt ≤ 4) (p1 : 0 ≤ c261_groups.toInt) (p2 : 0 ≤ v1.toInt) (p3 : v1.toInt ≤ 16777215) (p4 : 0 ≤ v2.toInt) (p5 : v2.toInt ≤ 15) (p6 : 1 ≤ v3.toInt) (p7 : v3.toInt ≤ 3) (p8 : 0 ≤ v6.toInt) (p9 : v6.toInt ≤ 3) (hr_a264 : dz_rg a264 16 0 16777215) (o0 : c261_groups.toInt = ((dz_kg κ : Nat) : Int)) : dz_T (f220_X7_fieldBall fu c261_groups a264 v1 v2 v3 v4 v6 a297) (fun r => True) :=
  t220_X7_fieldBall_E_s fu hfu κ hκ c261_groups a264 v1 v2 v3 v4 v6 a297 p0 p1 p2 p3 p4 p5 p6 p7 p8 p9 hr_a264 o0 fu hfu
abbrev p221_X7_field_s (fu : Nat) (κ : Nat) (c261_groups : Int32) (a264 : Nat → Int32) (k : Nat) : Prop :=
  (∀ (v1 : Int32) (v2 : Int32) (v3 : Int32) (v4 : Int64) (v6 : Int32) (a297 : Nat → Int64), v1.toInt ≤ 16777215 → 1 ≤ v1.toInt → v2.toInt ≤ 15 → 0 ≤ v2.toInt → v3.toInt ≤ 3 → 1 ≤ v3.toInt → v6.toInt ≤ 4 → 0 ≤ v6.toInt → v6.toInt ≤ c261_groups.toInt → 0 + 0 + (4 - v6.toInt) * 14 + 7 ≤ ((k : Nat) : Int) → dz_T ((F221_X7_field fu c261_groups a264 k).2.1 v1 v2 v3 v4 v6 a297) (fun r => True))
set_option maxHeartbeats 1000000 in
set_option maxRecDepth 10000 in
theorem t221_X7_field_h2_s (fu : Nat) (hfu : 1000000000000 ≤ fu) (κ : Nat) (hκ : κ < 14) (c261_groups : Int32) (a264 : Nat → Int32) (p0 : c261_groups.toInt ≤ 4) (p1 : 0 ≤ c261_groups.toInt) (hr_a264 : dz_rg a264 16 0 16777215) (o0 : c261_groups.toInt = ((dz_kg κ : Nat) : Int)) (k : Nat) (ih : ∀ j9, j9 < k → p221_X7_field_s fu κ c261_groups a264 j9) : ∀ (v1 : Int32) (v2 : Int32) (v3 : Int32) (v4 : Int64) (v6 : Int32) (a297 : Nat → Int64), v1.toInt ≤ 16777215 → 1 ≤ v1.toInt → v2.toInt ≤ 15 → 0 ≤ v2.toInt → v3.toInt ≤ 3 → 1 ≤ v3.toInt → v6.toInt ≤ 4 → 0 ≤ v6.toInt → v6.toInt ≤ c261_groups.toInt → 0 + 0 + (4 - v6.toInt) * 14 + 7 ≤ ((k : Nat) : Int) → dz_T ((F221_X7_field fu c261_groups a264 k).2.1 v1 v2 v3 v4 v6 a297) (fun r => True) := by
  intro v1 v2 v3 v4 v6 a297 i0 i1 i2 i3 i4 i5 i6 i7 i8 hm
  obtain ⟨k0, rfl⟩ : ∃ x, k = x + 1 := ⟨k - 1, by omega⟩
  show dz_T (s221_X7_field_2 fu c261_groups a264 (F221_X7_field fu c261_groups a264 k0).2.2  v1 v2 v3 v4 v6 a297) _
  unfold s221_X7_field_2
  refine dz_Tle (fun h1 => ?_) (fun h1 => ?_)
  · skip
    exact dz_Ts trivial
  · skip
    have e2 := dz_ushp (a := v2) (b := v6) (by omega)
    have e3 := dz_l1
    have e4 := dz_andr (a := (dz_ush v2 v6)) (b := (1 : Int32)) (by omega)
    have e5 := dz_andl (a := (dz_ush v2 v6)) (b := (1 : Int32)) (by omega)
    have e6 := dz_l0
    refine dz_Teq (fun h7 => ?_) (fun h7 => ?_)
    · skip
      obtain ⟨k1, rfl⟩ : ∃ x, k0 = x + 1 := ⟨k0 - 1, by omega⟩
      show dz_T (s221_X7_field_3 fu c261_groups a264 (F221_X7_field fu c261_groups a264 k1).2.1 v1 v2 v3 v4 v6 a297) _
      unfold s221_X7_field_3
      have e8 := dz_add (a := v6) (b := (1 : Int32)) (by omega) (by omega)
      exact (ih k1 (by omega)) v1 v2 v3 v4 (v6 + (1 : Int32)) a297 i0 i1 i2 i3 i4 i5 (by omega) (by omega) (by omega) (by omega)
    · skip
      refine dz_Tb (t210_X7_groupsOpen_s fu hfu κ hκ _ _ _ _ p0 p1 (by first | assumption | omega) i7 (by first | assumption | omega) (hr_a264) o0) (fun r1 q => ?_)
      obtain ⟨q1_0, q1_1, q1_2⟩ := q
      refine dz_Tle (fun h9 => ?_) (fun h9 => ?_)
      · skip
        obtain ⟨k2, rfl⟩ : ∃ x, k0 = x + 1 := ⟨k0 - 1, by omega⟩
        show dz_T (s221_X7_field_3 fu c261_groups a264 (F221_X7_field fu c261_groups a264 k2).2.1 v1 v2 v3 v4 v6 a297) _
        unfold s221_X7_field_3
        have e10 := dz_add (a := v6) (b := (1 : Int32)) (by omega) (by omega)
        exact (ih k2 (by omega)) v1 v2 v3 v4 (v6 + (1 : Int32)) a297 i0 i1 i2 i3 i4 i5 (by omega) (by omega) (by omega) (by omega)
      · skip
        refine dz_Tin (by omega) (by omega) ?_
        refine dz_Tz (by omega) ?_
        refine dz_Tb (t220_X7_fieldBall_s fu hfu κ hκ _ _ _ _ _ _ _ _ p0 p1 (by first | assumption | omega) i0 i3 i2 i5 i4 i7 (by first | assumption | omega) (hr_a264) o0) (fun r2 _ => ?_)
        obtain ⟨k3, rfl⟩ : ∃ x, k0 = x + 1 := ⟨k0 - 1, by omega⟩
        show dz_T (s221_X7_field_3 fu c261_groups a264 (F221_X7_field fu c261_groups a264 k3).2.1 v1 v2 v3 v4 v6 r2) _
        unfold s221_X7_field_3
        have e11 := dz_add (a := v6) (b := (1 : Int32)) (by omega) (by omega)
        exact (ih k3 (by omega)) v1 v2 v3 v4 (v6 + (1 : Int32)) r2 i0 i1 i2 i3 i4 i5 (by omega) (by omega) (by omega) (by omega)
theorem t221_X7_field_I_s (fu : Nat) (hfu : 1000000000000 ≤ fu) (κ : Nat) (hκ : κ < 14) (c261_groups : Int32) (a264 : Nat → Int32) (p0 : c261_groups.toInt ≤ 4) (p1 : 0 ≤ c261_groups.toInt) (hr_a264 : dz_rg a264 16 0 16777215) (o0 : c261_groups.toInt = ((dz_kg κ : Nat) : Int)) (k : Nat) : p221_X7_field_s fu κ c261_groups a264 k := by
  induction k using Nat.strongRecOn with
  | _ k ih => exact t221_X7_field_h2_s fu hfu κ hκ c261_groups a264 p0 p1 hr_a264 o0 k ih
set_option maxHeartbeats 1000000 in
set_option maxRecDepth 10000 in
theorem t221_X7_field_E_s (fu : Nat) (hfu : 1000000000000 ≤ fu) (κ : Nat) (hκ : κ < 14) (c261_groups : Int32) (a264 : Nat → Int32) (v1 : Int32) (v2 : Int32) (v3 : Int32) (v4 : Int64) (a297 : Nat → Int64) (p0 : c261_groups.toInt ≤ 4) (p1 : 0 ≤ c261_groups.toInt) (p2 : 0 ≤ v1.toInt) (p3 : v1.toInt ≤ 16777215) (p4 : 0 ≤ v2.toInt) (p5 : v2.toInt ≤ 15) (p6 : 0 ≤ v3.toInt) (p7 : v3.toInt ≤ 3) (hr_a264 : dz_rg a264 16 0 16777215) (o0 : c261_groups.toInt = ((dz_kg κ : Nat) : Int)) (kv : Nat) (hkv : 1000000000000 ≤ kv) : dz_T (s221_X7_field_0 fu c261_groups a264 (F221_X7_field fu c261_groups a264 kv).1 (F221_X7_field fu c261_groups a264 kv).2.1  v1 v2 v3 v4 a297) (fun r => True) := by
  unfold s221_X7_field_0
  have e1 := dz_l1
  have e2 := dz_sub (a := v1) (b := (1 : Int32)) (by omega) (by omega)
  have e3 := dz_andl (a := v1) (b := (v1 - (1 : Int32))) (by omega)
  have e4 := dz_l0
  refine dz_Teq (fun h5 => ?_) (fun h5 => ?_)
  · skip
    obtain ⟨k1, rfl⟩ : ∃ x, kv = x + 1 := ⟨kv - 1, by omega⟩
    show dz_T (s221_X7_field_1 fu c261_groups a264 v1 v3 v4 a297) _
    unfold s221_X7_field_1
    refine dz_Tb (t129_X4_only fu hfu _ 24 (by omega) (by omega) (by decide)) (fun r1 q => ?_)
    obtain ⟨q1_0, q1_1⟩ := q
    refine dz_Tin (by omega) (by omega) ?_
    refine dz_Tin (by omega) (by omega) ?_
    refine dz_Tin (by omega) (by omega) ?_
    exact dz_Ts trivial
  · skip
    refine dz_Tlt (fun h6 => ?_) (fun h6 => ?_)
    · skip
      exact (t221_X7_field_I_s fu hfu κ hκ c261_groups a264 p0 p1 hr_a264 o0 kv) v1 v2 v3 v4 (0 : Int32) a297 p3 (by first | assumption | omega) p5 p4 p7 (by first | assumption | omega) (by omega) (by omega) (by omega) (by omega)
    · skip
      obtain ⟨k2, rfl⟩ : ∃ x, kv = x + 1 := ⟨kv - 1, by omega⟩
      show dz_T (s221_X7_field_1 fu c261_groups a264 v1 v3 v4 a297) _
      unfold s221_X7_field_1
      refine dz_Tb (t129_X4_only fu hfu _ 24 (by omega) (by omega) (by decide)) (fun r2 q => ?_)
      obtain ⟨q2_0, q2_1⟩ := q
      refine dz_Tin (by omega) (by omega) ?_
      refine dz_Tin (by omega) (by omega) ?_
      refine dz_Tin (by omega) (by omega) ?_
      exact dz_Ts trivial
theorem t221_X7_field_s (fu : Nat) (hfu : 1000000000000 ≤ fu) (κ : Nat) (hκ : κ < 14) (c261_groups : Int32) (a264 : Nat → Int32) (v1 : Int32) (v2 : Int32) (v3 : Int32) (v4 : Int64) (a297 : Nat → Int64) (p0 : c261_groups.toInt ≤ 4) (p1 : 0 ≤ c261_groups.toInt) (p2 : 0 ≤ v1.toInt) (p3 : v1.toInt ≤ 16777215) (p4 : 0 ≤ v2.toInt) (p5 : v2.toInt ≤ 15) (p6 : 0 ≤ v3.toInt) (p7 : v3.toInt ≤ 3) (hr_a264 : dz_rg a264 16 0 16777215) (o0 : c261_groups.toInt = ((dz_kg κ : Nat) : Int)) : dz_T (f221_X7_field fu c261_groups a264 v1 v2 v3 v4 a297) (fun r => True) :=
  t221_X7_field_E_s fu hfu κ hκ c261_groups a264 v1 v2 v3 v4 a297 p0 p1 p2 p3 p4 p5 p6 p7 hr_a264 o0 fu hfu
abbrev p222_X7_fieldBall_s (fu : Nat) (κ : Nat) (c261_groups : Int32) (a264 : Nat → Int32) (k : Nat) : Prop :=
  (∀ (v1 : Int32) (v2 : Int32) (v3 : Int32) (v4 : Int64) (v6 : Int32) (v7 : Int32) (a297 : Nat → Int64), v1.toInt ≤ 16777215 → 0 ≤ v1.toInt → v2.toInt ≤ 15 → 0 ≤ v2.toInt → v3.toInt ≤ 4 → 1 ≤ v3.toInt → v6.toInt ≤ 3 → 0 ≤ v6.toInt → v7.toInt ≤ 4 → 0 ≤ v7.toInt → v7.toInt ≤ c261_groups.toInt → 0 + 0 + (4 - v7.toInt) * 12 + 6 ≤ ((k : Nat) : Int) → dz_T ((F222_X7_fieldBall fu c261_groups a264 k).1 v1 v2 v3 v4 v6 v7 a297) (fun r => True))
set_option maxHeartbeats 1000000 in
set_option maxRecDepth 10000 in
theorem t222_X7_fieldBall_h1_s (fu : Nat) (hfu : 1000000000000 ≤ fu) (κ : Nat) (hκ : κ < 14) (c261_groups : Int32) (a264 : Nat → Int32) (p0 : c261_groups.toInt ≤ 4) (p1 : 0 ≤ c261_groups.toInt) (hr_a264 : dz_rg a264 16 0 16777215) (o0 : c261_groups.toInt = ((dz_kg κ : Nat) : Int)) (k : Nat) (ih : ∀ j9, j9 < k → p222_X7_fieldBall_s fu κ c261_groups a264 j9) : ∀ (v1 : Int32) (v2 : Int32) (v3 : Int32) (v4 : Int64) (v6 : Int32) (v7 : Int32) (a297 : Nat → Int64), v1.toInt ≤ 16777215 → 0 ≤ v1.toInt → v2.toInt ≤ 15 → 0 ≤ v2.toInt → v3.toInt ≤ 4 → 1 ≤ v3.toInt → v6.toInt ≤ 3 → 0 ≤ v6.toInt → v7.toInt ≤ 4 → 0 ≤ v7.toInt → v7.toInt ≤ c261_groups.toInt → 0 + 0 + (4 - v7.toInt) * 12 + 6 ≤ ((k : Nat) : Int) → dz_T ((F222_X7_fieldBall fu c261_groups a264 k).1 v1 v2 v3 v4 v6 v7 a297) (fun r => True) := by
  intro v1 v2 v3 v4 v6 v7 a297 i0 i1 i2 i3 i4 i5 i6 i7 i8 i9 i10 hm
  obtain ⟨k0, rfl⟩ : ∃ x, k = x + 1 := ⟨k - 1, by omega⟩
  show dz_T (s222_X7_fieldBall_1 fu c261_groups a264 (F222_X7_fieldBall fu c261_groups a264 k0).2  v1 v2 v3 v4 v6 v7 a297) _
  unfold s222_X7_fieldBall_1
  refine dz_Tle (fun h1 => ?_) (fun h1 => ?_)
  · skip
    exact dz_Ts trivial
  · skip
    have e2 := dz_l4
    have e3 := dz_mulr (a := v6) (b := (4 : Int32)) 4 (by omega) (by omega) (by omega)
    have e4 := dz_add (a := (v6 * (4 : Int32))) (b := v7) (by omega) (by omega)
    refine dz_Tin (by omega) (by omega) ?_
    have e5 := dz_rgat (hr_a264) (i := ((v6 * (4 : Int32)) + v7)) (by omega) (by omega)
    have e6 := dz_andr (a := v1) (b := (a264 ((v6 * (4 : Int32)) + v7).toNatClampNeg)) (by omega)
    have e7 := dz_andl (a := v1) (b := (a264 ((v6 * (4 : Int32)) + v7).toNatClampNeg)) (by omega)
    have e8 := dz_l0
    refine dz_Teq (fun h9 => ?_) (fun h9 => ?_)
    · skip
      obtain ⟨k1, rfl⟩ : ∃ x, k0 = x + 1 := ⟨k0 - 1, by omega⟩
      show dz_T (s222_X7_fieldBall_2 fu c261_groups a264 (F222_X7_fieldBall fu c261_groups a264 k1).1 v1 v2 v3 v4 v6 v7 a297) _
      unfold s222_X7_fieldBall_2
      have e10 := dz_l1
      have e11 := dz_add (a := v7) (b := (1 : Int32)) (by omega) (by omega)
      exact (ih k1 (by omega)) v1 v2 v3 v4 v6 (v7 + (1 : Int32)) a297 i0 i1 i2 i3 i4 i5 i6 i7 (by omega) (by omega) (by omega) (by omega)
    · skip
      have e12 := dz_l1
      have e13 := dz_l31
      have e14 := dz_andr (a := v6) (b := (31 : Int32)) (by omega)
      have e15 := dz_andl (a := v6) (b := (31 : Int32)) (by omega)
      have e16 := dz_shl1 (b := v6) 0 3 (by omega) (by omega) (by omega)
      have e17 := dz_lm1
      have e18 := dz_andl (a := v2) (b := (((1 : Int32) <<< (v6 &&& (31 : Int32))) ^^^ (-(1 : Int32)))) (by omega)
      have e19 := dz_sub (a := v3) (b := (1 : Int32)) (by omega) (by omega)
      refine dz_Tb (t221_X7_field_s fu hfu κ hκ _ _ _ _ _ _ _ p0 p1 (by omega) (by omega) (by omega) (by omega) (by omega) (by omega) (hr_a264) o0) (fun r1 _ => ?_)
      obtain ⟨k2, rfl⟩ : ∃ x, k0 = x + 1 := ⟨k0 - 1, by omega⟩
      show dz_T (s222_X7_fieldBall_2 fu c261_groups a264 (F222_X7_fieldBall fu c261_groups a264 k2).1 v1 v2 v3 v4 v6 v7 r1) _
      unfold s222_X7_fieldBall_2
      have e20 := dz_add (a := v7) (b := (1 : Int32)) (by omega) (by omega)
      exact (ih k2 (by omega)) v1 v2 v3 v4 v6 (v7 + (1 : Int32)) r1 i0 i1 i2 i3 i4 i5 i6 i7 (by omega) (by omega) (by omega) (by omega)
theorem t222_X7_fieldBall_I_s (fu : Nat) (hfu : 1000000000000 ≤ fu) (κ : Nat) (hκ : κ < 14) (c261_groups : Int32) (a264 : Nat → Int32) (p0 : c261_groups.toInt ≤ 4) (p1 : 0 ≤ c261_groups.toInt) (hr_a264 : dz_rg a264 16 0 16777215) (o0 : c261_groups.toInt = ((dz_kg κ : Nat) : Int)) (k : Nat) : p222_X7_fieldBall_s fu κ c261_groups a264 k := by
  induction k using Nat.strongRecOn with
  | _ k ih => exact t222_X7_fieldBall_h1_s fu hfu κ hκ c261_groups a264 p0 p1 hr_a264 o0 k ih
set_option maxHeartbeats 1000000 in
set_option maxRecDepth 10000 in
theorem t222_X7_fieldBall_E_s (fu : Nat) (hfu : 1000000000000 ≤ fu) (κ : Nat) (hκ : κ < 14) (c261_groups : Int32) (a264 : Nat → Int32) (v1 : Int32) (v2 : Int32) (v3 : Int32) (v4 : Int64) (v6 : Int32) (a297 : Nat → Int64) (p0 : c261_groups.toInt ≤ 4) (p1 : 0 ≤ c261_groups.toInt) (p2 : 0 ≤ v1.toInt) (p3 : v1.toInt ≤ 16777215) (p4 : 0 ≤ v2.toInt) (p5 : v2.toInt ≤ 15) (p6 : 1 ≤ v3.toInt) (p7 : v3.toInt ≤ 4) (p8 : 0 ≤ v6.toInt) (p9 : v6.toInt ≤ 3) (hr_a264 : dz_rg a264 16 0 16777215) (o0 : c261_groups.toInt = ((dz_kg κ : Nat) : Int)) (kv : Nat) (hkv : 1000000000000 ≤ kv) : dz_T (s222_X7_fieldBall_0 fu c261_groups a264 (F222_X7_fieldBall fu c261_groups a264 kv).1  v1 v2 v3 v4 v6 a297) (fun r => True) := by
  unfold s222_X7_fieldBall_0
  have e1 := dz_l0
  exact (t222_X7_fieldBall_I_s fu hfu κ hκ c261_groups a264 p0 p1 hr_a264 o0 kv) v1 v2 v3 v4 v6 (0 : Int32) a297 p3 p2 p5 p4 p7 p6 p9 p8 (by omega) (by omega) (by omega) (by omega)
theorem t222_X7_fieldBall_s (fu : Nat) (hfu : 1000000000000 ≤ fu) (κ : Nat) (hκ : κ < 14) (c261_groups : Int32) (a264 : Nat → Int32) (v1 : Int32) (v2 : Int32) (v3 : Int32) (v4 : Int64) (v6 : Int32) (a297 : Nat → Int64) (p0 : c261_groups.toInt ≤ 4) (p1 : 0 ≤ c261_groups.toInt) (p2 : 0 ≤ v1.toInt) (p3 : v1.toInt ≤ 16777215) (p4 : 0 ≤ v2.toInt) (p5 : v2.toInt ≤ 15) (p6 : 1 ≤ v3.toInt) (p7 : v3.toInt ≤ 4) (p8 : 0 ≤ v6.toInt) (p9 : v6.toInt ≤ 3) (hr_a264 : dz_rg a264 16 0 16777215) (o0 : c261_groups.toInt = ((dz_kg κ : Nat) : Int)) : dz_T (f222_X7_fieldBall fu c261_groups a264 v1 v2 v3 v4 v6 a297) (fun r => True) :=
  t222_X7_fieldBall_E_s fu hfu κ hκ c261_groups a264 v1 v2 v3 v4 v6 a297 p0 p1 p2 p3 p4 p5 p6 p7 p8 p9 hr_a264 o0 fu hfu
abbrev p223_X7_field_s (fu : Nat) (κ : Nat) (c261_groups : Int32) (a264 : Nat → Int32) (k : Nat) : Prop :=
  (∀ (v1 : Int32) (v2 : Int32) (v3 : Int32) (v4 : Int64) (v6 : Int32) (a297 : Nat → Int64), v1.toInt ≤ 16777215 → 1 ≤ v1.toInt → v2.toInt ≤ 15 → 0 ≤ v2.toInt → v3.toInt ≤ 4 → 1 ≤ v3.toInt → v6.toInt ≤ 4 → 0 ≤ v6.toInt → v6.toInt ≤ c261_groups.toInt → 0 + 0 + (4 - v6.toInt) * 14 + 7 ≤ ((k : Nat) : Int) → dz_T ((F223_X7_field fu c261_groups a264 k).2.1 v1 v2 v3 v4 v6 a297) (fun r => True))
set_option maxHeartbeats 1000000 in
set_option maxRecDepth 10000 in
theorem t223_X7_field_h2_s (fu : Nat) (hfu : 1000000000000 ≤ fu) (κ : Nat) (hκ : κ < 14) (c261_groups : Int32) (a264 : Nat → Int32) (p0 : c261_groups.toInt ≤ 4) (p1 : 0 ≤ c261_groups.toInt) (hr_a264 : dz_rg a264 16 0 16777215) (o0 : c261_groups.toInt = ((dz_kg κ : Nat) : Int)) (k : Nat) (ih : ∀ j9, j9 < k → p223_X7_field_s fu κ c261_groups a264 j9) : ∀ (v1 : Int32) (v2 : Int32) (v3 : Int32) (v4 : Int64) (v6 : Int32) (a297 : Nat → Int64), v1.toInt ≤ 16777215 → 1 ≤ v1.toInt → v2.toInt ≤ 15 → 0 ≤ v2.toInt → v3.toInt ≤ 4 → 1 ≤ v3.toInt → v6.toInt ≤ 4 → 0 ≤ v6.toInt → v6.toInt ≤ c261_groups.toInt → 0 + 0 + (4 - v6.toInt) * 14 + 7 ≤ ((k : Nat) : Int) → dz_T ((F223_X7_field fu c261_groups a264 k).2.1 v1 v2 v3 v4 v6 a297) (fun r => True) := by
  intro v1 v2 v3 v4 v6 a297 i0 i1 i2 i3 i4 i5 i6 i7 i8 hm
  obtain ⟨k0, rfl⟩ : ∃ x, k = x + 1 := ⟨k - 1, by omega⟩
  show dz_T (s223_X7_field_2 fu c261_groups a264 (F223_X7_field fu c261_groups a264 k0).2.2  v1 v2 v3 v4 v6 a297) _
  unfold s223_X7_field_2
  refine dz_Tle (fun h1 => ?_) (fun h1 => ?_)
  · skip
    exact dz_Ts trivial
  · skip
    have e2 := dz_ushp (a := v2) (b := v6) (by omega)
    have e3 := dz_l1
    have e4 := dz_andr (a := (dz_ush v2 v6)) (b := (1 : Int32)) (by omega)
    have e5 := dz_andl (a := (dz_ush v2 v6)) (b := (1 : Int32)) (by omega)
    have e6 := dz_l0
    refine dz_Teq (fun h7 => ?_) (fun h7 => ?_)
    · skip
      obtain ⟨k1, rfl⟩ : ∃ x, k0 = x + 1 := ⟨k0 - 1, by omega⟩
      show dz_T (s223_X7_field_3 fu c261_groups a264 (F223_X7_field fu c261_groups a264 k1).2.1 v1 v2 v3 v4 v6 a297) _
      unfold s223_X7_field_3
      have e8 := dz_add (a := v6) (b := (1 : Int32)) (by omega) (by omega)
      exact (ih k1 (by omega)) v1 v2 v3 v4 (v6 + (1 : Int32)) a297 i0 i1 i2 i3 i4 i5 (by omega) (by omega) (by omega) (by omega)
    · skip
      refine dz_Tb (t210_X7_groupsOpen_s fu hfu κ hκ _ _ _ _ p0 p1 (by first | assumption | omega) i7 (by first | assumption | omega) (hr_a264) o0) (fun r1 q => ?_)
      obtain ⟨q1_0, q1_1, q1_2⟩ := q
      refine dz_Tle (fun h9 => ?_) (fun h9 => ?_)
      · skip
        obtain ⟨k2, rfl⟩ : ∃ x, k0 = x + 1 := ⟨k0 - 1, by omega⟩
        show dz_T (s223_X7_field_3 fu c261_groups a264 (F223_X7_field fu c261_groups a264 k2).2.1 v1 v2 v3 v4 v6 a297) _
        unfold s223_X7_field_3
        have e10 := dz_add (a := v6) (b := (1 : Int32)) (by omega) (by omega)
        exact (ih k2 (by omega)) v1 v2 v3 v4 (v6 + (1 : Int32)) a297 i0 i1 i2 i3 i4 i5 (by omega) (by omega) (by omega) (by omega)
      · skip
        refine dz_Tin (by omega) (by omega) ?_
        refine dz_Tz (by omega) ?_
        refine dz_Tb (t222_X7_fieldBall_s fu hfu κ hκ _ _ _ _ _ _ _ _ p0 p1 (by first | assumption | omega) i0 i3 i2 i5 i4 i7 (by first | assumption | omega) (hr_a264) o0) (fun r2 _ => ?_)
        obtain ⟨k3, rfl⟩ : ∃ x, k0 = x + 1 := ⟨k0 - 1, by omega⟩
        show dz_T (s223_X7_field_3 fu c261_groups a264 (F223_X7_field fu c261_groups a264 k3).2.1 v1 v2 v3 v4 v6 r2) _
        unfold s223_X7_field_3
        have e11 := dz_add (a := v6) (b := (1 : Int32)) (by omega) (by omega)
        exact (ih k3 (by omega)) v1 v2 v3 v4 (v6 + (1 : Int32)) r2 i0 i1 i2 i3 i4 i5 (by omega) (by omega) (by omega) (by omega)
theorem t223_X7_field_I_s (fu : Nat) (hfu : 1000000000000 ≤ fu) (κ : Nat) (hκ : κ < 14) (c261_groups : Int32) (a264 : Nat → Int32) (p0 : c261_groups.toInt ≤ 4) (p1 : 0 ≤ c261_groups.toInt) (hr_a264 : dz_rg a264 16 0 16777215) (o0 : c261_groups.toInt = ((dz_kg κ : Nat) : Int)) (k : Nat) : p223_X7_field_s fu κ c261_groups a264 k := by
  induction k using Nat.strongRecOn with
  | _ k ih => exact t223_X7_field_h2_s fu hfu κ hκ c261_groups a264 p0 p1 hr_a264 o0 k ih
set_option maxHeartbeats 1000000 in
set_option maxRecDepth 10000 in
theorem t223_X7_field_E_s (fu : Nat) (hfu : 1000000000000 ≤ fu) (κ : Nat) (hκ : κ < 14) (c261_groups : Int32) (a264 : Nat → Int32) (v1 : Int32) (v2 : Int32) (v3 : Int32) (v4 : Int64) (a297 : Nat → Int64) (p0 : c261_groups.toInt ≤ 4) (p1 : 0 ≤ c261_groups.toInt) (p2 : 0 ≤ v1.toInt) (p3 : v1.toInt ≤ 16777215) (p4 : 0 ≤ v2.toInt) (p5 : v2.toInt ≤ 15) (p6 : 0 ≤ v3.toInt) (p7 : v3.toInt ≤ 4) (hr_a264 : dz_rg a264 16 0 16777215) (o0 : c261_groups.toInt = ((dz_kg κ : Nat) : Int)) (kv : Nat) (hkv : 1000000000000 ≤ kv) : dz_T (s223_X7_field_0 fu c261_groups a264 (F223_X7_field fu c261_groups a264 kv).1 (F223_X7_field fu c261_groups a264 kv).2.1  v1 v2 v3 v4 a297) (fun r => True) := by
  unfold s223_X7_field_0
  have e1 := dz_l1
  have e2 := dz_sub (a := v1) (b := (1 : Int32)) (by omega) (by omega)
  have e3 := dz_andl (a := v1) (b := (v1 - (1 : Int32))) (by omega)
  have e4 := dz_l0
  refine dz_Teq (fun h5 => ?_) (fun h5 => ?_)
  · skip
    obtain ⟨k1, rfl⟩ : ∃ x, kv = x + 1 := ⟨kv - 1, by omega⟩
    show dz_T (s223_X7_field_1 fu c261_groups a264 v1 v3 v4 a297) _
    unfold s223_X7_field_1
    refine dz_Tb (t129_X4_only fu hfu _ 24 (by omega) (by omega) (by decide)) (fun r1 q => ?_)
    obtain ⟨q1_0, q1_1⟩ := q
    refine dz_Tin (by omega) (by omega) ?_
    refine dz_Tin (by omega) (by omega) ?_
    refine dz_Tin (by omega) (by omega) ?_
    exact dz_Ts trivial
  · skip
    refine dz_Tlt (fun h6 => ?_) (fun h6 => ?_)
    · skip
      exact (t223_X7_field_I_s fu hfu κ hκ c261_groups a264 p0 p1 hr_a264 o0 kv) v1 v2 v3 v4 (0 : Int32) a297 p3 (by first | assumption | omega) p5 p4 p7 (by first | assumption | omega) (by omega) (by omega) (by omega) (by omega)
    · skip
      obtain ⟨k2, rfl⟩ : ∃ x, kv = x + 1 := ⟨kv - 1, by omega⟩
      show dz_T (s223_X7_field_1 fu c261_groups a264 v1 v3 v4 a297) _
      unfold s223_X7_field_1
      refine dz_Tb (t129_X4_only fu hfu _ 24 (by omega) (by omega) (by decide)) (fun r2 q => ?_)
      obtain ⟨q2_0, q2_1⟩ := q
      refine dz_Tin (by omega) (by omega) ?_
      refine dz_Tin (by omega) (by omega) ?_
      refine dz_Tin (by omega) (by omega) ?_
      exact dz_Ts trivial
theorem t223_X7_field_s (fu : Nat) (hfu : 1000000000000 ≤ fu) (κ : Nat) (hκ : κ < 14) (c261_groups : Int32) (a264 : Nat → Int32) (v1 : Int32) (v2 : Int32) (v3 : Int32) (v4 : Int64) (a297 : Nat → Int64) (p0 : c261_groups.toInt ≤ 4) (p1 : 0 ≤ c261_groups.toInt) (p2 : 0 ≤ v1.toInt) (p3 : v1.toInt ≤ 16777215) (p4 : 0 ≤ v2.toInt) (p5 : v2.toInt ≤ 15) (p6 : 0 ≤ v3.toInt) (p7 : v3.toInt ≤ 4) (hr_a264 : dz_rg a264 16 0 16777215) (o0 : c261_groups.toInt = ((dz_kg κ : Nat) : Int)) : dz_T (f223_X7_field fu c261_groups a264 v1 v2 v3 v4 a297) (fun r => True) :=
  t223_X7_field_E_s fu hfu κ hκ c261_groups a264 v1 v2 v3 v4 a297 p0 p1 p2 p3 p4 p5 p6 p7 hr_a264 o0 fu hfu
set_option maxHeartbeats 1000000 in
set_option maxRecDepth 10000 in
theorem t225_X7_skip_E_s (fu : Nat) (hfu : 1000000000000 ≤ fu) (κ : Nat) (hκ : κ < 14) (c261_groups : Int32) (a264 : Nat → Int32) (a296 : Nat → Int32) (v1 : Int32) (v2 : Int32) (v3 : Int32) (a297 : Nat → Int64) (p0 : c261_groups.toInt ≤ 4) (p1 : 0 ≤ c261_groups.toInt) (p2 : 0 ≤ v1.toInt) (p3 : v1.toInt ≤ 16777215) (p4 : 0 ≤ v2.toInt) (p5 : v2.toInt ≤ 15) (p6 : 0 ≤ v3.toInt) (p7 : v3.toInt ≤ (-1)) (hr_a264 : dz_rg a264 16 0 16777215) (hr_a296 : dz_rg a296 4 0 3) (o0 : c261_groups.toInt = ((dz_kg κ : Nat) : Int)) (kv : Nat) (hkv : 1000000000000 ≤ kv) : dz_T (s225_X7_skip_0 fu c261_groups a264 a296 (F225_X7_skip fu c261_groups a264 a296 kv).1 (F225_X7_skip fu c261_groups a264 a296 kv).2.1  v1 v2 v3 a297) (fun r => True) := by
  unfold s225_X7_skip_0
  exfalso; omega
theorem t225_X7_skip_s (fu : Nat) (hfu : 1000000000000 ≤ fu) (κ : Nat) (hκ : κ < 14) (c261_groups : Int32) (a264 : Nat → Int32) (a296 : Nat → Int32) (v1 : Int32) (v2 : Int32) (v3 : Int32) (a297 : Nat → Int64) (p0 : c261_groups.toInt ≤ 4) (p1 : 0 ≤ c261_groups.toInt) (p2 : 0 ≤ v1.toInt) (p3 : v1.toInt ≤ 16777215) (p4 : 0 ≤ v2.toInt) (p5 : v2.toInt ≤ 15) (p6 : 0 ≤ v3.toInt) (p7 : v3.toInt ≤ (-1)) (hr_a264 : dz_rg a264 16 0 16777215) (hr_a296 : dz_rg a296 4 0 3) (o0 : c261_groups.toInt = ((dz_kg κ : Nat) : Int)) : dz_T (f225_X7_skip fu c261_groups a264 a296 v1 v2 v3 a297) (fun r => True) :=
  t225_X7_skip_E_s fu hfu κ hκ c261_groups a264 a296 v1 v2 v3 a297 p0 p1 p2 p3 p4 p5 p6 p7 hr_a264 hr_a296 o0 fu hfu
set_option maxHeartbeats 1000000 in
set_option maxRecDepth 10000 in
theorem t226_X7_skip_E_s (fu : Nat) (hfu : 1000000000000 ≤ fu) (κ : Nat) (hκ : κ < 14) (c261_groups : Int32) (a264 : Nat → Int32) (a296 : Nat → Int32) (v1 : Int32) (v2 : Int32) (v3 : Int32) (a297 : Nat → Int64) (p0 : c261_groups.toInt ≤ 4) (p1 : 0 ≤ c261_groups.toInt) (p2 : 0 ≤ v1.toInt) (p3 : v1.toInt ≤ 16777215) (p4 : 0 ≤ v2.toInt) (p5 : v2.toInt ≤ 15) (p6 : 0 ≤ v3.toInt) (p7 : v3.toInt ≤ 0) (hr_a264 : dz_rg a264 16 0 16777215) (hr_a296 : dz_rg a296 4 0 3) (o0 : c261_groups.toInt = ((dz_kg κ : Nat) : Int)) (kv : Nat) (hkv : 1000000000000 ≤ kv) : dz_T (s226_X7_skip_0 fu c261_groups a264 a296 (F226_X7_skip fu c261_groups a264 a296 kv).1 (F226_X7_skip fu c261_groups a264 a296 kv).2.1  v1 v2 v3 a297) (fun r => True) := by
  unfold s226_X7_skip_0
  have e1 := dz_l1
  have e2 := dz_sub (a := v1) (b := (1 : Int32)) (by omega) (by omega)
  have e3 := dz_andl (a := v1) (b := (v1 - (1 : Int32))) (by omega)
  have e4 := dz_l0
  refine dz_Teq (fun h5 => ?_) (fun h5 => ?_)
  · skip
    obtain ⟨k1, rfl⟩ : ∃ x, kv = x + 1 := ⟨kv - 1, by omega⟩
    show dz_T (s226_X7_skip_1 fu c261_groups a264 a296 v1 v3 a297) _
    unfold s226_X7_skip_1
    refine dz_Tb (t129_X4_only fu hfu _ 24 (by omega) (by omega) (by decide)) (fun r1 q => ?_)
    obtain ⟨q1_0, q1_1⟩ := q
    refine dz_Tin (by omega) (by omega) ?_
    refine dz_Tin (by omega) (by omega) ?_
    refine dz_Tin (by omega) (by omega) ?_
    exact dz_Ts trivial
  · skip
    refine dz_Tlt (fun h6 => ?_) (fun h6 => ?_)
    · skip
      exfalso; omega
    · skip
      obtain ⟨k2, rfl⟩ : ∃ x, kv = x + 1 := ⟨kv - 1, by omega⟩
      show dz_T (s226_X7_skip_1 fu c261_groups a264 a296 v1 v3 a297) _
      unfold s226_X7_skip_1
      refine dz_Tb (t129_X4_only fu hfu _ 24 (by omega) (by omega) (by decide)) (fun r2 q => ?_)
      obtain ⟨q2_0, q2_1⟩ := q
      refine dz_Tin (by omega) (by omega) ?_
      refine dz_Tin (by omega) (by omega) ?_
      refine dz_Tin (by omega) (by omega) ?_
      exact dz_Ts trivial
theorem t226_X7_skip_s (fu : Nat) (hfu : 1000000000000 ≤ fu) (κ : Nat) (hκ : κ < 14) (c261_groups : Int32) (a264 : Nat → Int32) (a296 : Nat → Int32) (v1 : Int32) (v2 : Int32) (v3 : Int32) (a297 : Nat → Int64) (p0 : c261_groups.toInt ≤ 4) (p1 : 0 ≤ c261_groups.toInt) (p2 : 0 ≤ v1.toInt) (p3 : v1.toInt ≤ 16777215) (p4 : 0 ≤ v2.toInt) (p5 : v2.toInt ≤ 15) (p6 : 0 ≤ v3.toInt) (p7 : v3.toInt ≤ 0) (hr_a264 : dz_rg a264 16 0 16777215) (hr_a296 : dz_rg a296 4 0 3) (o0 : c261_groups.toInt = ((dz_kg κ : Nat) : Int)) : dz_T (f226_X7_skip fu c261_groups a264 a296 v1 v2 v3 a297) (fun r => True) :=
  t226_X7_skip_E_s fu hfu κ hκ c261_groups a264 a296 v1 v2 v3 a297 p0 p1 p2 p3 p4 p5 p6 p7 hr_a264 hr_a296 o0 fu hfu
