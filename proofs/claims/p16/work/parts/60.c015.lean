abbrev p237_X6_addLast_g34 (fu : Nat) (c248_groups : Int32) (c248_pots : Int32) (a263 : Nat → Int32) (a283 : Nat → Int32) (a293 : Nat → Int32) (a299 : Nat → Int64) (k : Nat) : Prop :=
  (∀ (v3 : Int64) (v5 : Int32) (v6 : Int32) (v7 : Int32) (v8 : Int64) (v10 : Int32) (c313_rows : Int64) (a314 : Nat → Int64) (a315 : Nat → Int64), v5.toInt ≤ 1024 → 0 ≤ v5.toInt → v6.toInt ≤ 3 → 3 ≤ v6.toInt → v7.toInt ≤ 9 → 0 ≤ v7.toInt → v10.toInt ≤ 3 → 0 ≤ v10.toInt → 0 + 0 + (3 - v10.toInt) * 448 + 8 ≤ ((k : Nat) : Int) → dz_T ((F237_X6_addLast fu c248_groups c248_pots a263 a283 a293 a299 k).1 v3 v5 v6 v7 v8 v10 c313_rows a314 a315) (fun r => True)) ∧ (∀ (v3 : Int64) (v5 : Int32) (v6 : Int32) (v7 : Int32) (v8 : Int64) (v10 : Int32) (v11 : Int32) (c313_rows : Int64) (a314 : Nat → Int64) (a315 : Nat → Int64), v5.toInt ≤ 1024 → 0 ≤ v5.toInt → v6.toInt ≤ 3 → 3 ≤ v6.toInt → v7.toInt ≤ 9 → 0 ≤ v7.toInt → v10.toInt ≤ 2 → 0 ≤ v10.toInt → v11.toInt ≤ 3 → 0 ≤ v11.toInt → 0 + 0 + ((3 - v10.toInt) - 1) * 448 + 0 + (3 - v11.toInt) * 104 + 16 ≤ ((k : Nat) : Int) → dz_T ((F237_X6_addLast fu c248_groups c248_pots a263 a283 a293 a299 k).2.1 v3 v5 v6 v7 v8 v10 v11 c313_rows a314 a315) (fun r => True)) ∧ (∀ (v3 : Int64) (v5 : Int32) (v6 : Int32) (v7 : Int32) (v8 : Int64) (v10 : Int32) (v11 : Int32) (v12 : Int64) (v14 : Int32) (c313_rows : Int64) (a314 : Nat → Int64) (a315 : Nat → Int64), v5.toInt ≤ 1024 → 0 ≤ v5.toInt → v6.toInt ≤ 3 → 3 ≤ v6.toInt → v7.toInt ≤ 9 → 0 ≤ v7.toInt → v10.toInt ≤ 2 → 0 ≤ v10.toInt → v11.toInt ≤ 2 → 0 ≤ v11.toInt → v14.toInt ≤ 3 → 0 ≤ v14.toInt → 0 + 0 + ((3 - v10.toInt) - 1) * 448 + 0 + ((3 - v11.toInt) - 1) * 104 + 0 + (3 - v14.toInt) * 16 + 24 ≤ ((k : Nat) : Int) → dz_T ((F237_X6_addLast fu c248_groups c248_pots a263 a283 a293 a299 k).2.2.2 v3 v5 v6 v7 v8 v10 v11 v12 v14 c313_rows a314 a315) (fun r => True))
set_option maxHeartbeats 1000000 in
set_option maxRecDepth 10000 in
theorem t237_X6_addLast_h1_g34 (fu : Nat) (hfu : 1000000000000 ≤ fu) (c248_groups : Int32) (c248_pots : Int32) (a263 : Nat → Int32) (a283 : Nat → Int32) (a293 : Nat → Int32) (a299 : Nat → Int64) (p0 : c248_groups.toInt ≤ 3) (p1 : 3 ≤ c248_groups.toInt) (p2 : c248_pots.toInt ≤ 4) (p3 : 4 ≤ c248_pots.toInt) (p4 : 1 ≤ c248_pots.toInt) (hr_a263 : dz_rq a263 6 3 0 2) (hr_a283 : dz_pm a283 4) (hr_a293 : dz_rg a293 3 0 5) (k : Nat) (ih : ∀ j9, j9 < k → p237_X6_addLast_g34 fu c248_groups c248_pots a263 a283 a293 a299 j9) : ∀ (v3 : Int64) (v5 : Int32) (v6 : Int32) (v7 : Int32) (v8 : Int64) (v10 : Int32) (c313_rows : Int64) (a314 : Nat → Int64) (a315 : Nat → Int64), v5.toInt ≤ 1024 → 0 ≤ v5.toInt → v6.toInt ≤ 3 → 3 ≤ v6.toInt → v7.toInt ≤ 9 → 0 ≤ v7.toInt → v10.toInt ≤ 3 → 0 ≤ v10.toInt → 0 + 0 + (3 - v10.toInt) * 448 + 8 ≤ ((k : Nat) : Int) → dz_T ((F237_X6_addLast fu c248_groups c248_pots a263 a283 a293 a299 k).1 v3 v5 v6 v7 v8 v10 c313_rows a314 a315) (fun r => True) := by
  intro v3 v5 v6 v7 v8 v10 c313_rows a314 a315 i0 i1 i2 i3 i4 i5 i6 i7 hm
  obtain ⟨k0, rfl⟩ : ∃ x, k = x + 1 := ⟨k - 1, by omega⟩
  show dz_T (s237_X6_addLast_1 fu c248_groups c248_pots a263 a283 a293 a299 (F237_X6_addLast fu c248_groups c248_pots a263 a283 a293 a299 k0).2.1  v3 v5 v6 v7 v8 v10 c313_rows a314 a315) _
  unfold s237_X6_addLast_1
  refine dz_Tle (fun h1 => ?_) (fun h1 => ?_)
  · skip
    refine dz_Tb (t208_X6_addAhead_g34 fu hfu _ _ _ _ _ _ _ _ _ p0 p1 (by first | assumption | omega) (by first | assumption | omega) (hr_a263) (hr_a283) (dz_rgs (hr_a293) (by omega))) (fun r1 _ => ?_)
    exact dz_Ts trivial
  · skip
    have e2 := dz_add (a := v5) (b := v10) (by omega) (by omega)
    refine dz_Tin (by omega) (by omega) ?_
    have e3 := dz_l0
    exact (ih k0 (by omega)).2.1 v3 v5 v6 v7 (v8 + (a299 (v5 + v10).toNatClampNeg)) v10 (0 : Int32) c313_rows a314 a315 i0 i1 i2 i3 i4 i5 (by first | assumption | omega) i7 (by omega) (by omega) (by omega)
set_option maxHeartbeats 1000000 in
set_option maxRecDepth 10000 in
theorem t237_X6_addLast_h2_g34 (fu : Nat) (hfu : 1000000000000 ≤ fu) (c248_groups : Int32) (c248_pots : Int32) (a263 : Nat → Int32) (a283 : Nat → Int32) (a293 : Nat → Int32) (a299 : Nat → Int64) (p0 : c248_groups.toInt ≤ 3) (p1 : 3 ≤ c248_groups.toInt) (p2 : c248_pots.toInt ≤ 4) (p3 : 4 ≤ c248_pots.toInt) (p4 : 1 ≤ c248_pots.toInt) (hr_a263 : dz_rq a263 6 3 0 2) (hr_a283 : dz_pm a283 4) (hr_a293 : dz_rg a293 3 0 5) (k : Nat) (ih : ∀ j9, j9 < k → p237_X6_addLast_g34 fu c248_groups c248_pots a263 a283 a293 a299 j9) : ∀ (v3 : Int64) (v5 : Int32) (v6 : Int32) (v7 : Int32) (v8 : Int64) (v10 : Int32) (v11 : Int32) (c313_rows : Int64) (a314 : Nat → Int64) (a315 : Nat → Int64), v5.toInt ≤ 1024 → 0 ≤ v5.toInt → v6.toInt ≤ 3 → 3 ≤ v6.toInt → v7.toInt ≤ 9 → 0 ≤ v7.toInt → v10.toInt ≤ 2 → 0 ≤ v10.toInt → v11.toInt ≤ 3 → 0 ≤ v11.toInt → 0 + 0 + ((3 - v10.toInt) - 1) * 448 + 0 + (3 - v11.toInt) * 104 + 16 ≤ ((k : Nat) : Int) → dz_T ((F237_X6_addLast fu c248_groups c248_pots a263 a283 a293 a299 k).2.1 v3 v5 v6 v7 v8 v10 v11 c313_rows a314 a315) (fun r => True) := by
  intro v3 v5 v6 v7 v8 v10 v11 c313_rows a314 a315 i0 i1 i2 i3 i4 i5 i6 i7 i8 i9 hm
  obtain ⟨k0, rfl⟩ : ∃ x, k = x + 1 := ⟨k - 1, by omega⟩
  show dz_T (s237_X6_addLast_2 fu c248_groups c248_pots a263 a283 a293 a299 (F237_X6_addLast fu c248_groups c248_pots a263 a283 a293 a299 k0).1 (F237_X6_addLast fu c248_groups c248_pots a263 a283 a293 a299 k0).2.2.1 (F237_X6_addLast fu c248_groups c248_pots a263 a283 a293 a299 k0).2.2.2  v3 v5 v6 v7 v8 v10 v11 c313_rows a314 a315) _
  unfold s237_X6_addLast_2
  refine dz_Tle (fun h1 => ?_) (fun h1 => ?_)
  · skip
    have e2 := dz_l1
    have e3 := dz_add (a := v10) (b := (1 : Int32)) (by omega) (by omega)
    exact (ih k0 (by omega)).1 v3 v5 v6 v7 v8 (v10 + (1 : Int32)) c313_rows a314 a315 i0 i1 i2 i3 i4 i5 (by omega) (by omega) (by omega)
  · skip
    have e4 := dz_l4
    have e5 := dz_mulr (a := v11) (b := (4 : Int32)) 4 (by omega) (by omega) (by omega)
    have e6 := dz_add (a := v5) (b := (v11 * (4 : Int32))) (by omega) (by omega)
    have e7 := dz_add (a := (v5 + (v11 * (4 : Int32)))) (b := v10) (by omega) (by omega)
    refine dz_Tin (by omega) (by omega) ?_
    have e8 := dz_l0
    refine dz_Teq (fun h9 => ?_) (fun h9 => ?_)
    · skip
      obtain ⟨k1, rfl⟩ : ∃ x, k0 = x + 1 := ⟨k0 - 1, by omega⟩
      show dz_T (s237_X6_addLast_3 fu c248_groups c248_pots a263 a283 a293 a299 (F237_X6_addLast fu c248_groups c248_pots a263 a283 a293 a299 k1).2.1 v3 v5 v6 v7 v8 v10 v11 c313_rows a314 a315) _
      unfold s237_X6_addLast_3
      have e10 := dz_l1
      have e11 := dz_add (a := v11) (b := (1 : Int32)) (by omega) (by omega)
      exact (ih k1 (by omega)).2.1 v3 v5 v6 v7 v8 v10 (v11 + (1 : Int32)) c313_rows a314 a315 i0 i1 i2 i3 i4 i5 i6 i7 (by omega) (by omega) (by omega)
    · skip
      have e12 := dz_add (a := v7) (b := v11) (by omega) (by omega)
      have e13 := dz_mulr (a := (v7 + v11)) (b := (4 : Int32)) 4 (by omega) (by omega) (by omega)
      have e14 := dz_add (a := ((v7 + v11) * (4 : Int32))) (b := v10) (by omega) (by omega)
      refine dz_Tin (by omega) (by omega) ?_
      refine dz_Tin (by omega) (by omega) ?_
      exact (ih k0 (by omega)).2.2 v3 v5 v6 v7 v8 v10 v11 (v3 * (a299 ((v5 + (v11 * (4 : Int32))) + v10).toNatClampNeg)) (0 : Int32) c313_rows a314 (vp_updL a315 (((v7 + v11) * (4 : Int32)) + v10).toNatClampNeg ((a315 (((v7 + v11) * (4 : Int32)) + v10).toNatClampNeg) + (v3 * (a299 ((v5 + (v11 * (4 : Int32))) + v10).toNatClampNeg)))) i0 i1 i2 i3 i4 i5 i6 i7 (by first | assumption | omega) i9 (by omega) (by omega) (by omega)
set_option maxHeartbeats 1000000 in
set_option maxRecDepth 10000 in
theorem t237_X6_addLast_h4_g34 (fu : Nat) (hfu : 1000000000000 ≤ fu) (c248_groups : Int32) (c248_pots : Int32) (a263 : Nat → Int32) (a283 : Nat → Int32) (a293 : Nat → Int32) (a299 : Nat → Int64) (p0 : c248_groups.toInt ≤ 3) (p1 : 3 ≤ c248_groups.toInt) (p2 : c248_pots.toInt ≤ 4) (p3 : 4 ≤ c248_pots.toInt) (p4 : 1 ≤ c248_pots.toInt) (hr_a263 : dz_rq a263 6 3 0 2) (hr_a283 : dz_pm a283 4) (hr_a293 : dz_rg a293 3 0 5) (k : Nat) (ih : ∀ j9, j9 < k → p237_X6_addLast_g34 fu c248_groups c248_pots a263 a283 a293 a299 j9) : ∀ (v3 : Int64) (v5 : Int32) (v6 : Int32) (v7 : Int32) (v8 : Int64) (v10 : Int32) (v11 : Int32) (v12 : Int64) (v14 : Int32) (c313_rows : Int64) (a314 : Nat → Int64) (a315 : Nat → Int64), v5.toInt ≤ 1024 → 0 ≤ v5.toInt → v6.toInt ≤ 3 → 3 ≤ v6.toInt → v7.toInt ≤ 9 → 0 ≤ v7.toInt → v10.toInt ≤ 2 → 0 ≤ v10.toInt → v11.toInt ≤ 2 → 0 ≤ v11.toInt → v14.toInt ≤ 3 → 0 ≤ v14.toInt → 0 + 0 + ((3 - v10.toInt) - 1) * 448 + 0 + ((3 - v11.toInt) - 1) * 104 + 0 + (3 - v14.toInt) * 16 + 24 ≤ ((k : Nat) : Int) → dz_T ((F237_X6_addLast fu c248_groups c248_pots a263 a283 a293 a299 k).2.2.2 v3 v5 v6 v7 v8 v10 v11 v12 v14 c313_rows a314 a315) (fun r => True) := by
  intro v3 v5 v6 v7 v8 v10 v11 v12 v14 c313_rows a314 a315 i0 i1 i2 i3 i4 i5 i6 i7 i8 i9 i10 i11 hm
  obtain ⟨k0, rfl⟩ : ∃ x, k = x + 1 := ⟨k - 1, by omega⟩
  show dz_T (s237_X6_addLast_4 fu c248_groups c248_pots a263 a283 a293 a299 (F237_X6_addLast fu c248_groups c248_pots a263 a283 a293 a299 k0).2.2.1 (F237_X6_addLast fu c248_groups c248_pots a263 a283 a293 a299 k0).2.2.2  v3 v5 v6 v7 v8 v10 v11 v12 v14 c313_rows a314 a315) _
  unfold s237_X6_addLast_4
  refine dz_Tle (fun h1 => ?_) (fun h1 => ?_)
  · skip
    obtain ⟨k1, rfl⟩ : ∃ x, k0 = x + 1 := ⟨k0 - 1, by omega⟩
    show dz_T (s237_X6_addLast_3 fu c248_groups c248_pots a263 a283 a293 a299 (F237_X6_addLast fu c248_groups c248_pots a263 a283 a293 a299 k1).2.1 v3 v5 v6 v7 v8 v10 v11 c313_rows a314 a315) _
    unfold s237_X6_addLast_3
    have e2 := dz_l1
    have e3 := dz_add (a := v11) (b := (1 : Int32)) (by omega) (by omega)
    exact (ih k1 (by omega)).2.1 v3 v5 v6 v7 v8 v10 (v11 + (1 : Int32)) c313_rows a314 a315 i0 i1 i2 i3 i4 i5 i6 i7 (by omega) (by omega) (by omega)
  · skip
    refine dz_Tin (by omega) (by omega) ?_
    have e4 := dz_rgat (hr_a293) (i := v14) (by omega) (by omega)
    have e5 := dz_l4
    have e6 := dz_mulr (a := (a293 v14.toNatClampNeg)) (b := (4 : Int32)) 4 (by omega) (by omega) (by omega)
    have e7 := dz_add (a := ((a293 v14.toNatClampNeg) * (4 : Int32))) (b := v10) (by omega) (by omega)
    refine dz_Tin (by omega) (by omega) ?_
    refine dz_Tin (by omega) (by omega) ?_
    have e8 := dz_pmat (hr_a283) (i := v14) (by decide) (by omega) (by omega)
    have e9 := dz_mulr (a := (a283 v14.toNatClampNeg)) (b := c248_groups) 3 (by omega) (by omega) (by omega)
    have e10 := dz_rqat (hr_a263) (x := (a293 v14.toNatClampNeg)) (y := v10) (by omega) (by omega) (by omega) (by omega) (by omega)
    have e11 := dz_add (a := ((a283 v14.toNatClampNeg) * c248_groups)) (b := (a263 (((a293 v14.toNatClampNeg) * (4 : Int32)) + v10).toNatClampNeg)) (by omega) (by omega)
    have e12 := dz_l12
    have e13 := dz_mulr (a := (((a283 v14.toNatClampNeg) * c248_groups) + (a263 (((a293 v14.toNatClampNeg) * (4 : Int32)) + v10).toNatClampNeg))) (b := (12 : Int32)) 12 (by omega) (by omega) (by omega)
    have e14 := dz_add (a := ((((a283 v14.toNatClampNeg) * c248_groups) + (a263 (((a293 v14.toNatClampNeg) * (4 : Int32)) + v10).toNatClampNeg)) * (12 : Int32))) (b := v7) (by omega) (by omega)
    have e15 := dz_add (a := (((((a283 v14.toNatClampNeg) * c248_groups) + (a263 (((a293 v14.toNatClampNeg) * (4 : Int32)) + v10).toNatClampNeg)) * (12 : Int32)) + v7)) (b := v11) (by omega) (by omega)
    refine dz_Tin (by omega) (by omega) ?_
    refine dz_Tin (by omega) (by omega) ?_
    have e16 := dz_l1
    have e17 := dz_add (a := v14) (b := (1 : Int32)) (by omega) (by omega)
    exact (ih k0 (by omega)).2.2 v3 v5 v6 v7 v8 v10 v11 v12 (v14 + (1 : Int32)) c313_rows (vp_updL a314 ((((((a283 v14.toNatClampNeg) * c248_groups) + (a263 (((a293 v14.toNatClampNeg) * (4 : Int32)) + v10).toNatClampNeg)) * (12 : Int32)) + v7) + v11).toNatClampNeg ((a314 ((((((a283 v14.toNatClampNeg) * c248_groups) + (a263 (((a293 v14.toNatClampNeg) * (4 : Int32)) + v10).toNatClampNeg)) * (12 : Int32)) + v7) + v11).toNatClampNeg) + v12)) a315 i0 i1 i2 i3 i4 i5 i6 i7 i8 i9 (by omega) (by omega) (by omega)
theorem t237_X6_addLast_I_g34 (fu : Nat) (hfu : 1000000000000 ≤ fu) (c248_groups : Int32) (c248_pots : Int32) (a263 : Nat → Int32) (a283 : Nat → Int32) (a293 : Nat → Int32) (a299 : Nat → Int64) (p0 : c248_groups.toInt ≤ 3) (p1 : 3 ≤ c248_groups.toInt) (p2 : c248_pots.toInt ≤ 4) (p3 : 4 ≤ c248_pots.toInt) (p4 : 1 ≤ c248_pots.toInt) (hr_a263 : dz_rq a263 6 3 0 2) (hr_a283 : dz_pm a283 4) (hr_a293 : dz_rg a293 3 0 5) (k : Nat) : p237_X6_addLast_g34 fu c248_groups c248_pots a263 a283 a293 a299 k := by
  induction k using Nat.strongRecOn with
  | _ k ih => exact ⟨t237_X6_addLast_h1_g34 fu hfu c248_groups c248_pots a263 a283 a293 a299 p0 p1 p2 p3 p4 hr_a263 hr_a283 hr_a293 k ih, t237_X6_addLast_h2_g34 fu hfu c248_groups c248_pots a263 a283 a293 a299 p0 p1 p2 p3 p4 hr_a263 hr_a283 hr_a293 k ih, t237_X6_addLast_h4_g34 fu hfu c248_groups c248_pots a263 a283 a293 a299 p0 p1 p2 p3 p4 hr_a263 hr_a283 hr_a293 k ih⟩
set_option maxHeartbeats 1000000 in
set_option maxRecDepth 10000 in
theorem t237_X6_addLast_E_g34 (fu : Nat) (hfu : 1000000000000 ≤ fu) (c248_groups : Int32) (c248_pots : Int32) (a263 : Nat → Int32) (a283 : Nat → Int32) (a293 : Nat → Int32) (a299 : Nat → Int64) (v3 : Int64) (v5 : Int32) (c313_rows : Int64) (a314 : Nat → Int64) (a315 : Nat → Int64) (p0 : c248_groups.toInt ≤ 3) (p1 : 3 ≤ c248_groups.toInt) (p2 : c248_pots.toInt ≤ 4) (p3 : 4 ≤ c248_pots.toInt) (p4 : 0 ≤ v5.toInt) (p5 : v5.toInt ≤ 1024) (p6 : 1 ≤ c248_pots.toInt) (hr_a263 : dz_rq a263 6 3 0 2) (hr_a283 : dz_pm a283 4) (hr_a293 : dz_rg a293 3 0 5) (kv : Nat) (hkv : 1000000000000 ≤ kv) : dz_T (s237_X6_addLast_0 fu c248_groups c248_pots a263 a283 a293 a299 (F237_X6_addLast fu c248_groups c248_pots a263 a283 a293 a299 kv).1  v3 v5 c313_rows a314 a315) (fun r => True) := by
  unfold s237_X6_addLast_0
  have e1 := dz_l1
  have e2 := dz_sub (a := c248_pots) (b := (1 : Int32)) (by omega) (by omega)
  refine dz_Tin (by omega) (by omega) ?_
  have e3 := dz_pmat (hr_a283) (i := (c248_pots - (1 : Int32))) (by decide) (by omega) (by omega)
  have e4 := dz_mulr (a := (a283 (c248_pots - (1 : Int32)).toNatClampNeg)) (b := c248_groups) 3 (by omega) (by omega) (by omega)
  have e5 := dz_l0
  exact (t237_X6_addLast_I_g34 fu hfu c248_groups c248_pots a263 a283 a293 a299 p0 p1 p2 p3 p6 hr_a263 hr_a283 hr_a293 kv).1 v3 v5 (c248_pots - (1 : Int32)) ((a283 (c248_pots - (1 : Int32)).toNatClampNeg) * c248_groups) (0 : Int64) (0 : Int32) c313_rows a314 a315 p5 p4 (by omega) (by omega) (by omega) (by omega) (by omega) (by omega) (by omega)
theorem t237_X6_addLast_g34 (fu : Nat) (hfu : 1000000000000 ≤ fu) (c248_groups : Int32) (c248_pots : Int32) (a263 : Nat → Int32) (a283 : Nat → Int32) (a293 : Nat → Int32) (a299 : Nat → Int64) (v3 : Int64) (v5 : Int32) (c313_rows : Int64) (a314 : Nat → Int64) (a315 : Nat → Int64) (p0 : c248_groups.toInt ≤ 3) (p1 : 3 ≤ c248_groups.toInt) (p2 : c248_pots.toInt ≤ 4) (p3 : 4 ≤ c248_pots.toInt) (p4 : 0 ≤ v5.toInt) (p5 : v5.toInt ≤ 1024) (p6 : 1 ≤ c248_pots.toInt) (hr_a263 : dz_rq a263 6 3 0 2) (hr_a283 : dz_pm a283 4) (hr_a293 : dz_rg a293 3 0 5) : dz_T (f237_X6_addLast fu c248_groups c248_pots a263 a283 a293 a299 v3 v5 c313_rows a314 a315) (fun r => True) :=
  t237_X6_addLast_E_g34 fu hfu c248_groups c248_pots a263 a283 a293 a299 v3 v5 c313_rows a314 a315 p0 p1 p2 p3 p4 p5 p6 hr_a263 hr_a283 hr_a293 fu hfu
abbrev p237_X6_addLast_g41 (fu : Nat) (c248_groups : Int32) (c248_pots : Int32) (a263 : Nat → Int32) (a283 : Nat → Int32) (a293 : Nat → Int32) (a299 : Nat → Int64) (k : Nat) : Prop :=
  (∀ (v3 : Int64) (v5 : Int32) (v6 : Int32) (v7 : Int32) (v8 : Int64) (v10 : Int32) (c313_rows : Int64) (a314 : Nat → Int64) (a315 : Nat → Int64), v5.toInt ≤ 1024 → 0 ≤ v5.toInt → v6.toInt ≤ 0 → 0 ≤ v6.toInt → v7.toInt ≤ 0 → 0 ≤ v7.toInt → v10.toInt ≤ 4 → 0 ≤ v10.toInt → 0 + 0 + (4 - v10.toInt) * 312 + 8 ≤ ((k : Nat) : Int) → dz_T ((F237_X6_addLast fu c248_groups c248_pots a263 a283 a293 a299 k).1 v3 v5 v6 v7 v8 v10 c313_rows a314 a315) (fun r => True)) ∧ (∀ (v3 : Int64) (v5 : Int32) (v6 : Int32) (v7 : Int32) (v8 : Int64) (v10 : Int32) (v11 : Int32) (c313_rows : Int64) (a314 : Nat → Int64) (a315 : Nat → Int64), v5.toInt ≤ 1024 → 0 ≤ v5.toInt → v6.toInt ≤ 0 → 0 ≤ v6.toInt → v7.toInt ≤ 0 → 0 ≤ v7.toInt → v10.toInt ≤ 3 → 0 ≤ v10.toInt → v11.toInt ≤ 4 → 0 ≤ v11.toInt → 0 + 0 + ((4 - v10.toInt) - 1) * 312 + 0 + (4 - v11.toInt) * 56 + 16 ≤ ((k : Nat) : Int) → dz_T ((F237_X6_addLast fu c248_groups c248_pots a263 a283 a293 a299 k).2.1 v3 v5 v6 v7 v8 v10 v11 c313_rows a314 a315) (fun r => True)) ∧ (∀ (v3 : Int64) (v5 : Int32) (v6 : Int32) (v7 : Int32) (v8 : Int64) (v10 : Int32) (v11 : Int32) (v12 : Int64) (v14 : Int32) (c313_rows : Int64) (a314 : Nat → Int64) (a315 : Nat → Int64), v5.toInt ≤ 1024 → 0 ≤ v5.toInt → v6.toInt ≤ 0 → 0 ≤ v6.toInt → v7.toInt ≤ 0 → 0 ≤ v7.toInt → v10.toInt ≤ 3 → 0 ≤ v10.toInt → v11.toInt ≤ 3 → 0 ≤ v11.toInt → v14.toInt ≤ 0 → 0 ≤ v14.toInt → 0 + 0 + ((4 - v10.toInt) - 1) * 312 + 0 + ((4 - v11.toInt) - 1) * 56 + 0 + (0 - v14.toInt) * 16 + 24 ≤ ((k : Nat) : Int) → dz_T ((F237_X6_addLast fu c248_groups c248_pots a263 a283 a293 a299 k).2.2.2 v3 v5 v6 v7 v8 v10 v11 v12 v14 c313_rows a314 a315) (fun r => True))
set_option maxHeartbeats 1000000 in
set_option maxRecDepth 10000 in
theorem t237_X6_addLast_h1_g41 (fu : Nat) (hfu : 1000000000000 ≤ fu) (c248_groups : Int32) (c248_pots : Int32) (a263 : Nat → Int32) (a283 : Nat → Int32) (a293 : Nat → Int32) (a299 : Nat → Int64) (p0 : c248_groups.toInt ≤ 4) (p1 : 4 ≤ c248_groups.toInt) (p2 : c248_pots.toInt ≤ 1) (p3 : 1 ≤ c248_pots.toInt) (p4 : 1 ≤ c248_pots.toInt) (hr_a263 : dz_rq a263 24 4 0 3) (hr_a283 : dz_pm a283 1) (hr_a293 : dz_rg a293 0 0 23) (k : Nat) (ih : ∀ j9, j9 < k → p237_X6_addLast_g41 fu c248_groups c248_pots a263 a283 a293 a299 j9) : ∀ (v3 : Int64) (v5 : Int32) (v6 : Int32) (v7 : Int32) (v8 : Int64) (v10 : Int32) (c313_rows : Int64) (a314 : Nat → Int64) (a315 : Nat → Int64), v5.toInt ≤ 1024 → 0 ≤ v5.toInt → v6.toInt ≤ 0 → 0 ≤ v6.toInt → v7.toInt ≤ 0 → 0 ≤ v7.toInt → v10.toInt ≤ 4 → 0 ≤ v10.toInt → 0 + 0 + (4 - v10.toInt) * 312 + 8 ≤ ((k : Nat) : Int) → dz_T ((F237_X6_addLast fu c248_groups c248_pots a263 a283 a293 a299 k).1 v3 v5 v6 v7 v8 v10 c313_rows a314 a315) (fun r => True) := by
  intro v3 v5 v6 v7 v8 v10 c313_rows a314 a315 i0 i1 i2 i3 i4 i5 i6 i7 hm
  obtain ⟨k0, rfl⟩ : ∃ x, k = x + 1 := ⟨k - 1, by omega⟩
  show dz_T (s237_X6_addLast_1 fu c248_groups c248_pots a263 a283 a293 a299 (F237_X6_addLast fu c248_groups c248_pots a263 a283 a293 a299 k0).2.1  v3 v5 v6 v7 v8 v10 c313_rows a314 a315) _
  unfold s237_X6_addLast_1
  refine dz_Tle (fun h1 => ?_) (fun h1 => ?_)
  · skip
    refine dz_Tb (t208_X6_addAhead_g41 fu hfu _ _ _ _ _ _ _ _ _ p0 p1 i3 (by first | assumption | omega) (hr_a263) (hr_a283) (dz_rgz (by omega))) (fun r1 _ => ?_)
    exact dz_Ts trivial
  · skip
    have e2 := dz_add (a := v5) (b := v10) (by omega) (by omega)
    refine dz_Tin (by omega) (by omega) ?_
    have e3 := dz_l0
    exact (ih k0 (by omega)).2.1 v3 v5 v6 v7 (v8 + (a299 (v5 + v10).toNatClampNeg)) v10 (0 : Int32) c313_rows a314 a315 i0 i1 i2 i3 i4 i5 (by first | assumption | omega) i7 (by omega) (by omega) (by omega)
set_option maxHeartbeats 1000000 in
set_option maxRecDepth 10000 in
theorem t237_X6_addLast_h2_g41 (fu : Nat) (hfu : 1000000000000 ≤ fu) (c248_groups : Int32) (c248_pots : Int32) (a263 : Nat → Int32) (a283 : Nat → Int32) (a293 : Nat → Int32) (a299 : Nat → Int64) (p0 : c248_groups.toInt ≤ 4) (p1 : 4 ≤ c248_groups.toInt) (p2 : c248_pots.toInt ≤ 1) (p3 : 1 ≤ c248_pots.toInt) (p4 : 1 ≤ c248_pots.toInt) (hr_a263 : dz_rq a263 24 4 0 3) (hr_a283 : dz_pm a283 1) (hr_a293 : dz_rg a293 0 0 23) (k : Nat) (ih : ∀ j9, j9 < k → p237_X6_addLast_g41 fu c248_groups c248_pots a263 a283 a293 a299 j9) : ∀ (v3 : Int64) (v5 : Int32) (v6 : Int32) (v7 : Int32) (v8 : Int64) (v10 : Int32) (v11 : Int32) (c313_rows : Int64) (a314 : Nat → Int64) (a315 : Nat → Int64), v5.toInt ≤ 1024 → 0 ≤ v5.toInt → v6.toInt ≤ 0 → 0 ≤ v6.toInt → v7.toInt ≤ 0 → 0 ≤ v7.toInt → v10.toInt ≤ 3 → 0 ≤ v10.toInt → v11.toInt ≤ 4 → 0 ≤ v11.toInt → 0 + 0 + ((4 - v10.toInt) - 1) * 312 + 0 + (4 - v11.toInt) * 56 + 16 ≤ ((k : Nat) : Int) → dz_T ((F237_X6_addLast fu c248_groups c248_pots a263 a283 a293 a299 k).2.1 v3 v5 v6 v7 v8 v10 v11 c313_rows a314 a315) (fun r => True) := by
  intro v3 v5 v6 v7 v8 v10 v11 c313_rows a314 a315 i0 i1 i2 i3 i4 i5 i6 i7 i8 i9 hm
  obtain ⟨k0, rfl⟩ : ∃ x, k = x + 1 := ⟨k - 1, by omega⟩
  show dz_T (s237_X6_addLast_2 fu c248_groups c248_pots a263 a283 a293 a299 (F237_X6_addLast fu c248_groups c248_pots a263 a283 a293 a299 k0).1 (F237_X6_addLast fu c248_groups c248_pots a263 a283 a293 a299 k0).2.2.1 (F237_X6_addLast fu c248_groups c248_pots a263 a283 a293 a299 k0).2.2.2  v3 v5 v6 v7 v8 v10 v11 c313_rows a314 a315) _
  unfold s237_X6_addLast_2
  refine dz_Tle (fun h1 => ?_) (fun h1 => ?_)
  · skip
    have e2 := dz_l1
    have e3 := dz_add (a := v10) (b := (1 : Int32)) (by omega) (by omega)
    exact (ih k0 (by omega)).1 v3 v5 v6 v7 v8 (v10 + (1 : Int32)) c313_rows a314 a315 i0 i1 i2 i3 i4 i5 (by omega) (by omega) (by omega)
  · skip
    have e4 := dz_l4
    have e5 := dz_mulr (a := v11) (b := (4 : Int32)) 4 (by omega) (by omega) (by omega)
    have e6 := dz_add (a := v5) (b := (v11 * (4 : Int32))) (by omega) (by omega)
    have e7 := dz_add (a := (v5 + (v11 * (4 : Int32)))) (b := v10) (by omega) (by omega)
    refine dz_Tin (by omega) (by omega) ?_
    have e8 := dz_l0
    refine dz_Teq (fun h9 => ?_) (fun h9 => ?_)
    · skip
      obtain ⟨k1, rfl⟩ : ∃ x, k0 = x + 1 := ⟨k0 - 1, by omega⟩
      show dz_T (s237_X6_addLast_3 fu c248_groups c248_pots a263 a283 a293 a299 (F237_X6_addLast fu c248_groups c248_pots a263 a283 a293 a299 k1).2.1 v3 v5 v6 v7 v8 v10 v11 c313_rows a314 a315) _
      unfold s237_X6_addLast_3
      have e10 := dz_l1
      have e11 := dz_add (a := v11) (b := (1 : Int32)) (by omega) (by omega)
      exact (ih k1 (by omega)).2.1 v3 v5 v6 v7 v8 v10 (v11 + (1 : Int32)) c313_rows a314 a315 i0 i1 i2 i3 i4 i5 i6 i7 (by omega) (by omega) (by omega)
    · skip
      have e12 := dz_add (a := v7) (b := v11) (by omega) (by omega)
      have e13 := dz_mulr (a := (v7 + v11)) (b := (4 : Int32)) 4 (by omega) (by omega) (by omega)
      have e14 := dz_add (a := ((v7 + v11) * (4 : Int32))) (b := v10) (by omega) (by omega)
      refine dz_Tin (by omega) (by omega) ?_
      refine dz_Tin (by omega) (by omega) ?_
      exact (ih k0 (by omega)).2.2 v3 v5 v6 v7 v8 v10 v11 (v3 * (a299 ((v5 + (v11 * (4 : Int32))) + v10).toNatClampNeg)) (0 : Int32) c313_rows a314 (vp_updL a315 (((v7 + v11) * (4 : Int32)) + v10).toNatClampNeg ((a315 (((v7 + v11) * (4 : Int32)) + v10).toNatClampNeg) + (v3 * (a299 ((v5 + (v11 * (4 : Int32))) + v10).toNatClampNeg)))) i0 i1 i2 i3 i4 i5 i6 i7 (by first | assumption | omega) i9 (by omega) (by omega) (by omega)
set_option maxHeartbeats 1000000 in
set_option maxRecDepth 10000 in
theorem t237_X6_addLast_h4_g41 (fu : Nat) (hfu : 1000000000000 ≤ fu) (c248_groups : Int32) (c248_pots : Int32) (a263 : Nat → Int32) (a283 : Nat → Int32) (a293 : Nat → Int32) (a299 : Nat → Int64) (p0 : c248_groups.toInt ≤ 4) (p1 : 4 ≤ c248_groups.toInt) (p2 : c248_pots.toInt ≤ 1) (p3 : 1 ≤ c248_pots.toInt) (p4 : 1 ≤ c248_pots.toInt) (hr_a263 : dz_rq a263 24 4 0 3) (hr_a283 : dz_pm a283 1) (hr_a293 : dz_rg a293 0 0 23) (k : Nat) (ih : ∀ j9, j9 < k → p237_X6_addLast_g41 fu c248_groups c248_pots a263 a283 a293 a299 j9) : ∀ (v3 : Int64) (v5 : Int32) (v6 : Int32) (v7 : Int32) (v8 : Int64) (v10 : Int32) (v11 : Int32) (v12 : Int64) (v14 : Int32) (c313_rows : Int64) (a314 : Nat → Int64) (a315 : Nat → Int64), v5.toInt ≤ 1024 → 0 ≤ v5.toInt → v6.toInt ≤ 0 → 0 ≤ v6.toInt → v7.toInt ≤ 0 → 0 ≤ v7.toInt → v10.toInt ≤ 3 → 0 ≤ v10.toInt → v11.toInt ≤ 3 → 0 ≤ v11.toInt → v14.toInt ≤ 0 → 0 ≤ v14.toInt → 0 + 0 + ((4 - v10.toInt) - 1) * 312 + 0 + ((4 - v11.toInt) - 1) * 56 + 0 + (0 - v14.toInt) * 16 + 24 ≤ ((k : Nat) : Int) → dz_T ((F237_X6_addLast fu c248_groups c248_pots a263 a283 a293 a299 k).2.2.2 v3 v5 v6 v7 v8 v10 v11 v12 v14 c313_rows a314 a315) (fun r => True) := by
  intro v3 v5 v6 v7 v8 v10 v11 v12 v14 c313_rows a314 a315 i0 i1 i2 i3 i4 i5 i6 i7 i8 i9 i10 i11 hm
  obtain ⟨k0, rfl⟩ : ∃ x, k = x + 1 := ⟨k - 1, by omega⟩
  show dz_T (s237_X6_addLast_4 fu c248_groups c248_pots a263 a283 a293 a299 (F237_X6_addLast fu c248_groups c248_pots a263 a283 a293 a299 k0).2.2.1 (F237_X6_addLast fu c248_groups c248_pots a263 a283 a293 a299 k0).2.2.2  v3 v5 v6 v7 v8 v10 v11 v12 v14 c313_rows a314 a315) _
  unfold s237_X6_addLast_4
  refine dz_Tle (fun h1 => ?_) (fun h1 => ?_)
  · skip
    obtain ⟨k1, rfl⟩ : ∃ x, k0 = x + 1 := ⟨k0 - 1, by omega⟩
    show dz_T (s237_X6_addLast_3 fu c248_groups c248_pots a263 a283 a293 a299 (F237_X6_addLast fu c248_groups c248_pots a263 a283 a293 a299 k1).2.1 v3 v5 v6 v7 v8 v10 v11 c313_rows a314 a315) _
    unfold s237_X6_addLast_3
    have e2 := dz_l1
    have e3 := dz_add (a := v11) (b := (1 : Int32)) (by omega) (by omega)
    exact (ih k1 (by omega)).2.1 v3 v5 v6 v7 v8 v10 (v11 + (1 : Int32)) c313_rows a314 a315 i0 i1 i2 i3 i4 i5 i6 i7 (by omega) (by omega) (by omega)
  · skip
    exfalso; omega
theorem t237_X6_addLast_I_g41 (fu : Nat) (hfu : 1000000000000 ≤ fu) (c248_groups : Int32) (c248_pots : Int32) (a263 : Nat → Int32) (a283 : Nat → Int32) (a293 : Nat → Int32) (a299 : Nat → Int64) (p0 : c248_groups.toInt ≤ 4) (p1 : 4 ≤ c248_groups.toInt) (p2 : c248_pots.toInt ≤ 1) (p3 : 1 ≤ c248_pots.toInt) (p4 : 1 ≤ c248_pots.toInt) (hr_a263 : dz_rq a263 24 4 0 3) (hr_a283 : dz_pm a283 1) (hr_a293 : dz_rg a293 0 0 23) (k : Nat) : p237_X6_addLast_g41 fu c248_groups c248_pots a263 a283 a293 a299 k := by
  induction k using Nat.strongRecOn with
  | _ k ih => exact ⟨t237_X6_addLast_h1_g41 fu hfu c248_groups c248_pots a263 a283 a293 a299 p0 p1 p2 p3 p4 hr_a263 hr_a283 hr_a293 k ih, t237_X6_addLast_h2_g41 fu hfu c248_groups c248_pots a263 a283 a293 a299 p0 p1 p2 p3 p4 hr_a263 hr_a283 hr_a293 k ih, t237_X6_addLast_h4_g41 fu hfu c248_groups c248_pots a263 a283 a293 a299 p0 p1 p2 p3 p4 hr_a263 hr_a283 hr_a293 k ih⟩
set_option maxHeartbeats 1000000 in
set_option maxRecDepth 10000 in
theorem t237_X6_addLast_E_g41 (fu : Nat) (hfu : 1000000000000 ≤ fu) (c248_groups : Int32) (c248_pots : Int32) (a263 : Nat → Int32) (a283 : Nat → Int32) (a293 : Nat → Int32) (a299 : Nat → Int64) (v3 : Int64) (v5 : Int32) (c313_rows : Int64) (a314 : Nat → Int64) (a315 : Nat → Int64) (p0 : c248_groups.toInt ≤ 4) (p1 : 4 ≤ c248_groups.toInt) (p2 : c248_pots.toInt ≤ 1) (p3 : 1 ≤ c248_pots.toInt) (p4 : 0 ≤ v5.toInt) (p5 : v5.toInt ≤ 1024) (p6 : 1 ≤ c248_pots.toInt) (hr_a263 : dz_rq a263 24 4 0 3) (hr_a283 : dz_pm a283 1) (hr_a293 : dz_rg a293 0 0 23) (kv : Nat) (hkv : 1000000000000 ≤ kv) : dz_T (s237_X6_addLast_0 fu c248_groups c248_pots a263 a283 a293 a299 (F237_X6_addLast fu c248_groups c248_pots a263 a283 a293 a299 kv).1  v3 v5 c313_rows a314 a315) (fun r => True) := by
  unfold s237_X6_addLast_0
  have e1 := dz_l1
  have e2 := dz_sub (a := c248_pots) (b := (1 : Int32)) (by omega) (by omega)
  refine dz_Tin (by omega) (by omega) ?_
  have e3 := dz_pmat (hr_a283) (i := (c248_pots - (1 : Int32))) (by decide) (by omega) (by omega)
  have e4 := dz_mull (a := (a283 (c248_pots - (1 : Int32)).toNatClampNeg)) (b := c248_groups) 0 (by omega) (by omega) (by omega)
  have e5 := dz_l0
  exact (t237_X6_addLast_I_g41 fu hfu c248_groups c248_pots a263 a283 a293 a299 p0 p1 p2 p3 p6 hr_a263 hr_a283 hr_a293 kv).1 v3 v5 (c248_pots - (1 : Int32)) ((a283 (c248_pots - (1 : Int32)).toNatClampNeg) * c248_groups) (0 : Int64) (0 : Int32) c313_rows a314 a315 p5 p4 (by omega) (by omega) (by omega) (by omega) (by omega) (by omega) (by omega)
theorem t237_X6_addLast_g41 (fu : Nat) (hfu : 1000000000000 ≤ fu) (c248_groups : Int32) (c248_pots : Int32) (a263 : Nat → Int32) (a283 : Nat → Int32) (a293 : Nat → Int32) (a299 : Nat → Int64) (v3 : Int64) (v5 : Int32) (c313_rows : Int64) (a314 : Nat → Int64) (a315 : Nat → Int64) (p0 : c248_groups.toInt ≤ 4) (p1 : 4 ≤ c248_groups.toInt) (p2 : c248_pots.toInt ≤ 1) (p3 : 1 ≤ c248_pots.toInt) (p4 : 0 ≤ v5.toInt) (p5 : v5.toInt ≤ 1024) (p6 : 1 ≤ c248_pots.toInt) (hr_a263 : dz_rq a263 24 4 0 3) (hr_a283 : dz_pm a283 1) (hr_a293 : dz_rg a293 0 0 23) : dz_T (f237_X6_addLast fu c248_groups c248_pots a263 a283 a293 a299 v3 v5 c313_rows a314 a315) (fun r => True) :=
  t237_X6_addLast_E_g41 fu hfu c248_groups c248_pots a263 a283 a293 a299 v3 v5 c313_rows a314 a315 p0 p1 p2 p3 p4 p5 p6 hr_a263 hr_a283 hr_a293 fu hfu
abbrev p237_X6_addLast_g42 (fu : Nat) (c248_groups : Int32) (c248_pots : Int32) (a263 : Nat → Int32) (a283 : Nat → Int32) (a293 : Nat → Int32) (a299 : Nat → Int64) (k : Nat) : Prop :=
  (∀ (v3 : Int64) (v5 : Int32) (v6 : Int32) (v7 : Int32) (v8 : Int64) (v10 : Int32) (c313_rows : Int64) (a314 : Nat → Int64) (a315 : Nat → Int64), v5.toInt ≤ 1024 → 0 ≤ v5.toInt → v6.toInt ≤ 1 → 1 ≤ v6.toInt → v7.toInt ≤ 4 → 0 ≤ v7.toInt → v10.toInt ≤ 4 → 0 ≤ v10.toInt → 0 + 0 + (4 - v10.toInt) * 392 + 8 ≤ ((k : Nat) : Int) → dz_T ((F237_X6_addLast fu c248_groups c248_pots a263 a283 a293 a299 k).1 v3 v5 v6 v7 v8 v10 c313_rows a314 a315) (fun r => True)) ∧ (∀ (v3 : Int64) (v5 : Int32) (v6 : Int32) (v7 : Int32) (v8 : Int64) (v10 : Int32) (v11 : Int32) (c313_rows : Int64) (a314 : Nat → Int64) (a315 : Nat → Int64), v5.toInt ≤ 1024 → 0 ≤ v5.toInt → v6.toInt ≤ 1 → 1 ≤ v6.toInt → v7.toInt ≤ 4 → 0 ≤ v7.toInt → v10.toInt ≤ 3 → 0 ≤ v10.toInt → v11.toInt ≤ 4 → 0 ≤ v11.toInt → 0 + 0 + ((4 - v10.toInt) - 1) * 392 + 0 + (4 - v11.toInt) * 72 + 16 ≤ ((k : Nat) : Int) → dz_T ((F237_X6_addLast fu c248_groups c248_pots a263 a283 a293 a299 k).2.1 v3 v5 v6 v7 v8 v10 v11 c313_rows a314 a315) (fun r => True)) ∧ (∀ (v3 : Int64) (v5 : Int32) (v6 : Int32) (v7 : Int32) (v8 : Int64) (v10 : Int32) (v11 : Int32) (v12 : Int64) (v14 : Int32) (c313_rows : Int64) (a314 : Nat → Int64) (a315 : Nat → Int64), v5.toInt ≤ 1024 → 0 ≤ v5.toInt → v6.toInt ≤ 1 → 1 ≤ v6.toInt → v7.toInt ≤ 4 → 0 ≤ v7.toInt → v10.toInt ≤ 3 → 0 ≤ v10.toInt → v11.toInt ≤ 3 → 0 ≤ v11.toInt → v14.toInt ≤ 1 → 0 ≤ v14.toInt → 0 + 0 + ((4 - v10.toInt) - 1) * 392 + 0 + ((4 - v11.toInt) - 1) * 72 + 0 + (1 - v14.toInt) * 16 + 24 ≤ ((k : Nat) : Int) → dz_T ((F237_X6_addLast fu c248_groups c248_pots a263 a283 a293 a299 k).2.2.2 v3 v5 v6 v7 v8 v10 v11 v12 v14 c313_rows a314 a315) (fun r => True))
set_option maxHeartbeats 1000000 in
set_option maxRecDepth 10000 in
theorem t237_X6_addLast_h1_g42 (fu : Nat) (hfu : 1000000000000 ≤ fu) (c248_groups : Int32) (c248_pots : Int32) (a263 : Nat → Int32) (a283 : Nat → Int32) (a293 : Nat → Int32) (a299 : Nat → Int64) (p0 : c248_groups.toInt ≤ 4) (p1 : 4 ≤ c248_groups.toInt) (p2 : c248_pots.toInt ≤ 2) (p3 : 2 ≤ c248_pots.toInt) (p4 : 1 ≤ c248_pots.toInt) (hr_a263 : dz_rq a263 24 4 0 3) (hr_a283 : dz_pm a283 2) (hr_a293 : dz_rg a293 1 0 23) (k : Nat) (ih : ∀ j9, j9 < k → p237_X6_addLast_g42 fu c248_groups c248_pots a263 a283 a293 a299 j9) : ∀ (v3 : Int64) (v5 : Int32) (v6 : Int32) (v7 : Int32) (v8 : Int64) (v10 : Int32) (c313_rows : Int64) (a314 : Nat → Int64) (a315 : Nat → Int64), v5.toInt ≤ 1024 → 0 ≤ v5.toInt → v6.toInt ≤ 1 → 1 ≤ v6.toInt → v7.toInt ≤ 4 → 0 ≤ v7.toInt → v10.toInt ≤ 4 → 0 ≤ v10.toInt → 0 + 0 + (4 - v10.toInt) * 392 + 8 ≤ ((k : Nat) : Int) → dz_T ((F237_X6_addLast fu c248_groups c248_pots a263 a283 a293 a299 k).1 v3 v5 v6 v7 v8 v10 c313_rows a314 a315) (fun r => True) := by
  intro v3 v5 v6 v7 v8 v10 c313_rows a314 a315 i0 i1 i2 i3 i4 i5 i6 i7 hm
  obtain ⟨k0, rfl⟩ : ∃ x, k = x + 1 := ⟨k - 1, by omega⟩
  show dz_T (s237_X6_addLast_1 fu c248_groups c248_pots a263 a283 a293 a299 (F237_X6_addLast fu c248_groups c248_pots a263 a283 a293 a299 k0).2.1  v3 v5 v6 v7 v8 v10 c313_rows a314 a315) _
  unfold s237_X6_addLast_1
  refine dz_Tle (fun h1 => ?_) (fun h1 => ?_)
  · skip
    refine dz_Tb (t208_X6_addAhead_g42 fu hfu _ _ _ _ _ _ _ _ _ p0 p1 (by first | assumption | omega) (by first | assumption | omega) (hr_a263) (hr_a283) (dz_rgs (hr_a293) (by omega))) (fun r1 _ => ?_)
    exact dz_Ts trivial
  · skip
    have e2 := dz_add (a := v5) (b := v10) (by omega) (by omega)
    refine dz_Tin (by omega) (by omega) ?_
    have e3 := dz_l0
    exact (ih k0 (by omega)).2.1 v3 v5 v6 v7 (v8 + (a299 (v5 + v10).toNatClampNeg)) v10 (0 : Int32) c313_rows a314 a315 i0 i1 i2 i3 i4 i5 (by first | assumption | omega) i7 (by omega) (by omega) (by omega)
set_option maxHeartbeats 1000000 in
set_option maxRecDepth 10000 in
theorem t237_X6_addLast_h2_g42 (fu : Nat) (hfu : 1000000000000 ≤ fu) (c248_groups : Int32) (c248_pots : Int32) (a263 : Nat → Int32) (a283 : Nat → Int32) (a293 : Nat → Int32) (a299 : Nat → Int64) (p0 : c248_groups.toInt ≤ 4) (p1 : 4 ≤ c248_groups.toInt) (p2 : c248_pots.toInt ≤ 2) (p3 : 2 ≤ c248_pots.toInt) (p4 : 1 ≤ c248_pots.toInt) (hr_a263 : dz_rq a263 24 4 0 3) (hr_a283 : dz_pm a283 2) (hr_a293 : dz_rg a293 1 0 23) (k : Nat) (ih : ∀ j9, j9 < k → p237_X6_addLast_g42 fu c248_groups c248_pots a263 a283 a293 a299 j9) : ∀ (v3 : Int64) (v5 : Int32) (v6 : Int32) (v7 : Int32) (v8 : Int64) (v10 : Int32) (v11 : Int32) (c313_rows : Int64) (a314 : Nat → Int64) (a315 : Nat → Int64), v5.toInt ≤ 1024 → 0 ≤ v5.toInt → v6.toInt ≤ 1 → 1 ≤ v6.toInt → v7.toInt ≤ 4 → 0 ≤ v7.toInt → v10.toInt ≤ 3 → 0 ≤ v10.toInt → v11.toInt ≤ 4 → 0 ≤ v11.toInt → 0 + 0 + ((4 - v10.toInt) - 1) * 392 + 0 + (4 - v11.toInt) * 72 + 16 ≤ ((k : Nat) : Int) → dz_T ((F237_X6_addLast fu c248_groups c248_pots a263 a283 a293 a299 k).2.1 v3 v5 v6 v7 v8 v10 v11 c313_rows a314 a315) (fun r => True) := by
  intro v3 v5 v6 v7 v8 v10 v11 c313_rows a314 a315 i0 i1 i2 i3 i4 i5 i6 i7 i8 i9 hm
  obtain ⟨k0, rfl⟩ : ∃ x, k = x + 1 := ⟨k - 1, by omega⟩
  show dz_T (s237_X6_addLast_2 fu c248_groups c248_pots a263 a283 a293 a299 (F237_X6_addLast fu c248_groups c248_pots a263 a283 a293 a299 k0).1 (F237_X6_addLast fu c248_groups c248_pots a263 a283 a293 a299 k0).2.2.1 (F237_X6_addLast fu c248_groups c248_pots a263 a283 a293 a299 k0).2.2.2  v3 v5 v6 v7 v8 v10 v11 c313_rows a314 a315) _
  unfold s237_X6_addLast_2
  refine dz_Tle (fun h1 => ?_) (fun h1 => ?_)
  · skip
    have e2 := dz_l1
    have e3 := dz_add (a := v10) (b := (1 : Int32)) (by omega) (by omega)
    exact (ih k0 (by omega)).1 v3 v5 v6 v7 v8 (v10 + (1 : Int32)) c313_rows a314 a315 i0 i1 i2 i3 i4 i5 (by omega) (by omega) (by omega)
  · skip
    have e4 := dz_l4
    have e5 := dz_mulr (a := v11) (b := (4 : Int32)) 4 (by omega) (by omega) (by omega)
    have e6 := dz_add (a := v5) (b := (v11 * (4 : Int32))) (by omega) (by omega)
    have e7 := dz_add (a := (v5 + (v11 * (4 : Int32)))) (b := v10) (by omega) (by omega)
    refine dz_Tin (by omega) (by omega) ?_
    have e8 := dz_l0
    refine dz_Teq (fun h9 => ?_) (fun h9 => ?_)
    · skip
      obtain ⟨k1, rfl⟩ : ∃ x, k0 = x + 1 := ⟨k0 - 1, by omega⟩
      show dz_T (s237_X6_addLast_3 fu c248_groups c248_pots a263 a283 a293 a299 (F237_X6_addLast fu c248_groups c248_pots a263 a283 a293 a299 k1).2.1 v3 v5 v6 v7 v8 v10 v11 c313_rows a314 a315) _
      unfold s237_X6_addLast_3
      have e10 := dz_l1
      have e11 := dz_add (a := v11) (b := (1 : Int32)) (by omega) (by omega)
      exact (ih k1 (by omega)).2.1 v3 v5 v6 v7 v8 v10 (v11 + (1 : Int32)) c313_rows a314 a315 i0 i1 i2 i3 i4 i5 i6 i7 (by omega) (by omega) (by omega)
    · skip
      have e12 := dz_add (a := v7) (b := v11) (by omega) (by omega)
      have e13 := dz_mulr (a := (v7 + v11)) (b := (4 : Int32)) 4 (by omega) (by omega) (by omega)
      have e14 := dz_add (a := ((v7 + v11) * (4 : Int32))) (b := v10) (by omega) (by omega)
      refine dz_Tin (by omega) (by omega) ?_
      refine dz_Tin (by omega) (by omega) ?_
      exact (ih k0 (by omega)).2.2 v3 v5 v6 v7 v8 v10 v11 (v3 * (a299 ((v5 + (v11 * (4 : Int32))) + v10).toNatClampNeg)) (0 : Int32) c313_rows a314 (vp_updL a315 (((v7 + v11) * (4 : Int32)) + v10).toNatClampNeg ((a315 (((v7 + v11) * (4 : Int32)) + v10).toNatClampNeg) + (v3 * (a299 ((v5 + (v11 * (4 : Int32))) + v10).toNatClampNeg)))) i0 i1 i2 i3 i4 i5 i6 i7 (by first | assumption | omega) i9 (by omega) (by omega) (by omega)
set_option maxHeartbeats 1000000 in
set_option maxRecDepth 10000 in
theorem t237_X6_addLast_h4_g42 (fu : Nat) (hfu : 1000000000000 ≤ fu) (c248_groups : Int32) (c248_pots : Int32) (a263 : Nat → Int32) (a283 : Nat → Int32) (a293 : Nat → Int32) (a299 : Nat → Int64) (p0 : c248_groups.toInt ≤ 4) (p1 : 4 ≤ c248_groups.toInt) (p2 : c248_pots.toInt ≤ 2) (p3 : 2 ≤ c248_pots.toInt) (p4 : 1 ≤ c248_pots.toInt) (hr_a263 : dz_rq a263 24 4 0 3) (hr_a283 : dz_pm a283 2) (hr_a293 : dz_rg a293 1 0 23) (k : Nat) (ih : ∀ j9, j9 < k → p237_X6_addLast_g42 fu c248_groups c248_pots a263 a283 a293 a299 j9) : ∀ (v3 : Int64) (v5 : Int32) (v6 : Int32) (v7 : Int32) (v8 : Int64) (v10 : Int32) (v11 : Int32) (v12 : Int64) (v14 : Int32) (c313_rows : Int64) (a314 : Nat → Int64) (a315 : Nat → Int64), v5.toInt ≤ 1024 → 0 ≤ v5.toInt → v6.toInt ≤ 1 → 1 ≤ v6.toInt → v7.toInt ≤ 4 → 0 ≤ v7.toInt → v10.toInt ≤ 3 → 0 ≤ v10.toInt → v11.toInt ≤ 3 → 0 ≤ v11.toInt → v14.toInt ≤ 1 → 0 ≤ v14.toInt → 0 + 0 + ((4 - v10.toInt) - 1) * 392 + 0 + ((4 - v11.toInt) - 1) * 72 + 0 + (1 - v14.toInt) * 16 + 24 ≤ ((k : Nat) : Int) → dz_T ((F237_X6_addLast fu c248_groups c248_pots a263 a283 a293 a299 k).2.2.2 v3 v5 v6 v7 v8 v10 v11 v12 v14 c313_rows a314 a315) (fun r => True) := by
  intro v3 v5 v6 v7 v8 v10 v11 v12 v14 c313_rows a314 a315 i0 i1 i2 i3 i4 i5 i6 i7 i8 i9 i10 i11 hm
  obtain ⟨k0, rfl⟩ : ∃ x, k = x + 1 := ⟨k - 1, by omega⟩
  show dz_T (s237_X6_addLast_4 fu c248_groups c248_pots a263 a283 a293 a299 (F237_X6_addLast fu c248_groups c248_pots a263 a283 a293 a299 k0).2.2.1 (F237_X6_addLast fu c248_groups c248_pots a263 a283 a293 a299 k0).2.2.2  v3 v5 v6 v7 v8 v10 v11 v12 v14 c313_rows a314 a315) _
  unfold s237_X6_addLast_4
  refine dz_Tle (fun h1 => ?_) (fun h1 => ?_)
  · skip
    obtain ⟨k1, rfl⟩ : ∃ x, k0 = x + 1 := ⟨k0 - 1, by omega⟩
    show dz_T (s237_X6_addLast_3 fu c248_groups c248_pots a263 a283 a293 a299 (F237_X6_addLast fu c248_groups c248_pots a263 a283 a293 a299 k1).2.1 v3 v5 v6 v7 v8 v10 v11 c313_rows a314 a315) _
    unfold s237_X6_addLast_3
    have e2 := dz_l1
    have e3 := dz_add (a := v11) (b := (1 : Int32)) (by omega) (by omega)
    exact (ih k1 (by omega)).2.1 v3 v5 v6 v7 v8 v10 (v11 + (1 : Int32)) c313_rows a314 a315 i0 i1 i2 i3 i4 i5 i6 i7 (by omega) (by omega) (by omega)
  · skip
    refine dz_Tin (by omega) (by omega) ?_
    have e4 := dz_rgat (hr_a293) (i := v14) (by omega) (by omega)
    have e5 := dz_l4
    have e6 := dz_mulr (a := (a293 v14.toNatClampNeg)) (b := (4 : Int32)) 4 (by omega) (by omega) (by omega)
    have e7 := dz_add (a := ((a293 v14.toNatClampNeg) * (4 : Int32))) (b := v10) (by omega) (by omega)
    refine dz_Tin (by omega) (by omega) ?_
    refine dz_Tin (by omega) (by omega) ?_
    have e8 := dz_pmat (hr_a283) (i := v14) (by decide) (by omega) (by omega)
    have e9 := dz_mulr (a := (a283 v14.toNatClampNeg)) (b := c248_groups) 4 (by omega) (by omega) (by omega)
    have e10 := dz_rqat (hr_a263) (x := (a293 v14.toNatClampNeg)) (y := v10) (by omega) (by omega) (by omega) (by omega) (by omega)
    have e11 := dz_add (a := ((a283 v14.toNatClampNeg) * c248_groups)) (b := (a263 (((a293 v14.toNatClampNeg) * (4 : Int32)) + v10).toNatClampNeg)) (by omega) (by omega)
    have e12 := dz_l12
    have e13 := dz_mulr (a := (((a283 v14.toNatClampNeg) * c248_groups) + (a263 (((a293 v14.toNatClampNeg) * (4 : Int32)) + v10).toNatClampNeg))) (b := (12 : Int32)) 12 (by omega) (by omega) (by omega)
    have e14 := dz_add (a := ((((a283 v14.toNatClampNeg) * c248_groups) + (a263 (((a293 v14.toNatClampNeg) * (4 : Int32)) + v10).toNatClampNeg)) * (12 : Int32))) (b := v7) (by omega) (by omega)
    have e15 := dz_add (a := (((((a283 v14.toNatClampNeg) * c248_groups) + (a263 (((a293 v14.toNatClampNeg) * (4 : Int32)) + v10).toNatClampNeg)) * (12 : Int32)) + v7)) (b := v11) (by omega) (by omega)
    refine dz_Tin (by omega) (by omega) ?_
    refine dz_Tin (by omega) (by omega) ?_
    have e16 := dz_l1
    have e17 := dz_add (a := v14) (b := (1 : Int32)) (by omega) (by omega)
    exact (ih k0 (by omega)).2.2 v3 v5 v6 v7 v8 v10 v11 v12 (v14 + (1 : Int32)) c313_rows (vp_updL a314 ((((((a283 v14.toNatClampNeg) * c248_groups) + (a263 (((a293 v14.toNatClampNeg) * (4 : Int32)) + v10).toNatClampNeg)) * (12 : Int32)) + v7) + v11).toNatClampNeg ((a314 ((((((a283 v14.toNatClampNeg) * c248_groups) + (a263 (((a293 v14.toNatClampNeg) * (4 : Int32)) + v10).toNatClampNeg)) * (12 : Int32)) + v7) + v11).toNatClampNeg) + v12)) a315 i0 i1 i2 i3 i4 i5 i6 i7 i8 i9 (by omega) (by omega) (by omega)
theorem t237_X6_addLast_I_g42 (fu : Nat) (hfu : 1000000000000 ≤ fu) (c248_groups : Int32) (c248_pots : Int32) (a263 : Nat → Int32) (a283 : Nat → Int32) (a293 : Nat → Int32) (a299 : Nat → Int64) (p0 : c248_groups.toInt ≤ 4) (p1 : 4 ≤ c248_groups.toInt) (p2 : c248_pots.toInt ≤ 2) (p3 : 2 ≤ c248_pots.toInt) (p4 : 1 ≤ c248_pots.toInt) (hr_a263 : dz_rq a263 24 4 0 3) (hr_a283 : dz_pm a283 2) (hr_a293 : dz_rg a293 1 0 23) (k : Nat) : p237_X6_addLast_g42 fu c248_groups c248_pots a263 a283 a293 a299 k := by
  induction k using Nat.strongRecOn with
  | _ k ih => exact ⟨t237_X6_addLast_h1_g42 fu hfu c248_groups c248_pots a263 a283 a293 a299 p0 p1 p2 p3 p4 hr_a263 hr_a283 hr_a293 k ih, t237_X6_addLast_h2_g42 fu hfu c248_groups c248_pots a263 a283 a293 a299 p0 p1 p2 p3 p4 hr_a263 hr_a283 hr_a293 k ih, t237_X6_addLast_h4_g42 fu hfu c248_groups c248_pots a263 a283 a293 a299 p0 p1 p2 p3 p4 hr_a263 hr_a283 hr_a293 k ih⟩
set_option maxHeartbeats 1000000 in
set_option maxRecDepth 10000 in
theorem t237_X6_addLast_E_g42 (fu : Nat) (hfu : 1000000000000 ≤ fu) (c248_groups : Int32) (c248_pots : Int32) (a263 : Nat → Int32) (a283 : Nat → Int32) (a293 : Nat → Int32) (a299 : Nat → Int64) (v3 : Int64) (v5 : Int32) (c313_rows : Int64) (a314 : Nat → Int64) (a315 : Nat → Int64) (p0 : c248_groups.toInt ≤ 4) (p1 : 4 ≤ c248_groups.toInt) (p2 : c248_pots.toInt ≤ 2) (p3 : 2 ≤ c248_pots.toInt) (p4 : 0 ≤ v5.toInt) (p5 : v5.toInt ≤ 1024) (p6 : 1 ≤ c248_pots.toInt) (hr_a263 : dz_rq a263 24 4 0 3) (hr_a283 : dz_pm a283 2) (hr_a293 : dz_rg a293 1 0 23) (kv : Nat) (hkv : 1000000000000 ≤ kv) : dz_T (s237_X6_addLast_0 fu c248_groups c248_pots a263 a283 a293 a299 (F237_X6_addLast fu c248_groups c248_pots a263 a283 a293 a299 kv).1  v3 v5 c313_rows a314 a315) (fun r => True) := by
  unfold s237_X6_addLast_0
  have e1 := dz_l1
  have e2 := dz_sub (a := c248_pots) (b := (1 : Int32)) (by omega) (by omega)
  refine dz_Tin (by omega) (by omega) ?_
  have e3 := dz_pmat (hr_a283) (i := (c248_pots - (1 : Int32))) (by decide) (by omega) (by omega)
  have e4 := dz_mulr (a := (a283 (c248_pots - (1 : Int32)).toNatClampNeg)) (b := c248_groups) 4 (by omega) (by omega) (by omega)
  have e5 := dz_l0
  exact (t237_X6_addLast_I_g42 fu hfu c248_groups c248_pots a263 a283 a293 a299 p0 p1 p2 p3 p6 hr_a263 hr_a283 hr_a293 kv).1 v3 v5 (c248_pots - (1 : Int32)) ((a283 (c248_pots - (1 : Int32)).toNatClampNeg) * c248_groups) (0 : Int64) (0 : Int32) c313_rows a314 a315 p5 p4 (by omega) (by omega) (by omega) (by omega) (by omega) (by omega) (by omega)
theorem t237_X6_addLast_g42 (fu : Nat) (hfu : 1000000000000 ≤ fu) (c248_groups : Int32) (c248_pots : Int32) (a263 : Nat → Int32) (a283 : Nat → Int32) (a293 : Nat → Int32) (a299 : Nat → Int64) (v3 : Int64) (v5 : Int32) (c313_rows : Int64) (a314 : Nat → Int64) (a315 : Nat → Int64) (p0 : c248_groups.toInt ≤ 4) (p1 : 4 ≤ c248_groups.toInt) (p2 : c248_pots.toInt ≤ 2) (p3 : 2 ≤ c248_pots.toInt) (p4 : 0 ≤ v5.toInt) (p5 : v5.toInt ≤ 1024) (p6 : 1 ≤ c248_pots.toInt) (hr_a263 : dz_rq a263 24 4 0 3) (hr_a283 : dz_pm a283 2) (hr_a293 : dz_rg a293 1 0 23) : dz_T (f237_X6_addLast fu c248_groups c248_pots a263 a283 a293 a299 v3 v5 c313_rows a314 a315) (fun r => True) :=
  t237_X6_addLast_E_g42 fu hfu c248_groups c248_pots a263 a283 a293 a299 v3 v5 c313_rows a314 a315 p0 p1 p2 p3 p4 p5 p6 hr_a263 hr_a283 hr_a293 fu hfu
abbrev p237_X6_addLast_g43 (fu : Nat) (c248_groups : Int32) (c248_pots : Int32) (a263 : Nat → Int32) (a283 : Nat → Int32) (a293 : Nat → Int32) (a299 : Nat → Int64) (k : Nat) : Prop :=
  (∀ (v3 : Int64) (v5 : Int32) (v6 : Int32) (v7 : Int32) (v8 : Int64) (v10 : Int32) (c313_rows : Int64) (a314 : Nat → Int64) (a315 : Nat → Int64), v5.toInt ≤ 1024 → 0 ≤ v5.toInt → v6.toInt ≤ 2 → 2 ≤ v6.toInt → v7.toInt ≤ 8 → 0 ≤ v7.toInt → v10.toInt ≤ 4 → 0 ≤ v10.toInt → 0 + 0 + (4 - v10.toInt) * 472 + 8 ≤ ((k : Nat) : Int) → dz_T ((F237_X6_addLast fu c248_groups c248_pots a263 a283 a293 a299 k).1 v3 v5 v6 v7 v8 v10 c313_rows a314 a315) (fun r => True)) ∧ (∀ (v3 : Int64) (v5 : Int32) (v6 : Int32) (v7 : Int32) (v8 : Int64) (v10 : Int32) (v11 : Int32) (c313_rows : Int64) (a314 : Nat → Int64) (a315 : Nat → Int64), v5.toInt ≤ 1024 → 0 ≤ v5.toInt → v6.toInt ≤ 2 → 2 ≤ v6.toInt → v7.toInt ≤ 8 → 0 ≤ v7.toInt → v10.toInt ≤ 3 → 0 ≤ v10.toInt → v11.toInt ≤ 4 → 0 ≤ v11.toInt → 0 + 0 + ((4 - v10.toInt) - 1) * 472 + 0 + (4 - v11.toInt) * 88 + 16 ≤ ((k : Nat) : Int) → dz_T ((F237_X6_addLast fu c248_groups c248_pots a263 a283 a293 a299 k).2.1 v3 v5 v6 v7 v8 v10 v11 c313_rows a314 a315) (fun r => True)) ∧ (∀ (v3 : Int64) (v5 : Int32) (v6 : Int32) (v7 : Int32) (v8 : Int64) (v10 : Int32) (v11 : Int32) (v12 : Int64) (v14 : Int32) (c313_rows : Int64) (a314 : Nat → Int64) (a315 : Nat → Int64), v5.toInt ≤ 1024 → 0 ≤ v5.toInt → v6.toInt ≤ 2 → 2 ≤ v6.toInt → v7.toInt ≤ 8 → 0 ≤ v7.toInt → v10.toInt ≤ 3 → 0 ≤ v10.toInt → v11.toInt ≤ 3 → 0 ≤ v11.toInt → v14.toInt ≤ 2 → 0 ≤ v14.toInt → 0 + 0 + ((4 - v10.toInt) - 1) * 472 + 0 + ((4 - v11.toInt) - 1) * 88 + 0 + (2 - v14.toInt) * 16 + 24 ≤ ((k : Nat) : Int) → dz_T ((F237_X6_addLast fu c248_groups c248_pots a263 a283 a293 a299 k).2.2.2 v3 v5 v6 v7 v8 v10 v11 v12 v14 c313_rows a314 a315) (fun r => True))
set_option maxHeartbeats 1000000 in
set_option maxRecDepth 10000 in
theorem t237_X6_addLast_h1_g43 (fu : Nat) (hfu : 1000000000000 ≤ fu) (c248_groups : Int32) (c248_pots : Int32) (a263 : Nat → Int32) (a283 : Nat → Int32) (a293 : Nat → Int32) (a299 : Nat → Int64) (p0 : c248_groups.toInt ≤ 4) (p1 : 4 ≤ c248_groups.toInt) (p2 : c248_pots.toInt ≤ 3) (p3 : 3 ≤ c248_pots.toInt) (p4 : 1 ≤ c248_pots.toInt) (hr_a263 : dz_rq a263 24 4 0 3) (hr_a283 : dz_pm a283 3) (hr_a293 : dz_rg a293 2 0 23) (k : Nat) (ih : ∀ j9, j9 < k → p237_X6_addLast_g43 fu c248_groups c248_pots a263 a283 a293 a299 j9) : ∀ (v3 : Int64) (v5 : Int32) (v6 : Int32) (v7 : Int32) (v8 : Int64) (v10 : Int32) (c313_rows : Int64) (a314 : Nat → Int64) (a315 : Nat → Int64), v5.toInt ≤ 1024 → 0 ≤ v5.toInt → v6.toInt ≤ 2 → 2 ≤ v6.toInt → v7.toInt ≤ 8 → 0 ≤ v7.toInt → v10.toInt ≤ 4 → 0 ≤ v10.toInt → 0 + 0 + (4 - v10.toInt) * 472 + 8 ≤ ((k : Nat) : Int) → dz_T ((F237_X6_addLast fu c248_groups c248_pots a263 a283 a293 a299 k).1 v3 v5 v6 v7 v8 v10 c313_rows a314 a315) (fun r => True) := by
  intro v3 v5 v6 v7 v8 v10 c313_rows a314 a315 i0 i1 i2 i3 i4 i5 i6 i7 hm
  obtain ⟨k0, rfl⟩ : ∃ x, k = x + 1 := ⟨k - 1, by omega⟩
  show dz_T (s237_X6_addLast_1 fu c248_groups c248_pots a263 a283 a293 a299 (F237_X6_addLast fu c248_groups c248_pots a263 a283 a293 a299 k0).2.1  v3 v5 v6 v7 v8 v10 c313_rows a314 a315) _
  unfold s237_X6_addLast_1
  refine dz_Tle (fun h1 => ?_) (fun h1 => ?_)
  · skip
    refine dz_Tb (t208_X6_addAhead_g43 fu hfu _ _ _ _ _ _ _ _ _ p0 p1 (by first | assumption | omega) (by first | assumption | omega) (hr_a263) (hr_a283) (dz_rgs (hr_a293) (by omega))) (fun r1 _ => ?_)
    exact dz_Ts trivial
  · skip
    have e2 := dz_add (a := v5) (b := v10) (by omega) (by omega)
    refine dz_Tin (by omega) (by omega) ?_
    have e3 := dz_l0
    exact (ih k0 (by omega)).2.1 v3 v5 v6 v7 (v8 + (a299 (v5 + v10).toNatClampNeg)) v10 (0 : Int32) c313_rows a314 a315 i0 i1 i2 i3 i4 i5 (by first | assumption | omega) i7 (by omega) (by omega) (by omega)
set_option maxHeartbeats 1000000 in
set_option maxRecDepth 10000 in
theorem t237_X6_addLast_h2_g43 (fu : Nat) (hfu : 1000000000000 ≤ fu) (c248_groups : Int32) (c248_pots : Int32) (a263 : Nat → Int32) (a283 : Nat → Int32) (a293 : Nat → Int32) (a299 : Nat → Int64) (p0 : c248_groups.toInt ≤ 4) (p1 : 4 ≤ c248_groups.toInt) (p2 : c248_pots.toInt ≤ 3) (p3 : 3 ≤ c248_pots.toInt) (p4 : 1 ≤ c248_pots.toInt) (hr_a263 : dz_rq a263 24 4 0 3) (hr_a283 : dz_pm a283 3) (hr_a293 : dz_rg a293 2 0 23) (k : Nat) (ih : ∀ j9, j9 < k → p237_X6_addLast_g43 fu c248_groups c248_pots a263 a283 a293 a299 j9) : ∀ (v3 : Int64) (v5 : Int32) (v6 : Int32) (v7 : Int32) (v8 : Int64) (v10 : Int32) (v11 : Int32) (c313_rows : Int64) (a314 : Nat → Int64) (a315 : Nat → Int64), v5.toInt ≤ 1024 → 0 ≤ v5.toInt → v6.toInt ≤ 2 → 2 ≤ v6.toInt → v7.toInt ≤ 8 → 0 ≤ v7.toInt → v10.toInt ≤ 3 → 0 ≤ v10.toInt → v11.toInt ≤ 4 → 0 ≤ v11.toInt → 0 + 0 + ((4 - v10.toInt) - 1) * 472 + 0 + (4 - v11.toInt) * 88 + 16 ≤ ((k : Nat) : Int) → dz_T ((F237_X6_addLast fu c248_groups c248_pots a263 a283 a293 a299 k).2.1 v3 v5 v6 v7 v8 v10 v11 c313_rows a314 a315) (fun r => True) := by
  intro v3 v5 v6 v7 v8 v10 v11 c313_rows a314 a315 i0 i1 i2 i3 i4 i5 i6 i7 i8 i9 hm
  obtain ⟨k0, rfl⟩ : ∃ x, k = x + 1 := ⟨k - 1, by omega⟩
  show dz_T (s237_X6_addLast_2 fu c248_groups c248_pots a263 a283 a293 a299 (F237_X6_addLast fu c248_groups c248_pots a263 a283 a293 a299 k0).1 (F237_X6_addLast fu c248_groups c248_pots a263 a283 a293 a299 k0).2.2.1 (F237_X6_addLast fu c248_groups c248_pots a263 a283 a293 a299 k0).2.2.2  v3 v5 v6 v7 v8 v10 v11 c313_rows a314 a315) _
  unfold s237_X6_addLast_2
  refine dz_Tle (fun h1 => ?_) (fun h1 => ?_)
  · skip
    have e2 := dz_l1
    have e3 := dz_add (a := v10) (b := (1 : Int32)) (by omega) (by omega)
    exact (ih k0 (by omega)).1 v3 v5 v6 v7 v8 (v10 + (1 : Int32)) c313_rows a314 a315 i0 i1 i2 i3 i4 i5 (by omega) (by omega) (by omega)
  · skip
    have e4 := dz_l4
    have e5 := dz_mulr (a := v11) (b := (4 : Int32)) 4 (by omega) (by omega) (by omega)
    have e6 := dz_add (a := v5) (b := (v11 * (4 : Int32))) (by omega) (by omega)
    have e7 := dz_add (a := (v5 + (v11 * (4 : Int32)))) (b := v10) (by omega) (by omega)
    refine dz_Tin (by omega) (by omega) ?_
    have e8 := dz_l0
    refine dz_Teq (fun h9 => ?_) (fun h9 => ?_)
    · skip
      obtain ⟨k1, rfl⟩ : ∃ x, k0 = x + 1 := ⟨k0 - 1, by omega⟩
      show dz_T (s237_X6_addLast_3 fu c248_groups c248_pots a263 a283 a293 a299 (F237_X6_addLast fu c248_groups c248_pots a263 a283 a293 a299 k1).2.1 v3 v5 v6 v7 v8 v10 v11 c313_rows a314 a315) _
      unfold s237_X6_addLast_3
      have e10 := dz_l1
      have e11 := dz_add (a := v11) (b := (1 : Int32)) (by omega) (by omega)
      exact (ih k1 (by omega)).2.1 v3 v5 v6 v7 v8 v10 (v11 + (1 : Int32)) c313_rows a314 a315 i0 i1 i2 i3 i4 i5 i6 i7 (by omega) (by omega) (by omega)
    · skip
      have e12 := dz_add (a := v7) (b := v11) (by omega) (by omega)
      have e13 := dz_mulr (a := (v7 + v11)) (b := (4 : Int32)) 4 (by omega) (by omega) (by omega)
      have e14 := dz_add (a := ((v7 + v11) * (4 : Int32))) (b := v10) (by omega) (by omega)
      refine dz_Tin (by omega) (by omega) ?_
      refine dz_Tin (by omega) (by omega) ?_
      exact (ih k0 (by omega)).2.2 v3 v5 v6 v7 v8 v10 v11 (v3 * (a299 ((v5 + (v11 * (4 : Int32))) + v10).toNatClampNeg)) (0 : Int32) c313_rows a314 (vp_updL a315 (((v7 + v11) * (4 : Int32)) + v10).toNatClampNeg ((a315 (((v7 + v11) * (4 : Int32)) + v10).toNatClampNeg) + (v3 * (a299 ((v5 + (v11 * (4 : Int32))) + v10).toNatClampNeg)))) i0 i1 i2 i3 i4 i5 i6 i7 (by first | assumption | omega) i9 (by omega) (by omega) (by omega)
set_option maxHeartbeats 1000000 in
set_option maxRecDepth 10000 in
theorem t237_X6_addLast_h4_g43 (fu : Nat) (hfu : 1000000000000 ≤ fu) (c248_groups : Int32) (c248_pots : Int32) (a263 : Nat → Int32) (a283 : Nat → Int32) (a293 : Nat → Int32) (a299 : Nat → Int64) (p0 : c248_groups.toInt ≤ 4) (p1 : 4 ≤ c248_groups.toInt) (p2 : c248_pots.toInt ≤ 3) (p3 : 3 ≤ c248_pots.toInt) (p4 : 1 ≤ c248_pots.toInt) (hr_a263 : dz_rq a263 24 4 0 3) (hr_a283 : dz_pm a283 3) (hr_a293 : dz_rg a293 2 0 23) (k : Nat) (ih : ∀ j9, j9 < k → p237_X6_addLast_g43 fu c248_groups c248_pots a263 a283 a293 a299 j9) : ∀ (v3 : Int64) (v5 : Int32) (v6 : Int32) (v7 : Int32) (v8 : Int64) (v10 : Int32) (v11 : Int32) (v12 : Int64) (v14 : Int32) (c313_rows : Int64) (a314 : Nat → Int64) (a315 : Nat → Int64), v5.toInt ≤ 1024 → 0 ≤ v5.toInt → v6.toInt ≤ 2 → 2 ≤ v6.toInt → v7.toInt ≤ 8 → 0 ≤ v7.toInt → v10.toInt ≤ 3 → 0 ≤ v10.toInt → v11.toInt ≤ 3 → 0 ≤ v11.toInt → v14.toInt ≤ 2 → 0 ≤ v14.toInt → 0 + 0 + ((4 - v10.toInt) - 1) * 472 + 0 + ((4 - v11.toInt) - 1) * 88 + 0 + (2 - v14.toInt) * 16 + 24 ≤ ((k : Nat) : Int) → dz_T ((F237_X6_addLast fu c248_groups c248_pots a263 a283 a293 a299 k).2.2.2 v3 v5 v6 v7 v8 v10 v11 v12 v14 c313_rows a314 a315) (fun r => True) := by
  intro v3 v5 v6 v7 v8 v10 v11 v12 v14 c313_rows a314 a315 i0 i1 i2 i3 i4 i5 i6 i7 i8 i9 i10 i11 hm
  obtain ⟨k0, rfl⟩ : ∃ x, k = x + 1 := ⟨k - 1, by omega⟩
  show dz_T (s237_X6_addLast_4 fu c248_groups c248_pots a263 a283 a293 a299 (F237_X6_addLast fu c248_groups c248_pots a263 a283 a293 a299 k0).2.2.1 (F237_X6_addLast fu c248_groups c248_pots a263 a283 a293 a299 k0).2.2.2  v3 v5 v6 v7 v8 v10 v11 v12 v14 c313_rows a314 a315) _
  unfold s237_X6_addLast_4
  refine dz_Tle (fun h1 => ?_) (fun h1 => ?_)
  · skip
    obtain ⟨k1, rfl⟩ : ∃ x, k0 = x + 1 := ⟨k0 - 1, by omega⟩
    show dz_T (s237_X6_addLast_3 fu c248_groups c248_pots a263 a283 a293 a299 (F237_X6_addLast fu c248_groups c248_pots a263 a283 a293 a299 k1).2.1 v3 v5 v6 v7 v8 v10 v11 c313_rows a314 a315) _
    unfold s237_X6_addLast_3
    have e2 := dz_l1
    have e3 := dz_add (a := v11) (b := (1 : Int32)) (by omega) (by omega)
    exact (ih k1 (by omega)).2.1 v3 v5 v6 v7 v8 v10 (v11 + (1 : Int32)) c313_rows a314 a315 i0 i1 i2 i3 i4 i5 i6 i7 (by omega) (by omega) (by omega)
  · skip
    refine dz_Tin (by omega) (by omega) ?_
    have e4 := dz_rgat (hr_a293) (i := v14) (by omega) (by omega)
    have e5 := dz_l4
    have e6 := dz_mulr (a := (a293 v14.toNatClampNeg)) (b := (4 : Int32)) 4 (by omega) (by omega) (by omega)
    have e7 := dz_add (a := ((a293 v14.toNatClampNeg) * (4 : Int32))) (b := v10) (by omega) (by omega)
    refine dz_Tin (by omega) (by omega) ?_
    refine dz_Tin (by omega) (by omega) ?_
    have e8 := dz_pmat (hr_a283) (i := v14) (by decide) (by omega) (by omega)
    have e9 := dz_mulr (a := (a283 v14.toNatClampNeg)) (b := c248_groups) 4 (by omega) (by omega) (by omega)
    have e10 := dz_rqat (hr_a263) (x := (a293 v14.toNatClampNeg)) (y := v10) (by omega) (by omega) (by omega) (by omega) (by omega)
    have e11 := dz_add (a := ((a283 v14.toNatClampNeg) * c248_groups)) (b := (a263 (((a293 v14.toNatClampNeg) * (4 : Int32)) + v10).toNatClampNeg)) (by omega) (by omega)
    have e12 := dz_l12
    have e13 := dz_mulr (a := (((a283 v14.toNatClampNeg) * c248_groups) + (a263 (((a293 v14.toNatClampNeg) * (4 : Int32)) + v10).toNatClampNeg))) (b := (12 : Int32)) 12 (by omega) (by omega) (by omega)
    have e14 := dz_add (a := ((((a283 v14.toNatClampNeg) * c248_groups) + (a263 (((a293 v14.toNatClampNeg) * (4 : Int32)) + v10).toNatClampNeg)) * (12 : Int32))) (b := v7) (by omega) (by omega)
    have e15 := dz_add (a := (((((a283 v14.toNatClampNeg) * c248_groups) + (a263 (((a293 v14.toNatClampNeg) * (4 : Int32)) + v10).toNatClampNeg)) * (12 : Int32)) + v7)) (b := v11) (by omega) (by omega)
    refine dz_Tin (by omega) (by omega) ?_
    refine dz_Tin (by omega) (by omega) ?_
    have e16 := dz_l1
    have e17 := dz_add (a := v14) (b := (1 : Int32)) (by omega) (by omega)
    exact (ih k0 (by omega)).2.2 v3 v5 v6 v7 v8 v10 v11 v12 (v14 + (1 : Int32)) c313_rows (vp_updL a314 ((((((a283 v14.toNatClampNeg) * c248_groups) + (a263 (((a293 v14.toNatClampNeg) * (4 : Int32)) + v10).toNatClampNeg)) * (12 : Int32)) + v7) + v11).toNatClampNeg ((a314 ((((((a283 v14.toNatClampNeg) * c248_groups) + (a263 (((a293 v14.toNatClampNeg) * (4 : Int32)) + v10).toNatClampNeg)) * (12 : Int32)) + v7) + v11).toNatClampNeg) + v12)) a315 i0 i1 i2 i3 i4 i5 i6 i7 i8 i9 (by omega) (by omega) (by omega)
theorem t237_X6_addLast_I_g43 (fu : Nat) (hfu : 1000000000000 ≤ fu) (c248_groups : Int32) (c248_pots : Int32) (a263 : Nat → Int32) (a283 : Nat → Int32) (a293 : Nat → Int32) (a299 : Nat → Int64) (p0 : c248_groups.toInt ≤ 4) (p1 : 4 ≤ c248_groups.toInt) (p2 : c248_pots.toInt ≤ 3) (p3 : 3 ≤ c248_pots.toInt) (p4 : 1 ≤ c248_pots.toInt) (hr_a263 : dz_rq a263 24 4 0 3) (hr_a283 : dz_pm a283 3) (hr_a293 : dz_rg a293 2 0 23) (k : Nat) : p237_X6_addLast_g43 fu c248_groups c248_pots a263 a283 a293 a299 k := by
  induction k using Nat.strongRecOn with
  | _ k ih => exact ⟨t237_X6_addLast_h1_g43 fu hfu c248_groups c248_pots a263 a283 a293 a299 p0 p1 p2 p3 p4 hr_a263 hr_a283 hr_a293 k ih, t237_X6_addLast_h2_g43 fu hfu c248_groups c248_pots a263 a283 a293 a299 p0 p1 p2 p3 p4 hr_a263 hr_a283 hr_a293 k ih, t237_X6_addLast_h4_g43 fu hfu c248_groups c248_pots a263 a283 a293 a299 p0 p1 p2 p3 p4 hr_a263 hr_a283 hr_a293 k ih⟩
set_option maxHeartbeats 1000000 in
set_option maxRecDepth 10000 in
theorem t237_X6_addLast_E_g43 (fu : Nat) (hfu : 1000000000000 ≤ fu) (c248_groups : Int32) (c248_pots : Int32) (a263 : Nat → Int32) (a283 : Nat → Int32) (a293 : Nat → Int32) (a299 : Nat → Int64) (v3 : Int64) (v5 : Int32) (c313_rows : Int64) (a314 : Nat → Int64) (a315 : Nat → Int64) (p0 : c248_groups.toInt ≤ 4) (p1 : 4 ≤ c248_groups.toInt) (p2 : c248_pots.toInt ≤ 3) (p3 : 3 ≤ c248_pots.toInt) (p4 : 0 ≤ v5.toInt) (p5 : v5.toInt ≤ 1024) (p6 : 1 ≤ c248_pots.toInt) (hr_a263 : dz_rq a263 24 4 0 3) (hr_a283 : dz_pm a283 3) (hr_a293 : dz_rg a293 2 0 23) (kv : Nat) (hkv : 1000000000000 ≤ kv) : dz_T (s237_X6_addLast_0 fu c248_groups c248_pots a263 a283 a293 a299 (F237_X6_addLast fu c248_groups c248_pots a263 a283 a293 a299 kv).1  v3 v5 c313_rows a314 a315) (fun r => True) := by
  unfold s237_X6_addLast_0
  have e1 := dz_l1
  have e2 := dz_sub (a := c248_pots) (b := (1 : Int32)) (by omega) (by omega)
  refine dz_Tin (by omega) (by omega) ?_
  have e3 := dz_pmat (hr_a283) (i := (c248_pots - (1 : Int32))) (by decide) (by omega) (by omega)
  have e4 := dz_mulr (a := (a283 (c248_pots - (1 : Int32)).toNatClampNeg)) (b := c248_groups) 4 (by omega) (by omega) (by omega)
  have e5 := dz_l0
  exact (t237_X6_addLast_I_g43 fu hfu c248_groups c248_pots a263 a283 a293 a299 p0 p1 p2 p3 p6 hr_a263 hr_a283 hr_a293 kv).1 v3 v5 (c248_pots - (1 : Int32)) ((a283 (c248_pots - (1 : Int32)).toNatClampNeg) * c248_groups) (0 : Int64) (0 : Int32) c313_rows a314 a315 p5 p4 (by omega) (by omega) (by omega) (by omega) (by omega) (by omega) (by omega)
theorem t237_X6_addLast_g43 (fu : Nat) (hfu : 1000000000000 ≤ fu) (c248_groups : Int32) (c248_pots : Int32) (a263 : Nat → Int32) (a283 : Nat → Int32) (a293 : Nat → Int32) (a299 : Nat → Int64) (v3 : Int64) (v5 : Int32) (c313_rows : Int64) (a314 : Nat → Int64) (a315 : Nat → Int64) (p0 : c248_groups.toInt ≤ 4) (p1 : 4 ≤ c248_groups.toInt) (p2 : c248_pots.toInt ≤ 3) (p3 : 3 ≤ c248_pots.toInt) (p4 : 0 ≤ v5.toInt) (p5 : v5.toInt ≤ 1024) (p6 : 1 ≤ c248_pots.toInt) (hr_a263 : dz_rq a263 24 4 0 3) (hr_a283 : dz_pm a283 3) (hr_a293 : dz_rg a293 2 0 23) : dz_T (f237_X6_addLast fu c248_groups c248_pots a263 a283 a293 a299 v3 v5 c313_rows a314 a315) (fun r => True) :=
  t237_X6_addLast_E_g43 fu hfu c248_groups c248_pots a263 a283 a293 a299 v3 v5 c313_rows a314 a315 p0 p1 p2 p3 p4 p5 p6 hr_a263 hr_a283 hr_a293 fu hfu
set_option maxHeartbeats 1000000 in
theorem t237_X6_addLast_s (fu : Nat) (hfu : 1000000000000 ≤ fu) (κ : Nat) (hκ : κ < 14) (c248_groups : Int32) (c248_pots : Int32) (a263 : Nat → Int32) (a283 : Nat → Int32) (a293 : Nat → Int32) (a299 : Nat → Int64) (v3 : Int64) (v5 : Int32) (c313_rows : Int64) (a314 : Nat → Int64) (a315 : Nat → Int64) (p0 : c248_groups.toInt ≤ 4) (p1 : 2 ≤ c248_groups.toInt) (p2 : c248_pots.toInt ≤ 4) (p3 : 0 ≤ c248_pots.toInt) (p4 : 0 ≤ v5.toInt) (p5 : v5.toInt ≤ 1024) (p6 : 1 ≤ c248_pots.toInt) (hr_a263 : dz_rq a263 (dz_kr κ) (dz_kg κ) 0 (((dz_kg κ : Nat) : Int) - 1)) (hr_a283 : dz_pm a283 (dz_kp κ)) (hr_a293 : dz_rg a293 (dz_kp κ - 1) 0 (((dz_kr κ : Nat) : Int) - 1)) (o0 : c248_groups.toInt = ((dz_kg κ : Nat) : Int)) (o1 : c248_pots.toInt = ((dz_kp κ : Nat) : Int)) : dz_T (f237_X6_addLast fu c248_groups c248_pots a263 a283 a293 a299 v3 v5 c313_rows a314 a315) (fun r => True) := by
  rcases (show κ = 0 ∨ κ = 1 ∨ κ = 2 ∨ κ = 3 ∨ κ = 4 ∨ κ = 5 ∨ κ = 6 ∨ κ = 7 ∨ κ = 8 ∨ κ = 9 ∨ κ = 10 ∨ κ = 11 ∨ κ = 12 ∨ κ = 13 by omega) with rfl | rfl | rfl | rfl | rfl | rfl | rfl | rfl | rfl | rfl | rfl | rfl | rfl | rfl
  · skip
    exfalso
    have o0 : c248_groups.toInt = (2 : Int) := o0
    have o1 : c248_pots.toInt = (0 : Int) := o1
    omega
  · skip
    have o0 : c248_groups.toInt = (2 : Int) := o0
    have o1 : c248_pots.toInt = (1 : Int) := o1
    refine dz_Tw (t237_X6_addLast_g21 fu hfu c248_groups c248_pots a263 a283 a293 a299 v3 v5 c313_rows a314 a315 (by first | assumption | omega) (by first | assumption | omega) (by first | assumption | omega) (by first | assumption | omega) (by first | assumption | omega) (by first | assumption | omega) (by first | assumption | omega) (by first | exact hr_a263 | exact dz_rgm hr_a263 (by omega) (by omega) | exact dz_pmr hr_a263 (by decide) (by omega) (by omega) (by omega) | exact dz_ptr hr_a263 (by decide) (by decide) (by omega) | exact dz_ptr hr_a263 (by decide) (by decide) (by show _ ≤ 1; omega) | exact dz_rgs hr_a263 (by omega)) (by first | exact hr_a283 | exact dz_rgm hr_a283 (by omega) (by omega) | exact dz_pmr hr_a283 (by decide) (by omega) (by omega) (by omega) | exact dz_ptr hr_a283 (by decide) (by decide) (by omega) | exact dz_ptr hr_a283 (by decide) (by decide) (by show _ ≤ 1; omega) | exact dz_rgs hr_a283 (by omega)) (by first | exact hr_a293 | exact dz_rgm hr_a293 (by omega) (by omega) | exact dz_pmr hr_a293 (by decide) (by omega) (by omega) (by omega) | exact dz_ptr hr_a293 (by decide) (by decide) (by omega) | exact dz_ptr hr_a293 (by decide) (by decide) (by show _ ≤ 1; omega) | exact dz_rgs hr_a293 (by omega))) (fun r h => ?_)
    exact trivial
  · skip
    have o0 : c248_groups.toInt = (2 : Int) := o0
    have o1 : c248_pots.toInt = (2 : Int) := o1
    refine dz_Tw (t237_X6_addLast_g22 fu hfu c248_groups c248_pots a263 a283 a293 a299 v3 v5 c313_rows a314 a315 (by first | assumption | omega) (by first | assumption | omega) (by first | assumption | omega) (by first | assumption | omega) (by first | assumption | omega) (by first | assumption | omega) (by first | assumption | omega) (by first | exact hr_a263 | exact dz_rgm hr_a263 (by omega) (by omega) | exact dz_pmr hr_a263 (by decide) (by omega) (by omega) (by omega) | exact dz_ptr hr_a263 (by decide) (by decide) (by omega) | exact dz_ptr hr_a263 (by decide) (by decide) (by show _ ≤ 2; omega) | exact dz_rgs hr_a263 (by omega)) (by first | exact hr_a283 | exact dz_rgm hr_a283 (by omega) (by omega) | exact dz_pmr hr_a283 (by decide) (by omega) (by omega) (by omega) | exact dz_ptr hr_a283 (by decide) (by decide) (by omega) | exact dz_ptr hr_a283 (by decide) (by decide) (by show _ ≤ 2; omega) | exact dz_rgs hr_a283 (by omega)) (by first | exact hr_a293 | exact dz_rgm hr_a293 (by omega) (by omega) | exact dz_pmr hr_a293 (by decide) (by omega) (by omega) (by omega) | exact dz_ptr hr_a293 (by decide) (by decide) (by omega) | exact dz_ptr hr_a293 (by decide) (by decide) (by show _ ≤ 2; omega) | exact dz_rgs hr_a293 (by omega))) (fun r h => ?_)
    exact trivial
  · skip
    have o0 : c248_groups.toInt = (2 : Int) := o0
    have o1 : c248_pots.toInt = (3 : Int) := o1
    refine dz_Tw (t237_X6_addLast_g23 fu hfu c248_groups c248_pots a263 a283 a293 a299 v3 v5 c313_rows a314 a315 (by first | assumption | omega) (by first | assumption | omega) (by first | assumption | omega) (by first | assumption | omega) (by first | assumption | omega) (by first | assumption | omega) (by first | assumption | omega) (by first | exact hr_a263 | exact dz_rgm hr_a263 (by omega) (by omega) | exact dz_pmr hr_a263 (by decide) (by omega) (by omega) (by omega) | exact dz_ptr hr_a263 (by decide) (by decide) (by omega) | exact dz_ptr hr_a263 (by decide) (by decide) (by show _ ≤ 3; omega) | exact dz_rgs hr_a263 (by omega)) (by first | exact hr_a283 | exact dz_rgm hr_a283 (by omega) (by omega) | exact dz_pmr hr_a283 (by decide) (by omega) (by omega) (by omega) | exact dz_ptr hr_a283 (by decide) (by decide) (by omega) | exact dz_ptr hr_a283 (by decide) (by decide) (by show _ ≤ 3; omega) | exact dz_rgs hr_a283 (by omega)) (by first | exact hr_a293 | exact dz_rgm hr_a293 (by omega) (by omega) | exact dz_pmr hr_a293 (by decide) (by omega) (by omega) (by omega) | exact dz_ptr hr_a293 (by decide) (by decide) (by omega) | exact dz_ptr hr_a293 (by decide) (by decide) (by show _ ≤ 3; omega) | exact dz_rgs hr_a293 (by omega))) (fun r h => ?_)
    exact trivial
  · skip
    have o0 : c248_groups.toInt = (2 : Int) := o0
    have o1 : c248_pots.toInt = (4 : Int) := o1
    refine dz_Tw (t237_X6_addLast_g24 fu hfu c248_groups c248_pots a263 a283 a293 a299 v3 v5 c313_rows a314 a315 (by first | assumption | omega) (by first | assumption | omega) (by first | assumption | omega) (by first | assumption | omega) (by first | assumption | omega) (by first | assumption | omega) (by first | assumption | omega) (by first | exact hr_a263 | exact dz_rgm hr_a263 (by omega) (by omega) | exact dz_pmr hr_a263 (by decide) (by omega) (by omega) (by omega) | exact dz_ptr hr_a263 (by decide) (by decide) (by omega) | exact dz_ptr hr_a263 (by decide) (by decide) (by show _ ≤ 4; omega) | exact dz_rgs hr_a263 (by omega)) (by first | exact hr_a283 | exact dz_rgm hr_a283 (by omega) (by omega) | exact dz_pmr hr_a283 (by decide) (by omega) (by omega) (by omega) | exact dz_ptr hr_a283 (by decide) (by decide) (by omega) | exact dz_ptr hr_a283 (by decide) (by decide) (by show _ ≤ 4; omega) | exact dz_rgs hr_a283 (by omega)) (by first | exact hr_a293 | exact dz_rgm hr_a293 (by omega) (by omega) | exact dz_pmr hr_a293 (by decide) (by omega) (by omega) (by omega) | exact dz_ptr hr_a293 (by decide) (by decide) (by omega) | exact dz_ptr hr_a293 (by decide) (by decide) (by show _ ≤ 4; omega) | exact dz_rgs hr_a293 (by omega))) (fun r h => ?_)
    exact trivial
  · skip
    exfalso
    have o0 : c248_groups.toInt = (3 : Int) := o0
    have o1 : c248_pots.toInt = (0 : Int) := o1
    omega
  · skip
    have o0 : c248_groups.toInt = (3 : Int) := o0
    have o1 : c248_pots.toInt = (1 : Int) := o1
    refine dz_Tw (t237_X6_addLast_g31 fu hfu c248_groups c248_pots a263 a283 a293 a299 v3 v5 c313_rows a314 a315 (by first | assumption | omega) (by first | assumption | omega) (by first | assumption | omega) (by first | assumption | omega) (by first | assumption | omega) (by first | assumption | omega) (by first | assumption | omega) (by first | exact hr_a263 | exact dz_rgm hr_a263 (by omega) (by omega) | exact dz_pmr hr_a263 (by decide) (by omega) (by omega) (by omega) | exact dz_ptr hr_a263 (by decide) (by decide) (by omega) | exact dz_ptr hr_a263 (by decide) (by decide) (by show _ ≤ 1; omega) | exact dz_rgs hr_a263 (by omega)) (by first | exact hr_a283 | exact dz_rgm hr_a283 (by omega) (by omega) | exact dz_pmr hr_a283 (by decide) (by omega) (by omega) (by omega) | exact dz_ptr hr_a283 (by decide) (by decide) (by omega) | exact dz_ptr hr_a283 (by decide) (by decide) (by show _ ≤ 1; omega) | exact dz_rgs hr_a283 (by omega)) (by first | exact hr_a293 | exact dz_rgm hr_a293 (by omega) (by omega) | exact dz_pmr hr_a293 (by decide) (by omega) (by omega) (by omega) | exact dz_ptr hr_a293 (by decide) (by decide) (by omega) | exact dz_ptr hr_a293 (by decide) (by decide) (by show _ ≤ 1; omega) | exact dz_rgs hr_a293 (by omega))) (fun r h => ?_)
    exact trivial
  · skip
    have o0 : c248_groups.toInt = (3 : Int) := o0
    have o1 : c248_pots.toInt = (2 : Int) := o1
    refine dz_Tw (t237_X6_addLast_g32 fu hfu c248_groups c248_pots a263 a283 a293 a299 v3 v5 c313_rows a314 a315 (by first | assumption | omega) (by first | assumption | omega) (by first | assumption | omega) (by first | assumption | omega) (by first | assumption | omega) (by first | assumption | omega) (by first | assumption | omega) (by first | exact hr_a263 | exact dz_rgm hr_a263 (by omega) (by omega) | exact dz_pmr hr_a263 (by decide) (by omega) (by omega) (by omega) | exact dz_ptr hr_a263 (by decide) (by decide) (by omega) | exact dz_ptr hr_a263 (by decide) (by decide) (by show _ ≤ 2; omega) | exact dz_rgs hr_a263 (by omega)) (by first | exact hr_a283 | exact dz_rgm hr_a283 (by omega) (by omega) | exact dz_pmr hr_a283 (by decide) (by omega) (by omega) (by omega) | exact dz_ptr hr_a283 (by decide) (by decide) (by omega) | exact dz_ptr hr_a283 (by decide) (by decide) (by show _ ≤ 2; omega) | exact dz_rgs hr_a283 (by omega)) (by first | exact hr_a293 | exact dz_rgm hr_a293 (by omega) (by omega) | exact dz_pmr hr_a293 (by decide) (by omega) (by omega) (by omega) | exact dz_ptr hr_a293 (by decide) (by decide) (by omega) | exact dz_ptr hr_a293 (by decide) (by decide) (by show _ ≤ 2; omega) | exact dz_rgs hr_a293 (by omega))) (fun r h => ?_)
    exact trivial
  · skip
    have o0 : c248_groups.toInt = (3 : Int) := o0
    have o1 : c248_pots.toInt = (3 : Int) := o1
    refine dz_Tw (t237_X6_addLast_g33 fu hfu c248_groups c248_pots a263 a283 a293 a299 v3 v5 c313_rows a314 a315 (by first | assumption | omega) (by first | assumption | omega) (by first | assumption | omega) (by first | assumption | omega) (by first | assumption | omega) (by first | assumption | omega) (by first | assumption | omega) (by first | exact hr_a263 | exact dz_rgm hr_a263 (by omega) (by omega) | exact dz_pmr hr_a263 (by decide) (by omega) (by omega) (by omega) | exact dz_ptr hr_a263 (by decide) (by decide) (by omega) | exact dz_ptr hr_a263 (by decide) (by decide) (by show _ ≤ 3; omega) | exact dz_rgs hr_a263 (by omega)) (by first | exact hr_a283 | exact dz_rgm hr_a283 (by omega) (by omega) | exact dz_pmr hr_a283 (by decide) (by omega) (by omega) (by omega) | exact dz_ptr hr_a283 (by decide) (by decide) (by omega) | exact dz_ptr hr_a283 (by decide) (by decide) (by show _ ≤ 3; omega) | exact dz_rgs hr_a283 (by omega)) (by first | exact hr_a293 | exact dz_rgm hr_a293 (by omega) (by omega) | exact dz_pmr hr_a293 (by decide) (by omega) (by omega) (by omega) | exact dz_ptr hr_a293 (by decide) (by decide) (by omega) | exact dz_ptr hr_a293 (by decide) (by decide) (by show _ ≤ 3; omega) | exact dz_rgs hr_a293 (by omega))) (fun r h => ?_)
    exact trivial
  · skip
    have o0 : c248_groups.toInt = (3 : Int) := o0
    have o1 : c248_pots.toInt = (4 : Int) := o1
    refine dz_Tw (t237_X6_addLast_g34 fu hfu c248_groups c248_pots a263 a283 a293 a299 v3 v5 c313_rows a314 a315 (by first | assumption | omega) (by first | assumption | omega) (by first | assumption | omega) (by first | assumption | omega) (by first | assumption | omega) (by first | assumption | omega) (by first | assumption | omega) (by first | exact hr_a263 | exact dz_rgm hr_a263 (by omega) (by omega) | exact dz_pmr hr_a263 (by decide) (by omega) (by omega) (by omega) | exact dz_ptr hr_a263 (by decide) (by decide) (by omega) | exact dz_ptr hr_a263 (by decide) (by decide) (by show _ ≤ 4; omega) | exact dz_rgs hr_a263 (by omega)) (by first | exact hr_a283 | exact dz_rgm hr_a283 (by omega) (by omega) | exact dz_pmr hr_a283 (by decide) (by omega) (by omega) (by omega) | exact dz_ptr hr_a283 (by decide) (by decide) (by omega) | exact dz_ptr hr_a283 (by decide) (by decide) (by show _ ≤ 4; omega) | exact dz_rgs hr_a283 (by omega)) (by first | exact hr_a293 | exact dz_rgm hr_a293 (by omega) (by omega) | exact dz_pmr hr_a293 (by decide) (by omega) (by omega) (by omega) | exact dz_ptr hr_a293 (by decide) (by decide) (by omega) | exact dz_ptr hr_a293 (by decide) (by decide) (by show _ ≤ 4; omega) | exact dz_rgs hr_a293 (by omega))) (fun r h => ?_)
    exact trivial
  · skip
    exfalso
    have o0 : c248_groups.toInt = (4 : Int) := o0
    have o1 : c248_pots.toInt = (0 : Int) := o1
    omega
  · skip
    have o0 : c248_groups.toInt = (4 : Int) := o0
    have o1 : c248_pots.toInt = (1 : Int) := o1
    refine dz_Tw (t237_X6_addLast_g41 fu hfu c248_groups c248_pots a263 a283 a293 a299 v3 v5 c313_rows a314 a315 (by first | assumption | omega) (by first | assumption | omega) (by first | assumption | omega) (by first | assumption | omega) (by first | assumption | omega) (by first | assumption | omega) (by first | assumption | omega) (by first | exact hr_a263 | exact dz_rgm hr_a263 (by omega) (by omega) | exact dz_pmr hr_a263 (by decide) (by omega) (by omega) (by omega) | exact dz_ptr hr_a263 (by decide) (by decide) (by omega) | exact dz_ptr hr_a263 (by decide) (by decide) (by show _ ≤ 1; omega) | exact dz_rgs hr_a263 (by omega)) (by first | exact hr_a283 | exact dz_rgm hr_a283 (by omega) (by omega) | exact dz_pmr hr_a283 (by decide) (by omega) (by omega) (by omega) | exact dz_ptr hr_a283 (by decide) (by decide) (by omega) | exact dz_ptr hr_a283 (by decide) (by decide) (by show _ ≤ 1; omega) | exact dz_rgs hr_a283 (by omega)) (by first | exact hr_a293 | exact dz_rgm hr_a293 (by omega) (by omega) | exact dz_pmr hr_a293 (by decide) (by omega) (by omega) (by omega) | exact dz_ptr hr_a293 (by decide) (by decide) (by omega) | exact dz_ptr hr_a293 (by decide) (by decide) (by show _ ≤ 1; omega) | exact dz_rgs hr_a293 (by omega))) (fun r h => ?_)
    exact trivial
  · skip
    have o0 : c248_groups.toInt = (4 : Int) := o0
    have o1 : c248_pots.toInt = (2 : Int) := o1
    refine dz_Tw (t237_X6_addLast_g42 fu hfu c248_groups c248_pots a263 a283 a293 a299 v3 v5 c313_rows a314 a315 (by first | assumption | omega) (by first | assumption | omega) (by first | assumption | omega) (by first | assumption | omega) (by first | assumption | omega) (by first | assumption | omega) (by first | assumption | omega) (by first | exact hr_a263 | exact dz_rgm hr_a263 (by omega) (by omega) | exact dz_pmr hr_a263 (by decide) (by omega) (by omega) (by omega) | exact dz_ptr hr_a263 (by decide) (by decide) (by omega) | exact dz_ptr hr_a263 (by decide) (by decide) (by show _ ≤ 2; omega) | exact dz_rgs hr_a263 (by omega)) (by first | exact hr_a283 | exact dz_rgm hr_a283 (by omega) (by omega) | exact dz_pmr hr_a283 (by decide) (by omega) (by omega) (by omega) | exact dz_ptr hr_a283 (by decide) (by decide) (by omega) | exact dz_ptr hr_a283 (by decide) (by decide) (by show _ ≤ 2; omega) | exact dz_rgs hr_a283 (by omega)) (by first | exact hr_a293 | exact dz_rgm hr_a293 (by omega) (by omega) | exact dz_pmr hr_a293 (by decide) (by omega) (by omega) (by omega) | exact dz_ptr hr_a293 (by decide) (by decide) (by omega) | exact dz_ptr hr_a293 (by decide) (by decide) (by show _ ≤ 2; omega) | exact dz_rgs hr_a293 (by omega))) (fun r h => ?_)
    exact trivial
  · skip
    have o0 : c248_groups.toInt = (4 : Int) := o0
    have o1 : c248_pots.toInt = (3 : Int) := o1
    refine dz_Tw (t237_X6_addLast_g43 fu hfu c248_groups c248_pots a263 a283 a293 a299 v3 v5 c313_rows a314 a315 (by first | assumption | omega) (by first | assumption | omega) (by first | assumption | omega) (by first | assumption | omega) (by first | assumption | omega) (by first | assumption | omega) (by first | assumption | omega) (by first | exact hr_a263 | exact dz_rgm hr_a263 (by omega) (by omega) | exact dz_pmr hr_a263 (by decide) (by omega) (by omega) (by omega) | exact dz_ptr hr_a263 (by decide) (by decide) (by omega) | exact dz_ptr hr_a263 (by decide) (by decide) (by show _ ≤ 3; omega) | exact dz_rgs hr_a263 (by omega)) (by first | exact hr_a283 | exact dz_rgm hr_a283 (by omega) (by omega) | exact dz_pmr hr_a283 (by decide) (by omega) (by omega) (by omega) | exact dz_ptr hr_a283 (by decide) (by decide) (by omega) | exact dz_ptr hr_a283 (by decide) (by decide) (by show _ ≤ 3; omega) | exact dz_rgs hr_a283 (by omega)) (by first | exact hr_a293 | exact dz_rgm hr_a293 (by omega) (by omega) | exact dz_pmr hr_a293 (by decide) (by omega) (by omega) (by omega) | exact dz_ptr hr_a293 (by decide) (by decide) (by omega) | exact dz_ptr hr_a293 (by decide) (by decide) (by show _ ≤ 3; omega) | exact dz_rgs hr_a293 (by omega))) (fun r h => ?_)
    exact trivial
set_option maxHeartbeats 1000000 in
set_option maxRecDepth 10000 in
theorem t238_X6_walk_E_s (fu : Nat) (hfu : 1000000000000 ≤ fu) (κ : Nat) (hκ : κ < 14) (c248_groups : Int32) (c248_pots : Int32) (c261_groups : Int32) (c261_many : Int32) (a262 : Nat → Int32) (a263 : Nat → Int32) (a264 : Nat → Int32) (a281 : Nat → Int32) (a282 : Nat → Int32) (a283 : Nat → Int32) (c292_firstLevel : Int32) (c292_firstOpen : Int32) (c292_firstLeft : Int32) (c295_way : Int32) (a296 : Nat → Int32) (v3 : Int32) (v4 : Int32) (v5 : Int64) (a293 : Nat → Int32) (a294 : Nat → Int64) (a297 : Nat → Int64) (a298 : Nat → Int32) (a299 : Nat → Int64) (c313_rows : Int64) (a314 : Nat → Int64) (a315 : Nat → Int64) (p0 : c248_groups.toInt ≤ 4) (p1 : 2 ≤ c248_groups.toInt) (p2 : c248_pots.toInt ≤ 4) (p3 : 0 ≤ c248_pots.toInt) (p4 : c261_groups.toInt ≤ 4) (p5 : 0 ≤ c261_groups.toInt) (p6 : c261_many.toInt ≤ 24) (p7 : 0 ≤ c261_many.toInt) (p8 : c292_firstLevel.toInt ≤ 4) (p9 : 0 ≤ c292_firstLevel.toInt) (p10 : c292_firstOpen.toInt ≤ 16777215) (p11 : 0 ≤ c292_firstOpen.toInt) (p12 : c292_firstLeft.toInt ≤ 15) (p13 : 0 ≤ c292_firstLeft.toInt) (p14 : 5 ≤ v3.toInt) (p15 : v3.toInt ≤ c248_pots.toInt) (p16 : v3.toInt ≤ 4) (p17 : 0 ≤ v4.toInt) (p18 : v4.toInt ≤ 331775) (hr_a262 : dz_rg a262 96 0 3) (hr_a263 : dz_rq a263 (dz_kr κ) (dz_kg κ) 0 (((dz_kg κ : Nat) : Int) - 1)) (hr_a264 : dz_rg a264 16 0 16777215) (hr_a281 : dz_rg a281 601 0 16777215) (hr_a282 : dz_rg a282 5 0 14425) (hr_a283 : dz_pm a283 (dz_kp κ)) (hr_a296 : dz_rg a296 4 0 3) (hr_a293 : dz_rg a293 v3.toInt.toNat 0 (((dz_kr κ : Nat) : Int) - 1)) (o0 : ((v3.toInt = 0 ∧ v4.toInt < 1) ∨ (v3.toInt = 1 ∧ v4.toInt < 24) ∨ (v3.toInt = 2 ∧ v4.toInt < 576) ∨ (v3.toInt = 3 ∧ v4.toInt < 13824) ∨ (v3.toInt = 4 ∧ v4.toInt < 331776))) (o1 : c248_groups.toInt = ((dz_kg κ : Nat) : Int)) (o2 : c248_pots.toInt = ((dz_kp κ : Nat) : Int)) (o3 : c261_groups.toInt = ((dz_kg κ : Nat) : Int)) (o4 : c261_many.toInt = ((dz_kr κ : Nat) : Int)) (kv : Nat) (hkv : 1000000000000 ≤ kv) : dz_T (s238_X6_walk_0 fu c248_groups c248_pots c261_groups c261_many a262 a263 a264 a281 a282 a283 c292_firstLevel c292_firstOpen c292_firstLeft c295_way a296 (F238_X6_walk fu c248_groups c248_pots c261_groups c261_many a262 a263 a264 a281 a282 a283 c292_firstLevel c292_firstOpen c292_firstLeft c295_way a296 kv).1  v3 v4 v5 a293 a294 a297 a298 a299 c313_rows a314 a315) (fun r => True) := by
  unfold s238_X6_walk_0
  exfalso; omega
theorem t238_X6_walk_s (fu : Nat) (hfu : 1000000000000 ≤ fu) (κ : Nat) (hκ : κ < 14) (c248_groups : Int32) (c248_pots : Int32) (c261_groups : Int32) (c261_many : Int32) (a262 : Nat → Int32) (a263 : Nat → Int32) (a264 : Nat → Int32) (a281 : Nat → Int32) (a282 : Nat → Int32) (a283 : Nat → Int32) (c292_firstLevel : Int32) (c292_firstOpen : Int32) (c292_firstLeft : Int32) (c295_way : Int32) (a296 : Nat → Int32) (v3 : Int32) (v4 : Int32) (v5 : Int64) (a293 : Nat → Int32) (a294 : Nat → Int64) (a297 : Nat → Int64) (a298 : Nat → Int32) (a299 : Nat → Int64) (c313_rows : Int64) (a314 : Nat → Int64) (a315 : Nat → Int64) (p0 : c248_groups.toInt ≤ 4) (p1 : 2 ≤ c248_groups.toInt) (p2 : c248_pots.toInt ≤ 4) (p3 : 0 ≤ c248_pots.toInt) (p4 : c261_groups.toInt ≤ 4) (p5 : 0 ≤ c261_groups.toInt) (p6 : c261_many.toInt ≤ 24) (p7 : 0 ≤ c261_many.toInt) (p8 : c292_firstLevel.toInt ≤ 4) (p9 : 0 ≤ c292_firstLevel.toInt) (p10 : c292_firstOpen.toInt ≤ 16777215) (p11 : 0 ≤ c292_firstOpen.toInt) (p12 : c292_firstLeft.toInt ≤ 15) (p13 : 0 ≤ c292_firstLeft.toInt) (p14 : 5 ≤ v3.toInt) (p15 : v3.toInt ≤ c248_pots.toInt) (p16 : v3.toInt ≤ 4) (p17 : 0 ≤ v4.toInt) (p18 : v4.toInt ≤ 331775) (hr_a262 : dz_rg a262 96 0 3) (hr_a263 : dz_rq a263 (dz_kr κ) (dz_kg κ) 0 (((dz_kg κ : Nat) : Int) - 1)) (hr_a264 : dz_rg a264 16 0 16777215) (hr_a281 : dz_rg a281 601 0 16777215) (hr_a282 : dz_rg a282 5 0 14425) (hr_a283 : dz_pm a283 (dz_kp κ)) (hr_a296 : dz_rg a296 4 0 3) (hr_a293 : dz_rg a293 v3.toInt.toNat 0 (((dz_kr κ : Nat) : Int) - 1)) (o0 : ((v3.toInt = 0 ∧ v4.toInt < 1) ∨ (v3.toInt = 1 ∧ v4.toInt < 24) ∨ (v3.toInt = 2 ∧ v4.toInt < 576) ∨ (v3.toInt = 3 ∧ v4.toInt < 13824) ∨ (v3.toInt = 4 ∧ v4.toInt < 331776))) (o1 : c248_groups.toInt = ((dz_kg κ : Nat) : Int)) (o2 : c248_pots.toInt = ((dz_kp κ : Nat) : Int)) (o3 : c261_groups.toInt = ((dz_kg κ : Nat) : Int)) (o4 : c261_many.toInt = ((dz_kr κ : Nat) : Int)) : dz_T (f238_X6_walk fu c248_groups c248_pots c261_groups c261_many a262 a263 a264 a281 a282 a283 c292_firstLevel c292_firstOpen c292_firstLeft c295_way a296 v3 v4 v5 a293 a294 a297 a298 a299 c313_rows a314 a315) (fun r => True) :=
  t238_X6_walk_E_s fu hfu κ hκ c248_groups c248_pots c261_groups c261_many a262 a263 a264 a281 a282 a283 c292_firstLevel c292_firstOpen c292_firstLeft c295_way a296 v3 v4 v5 a293 a294 a297 a298 a299 c313_rows a314 a315 p0 p1 p2 p3 p4 p5 p6 p7 p8 p9 p10 p11 p12 p13 p14 p15 p16 p17 p18 hr_a262 hr_a263 hr_a264 hr_a281 hr_a282 hr_a283 hr_a296 hr_a293 o0 o1 o2 o3 o4 fu hfu
set_option maxHeartbeats 1000000 in
set_option maxRecDepth 10000 in
theorem t239_X6_walk_E_s (fu : Nat) (hfu : 1000000000000 ≤ fu) (κ : Nat) (hκ : κ < 14) (c248_groups : Int32) (c248_pots : Int32) (c261_groups : Int32) (c261_many : Int32) (a262 : Nat → Int32) (a263 : Nat → Int32) (a264 : Nat → Int32) (a281 : Nat → Int32) (a282 : Nat → Int32) (a283 : Nat → Int32) (c292_firstLevel : Int32) (c292_firstOpen : Int32) (c292_firstLeft : Int32) (c295_way : Int32) (a296 : Nat → Int32) (v3 : Int32) (v4 : Int32) (v5 : Int64) (a293 : Nat → Int32) (a294 : Nat → Int64) (a297 : Nat → Int64) (a298 : Nat → Int32) (a299 : Nat → Int64) (c313_rows : Int64) (a314 : Nat → Int64) (a315 : Nat → Int64) (p0 : c248_groups.toInt ≤ 4) (p1 : 2 ≤ c248_groups.toInt) (p2 : c248_pots.toInt ≤ 4) (p3 : 0 ≤ c248_pots.toInt) (p4 : c261_groups.toInt ≤ 4) (p5 : 0 ≤ c261_groups.toInt) (p6 : c261_many.toInt ≤ 24) (p7 : 0 ≤ c261_many.toInt) (p8 : c292_firstLevel.toInt ≤ 4) (p9 : 0 ≤ c292_firstLevel.toInt) (p10 : c292_firstOpen.toInt ≤ 16777215) (p11 : 0 ≤ c292_firstOpen.toInt) (p12 : c292_firstLeft.toInt ≤ 15) (p13 : 0 ≤ c292_firstLeft.toInt) (p14 : 4 ≤ v3.toInt) (p15 : v3.toInt ≤ c248_pots.toInt) (p16 : v3.toInt ≤ 4) (p17 : 0 ≤ v4.toInt) (p18 : v4.toInt ≤ 331775) (hr_a262 : dz_rg a262 96 0 3) (hr_a263 : dz_rq a263 (dz_kr κ) (dz_kg κ) 0 (((dz_kg κ : Nat) : Int) - 1)) (hr_a264 : dz_rg a264 16 0 16777215) (hr_a281 : dz_rg a281 601 0 16777215) (hr_a282 : dz_rg a282 5 0 14425) (hr_a283 : dz_pm a283 (dz_kp κ)) (hr_a296 : dz_rg a296 4 0 3) (hr_a293 : dz_rg a293 v3.toInt.toNat 0 (((dz_kr κ : Nat) : Int) - 1)) (o0 : ((v3.toInt = 0 ∧ v4.toInt < 1) ∨ (v3.toInt = 1 ∧ v4.toInt < 24) ∨ (v3.toInt = 2 ∧ v4.toInt < 576) ∨ (v3.toInt = 3 ∧ v4.toInt < 13824) ∨ (v3.toInt = 4 ∧ v4.toInt < 331776))) (o1 : c248_groups.toInt = ((dz_kg κ : Nat) : Int)) (o2 : c248_pots.toInt = ((dz_kp κ : Nat) : Int)) (o3 : c261_groups.toInt = ((dz_kg κ : Nat) : Int)) (o4 : c261_many.toInt = ((dz_kr κ : Nat) : Int)) (kv : Nat) (hkv : 1000000000000 ≤ kv) : dz_T (s239_X6_walk_0 fu c248_groups c248_pots c261_groups c261_many a262 a263 a264 a281 a282 a283 c292_firstLevel c292_firstOpen c292_firstLeft c295_way a296 (F239_X6_walk fu c248_groups c248_pots c261_groups c261_many a262 a263 a264 a281 a282 a283 c292_firstLevel c292_firstOpen c292_firstLeft c295_way a296 kv).1  v3 v4 v5 a293 a294 a297 a298 a299 c313_rows a314 a315) (fun r => 4 ≤ c248_pots.toInt ∧ v3.toInt ≤ 4 ∧ 4 ≤ v3.toInt ∧ dz_rg r.1 v3.toInt.toNat 0 (((dz_kr κ : Nat) : Int) - 1)) := by
  unfold s239_X6_walk_0
  refine dz_Tlt (fun h1 => ?_) (fun h1 => ?_)
  · skip
    exfalso; omega
  · skip
    refine dz_Ts ?_
    dsimp only
    exact ⟨(by first | assumption | omega), (by first | assumption | omega), (by first | assumption | omega), (dz_rgs (hr_a293) (by omega))⟩
theorem t239_X6_walk_s (fu : Nat) (hfu : 1000000000000 ≤ fu) (κ : Nat) (hκ : κ < 14) (c248_groups : Int32) (c248_pots : Int32) (c261_groups : Int32) (c261_many : Int32) (a262 : Nat → Int32) (a263 : Nat → Int32) (a264 : Nat → Int32) (a281 : Nat → Int32) (a282 : Nat → Int32) (a283 : Nat → Int32) (c292_firstLevel : Int32) (c292_firstOpen : Int32) (c292_firstLeft : Int32) (c295_way : Int32) (a296 : Nat → Int32) (v3 : Int32) (v4 : Int32) (v5 : Int64) (a293 : Nat → Int32) (a294 : Nat → Int64) (a297 : Nat → Int64) (a298 : Nat → Int32) (a299 : Nat → Int64) (c313_rows : Int64) (a314 : Nat → Int64) (a315 : Nat → Int64) (p0 : c248_groups.toInt ≤ 4) (p1 : 2 ≤ c248_groups.toInt) (p2 : c248_pots.toInt ≤ 4) (p3 : 0 ≤ c248_pots.toInt) (p4 : c261_groups.toInt ≤ 4) (p5 : 0 ≤ c261_groups.toInt) (p6 : c261_many.toInt ≤ 24) (p7 : 0 ≤ c261_many.toInt) (p8 : c292_firstLevel.toInt ≤ 4) (p9 : 0 ≤ c292_firstLevel.toInt) (p10 : c292_firstOpen.toInt ≤ 16777215) (p11 : 0 ≤ c292_firstOpen.toInt) (p12 : c292_firstLeft.toInt ≤ 15) (p13 : 0 ≤ c292_firstLeft.toInt) (p14 : 4 ≤ v3.toInt) (p15 : v3.toInt ≤ c248_pots.toInt) (p16 : v3.toInt ≤ 4) (p17 : 0 ≤ v4.toInt) (p18 : v4.toInt ≤ 331775) (hr_a262 : dz_rg a262 96 0 3) (hr_a263 : dz_rq a263 (dz_kr κ) (dz_kg κ) 0 (((dz_kg κ : Nat) : Int) - 1)) (hr_a264 : dz_rg a264 16 0 16777215) (hr_a281 : dz_rg a281 601 0 16777215) (hr_a282 : dz_rg a282 5 0 14425) (hr_a283 : dz_pm a283 (dz_kp κ)) (hr_a296 : dz_rg a296 4 0 3) (hr_a293 : dz_rg a293 v3.toInt.toNat 0 (((dz_kr κ : Nat) : Int) - 1)) (o0 : ((v3.toInt = 0 ∧ v4.toInt < 1) ∨ (v3.toInt = 1 ∧ v4.toInt < 24) ∨ (v3.toInt = 2 ∧ v4.toInt < 576) ∨ (v3.toInt = 3 ∧ v4.toInt < 13824) ∨ (v3.toInt = 4 ∧ v4.toInt < 331776))) (o1 : c248_groups.toInt = ((dz_kg κ : Nat) : Int)) (o2 : c248_pots.toInt = ((dz_kp κ : Nat) : Int)) (o3 : c261_groups.toInt = ((dz_kg κ : Nat) : Int)) (o4 : c261_many.toInt = ((dz_kr κ : Nat) : Int)) : dz_T (f239_X6_walk fu c248_groups c248_pots c261_groups c261_many a262 a263 a264 a281 a282 a283 c292_firstLevel c292_firstOpen c292_firstLeft c295_way a296 v3 v4 v5 a293 a294 a297 a298 a299 c313_rows a314 a315) (fun r => 4 ≤ c248_pots.toInt ∧ v3.toInt ≤ 4 ∧ 4 ≤ v3.toInt ∧ dz_rg r.1 v3.toInt.toNat 0 (((dz_kr κ : Nat) : Int) - 1)) :=
  t239_X6_walk_E_s fu hfu κ hκ c248_groups c248_pots c261_groups c261_many a262 a263 a264 a281 a282 a283 c292_firstLevel c292_firstOpen c292_firstLeft c295_way a296 v3 v4 v5 a293 a294 a297 a298 a299 c313_rows a314 a315 p0 p1 p2 p3 p4 p5 p6 p7 p8 p9 p10 p11 p12 p13 p14 p15 p16 p17 p18 hr_a262 hr_a263 hr_a264 hr_a281 hr_a282 hr_a283 hr_a296 hr_a293 o0 o1 o2 o3 o4 fu hfu
set_option maxHeartbeats 1000000 in
set_option maxRecDepth 10000 in
theorem t240_X6_walk_E_s (fu : Nat) (hfu : 1000000000000 ≤ fu) (κ : Nat) (hκ : κ < 14) (c248_groups : Int32) (c248_pots : Int32) (c261_groups : Int32) (c261_many : Int32) (a262 : Nat → Int32) (a263 : Nat → Int32) (a264 : Nat → Int32) (a281 : Nat → Int32) (a282 : Nat → Int32) (a283 : Nat → Int32) (c292_firstLevel : Int32) (c292_firstOpen : Int32) (c292_firstLeft : Int32) (c295_way : Int32) (a296 : Nat → Int32) (v3 : Int32) (v4 : Int32) (v5 : Int64) (a293 : Nat → Int32) (a294 : Nat → Int64) (a297 : Nat → Int64) (a298 : Nat → Int32) (a299 : Nat → Int64) (c313_rows : Int64) (a314 : Nat → Int64) (a315 : Nat → Int64) (p0 : c248_groups.toInt ≤ 4) (p1 : 2 ≤ c248_groups.toInt) (p2 : c248_pots.toInt ≤ 4) (p3 : 0 ≤ c248_pots.toInt) (p4 : c261_groups.toInt ≤ 4) (p5 : 0 ≤ c261_groups.toInt) (p6 : c261_many.toInt ≤ 24) (p7 : 0 ≤ c261_many.toInt) (p8 : c292_firstLevel.toInt ≤ 4) (p9 : 0 ≤ c292_firstLevel.toInt) (p10 : c292_firstOpen.toInt ≤ 16777215) (p11 : 0 ≤ c292_firstOpen.toInt) (p12 : c292_firstLeft.toInt ≤ 15) (p13 : 0 ≤ c292_firstLeft.toInt) (p14 : 3 ≤ v3.toInt) (p15 : v3.toInt ≤ c248_pots.toInt) (p16 : v3.toInt ≤ 4) (p17 : 0 ≤ v4.toInt) (p18 : v4.toInt ≤ 331775) (hr_a262 : dz_rg a262 96 0 3) (hr_a263 : dz_rq a263 (dz_kr κ) (dz_kg κ) 0 (((dz_kg κ : Nat) : Int) - 1)) (hr_a264 : dz_rg a264 16 0 16777215) (hr_a281 : dz_rg a281 601 0 16777215) (hr_a282 : dz_rg a282 5 0 14425) (hr_a283 : dz_pm a283 (dz_kp κ)) (hr_a296 : dz_rg a296 4 0 3) (hr_a293 : dz_rg a293 v3.toInt.toNat 0 (((dz_kr κ : Nat) : Int) - 1)) (o0 : ((v3.toInt = 0 ∧ v4.toInt < 1) ∨ (v3.toInt = 1 ∧ v4.toInt < 24) ∨ (v3.toInt = 2 ∧ v4.toInt < 576) ∨ (v3.toInt = 3 ∧ v4.toInt < 13824) ∨ (v3.toInt = 4 ∧ v4.toInt < 331776))) (o1 : c248_groups.toInt = ((dz_kg κ : Nat) : Int)) (o2 : c248_pots.toInt = ((dz_kp κ : Nat) : Int)) (o3 : c261_groups.toInt = ((dz_kg κ : Nat) : Int)) (o4 : c261_many.toInt = ((dz_kr κ : Nat) : Int)) (kv : Nat) (hkv : 1000000000000 ≤ kv) : dz_T (s240_X6_walk_0 fu c248_groups c248_pots c261_groups c261_many a262 a263 a264 a281 a282 a283 c292_firstLevel c292_firstOpen c292_firstLeft c295_way a296 (F240_X6_walk fu c248_groups c248_pots c261_groups c261_many a262 a263 a264 a281 a282 a283 c292_firstLevel c292_firstOpen c292_firstLeft c295_way a296 kv).1  v3 v4 v5 a293 a294 a297 a298 a299 c313_rows a314 a315) (fun r => 3 ≤ c248_pots.toInt ∧ v3.toInt ≤ 4 ∧ 3 ≤ v3.toInt ∧ v3.toInt ≤ c248_pots.toInt ∧ dz_rg r.1 v3.toInt.toNat 0 (((dz_kr κ : Nat) : Int) - 1)) := by
  unfold s240_X6_walk_0
  refine dz_Tlt (fun h1 => ?_) (fun h1 => ?_)
  · skip
    refine dz_Tb (t180_X10_ranksOpen fu hfu _ _ _ _ (by first | assumption | omega) (hr_a281) (hr_a282)) (fun r1 q => ?_)
    obtain ⟨q1_0, q1_1⟩ := q
    refine dz_Teq (fun h2 => ?_) (fun h2 => ?_)
    · skip
      obtain ⟨k1, rfl⟩ : ∃ x, kv = x + 1 := ⟨kv - 1, by omega⟩
      show dz_T (s240_X6_walk_1 fu c248_groups c248_pots c261_groups c261_many a262 a263 a264 a281 a282 a283 c292_firstLevel c292_firstOpen c292_firstLeft c295_way a296 (F240_X6_walk fu c248_groups c248_pots c261_groups c261_many a262 a263 a264 a281 a282 a283 c292_firstLevel c292_firstOpen c292_firstLeft c295_way a296 k1).2.1 (F240_X6_walk fu c248_groups c248_pots c261_groups c261_many a262 a263 a264 a281 a282 a283 c292_firstLevel c292_firstOpen c292_firstLeft c295_way a296 k1).2.2.1 v3 v4 v5 (r1 &&& c292_firstOpen) c292_firstLeft a293 a294 a297 a298 a299 c313_rows a314 a315) _
      unfold s240_X6_walk_1
      have e3 := dz_l1
      have e4 := dz_sub (a := c248_pots) (b := (1 : Int32)) (by omega) (by omega)
      refine dz_Teq (fun h5 => ?_) (fun h5 => ?_)
      · skip
        have e6 := dz_andr (a := r1) (b := c292_firstOpen) (by omega)
        have e7 := dz_andl (a := r1) (b := c292_firstOpen) (by omega)
        refine dz_Tb (t232_X7_slotOf_s fu hfu κ hκ _ _ _ p4 p5 (by omega) o3) (fun r2 q => ?_)
        obtain ⟨q2_0, q2_1⟩ := q
        refine dz_Tbe (show f233_X7_isKept fu a298 r2 (r1 &&& c292_firstOpen) = (if ((64 : Int32) ≤ r2) then (some (0 : Int32)) else (if dz_in r2 64 then (if ((a298 r2.toNatClampNeg) = (r1 &&& c292_firstOpen)) then (some (1 : Int32)) else (some (0 : Int32))) else none)) from rfl) ?_
        have e8 := dz_l64
        refine dz_Tleb (fun h9 => ?_) (fun h9 => ?_)
        · skip
          refine dz_Tsb ?_
          have e10 := dz_l0
          refine dz_Teq (fun h11 => ?_) (fun h11 => ?_)
          · skip
            refine dz_Tb (t231_X7_fillRows_s fu hfu κ hκ _ _ _ _ _ _ _ _ p4 p5 p6 p7 (by omega) (by omega) p13 p12 (hr_a264) (hr_a296) o3 o4) (fun r4 _ => ?_)
            refine dz_Tb (t235_X7_keepRows_s fu hfu κ hκ _ _ _ _ _ _ _ _ p4 p5 p6 p7 q2_1 q2_0 (hr_a262) o3 o4) (fun r5 _ => ?_)
            obtain ⟨k2, rfl⟩ : ∃ x, k1 = x + 1 := ⟨k1 - 1, by omega⟩
            show dz_T (s240_X6_walk_3 fu c248_groups c248_pots c261_groups c261_many a262 a263 a264 a281 a282 a283 c292_firstLevel c292_firstOpen c292_firstLeft c295_way a296 v5 r2 a293 a294 r4 r5.1 r5.2 c313_rows a314 a315) _
            unfold s240_X6_walk_3
            have e12 := dz_l16
            have e13 := dz_mull (a := r2) (b := (16 : Int32)) 64 (by omega) (by omega) (by omega)
            refine dz_Tb (t237_X6_addLast_s fu hfu κ hκ _ _ _ _ _ _ _ _ _ _ _ p0 p1 p2 p3 (by omega) (by omega) (by first | assumption | omega) (hr_a263) (hr_a283) (dz_rgs (hr_a293) (by omega)) o1 o2) (fun r6 _ => ?_)
            refine dz_Ts ?_
            dsimp only
            exact ⟨(by first | assumption | omega), (by first | assumption | omega), (by first | assumption | omega), (by first | assumption | omega), (dz_rgs (hr_a293) (by omega))⟩
          · skip
            exfalso; omega
        · skip
          refine dz_Tinb (by omega) (by omega) ?_
          refine dz_Teqb (fun h14 => ?_) (fun h14 => ?_)
          · skip
            refine dz_Tsb ?_
            have e15 := dz_l0
            refine dz_Teq (fun h16 => ?_) (fun h16 => ?_)
            · skip
              exfalso; omega
            · skip
              obtain ⟨k3, rfl⟩ : ∃ x, k1 = x + 1 := ⟨k1 - 1, by omega⟩
              show dz_T (s240_X6_walk_3 fu c248_groups c248_pots c261_groups c261_many a262 a263 a264 a281 a282 a283 c292_firstLevel c292_firstOpen c292_firstLeft c295_way a296 v5 r2 a293 a294 a297 a298 a299 c313_rows a314 a315) _
              unfold s240_X6_walk_3
              have e17 := dz_l16
              have e18 := dz_mulr (a := r2) (b := (16 : Int32)) 16 (by omega) (by omega) (by omega)
              refine dz_Tb (t237_X6_addLast_s fu hfu κ hκ _ _ _ _ _ _ _ _ _ _ _ p0 p1 p2 p3 (by omega) (by omega) (by first | assumption | omega) (hr_a263) (hr_a283) (dz_rgs (hr_a293) (by omega)) o1 o2) (fun r7 _ => ?_)
              refine dz_Ts ?_
              dsimp only
              exact ⟨(by first | assumption | omega), (by first | assumption | omega), (by first | assumption | omega), (by first | assumption | omega), (dz_rgs (hr_a293) (by omega))⟩
          · skip
            refine dz_Tsb ?_
            have e19 := dz_l0
            refine dz_Teq (fun h20 => ?_) (fun h20 => ?_)
            · skip
              refine dz_Tb (t231_X7_fillRows_s fu hfu κ hκ _ _ _ _ _ _ _ _ p4 p5 p6 p7 (by omega) (by omega) p13 p12 (hr_a264) (hr_a296) o3 o4) (fun r8 _ => ?_)
              refine dz_Tb (t235_X7_keepRows_s fu hfu κ hκ _ _ _ _ _ _ _ _ p4 p5 p6 p7 q2_1 q2_0 (hr_a262) o3 o4) (fun r9 _ => ?_)
              obtain ⟨k4, rfl⟩ : ∃ x, k1 = x + 1 := ⟨k1 - 1, by omega⟩
              show dz_T (s240_X6_walk_3 fu c248_groups c248_pots c261_groups c261_many a262 a263 a264 a281 a282 a283 c292_firstLevel c292_firstOpen c292_firstLeft c295_way a296 v5 r2 a293 a294 r8 r9.1 r9.2 c313_rows a314 a315) _
              unfold s240_X6_walk_3
              have e21 := dz_l16
              have e22 := dz_mulr (a := r2) (b := (16 : Int32)) 16 (by omega) (by omega) (by omega)
              refine dz_Tb (t237_X6_addLast_s fu hfu κ hκ _ _ _ _ _ _ _ _ _ _ _ p0 p1 p2 p3 (by omega) (by omega) (by first | assumption | omega) (hr_a263) (hr_a283) (dz_rgs (hr_a293) (by omega)) o1 o2) (fun r10 _ => ?_)
              refine dz_Ts ?_
              dsimp only
              exact ⟨(by first | assumption | omega), (by first | assumption | omega), (by first | assumption | omega), (by first | assumption | omega), (dz_rgs (hr_a293) (by omega))⟩
            · skip
              exfalso; omega
      · skip
        exfalso; omega
    · skip
      obtain ⟨k5, rfl⟩ : ∃ x, kv = x + 1 := ⟨kv - 1, by omega⟩
      show dz_T (s240_X6_walk_1 fu c248_groups c248_pots c261_groups c261_many a262 a263 a264 a281 a282 a283 c292_firstLevel c292_firstOpen c292_firstLeft c295_way a296 (F240_X6_walk fu c248_groups c248_pots c261_groups c261_many a262 a263 a264 a281 a282 a283 c292_firstLevel c292_firstOpen c292_firstLeft c295_way a296 k5).2.1 (F240_X6_walk fu c248_groups c248_pots c261_groups c261_many a262 a263 a264 a281 a282 a283 c292_firstLevel c292_firstOpen c292_firstLeft c295_way a296 k5).2.2.1 v3 v4 v5 r1 (((1 : Int32) <<< (c248_groups &&& (31 : Int32))) - (1 : Int32)) a293 a294 a297 a298 a299 c313_rows a314 a315) _
      unfold s240_X6_walk_1
      have e23 := dz_l1
      have e24 := dz_sub (a := c248_pots) (b := (1 : Int32)) (by omega) (by omega)
      refine dz_Teq (fun h25 => ?_) (fun h25 => ?_)
      · skip
        have e26 := dz_l31
        have e27 := dz_andr (a := c248_groups) (b := (31 : Int32)) (by omega)
        have e28 := dz_andl (a := c248_groups) (b := (31 : Int32)) (by omega)
        have e29 := dz_shl1 (b := c248_groups) 2 4 (by omega) (by omega) (by omega)
        have e30 := dz_sub (a := ((1 : Int32) <<< (c248_groups &&& (31 : Int32)))) (b := (1 : Int32)) (by omega) (by omega)
        refine dz_Tb (t232_X7_slotOf_s fu hfu κ hκ _ _ _ p4 p5 q1_1 o3) (fun r11 q => ?_)
        obtain ⟨q11_0, q11_1⟩ := q
        refine dz_Tbe (show f233_X7_isKept fu a298 r11 r1 = (if ((64 : Int32) ≤ r11) then (some (0 : Int32)) else (if dz_in r11 64 then (if ((a298 r11.toNatClampNeg) = r1) then (some (1 : Int32)) else (some (0 : Int32))) else none)) from rfl) ?_
        have e31 := dz_l64
        refine dz_Tleb (fun h32 => ?_) (fun h32 => ?_)
        · skip
          refine dz_Tsb ?_
          have e33 := dz_l0
          refine dz_Teq (fun h34 => ?_) (fun h34 => ?_)
          · skip
            refine dz_Tb (t231_X7_fillRows_s fu hfu κ hκ _ _ _ _ _ _ _ _ p4 p5 p6 p7 q1_1 q1_0 (by omega) (by omega) (hr_a264) (hr_a296) o3 o4) (fun r13 _ => ?_)
            refine dz_Tb (t235_X7_keepRows_s fu hfu κ hκ _ _ _ _ _ _ _ _ p4 p5 p6 p7 q11_1 q11_0 (hr_a262) o3 o4) (fun r14 _ => ?_)
            obtain ⟨k6, rfl⟩ : ∃ x, k5 = x + 1 := ⟨k5 - 1, by omega⟩
            show dz_T (s240_X6_walk_3 fu c248_groups c248_pots c261_groups c261_many a262 a263 a264 a281 a282 a283 c292_firstLevel c292_firstOpen c292_firstLeft c295_way a296 v5 r11 a293 a294 r13 r14.1 r14.2 c313_rows a314 a315) _
            unfold s240_X6_walk_3
            have e35 := dz_l16
            have e36 := dz_mull (a := r11) (b := (16 : Int32)) 64 (by omega) (by omega) (by omega)
            refine dz_Tb (t237_X6_addLast_s fu hfu κ hκ _ _ _ _ _ _ _ _ _ _ _ p0 p1 p2 p3 (by omega) (by omega) (by first | assumption | omega) (hr_a263) (hr_a283) (dz_rgs (hr_a293) (by omega)) o1 o2) (fun r15 _ => ?_)
            refine dz_Ts ?_
            dsimp only
            exact ⟨(by first | assumption | omega), (by first | assumption | omega), (by first | assumption | omega), (by first | assumption | omega), (dz_rgs (hr_a293) (by omega))⟩
          · skip
            exfalso; omega
        · skip
          refine dz_Tinb (by omega) (by omega) ?_
          refine dz_Teqb (fun h37 => ?_) (fun h37 => ?_)
          · skip
            refine dz_Tsb ?_
            have e38 := dz_l0
            refine dz_Teq (fun h39 => ?_) (fun h39 => ?_)
            · skip
              exfalso; omega
            · skip
              obtain ⟨k7, rfl⟩ : ∃ x, k5 = x + 1 := ⟨k5 - 1, by omega⟩
              show dz_T (s240_X6_walk_3 fu c248_groups c248_pots c261_groups c261_many a262 a263 a264 a281 a282 a283 c292_firstLevel c292_firstOpen c292_firstLeft c295_way a296 v5 r11 a293 a294 a297 a298 a299 c313_rows a314 a315) _
              unfold s240_X6_walk_3
              have e40 := dz_l16
              have e41 := dz_mulr (a := r11) (b := (16 : Int32)) 16 (by omega) (by omega) (by omega)
              refine dz_Tb (t237_X6_addLast_s fu hfu κ hκ _ _ _ _ _ _ _ _ _ _ _ p0 p1 p2 p3 (by omega) (by omega) (by first | assumption | omega) (hr_a263) (hr_a283) (dz_rgs (hr_a293) (by omega)) o1 o2) (fun r16 _ => ?_)
              refine dz_Ts ?_
              dsimp only
              exact ⟨(by first | assumption | omega), (by first | assumption | omega), (by first | assumption | omega), (by first | assumption | omega), (dz_rgs (hr_a293) (by omega))⟩
          · skip
            refine dz_Tsb ?_
            have e42 := dz_l0
            refine dz_Teq (fun h43 => ?_) (fun h43 => ?_)
            · skip
              refine dz_Tb (t231_X7_fillRows_s fu hfu κ hκ _ _ _ _ _ _ _ _ p4 p5 p6 p7 q1_1 q1_0 (by omega) (by omega) (hr_a264) (hr_a296) o3 o4) (fun r17 _ => ?_)
              refine dz_Tb (t235_X7_keepRows_s fu hfu κ hκ _ _ _ _ _ _ _ _ p4 p5 p6 p7 q11_1 q11_0 (hr_a262) o3 o4) (fun r18 _ => ?_)
              obtain ⟨k8, rfl⟩ : ∃ x, k5 = x + 1 := ⟨k5 - 1, by omega⟩
              show dz_T (s240_X6_walk_3 fu c248_groups c248_pots c261_groups c261_many a262 a263 a264 a281 a282 a283 c292_firstLevel c292_firstOpen c292_firstLeft c295_way a296 v5 r11 a293 a294 r17 r18.1 r18.2 c313_rows a314 a315) _
              unfold s240_X6_walk_3
              have e44 := dz_l16
              have e45 := dz_mulr (a := r11) (b := (16 : Int32)) 16 (by omega) (by omega) (by omega)
              refine dz_Tb (t237_X6_addLast_s fu hfu κ hκ _ _ _ _ _ _ _ _ _ _ _ p0 p1 p2 p3 (by omega) (by omega) (by first | assumption | omega) (hr_a263) (hr_a283) (dz_rgs (hr_a293) (by omega)) o1 o2) (fun r19 _ => ?_)
              refine dz_Ts ?_
              dsimp only
              exact ⟨(by first | assumption | omega), (by first | assumption | omega), (by first | assumption | omega), (by first | assumption | omega), (dz_rgs (hr_a293) (by omega))⟩
            · skip
              exfalso; omega
      · skip
        exfalso; omega
  · skip
    refine dz_Ts ?_
    dsimp only
    exact ⟨(by first | assumption | omega), (by first | assumption | omega), (by first | assumption | omega), (by first | assumption | omega), (dz_rgs (hr_a293) (by omega))⟩
theorem t240_X6_walk_s (fu : Nat) (hfu : 1000000000000 ≤ fu) (κ : Nat) (hκ : κ < 14) (c248_groups : Int32) (c248_pots : Int32) (c261_groups : Int32) (c261_many : Int32) (a262 : Nat → Int32) (a263 : Nat → Int32) (a264 : Nat → Int32) (a281 : Nat → Int32) (a282 : Nat → Int32) (a283 : Nat → Int32) (c292_firstLevel : Int32) (c292_firstOpen : Int32) (c292_firstLeft : Int32) (c295_way : Int32) (a296 : Nat → Int32) (v3 : Int32) (v4 : Int32) (v5 : Int64) (a293 : Nat → Int32) (a294 : Nat → Int64) (a297 : Nat → Int64) (a298 : Nat → Int32) (a299 : Nat → Int64) (c313_rows : Int64) (a314 : Nat → Int64) (a315 : Nat → Int64) (p0 : c248_groups.toInt ≤ 4) (p1 : 2 ≤ c248_groups.toInt) (p2 : c248_pots.toInt ≤ 4) (p3 : 0 ≤ c248_pots.toInt) (p4 : c261_groups.toInt ≤ 4) (p5 : 0 ≤ c261_groups.toInt) (p6 : c261_many.toInt ≤ 24) (p7 : 0 ≤ c261_many.toInt) (p8 : c292_firstLevel.toInt ≤ 4) (p9 : 0 ≤ c292_firstLevel.toInt) (p10 : c292_firstOpen.toInt ≤ 16777215) (p11 : 0 ≤ c292_firstOpen.toInt) (p12 : c292_firstLeft.toInt ≤ 15) (p13 : 0 ≤ c292_firstLeft.toInt) (p14 : 3 ≤ v3.toInt) (p15 : v3.toInt ≤ c248_pots.toInt) (p16 : v3.toInt ≤ 4) (p17 : 0 ≤ v4.toInt) (p18 : v4.toInt ≤ 331775) (hr_a262 : dz_rg a262 96 0 3) (hr_a263 : dz_rq a263 (dz_kr κ) (dz_kg κ) 0 (((dz_kg κ : Nat) : Int) - 1)) (hr_a264 : dz_rg a264 16 0 16777215) (hr_a281 : dz_rg a281 601 0 16777215) (hr_a282 : dz_rg a282 5 0 14425) (hr_a283 : dz_pm a283 (dz_kp κ)) (hr_a296 : dz_rg a296 4 0 3) (hr_a293 : dz_rg a293 v3.toInt.toNat 0 (((dz_kr κ : Nat) : Int) - 1)) (o0 : ((v3.toInt = 0 ∧ v4.toInt < 1) ∨ (v3.toInt = 1 ∧ v4.toInt < 24) ∨ (v3.toInt = 2 ∧ v4.toInt < 576) ∨ (v3.toInt = 3 ∧ v4.toInt < 13824) ∨ (v3.toInt = 4 ∧ v4.toInt < 331776))) (o1 : c248_groups.toInt = ((dz_kg κ : Nat) : Int)) (o2 : c248_pots.toInt = ((dz_kp κ : Nat) : Int)) (o3 : c261_groups.toInt = ((dz_kg κ : Nat) : Int)) (o4 : c261_many.toInt = ((dz_kr κ : Nat) : Int)) : dz_T (f240_X6_walk fu c248_groups c248_pots c261_groups c261_many a262 a263 a264 a281 a282 a283 c292_firstLevel c292_firstOpen c292_firstLeft c295_way a296 v3 v4 v5 a293 a294 a297 a298 a299 c313_rows a314 a315) (fun r => 3 ≤ c248_pots.toInt ∧ v3.toInt ≤ 4 ∧ 3 ≤ v3.toInt ∧ v3.toInt ≤ c248_pots.toInt ∧ dz_rg r.1 v3.toInt.toNat 0 (((dz_kr κ : Nat) : Int) - 1)) :=
  t240_X6_walk_E_s fu hfu κ hκ c248_groups c248_pots c261_groups c261_many a262 a263 a264 a281 a282 a283 c292_firstLevel c292_firstOpen c292_firstLeft c295_way a296 v3 v4 v5 a293 a294 a297 a298 a299 c313_rows a314 a315 p0 p1 p2 p3 p4 p5 p6 p7 p8 p9 p10 p11 p12 p13 p14 p15 p16 p17 p18 hr_a262 hr_a263 hr_a264 hr_a281 hr_a282 hr_a283 hr_a296 hr_a293 o0 o1 o2 o3 o4 fu hfu
abbrev p241_X6_walk_s (fu : Nat) (κ : Nat) (c248_groups : Int32) (c248_pots : Int32) (c261_groups : Int32) (c261_many : Int32) (a262 : Nat → Int32) (a263 : Nat → Int32) (a264 : Nat → Int32) (a281 : Nat → Int32) (a282 : Nat → Int32) (a283 : Nat → Int32) (c292_firstLevel : Int32) (c292_firstOpen : Int32) (c292_firstLeft : Int32) (c295_way : Int32) (a296 : Nat → Int32) (gh_v3 : Int32) (k : Nat) : Prop :=
  (∀ (v3 : Int32) (v4 : Int32) (v5 : Int64) (v9 : Int32) (v10 : Int32) (a293 : Nat → Int32) (a294 : Nat → Int64) (a297 : Nat → Int64) (a298 : Nat → Int32) (a299 : Nat → Int64) (c313_rows : Int64) (a314 : Nat → Int64) (a315 : Nat → Int64), 4 ≤ c248_pots.toInt → gh_v3.toInt ≤ 2 → 2 ≤ gh_v3.toInt → v3.toInt ≤ 2 → 2 ≤ v3.toInt → v4.toInt ≤ 331775 → 0 ≤ v4.toInt → v9.toInt ≤ 48 → 48 ≤ v9.toInt → v10.toInt ≤ 24 → 0 ≤ v10.toInt → v10.toInt ≤ c261_many.toInt → dz_rg a293 v3.toInt.toNat 0 (((dz_kr κ : Nat) : Int) - 1) → ((v3.toInt = 0 ∧ v4.toInt < 1) ∨ (v3.toInt = 1 ∧ v4.toInt < 24) ∨ (v3.toInt = 2 ∧ v4.toInt < 576) ∨ (v3.toInt = 3 ∧ v4.toInt < 13824) ∨ (v3.toInt = 4 ∧ v4.toInt < 331776)) → 0 + 0 + (24 - v10.toInt) * 16 + 8 ≤ ((k : Nat) : Int) → dz_T ((F241_X6_walk fu c248_groups c248_pots c261_groups c261_many a262 a263 a264 a281 a282 a283 c292_firstLevel c292_firstOpen c292_firstLeft c295_way a296 k).2.1 v3 v4 v5 v9 v10 a293 a294 a297 a298 a299 c313_rows a314 a315) (fun r => 2 ≤ c248_pots.toInt ∧ gh_v3.toInt ≤ 4 ∧ 2 ≤ gh_v3.toInt ∧ gh_v3.toInt ≤ c248_pots.toInt ∧ dz_rg r.1 gh_v3.toInt.toNat 0 (((dz_kr κ : Nat) : Int) - 1)))
set_option maxHeartbeats 1000000 in
set_option maxRecDepth 10000 in
theorem t241_X6_walk_h2_s (fu : Nat) (hfu : 1000000000000 ≤ fu) (κ : Nat) (hκ : κ < 14) (c248_groups : Int32) (c248_pots : Int32) (c261_groups : Int32) (c261_many : Int32) (a262 : Nat → Int32) (a263 : Nat → Int32) (a264 : Nat → Int32) (a281 : Nat → Int32) (a282 : Nat → Int32) (a283 : Nat → Int32) (c292_firstLevel : Int32) (c292_firstOpen : Int32) (c292_firstLeft : Int32) (c295_way : Int32) (a296 : Nat → Int32) (gh_v3 : Int32) (p0 : c248_groups.toInt ≤ 4) (p1 : 2 ≤ c248_groups.toInt) (p2 : c248_pots.toInt ≤ 4) (p3 : 0 ≤ c248_pots.toInt) (p4 : c261_groups.toInt ≤ 4) (p5 : 0 ≤ c261_groups.toInt) (p6 : c261_many.toInt ≤ 24) (p7 : 0 ≤ c261_many.toInt) (p8 : c292_firstLevel.toInt ≤ 4) (p9 : 0 ≤ c292_firstLevel.toInt) (p10 : c292_firstOpen.toInt ≤ 16777215) (p11 : 0 ≤ c292_firstOpen.toInt) (p12 : c292_firstLeft.toInt ≤ 15) (p13 : 0 ≤ c292_firstLeft.toInt) (hr_a262 : dz_rg a262 96 0 3) (hr_a263 : dz_rq a263 (dz_kr κ) (dz_kg κ) 0 (((dz_kg κ : Nat) : Int) - 1)) (hr_a264 : dz_rg a264 16 0 16777215) (hr_a281 : dz_rg a281 601 0 16777215) (hr_a282 : dz_rg a282 5 0 14425) (hr_a283 : dz_pm a283 (dz_kp κ)) (hr_a296 : dz_rg a296 4 0 3) (o1 : c248_groups.toInt = ((dz_kg κ : Nat) : Int)) (o2 : c248_pots.toInt = ((dz_kp κ : Nat) : Int)) (o3 : c261_groups.toInt = ((dz_kg κ : Nat) : Int)) (o4 : c261_many.toInt = ((dz_kr κ : Nat) : Int)) (k : Nat) (ih : ∀ j9, j9 < k → p241_X6_walk_s fu κ c248_groups c248_pots c261_groups c261_many a262 a263 a264 a281 a282 a283 c292_firstLevel c292_firstOpen c292_firstLeft c295_way a296 gh_v3 j9) : ∀ (v3 : Int32) (v4 : Int32) (v5 : Int64) (v9 : Int32) (v10 : Int32) (a293 : Nat → Int32) (a294 : Nat → Int64) (a297 : Nat → Int64) (a298 : Nat → Int32) (a299 : Nat → Int64) (c313_rows : Int64) (a314 : Nat → Int64) (a315 : Nat → Int64), 4 ≤ c248_pots.toInt → gh_v3.toInt ≤ 2 → 2 ≤ gh_v3.toInt → v3.toInt ≤ 2 → 2 ≤ v3.toInt → v4.toInt ≤ 331775 → 0 ≤ v4.toInt → v9.toInt ≤ 48 → 48 ≤ v9.toInt → v10.toInt ≤ 24 → 0 ≤ v10.toInt → v10.toInt ≤ c261_many.toInt → dz_rg a293 v3.toInt.toNat 0 (((dz_kr κ : Nat) : Int) - 1) → ((v3.toInt = 0 ∧ v4.toInt < 1) ∨ (v3.toInt = 1 ∧ v4.toInt < 24) ∨ (v3.toInt = 2 ∧ v4.toInt < 576) ∨ (v3.toInt = 3 ∧ v4.toInt < 13824) ∨ (v3.toInt = 4 ∧ v4.toInt < 331776)) → 0 + 0 + (24 - v10.toInt) * 16 + 8 ≤ ((k : Nat) : Int) → dz_T ((F241_X6_walk fu c248_groups c248_pots c261_groups c261_many a262 a263 a264 a281 a282 a283 c292_firstLevel c292_firstOpen c292_firstLeft c295_way a296 k).2.1 v3 v4 v5 v9 v10 a293 a294 a297 a298 a299 c313_rows a314 a315) (fun r => 2 ≤ c248_pots.toInt ∧ gh_v3.toInt ≤ 4 ∧ 2 ≤ gh_v3.toInt ∧ gh_v3.toInt ≤ c248_pots.toInt ∧ dz_rg r.1 gh_v3.toInt.toNat 0 (((dz_kr κ : Nat) : Int) - 1)) := by
  intro v3 v4 v5 v9 v10 a293 a294 a297 a298 a299 c313_rows a314 a315 i0 i1 i2 i3 i4 i5 i6 i7 i8 i9 i10 i11 hr_a293 x0 hm
  obtain ⟨k0, rfl⟩ : ∃ x, k = x + 1 := ⟨k - 1, by omega⟩
  show dz_T (s241_X6_walk_2 fu c248_groups c248_pots c261_groups c261_many a262 a263 a264 a281 a282 a283 c292_firstLevel c292_firstOpen c292_firstLeft c295_way a296 (F241_X6_walk fu c248_groups c248_pots c261_groups c261_many a262 a263 a264 a281 a282 a283 c292_firstLevel c292_firstOpen c292_firstLeft c295_way a296 k0).2.2.2  v3 v4 v5 v9 v10 a293 a294 a297 a298 a299 c313_rows a314 a315) _
  unfold s241_X6_walk_2
  have hs : v3.toInt = 2 := by omega
  refine dz_Tle (fun h1 => ?_) (fun h1 => ?_)
  · skip
    refine dz_Ts ?_
    dsimp only
    exact ⟨(by first | assumption | omega), (by first | assumption | omega), i2, (by first | assumption | omega), (dz_rgs (hr_a293) (by omega))⟩
  · skip
    have e2 := dz_add (a := v9) (b := v10) (by omega) (by omega)
    refine dz_Tin (by omega) (by omega) ?_
    have e3 := dz_l0
    refine dz_Teq (fun h4 => ?_) (fun h4 => ?_)
    · skip
      obtain ⟨k1, rfl⟩ : ∃ x, k0 = x + 1 := ⟨k0 - 1, by omega⟩
      show dz_T (s241_X6_walk_4 fu c248_groups c248_pots c261_groups c261_many a262 a263 a264 a281 a282 a283 c292_firstLevel c292_firstOpen c292_firstLeft c295_way a296 (F241_X6_walk fu c248_groups c248_pots c261_groups c261_many a262 a263 a264 a281 a282 a283 c292_firstLevel c292_firstOpen c292_firstLeft c295_way a296 k1).2.1 v3 v4 v5 v9 v10 a293 a294 a297 a298 a299 c313_rows a314 a315) _
      unfold s241_X6_walk_4
      have e5 := dz_l1
      have e6 := dz_add (a := v10) (b := (1 : Int32)) (by omega) (by omega)
      exact (ih k1 (by omega)) v3 v4 v5 v9 (v10 + (1 : Int32)) a293 a294 a297 a298 a299 c313_rows a314 a315 i0 i1 i2 i3 i4 i5 i6 i7 i8 (by omega) (by omega) (by omega) (hr_a293) (by omega) (by omega)
    · skip
      refine dz_Tin (by omega) (by omega) ?_
      refine dz_Tin (by omega) (by omega) ?_
      have e7 := dz_l1
      have e8 := dz_add (a := v3) (b := (1 : Int32)) (by omega) (by omega)
      have e9 := dz_mulb (a := v4) (b := c261_many) 575 24 (by omega) (by omega) (by omega) (by omega) (by omega)
      have e10 := dz_add (a := (v4 * c261_many)) (b := v10) (by omega) (by omega)
      refine dz_Tb (t240_X6_walk_s fu hfu κ hκ _ _ _ _ _ _ _ _ _ _ _ _ _ _ _ _ _ _ _ _ _ _ _ _ _ _ p0 p1 p2 (by first | assumption | omega) p4 p5 p6 p7 p8 p9 p10 p11 p12 p13 (by omega) (by omega) (by omega) (by omega) (by omega) (hr_a262) (hr_a263) (hr_a264) (hr_a281) (hr_a282) (hr_a283) (hr_a296) (dz_rgx (hr_a293) (k2 := (v3 + (1 : Int32))) (by omega) (by omega) (by omega) (by omega)) (by first | assumption | omega) o1 o2 o3 o4) (fun r1 q => ?_)
      obtain ⟨q1_0, q1_1, q1_2, q1_3, qa1_0⟩ := q
      obtain ⟨k2, rfl⟩ : ∃ x, k0 = x + 1 := ⟨k0 - 1, by omega⟩
      show dz_T (s241_X6_walk_4 fu c248_groups c248_pots c261_groups c261_many a262 a263 a264 a281 a282 a283 c292_firstLevel c292_firstOpen c292_firstLeft c295_way a296 (F241_X6_walk fu c248_groups c248_pots c261_groups c261_many a262 a263 a264 a281 a282 a283 c292_firstLevel c292_firstOpen c292_firstLeft c295_way a296 k2).2.1 v3 v4 v5 v9 v10 r1.1 r1.2.1 r1.2.2.1 r1.2.2.2.1 r1.2.2.2.2.1 r1.2.2.2.2.2.1 r1.2.2.2.2.2.2.1 r1.2.2.2.2.2.2.2) _
      unfold s241_X6_walk_4
      have e11 := dz_add (a := v10) (b := (1 : Int32)) (by omega) (by omega)
      exact (ih k2 (by omega)) v3 v4 v5 v9 (v10 + (1 : Int32)) r1.1 r1.2.1 r1.2.2.1 r1.2.2.2.1 r1.2.2.2.2.1 r1.2.2.2.2.2.1 r1.2.2.2.2.2.2.1 r1.2.2.2.2.2.2.2 (by first | assumption | omega) i1 i2 i3 i4 i5 i6 i7 i8 (by omega) (by omega) (by omega) (dz_rgs (qa1_0) (by omega)) (by omega) (by omega)
theorem t241_X6_walk_I_s (fu : Nat) (hfu : 1000000000000 ≤ fu) (κ : Nat) (hκ : κ < 14) (c248_groups : Int32) (c248_pots : Int32) (c261_groups : Int32) (c261_many : Int32) (a262 : Nat → Int32) (a263 : Nat → Int32) (a264 : Nat → Int32) (a281 : Nat → Int32) (a282 : Nat → Int32) (a283 : Nat → Int32) (c292_firstLevel : Int32) (c292_firstOpen : Int32) (c292_firstLeft : Int32) (c295_way : Int32) (a296 : Nat → Int32) (gh_v3 : Int32) (p0 : c248_groups.toInt ≤ 4) (p1 : 2 ≤ c248_groups.toInt) (p2 : c248_pots.toInt ≤ 4) (p3 : 0 ≤ c248_pots.toInt) (p4 : c261_groups.toInt ≤ 4) (p5 : 0 ≤ c261_groups.toInt) (p6 : c261_many.toInt ≤ 24) (p7 : 0 ≤ c261_many.toInt) (p8 : c292_firstLevel.toInt ≤ 4) (p9 : 0 ≤ c292_firstLevel.toInt) (p10 : c292_firstOpen.toInt ≤ 16777215) (p11 : 0 ≤ c292_firstOpen.toInt) (p12 : c292_firstLeft.toInt ≤ 15) (p13 : 0 ≤ c292_firstLeft.toInt) (hr_a262 : dz_rg a262 96 0 3) (hr_a263 : dz_rq a263 (dz_kr κ) (dz_kg κ) 0 (((dz_kg κ : Nat) : Int) - 1)) (hr_a264 : dz_rg a264 16 0 16777215) (hr_a281 : dz_rg a281 601 0 16777215) (hr_a282 : dz_rg a282 5 0 14425) (hr_a283 : dz_pm a283 (dz_kp κ)) (hr_a296 : dz_rg a296 4 0 3) (o1 : c248_groups.toInt = ((dz_kg κ : Nat) : Int)) (o2 : c248_pots.toInt = ((dz_kp κ : Nat) : Int)) (o3 : c261_groups.toInt = ((dz_kg κ : Nat) : Int)) (o4 : c261_many.toInt = ((dz_kr κ : Nat) : Int)) (k : Nat) : p241_X6_walk_s fu κ c248_groups c248_pots c261_groups c261_many a262 a263 a264 a281 a282 a283 c292_firstLevel c292_firstOpen c292_firstLeft c295_way a296 gh_v3 k := by
  induction k using Nat.strongRecOn with
  | _ k ih => exact t241_X6_walk_h2_s fu hfu κ hκ c248_groups c248_pots c261_groups c261_many a262 a263 a264 a281 a282 a283 c292_firstLevel c292_firstOpen c292_firstLeft c295_way a296 gh_v3 p0 p1 p2 p3 p4 p5 p6 p7 p8 p9 p10 p11 p12 p13 hr_a262 hr_a263 hr_a264 hr_a281 hr_a282 hr_a283 hr_a296 o1 o2 o3 o4 k ih
set_option maxHeartbeats 1000000 in
set_option maxRecDepth 10000 in
theorem t241_X6_walk_E_s (fu : Nat) (hfu : 1000000000000 ≤ fu) (κ : Nat) (hκ : κ < 14) (c248_groups : Int32) (c248_pots : Int32) (c261_groups : Int32) (c261_many : Int32) (a262 : Nat → Int32) (a263 : Nat → Int32) (a264 : Nat → Int32) (a281 : Nat → Int32) (a282 : Nat → Int32) (a283 : Nat → Int32) (c292_firstLevel : Int32) (c292_firstOpen : Int32) (c292_firstLeft : Int32) (c295_way : Int32) (a296 : Nat → Int32) (v3 : Int32) (v4 : Int32) (v5 : Int64) (a293 : Nat → Int32) (a294 : Nat → Int64) (a297 : Nat → Int64) (a298 : Nat → Int32) (a299 : Nat → Int64) (c313_rows : Int64) (a314 : Nat → Int64) (a315 : Nat → Int64) (p0 : c248_groups.toInt ≤ 4) (p1 : 2 ≤ c248_groups.toInt) (p2 : c248_pots.toInt ≤ 4) (p3 : 0 ≤ c248_pots.toInt) (p4 : c261_groups.toInt ≤ 4) (p5 : 0 ≤ c261_groups.toInt) (p6 : c261_many.toInt ≤ 24) (p7 : 0 ≤ c261_many.toInt) (p8 : c292_firstLevel.toInt ≤ 4) (p9 : 0 ≤ c292_firstLevel.toInt) (p10 : c292_firstOpen.toInt ≤ 16777215) (p11 : 0 ≤ c292_firstOpen.toInt) (p12 : c292_firstLeft.toInt ≤ 15) (p13 : 0 ≤ c292_firstLeft.toInt) (p14 : 2 ≤ v3.toInt) (p15 : v3.toInt ≤ c248_pots.toInt) (p16 : v3.toInt ≤ 4) (p17 : 0 ≤ v4.toInt) (p18 : v4.toInt ≤ 331775) (hr_a262 : dz_rg a262 96 0 3) (hr_a263 : dz_rq a263 (dz_kr κ) (dz_kg κ) 0 (((dz_kg κ : Nat) : Int) - 1)) (hr_a264 : dz_rg a264 16 0 16777215) (hr_a281 : dz_rg a281 601 0 16777215) (hr_a282 : dz_rg a282 5 0 14425) (hr_a283 : dz_pm a283 (dz_kp κ)) (hr_a296 : dz_rg a296 4 0 3) (hr_a293 : dz_rg a293 v3.toInt.toNat 0 (((dz_kr κ : Nat) : Int) - 1)) (o0 : ((v3.toInt = 0 ∧ v4.toInt < 1) ∨ (v3.toInt = 1 ∧ v4.toInt < 24) ∨ (v3.toInt = 2 ∧ v4.toInt < 576) ∨ (v3.toInt = 3 ∧ v4.toInt < 13824) ∨ (v3.toInt = 4 ∧ v4.toInt < 331776))) (o1 : c248_groups.toInt = ((dz_kg κ : Nat) : Int)) (o2 : c248_pots.toInt = ((dz_kp κ : Nat) : Int)) (o3 : c261_groups.toInt = ((dz_kg κ : Nat) : Int)) (o4 : c261_many.toInt = ((dz_kr κ : Nat) : Int)) (kv : Nat) (hkv : 1000000000000 ≤ kv) : dz_T (s241_X6_walk_0 fu c248_groups c248_pots c261_groups c261_many a262 a263 a264 a281 a282 a283 c292_firstLevel c292_firstOpen c292_firstLeft c295_way a296 (F241_X6_walk fu c248_groups c248_pots c261_groups c261_many a262 a263 a264 a281 a282 a283 c292_firstLevel c292_firstOpen c292_firstLeft c295_way a296 kv).1  v3 v4 v5 a293 a294 a297 a298 a299 c313_rows a314 a315) (fun r => 2 ≤ c248_pots.toInt ∧ v3.toInt ≤ 4 ∧ 2 ≤ v3.toInt ∧ v3.toInt ≤ c248_pots.toInt ∧ dz_rg r.1 v3.toInt.toNat 0 (((dz_kr κ : Nat) : Int) - 1)) := by
  unfold s241_X6_walk_0
  refine dz_Tlt (fun h1 => ?_) (fun h1 => ?_)
  · skip
    refine dz_Tb (t180_X10_ranksOpen fu hfu _ _ _ _ (by first | assumption | omega) (hr_a281) (hr_a282)) (fun r1 q => ?_)
    obtain ⟨q1_0, q1_1⟩ := q
    refine dz_Teq (fun h2 => ?_) (fun h2 => ?_)
    · skip
      obtain ⟨k1, rfl⟩ : ∃ x, kv = x + 1 := ⟨kv - 1, by omega⟩
      show dz_T (s241_X6_walk_1 fu c248_groups c248_pots c261_groups c261_many a262 a263 a264 a281 a282 a283 c292_firstLevel c292_firstOpen c292_firstLeft c295_way a296 (F241_X6_walk fu c248_groups c248_pots c261_groups c261_many a262 a263 a264 a281 a282 a283 c292_firstLevel c292_firstOpen c292_firstLeft c295_way a296 k1).2.1 (F241_X6_walk fu c248_groups c248_pots c261_groups c261_many a262 a263 a264 a281 a282 a283 c292_firstLevel c292_firstOpen c292_firstLeft c295_way a296 k1).2.2.1 v3 v4 v5 (r1 &&& c292_firstOpen) c292_firstLeft a293 a294 a297 a298 a299 c313_rows a314 a315) _
      unfold s241_X6_walk_1
      have e3 := dz_l1
      have e4 := dz_sub (a := c248_pots) (b := (1 : Int32)) (by omega) (by omega)
      refine dz_Teq (fun h5 => ?_) (fun h5 => ?_)
      · skip
        have e6 := dz_andr (a := r1) (b := c292_firstOpen) (by omega)
        have e7 := dz_andl (a := r1) (b := c292_firstOpen) (by omega)
        refine dz_Tb (t232_X7_slotOf_s fu hfu κ hκ _ _ _ p4 p5 (by omega) o3) (fun r2 q => ?_)
        obtain ⟨q2_0, q2_1⟩ := q
        refine dz_Tbe (show f233_X7_isKept fu a298 r2 (r1 &&& c292_firstOpen) = (if ((64 : Int32) ≤ r2) then (some (0 : Int32)) else (if dz_in r2 64 then (if ((a298 r2.toNatClampNeg) = (r1 &&& c292_firstOpen)) then (some (1 : Int32)) else (some (0 : Int32))) else none)) from rfl) ?_
        have e8 := dz_l64
        refine dz_Tleb (fun h9 => ?_) (fun h9 => ?_)
        · skip
          refine dz_Tsb ?_
          have e10 := dz_l0
          refine dz_Teq (fun h11 => ?_) (fun h11 => ?_)
          · skip
            refine dz_Tb (t231_X7_fillRows_s fu hfu κ hκ _ _ _ _ _ _ _ _ p4 p5 p6 p7 (by omega) (by omega) p13 p12 (hr_a264) (hr_a296) o3 o4) (fun r4 _ => ?_)
            refine dz_Tb (t235_X7_keepRows_s fu hfu κ hκ _ _ _ _ _ _ _ _ p4 p5 p6 p7 q2_1 q2_0 (hr_a262) o3 o4) (fun r5 _ => ?_)
            obtain ⟨k2, rfl⟩ : ∃ x, k1 = x + 1 := ⟨k1 - 1, by omega⟩
            show dz_T (s241_X6_walk_3 fu c248_groups c248_pots c261_groups c261_many a262 a263 a264 a281 a282 a283 c292_firstLevel c292_firstOpen c292_firstLeft c295_way a296 v5 r2 a293 a294 r4 r5.1 r5.2 c313_rows a314 a315) _
            unfold s241_X6_walk_3
            have e12 := dz_l16
            have e13 := dz_mull (a := r2) (b := (16 : Int32)) 64 (by omega) (by omega) (by omega)
            refine dz_Tb (t237_X6_addLast_s fu hfu κ hκ _ _ _ _ _ _ _ _ _ _ _ p0 p1 p2 p3 (by omega) (by omega) (by first | assumption | omega) (hr_a263) (hr_a283) (dz_rgs (hr_a293) (by omega)) o1 o2) (fun r6 _ => ?_)
            refine dz_Ts ?_
            dsimp only
            exact ⟨(by first | assumption | omega), (by first | assumption | omega), (by first | assumption | omega), (by first | assumption | omega), (dz_rgs (hr_a293) (by omega))⟩
          · skip
            exfalso; omega
        · skip
          refine dz_Tinb (by omega) (by omega) ?_
          refine dz_Teqb (fun h14 => ?_) (fun h14 => ?_)
          · skip
            refine dz_Tsb ?_
            have e15 := dz_l0
            refine dz_Teq (fun h16 => ?_) (fun h16 => ?_)
            · skip
              exfalso; omega
            · skip
              obtain ⟨k3, rfl⟩ : ∃ x, k1 = x + 1 := ⟨k1 - 1, by omega⟩
              show dz_T (s241_X6_walk_3 fu c248_groups c248_pots c261_groups c261_many a262 a263 a264 a281 a282 a283 c292_firstLevel c292_firstOpen c292_firstLeft c295_way a296 v5 r2 a293 a294 a297 a298 a299 c313_rows a314 a315) _
              unfold s241_X6_walk_3
              have e17 := dz_l16
              have e18 := dz_mulr (a := r2) (b := (16 : Int32)) 16 (by omega) (by omega) (by omega)
              refine dz_Tb (t237_X6_addLast_s fu hfu κ hκ _ _ _ _ _ _ _ _ _ _ _ p0 p1 p2 p3 (by omega) (by omega) (by first | assumption | omega) (hr_a263) (hr_a283) (dz_rgs (hr_a293) (by omega)) o1 o2) (fun r7 _ => ?_)
              refine dz_Ts ?_
              dsimp only
              exact ⟨(by first | assumption | omega), (by first | assumption | omega), (by first | assumption | omega), (by first | assumption | omega), (dz_rgs (hr_a293) (by omega))⟩
          · skip
            refine dz_Tsb ?_
            have e19 := dz_l0
            refine dz_Teq (fun h20 => ?_) (fun h20 => ?_)
            · skip
              refine dz_Tb (t231_X7_fillRows_s fu hfu κ hκ _ _ _ _ _ _ _ _ p4 p5 p6 p7 (by omega) (by omega) p13 p12 (hr_a264) (hr_a296) o3 o4) (fun r8 _ => ?_)
              refine dz_Tb (t235_X7_keepRows_s fu hfu κ hκ _ _ _ _ _ _ _ _ p4 p5 p6 p7 q2_1 q2_0 (hr_a262) o3 o4) (fun r9 _ => ?_)
              obtain ⟨k4, rfl⟩ : ∃ x, k1 = x + 1 := ⟨k1 - 1, by omega⟩
              show dz_T (s241_X6_walk_3 fu c248_groups c248_pots c261_groups c261_many a262 a263 a264 a281 a282 a283 c292_firstLevel c292_firstOpen c292_firstLeft c295_way a296 v5 r2 a293 a294 r8 r9.1 r9.2 c313_rows a314 a315) _
              unfold s241_X6_walk_3
              have e21 := dz_l16
              have e22 := dz_mulr (a := r2) (b := (16 : Int32)) 16 (by omega) (by omega) (by omega)
              refine dz_Tb (t237_X6_addLast_s fu hfu κ hκ _ _ _ _ _ _ _ _ _ _ _ p0 p1 p2 p3 (by omega) (by omega) (by first | assumption | omega) (hr_a263) (hr_a283) (dz_rgs (hr_a293) (by omega)) o1 o2) (fun r10 _ => ?_)
              refine dz_Ts ?_
              dsimp only
              exact ⟨(by first | assumption | omega), (by first | assumption | omega), (by first | assumption | omega), (by first | assumption | omega), (dz_rgs (hr_a293) (by omega))⟩
            · skip
              exfalso; omega
      · skip
        have e23 := dz_andr (a := r1) (b := c292_firstOpen) (by omega)
        have e24 := dz_andl (a := r1) (b := c292_firstOpen) (by omega)
        refine dz_Tb (t231_X7_fillRows_s fu hfu κ hκ _ _ _ _ _ _ _ _ p4 p5 p6 p7 (by omega) (by omega) p13 p12 (hr_a264) (hr_a296) o3 o4) (fun r11 _ => ?_)
        have e25 := dz_l0
        refine dz_Tng (by omega) ?_
        have e26 := dz_l24
        have e27 := dz_mull (a := v3) (b := (24 : Int32)) 2 (by omega) (by omega) (by omega)
        refine dz_Tng (by omega) ?_
        refine dz_Tng (by omega) ?_
        have e28 := dz_tn (0 : Int32)
        have e29 := dz_tn (24 : Int32)
        refine dz_Tg (by omega) ?_
        have e30 := dz_tn (v3 * (24 : Int32))
        refine dz_Tg (by omega) ?_
        exact (t241_X6_walk_I_s fu hfu κ hκ c248_groups c248_pots c261_groups c261_many a262 a263 a264 a281 a282 a283 c292_firstLevel c292_firstOpen c292_firstLeft c295_way a296 v3 p0 p1 p2 p3 p4 p5 p6 p7 p8 p9 p10 p11 p12 p13 hr_a262 hr_a263 hr_a264 hr_a281 hr_a282 hr_a283 hr_a296 o1 o2 o3 o4 k1) v3 v4 v5 (v3 * (24 : Int32)) (0 : Int32) a293 (va_cpy r11 a294 (0 : Int32).toNatClampNeg (v3 * (24 : Int32)).toNatClampNeg (24 : Int32).toNatClampNeg) r11 a298 a299 c313_rows a314 a315 (by first | assumption | omega) (by first | assumption | omega) (by first | assumption | omega) (by first | assumption | omega) p14 p18 p17 (by omega) (by omega) (by omega) (by omega) (by omega) (hr_a293) (by omega) (by omega)
    · skip
      obtain ⟨k5, rfl⟩ : ∃ x, kv = x + 1 := ⟨kv - 1, by omega⟩
      show dz_T (s241_X6_walk_1 fu c248_groups c248_pots c261_groups c261_many a262 a263 a264 a281 a282 a283 c292_firstLevel c292_firstOpen c292_firstLeft c295_way a296 (F241_X6_walk fu c248_groups c248_pots c261_groups c261_many a262 a263 a264 a281 a282 a283 c292_firstLevel c292_firstOpen c292_firstLeft c295_way a296 k5).2.1 (F241_X6_walk fu c248_groups c248_pots c261_groups c261_many a262 a263 a264 a281 a282 a283 c292_firstLevel c292_firstOpen c292_firstLeft c295_way a296 k5).2.2.1 v3 v4 v5 r1 (((1 : Int32) <<< (c248_groups &&& (31 : Int32))) - (1 : Int32)) a293 a294 a297 a298 a299 c313_rows a314 a315) _
      unfold s241_X6_walk_1
      have e31 := dz_l1
      have e32 := dz_sub (a := c248_pots) (b := (1 : Int32)) (by omega) (by omega)
      refine dz_Teq (fun h33 => ?_) (fun h33 => ?_)
      · skip
        have e34 := dz_l31
        have e35 := dz_andr (a := c248_groups) (b := (31 : Int32)) (by omega)
        have e36 := dz_andl (a := c248_groups) (b := (31 : Int32)) (by omega)
        have e37 := dz_shl1 (b := c248_groups) 2 4 (by omega) (by omega) (by omega)
        have e38 := dz_sub (a := ((1 : Int32) <<< (c248_groups &&& (31 : Int32)))) (b := (1 : Int32)) (by omega) (by omega)
        refine dz_Tb (t232_X7_slotOf_s fu hfu κ hκ _ _ _ p4 p5 q1_1 o3) (fun r12 q => ?_)
        obtain ⟨q12_0, q12_1⟩ := q
        refine dz_Tbe (show f233_X7_isKept fu a298 r12 r1 = (if ((64 : Int32) ≤ r12) then (some (0 : Int32)) else (if dz_in r12 64 then (if ((a298 r12.toNatClampNeg) = r1) then (some (1 : Int32)) else (some (0 : Int32))) else none)) from rfl) ?_
        have e39 := dz_l64
        refine dz_Tleb (fun h40 => ?_) (fun h40 => ?_)
        · skip
          refine dz_Tsb ?_
          have e41 := dz_l0
          refine dz_Teq (fun h42 => ?_) (fun h42 => ?_)
          · skip
            refine dz_Tb (t231_X7_fillRows_s fu hfu κ hκ _ _ _ _ _ _ _ _ p4 p5 p6 p7 q1_1 q1_0 (by omega) (by omega) (hr_a264) (hr_a296) o3 o4) (fun r14 _ => ?_)
            refine dz_Tb (t235_X7_keepRows_s fu hfu κ hκ _ _ _ _ _ _ _ _ p4 p5 p6 p7 q12_1 q12_0 (hr_a262) o3 o4) (fun r15 _ => ?_)
            obtain ⟨k6, rfl⟩ : ∃ x, k5 = x + 1 := ⟨k5 - 1, by omega⟩
            show dz_T (s241_X6_walk_3 fu c248_groups c248_pots c261_groups c261_many a262 a263 a264 a281 a282 a283 c292_firstLevel c292_firstOpen c292_firstLeft c295_way a296 v5 r12 a293 a294 r14 r15.1 r15.2 c313_rows a314 a315) _
            unfold s241_X6_walk_3
            have e43 := dz_l16
            have e44 := dz_mull (a := r12) (b := (16 : Int32)) 64 (by omega) (by omega) (by omega)
            refine dz_Tb (t237_X6_addLast_s fu hfu κ hκ _ _ _ _ _ _ _ _ _ _ _ p0 p1 p2 p3 (by omega) (by omega) (by first | assumption | omega) (hr_a263) (hr_a283) (dz_rgs (hr_a293) (by omega)) o1 o2) (fun r16 _ => ?_)
            refine dz_Ts ?_
            dsimp only
            exact ⟨(by first | assumption | omega), (by first | assumption | omega), (by first | assumption | omega), (by first | assumption | omega), (dz_rgs (hr_a293) (by omega))⟩
          · skip
            exfalso; omega
        · skip
          refine dz_Tinb (by omega) (by omega) ?_
          refine dz_Teqb (fun h45 => ?_) (fun h45 => ?_)
          · skip
            refine dz_Tsb ?_
            have e46 := dz_l0
            refine dz_Teq (fun h47 => ?_) (fun h47 => ?_)
            · skip
              exfalso; omega
            · skip
              obtain ⟨k7, rfl⟩ : ∃ x, k5 = x + 1 := ⟨k5 - 1, by omega⟩
              show dz_T (s241_X6_walk_3 fu c248_groups c248_pots c261_groups c261_many a262 a263 a264 a281 a282 a283 c292_firstLevel c292_firstOpen c292_firstLeft c295_way a296 v5 r12 a293 a294 a297 a298 a299 c313_rows a314 a315) _
              unfold s241_X6_walk_3
              have e48 := dz_l16
              have e49 := dz_mulr (a := r12) (b := (16 : Int32)) 16 (by omega) (by omega) (by omega)
              refine dz_Tb (t237_X6_addLast_s fu hfu κ hκ _ _ _ _ _ _ _ _ _ _ _ p0 p1 p2 p3 (by omega) (by omega) (by first | assumption | omega) (hr_a263) (hr_a283) (dz_rgs (hr_a293) (by omega)) o1 o2) (fun r17 _ => ?_)
              refine dz_Ts ?_
              dsimp only
              exact ⟨(by first | assumption | omega), (by first | assumption | omega), (by first | assumption | omega), (by first | assumption | omega), (dz_rgs (hr_a293) (by omega))⟩
          · skip
            refine dz_Tsb ?_
            have e50 := dz_l0
            refine dz_Teq (fun h51 => ?_) (fun h51 => ?_)
            · skip
              refine dz_Tb (t231_X7_fillRows_s fu hfu κ hκ _ _ _ _ _ _ _ _ p4 p5 p6 p7 q1_1 q1_0 (by omega) (by omega) (hr_a264) (hr_a296) o3 o4) (fun r18 _ => ?_)
              refine dz_Tb (t235_X7_keepRows_s fu hfu κ hκ _ _ _ _ _ _ _ _ p4 p5 p6 p7 q12_1 q12_0 (hr_a262) o3 o4) (fun r19 _ => ?_)
              obtain ⟨k8, rfl⟩ : ∃ x, k5 = x + 1 := ⟨k5 - 1, by omega⟩
              show dz_T (s241_X6_walk_3 fu c248_groups c248_pots c261_groups c261_many a262 a263 a264 a281 a282 a283 c292_firstLevel c292_firstOpen c292_firstLeft c295_way a296 v5 r12 a293 a294 r18 r19.1 r19.2 c313_rows a314 a315) _
              unfold s241_X6_walk_3
              have e52 := dz_l16
              have e53 := dz_mulr (a := r12) (b := (16 : Int32)) 16 (by omega) (by omega) (by omega)
              refine dz_Tb (t237_X6_addLast_s fu hfu κ hκ _ _ _ _ _ _ _ _ _ _ _ p0 p1 p2 p3 (by omega) (by omega) (by first | assumption | omega) (hr_a263) (hr_a283) (dz_rgs (hr_a293) (by omega)) o1 o2) (fun r20 _ => ?_)
              refine dz_Ts ?_
              dsimp only
              exact ⟨(by first | assumption | omega), (by first | assumption | omega), (by first | assumption | omega), (by first | assumption | omega), (dz_rgs (hr_a293) (by omega))⟩
            · skip
              exfalso; omega
      · skip
        have e54 := dz_l31
        have e55 := dz_andr (a := c248_groups) (b := (31 : Int32)) (by omega)
        have e56 := dz_andl (a := c248_groups) (b := (31 : Int32)) (by omega)
        have e57 := dz_shl1 (b := c248_groups) 2 4 (by omega) (by omega) (by omega)
        have e58 := dz_sub (a := ((1 : Int32) <<< (c248_groups &&& (31 : Int32)))) (b := (1 : Int32)) (by omega) (by omega)
        refine dz_Tb (t231_X7_fillRows_s fu hfu κ hκ _ _ _ _ _ _ _ _ p4 p5 p6 p7 q1_1 q1_0 (by omega) (by omega) (hr_a264) (hr_a296) o3 o4) (fun r21 _ => ?_)
        have e59 := dz_l0
        refine dz_Tng (by omega) ?_
        have e60 := dz_l24
        have e61 := dz_mull (a := v3) (b := (24 : Int32)) 2 (by omega) (by omega) (by omega)
        refine dz_Tng (by omega) ?_
        refine dz_Tng (by omega) ?_
        have e62 := dz_tn (0 : Int32)
        have e63 := dz_tn (24 : Int32)
        refine dz_Tg (by omega) ?_
        have e64 := dz_tn (v3 * (24 : Int32))
        refine dz_Tg (by omega) ?_
        exact (t241_X6_walk_I_s fu hfu κ hκ c248_groups c248_pots c261_groups c261_many a262 a263 a264 a281 a282 a283 c292_firstLevel c292_firstOpen c292_firstLeft c295_way a296 v3 p0 p1 p2 p3 p4 p5 p6 p7 p8 p9 p10 p11 p12 p13 hr_a262 hr_a263 hr_a264 hr_a281 hr_a282 hr_a283 hr_a296 o1 o2 o3 o4 k5) v3 v4 v5 (v3 * (24 : Int32)) (0 : Int32) a293 (va_cpy r21 a294 (0 : Int32).toNatClampNeg (v3 * (24 : Int32)).toNatClampNeg (24 : Int32).toNatClampNeg) r21 a298 a299 c313_rows a314 a315 (by first | assumption | omega) (by first | assumption | omega) (by first | assumption | omega) (by first | assumption | omega) p14 p18 p17 (by omega) (by omega) (by omega) (by omega) (by omega) (hr_a293) (by omega) (by omega)
  · skip
    refine dz_Ts ?_
    dsimp only
    exact ⟨(by first | assumption | omega), (by first | assumption | omega), (by first | assumption | omega), (by first | assumption | omega), (dz_rgs (hr_a293) (by omega))⟩
theorem t241_X6_walk_s (fu : Nat) (hfu : 1000000000000 ≤ fu) (κ : Nat) (hκ : κ < 14) (c248_groups : Int32) (c248_pots : Int32) (c261_groups : Int32) (c261_many : Int32) (a262 : Nat → Int32) (a263 : Nat → Int32) (a264 : Nat → Int32) (a281 : Nat → Int32) (a282 : Nat → Int32) (a283 : Nat → Int32) (c292_firstLevel : Int32) (c292_firstOpen : Int32) (c292_firstLeft : Int32) (c295_way : Int32) (a296 : Nat → Int32) (v3 : Int32) (v4 : Int32) (v5 : Int64) (a293 : Nat → Int32) (a294 : Nat → Int64) (a297 : Nat → Int64) (a298 : Nat → Int32) (a299 : Nat → Int64) (c313_rows : Int64) (a314 : Nat → Int64) (a315 : Nat → Int64) (p0 : c248_groups.toInt ≤ 4) (p1 : 2 ≤ c248_groups.toInt) (p2 : c248_pots.toInt ≤ 4) (p3 : 0 ≤ c248_pots.toInt) (p4 : c261_groups.toInt ≤ 4) (p5 : 0 ≤ c261_groups.toInt) (p6 : c261_many.toInt ≤ 24) (p7 : 0 ≤ c261_many.toInt) (p8 : c292_firstLevel.toInt ≤ 4) (p9 : 0 ≤ c292_firstLevel.toInt) (p10 : c292_firstOpen.toInt ≤ 16777215) (p11 : 0 ≤ c292_firstOpen.toInt) (p12 : c292_firstLeft.toInt ≤ 15) (p13 : 0 ≤ c292_firstLeft.toInt) (p14 : 2 ≤ v3.toInt) (p15 : v3.toInt ≤ c248_pots.toInt) (p16 : v3.toInt ≤ 4) (p17 : 0 ≤ v4.toInt) (p18 : v4.toInt ≤ 331775) (hr_a262 : dz_rg a262 96 0 3) (hr_a263 : dz_rq a263 (dz_kr κ) (dz_kg κ) 0 (((dz_kg κ : Nat) : Int) - 1)) (hr_a264 : dz_rg a264 16 0 16777215) (hr_a281 : dz_rg a281 601 0 16777215) (hr_a282 : dz_rg a282 5 0 14425) (hr_a283 : dz_pm a283 (dz_kp κ)) (hr_a296 : dz_rg a296 4 0 3) (hr_a293 : dz_rg a293 v3.toInt.toNat 0 (((dz_kr κ : Nat) : Int) - 1)) (o0 : ((v3.toInt = 0 ∧ v4.toInt < 1) ∨ (v3.toInt = 1 ∧ v4.toInt < 24) ∨ (v3.toInt = 2 ∧ v4.toInt < 576) ∨ (v3.toInt = 3 ∧ v4.toInt < 13824) ∨ (v3.toInt = 4 ∧ v4.toInt < 331776))) (o1 : c248_groups.toInt = ((dz_kg κ : Nat) : Int)) (o2 : c248_pots.toInt = ((dz_kp κ : Nat) : Int)) (o3 : c261_groups.toInt = ((dz_kg κ : Nat) : Int)) (o4 : c261_many.toInt = ((dz_kr κ : Nat) : Int)) : dz_T (f241_X6_walk fu c248_groups c248_pots c261_groups c261_many a262 a263 a264 a281 a282 a283 c292_firstLevel c292_firstOpen c292_firstLeft c295_way a296 v3 v4 v5 a293 a294 a297 a298 a299 c313_rows a314 a315) (fun r => 2 ≤ c248_pots.toInt ∧ v3.toInt ≤ 4 ∧ 2 ≤ v3.toInt ∧ v3.toInt ≤ c248_pots.toInt ∧ dz_rg r.1 v3.toInt.toNat 0 (((dz_kr κ : Nat) : Int) - 1)) :=
  t241_X6_walk_E_s fu hfu κ hκ c248_groups c248_pots c261_groups c261_many a262 a263 a264 a281 a282 a283 c292_firstLevel c292_firstOpen c292_firstLeft c295_way a296 v3 v4 v5 a293 a294 a297 a298 a299 c313_rows a314 a315 p0 p1 p2 p3 p4 p5 p6 p7 p8 p9 p10 p11 p12 p13 p14 p15 p16 p17 p18 hr_a262 hr_a263 hr_a264 hr_a281 hr_a282 hr_a283 hr_a296 hr_a293 o0 o1 o2 o3 o4 fu hfu
