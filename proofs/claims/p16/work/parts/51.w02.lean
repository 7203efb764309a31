abbrev p53_X12_comes_g3 (fu : Nat) (c2_groups : Int32) (a57 : Nat → Int32) (a62 : Nat → Int32) (a63 : Nat → Int32) (k : Nat) : Prop :=
  (∀ (v1 : Int32) (v2 : Int32) (v3 : Int32) (v5 : Int32) (v6 : Int32) (v7 : Int32) (v8 : Int32) (a64 : Nat → Int64), v1.toInt ≤ 63 → 0 ≤ v1.toInt → v2.toInt ≤ 2 → 0 ≤ v2.toInt → v3.toInt ≤ 4 → 0 ≤ v3.toInt → v5.toInt ≤ 1 → 0 ≤ v5.toInt → v6.toInt ≤ 16777215 → 0 ≤ v6.toInt → v7.toInt ≤ 3 → 0 ≤ v7.toInt → v8.toInt ≤ 3 → 0 ≤ v8.toInt → v7.toInt ≤ v8.toInt → v7.toInt ≤ v6.toInt + 2 → dz_op a62 v6 v2 v7 v8.toInt.toNat → dz_dg 3 v1.toInt.toNat v2.toInt.toNat = 3 → 0 + 81 + (3 - v8.toInt) * 18 + 9 ≤ ((k : Nat) : Int) → dz_T ((F53_X12_comes fu c2_groups a57 a62 a63 k).1 v1 v2 v3 v5 v6 v7 v8 a64) (fun r => True)) ∧ (∀ (v1 : Int32) (v2 : Int32) (v3 : Int32) (v5 : Int32) (v6 : Int32) (v7 : Int32) (v8 : Int32) (a64 : Nat → Int64), v1.toInt ≤ 63 → 0 ≤ v1.toInt → v2.toInt ≤ 2 → 0 ≤ v2.toInt → v3.toInt ≤ 4 → 0 ≤ v3.toInt → v5.toInt ≤ 1 → 0 ≤ v5.toInt → v6.toInt ≤ 16777215 → 0 ≤ v6.toInt → v7.toInt ≤ 3 → 0 ≤ v7.toInt → v8.toInt ≤ 3 → 0 ≤ v8.toInt → dz_op a62 v6 v2 v7 3 → dz_dg 3 v1.toInt.toNat v2.toInt.toNat = 3 → 0 + 0 + (3 - v8.toInt) * 18 + 9 ≤ ((k : Nat) : Int) → dz_T ((F53_X12_comes fu c2_groups a57 a62 a63 k).2.1 v1 v2 v3 v5 v6 v7 v8 a64) (fun r => True))
set_option maxHeartbeats 4000000 in
set_option maxRecDepth 10000 in
theorem t53_X12_comes_h1_g3 (fu : Nat) (hfu : 1000000000000 ≤ fu) (c2_groups : Int32) (a57 : Nat → Int32) (a62 : Nat → Int32) (a63 : Nat → Int32) (p0 : c2_groups.toInt ≤ 3) (p1 : 3 ≤ c2_groups.toInt) (hr_a57 : dz_rg a57 4 0 3) (hr_a62 : dz_rg a62 16 0 16777215) (hr_a63 : dz_pt a63 [1, 4, 16]) (o0 : dz_pm a57 3) (k : Nat) (ih : ∀ j9, j9 < k → p53_X12_comes_g3 fu c2_groups a57 a62 a63 j9) : ∀ (v1 : Int32) (v2 : Int32) (v3 : Int32) (v5 : Int32) (v6 : Int32) (v7 : Int32) (v8 : Int32) (a64 : Nat → Int64), v1.toInt ≤ 63 → 0 ≤ v1.toInt → v2.toInt ≤ 2 → 0 ≤ v2.toInt → v3.toInt ≤ 4 → 0 ≤ v3.toInt → v5.toInt ≤ 1 → 0 ≤ v5.toInt → v6.toInt ≤ 16777215 → 0 ≤ v6.toInt → v7.toInt ≤ 3 → 0 ≤ v7.toInt → v8.toInt ≤ 3 → 0 ≤ v8.toInt → v7.toInt ≤ v8.toInt → v7.toInt ≤ v6.toInt + 2 → dz_op a62 v6 v2 v7 v8.toInt.toNat → dz_dg 3 v1.toInt.toNat v2.toInt.toNat = 3 → 0 + 81 + (3 - v8.toInt) * 18 + 9 ≤ ((k : Nat) : Int) → dz_T ((F53_X12_comes fu c2_groups a57 a62 a63 k).1 v1 v2 v3 v5 v6 v7 v8 a64) (fun r => True) := by
  intro v1 v2 v3 v5 v6 v7 v8 a64 i0 i1 i2 i3 i4 i5 i6 i7 i8 i9 i10 i11 i12 i13 i14 i15 x0 x1 hm
  obtain ⟨k0, rfl⟩ : ∃ x, k = x + 1 := ⟨k - 1, by omega⟩
  show dz_T (s53_X12_comes_1 fu c2_groups a57 a62 a63 (F53_X12_comes fu c2_groups a57 a62 a63 k0).2.1 (F53_X12_comes fu c2_groups a57 a62 a63 k0).2.2.1  v1 v2 v3 v5 v6 v7 v8 a64) _
  unfold s53_X12_comes_1
  refine dz_Tle (fun h1 => ?_) (fun h1 => ?_)
  · skip
    have e2 := dz_l0
    exact (ih k0 (by omega)).2 v1 v2 v3 v5 v6 v7 (0 : Int32) a64 i0 i1 i2 i3 i4 i5 i6 i7 i8 i9 i10 i11 (by omega) (by omega) (by exact dz_opm x0 (by omega)) (by exact x1) (by omega)
  · skip
    have e3 := dz_l4
    have e4 := dz_mull (a := (4 : Int32)) (b := v2) 4 (by omega) (by omega) (by omega)
    have e5 := dz_add (a := ((4 : Int32) * v2)) (b := v8) (by omega) (by omega)
    refine dz_Tin (by omega) (by omega) ?_
    have e6 := dz_rgat (hr_a62) (i := (((4 : Int32) * v2) + v8)) (by omega) (by omega)
    have e7 := dz_andr (a := v6) (b := (a62 (((4 : Int32) * v2) + v8).toNatClampNeg)) (by omega)
    have e8 := dz_andl (a := v6) (b := (a62 (((4 : Int32) * v2) + v8).toNatClampNeg)) (by omega)
    have e9 := dz_l0
    refine dz_Teq (fun h10 => ?_) (fun h10 => ?_)
    · skip
      obtain ⟨k1, rfl⟩ : ∃ x, k0 = x + 1 := ⟨k0 - 1, by omega⟩
      show dz_T (s53_X12_comes_3 fu c2_groups a57 a62 a63 (F53_X12_comes fu c2_groups a57 a62 a63 k1).1 v1 v2 v3 v5 v6 v8 (0 : Int32) v7 a64) _
      unfold s53_X12_comes_3
      have e11 := dz_add (a := v7) (b := (0 : Int32)) (by omega) (by omega)
      have e12 := dz_l1
      have e13 := dz_add (a := v8) (b := (1 : Int32)) (by omega) (by omega)
      exact (ih k1 (by omega)).1 v1 v2 v3 v5 v6 (v7 + (0 : Int32)) (v8 + (1 : Int32)) a64 i0 i1 i2 i3 i4 i5 i6 i7 i8 i9 (by omega) (by omega) (by omega) (by omega) (by omega) (by omega) (by exact dz_ops (j := ((4 : Int32) * v2) + v8) x0 (by omega) (by omega) (by omega) (by omega) (by omega) (by omega)) (by exact x1) (by omega)
    · skip
      obtain ⟨k2, rfl⟩ : ∃ x, k0 = x + 1 := ⟨k0 - 1, by omega⟩
      show dz_T (s53_X12_comes_3 fu c2_groups a57 a62 a63 (F53_X12_comes fu c2_groups a57 a62 a63 k2).1 v1 v2 v3 v5 v6 v8 (1 : Int32) v7 a64) _
      unfold s53_X12_comes_3
      have e14 := dz_l1
      have e15 := dz_add (a := v7) (b := (1 : Int32)) (by omega) (by omega)
      have e16 := dz_add (a := v8) (b := (1 : Int32)) (by omega) (by omega)
      exact (ih k2 (by omega)).1 v1 v2 v3 v5 v6 (v7 + (1 : Int32)) (v8 + (1 : Int32)) a64 i0 i1 i2 i3 i4 i5 i6 i7 i8 i9 (by omega) (by omega) (by omega) (by omega) (by omega) (by omega) (by exact dz_ops (j := ((4 : Int32) * v2) + v8) x0 (by omega) (by omega) (by omega) (by omega) (by omega) (by omega)) (by exact x1) (by omega)
set_option maxHeartbeats 4000000 in
set_option maxRecDepth 10000 in
theorem t53_X12_comes_h2_g3 (fu : Nat) (hfu : 1000000000000 ≤ fu) (c2_groups : Int32) (a57 : Nat → Int32) (a62 : Nat → Int32) (a63 : Nat → Int32) (p0 : c2_groups.toInt ≤ 3) (p1 : 3 ≤ c2_groups.toInt) (hr_a57 : dz_rg a57 4 0 3) (hr_a62 : dz_rg a62 16 0 16777215) (hr_a63 : dz_pt a63 [1, 4, 16]) (o0 : dz_pm a57 3) (k : Nat) (ih : ∀ j9, j9 < k → p53_X12_comes_g3 fu c2_groups a57 a62 a63 j9) : ∀ (v1 : Int32) (v2 : Int32) (v3 : Int32) (v5 : Int32) (v6 : Int32) (v7 : Int32) (v8 : Int32) (a64 : Nat → Int64), v1.toInt ≤ 63 → 0 ≤ v1.toInt → v2.toInt ≤ 2 → 0 ≤ v2.toInt → v3.toInt ≤ 4 → 0 ≤ v3.toInt → v5.toInt ≤ 1 → 0 ≤ v5.toInt → v6.toInt ≤ 16777215 → 0 ≤ v6.toInt → v7.toInt ≤ 3 → 0 ≤ v7.toInt → v8.toInt ≤ 3 → 0 ≤ v8.toInt → dz_op a62 v6 v2 v7 3 → dz_dg 3 v1.toInt.toNat v2.toInt.toNat = 3 → 0 + 0 + (3 - v8.toInt) * 18 + 9 ≤ ((k : Nat) : Int) → dz_T ((F53_X12_comes fu c2_groups a57 a62 a63 k).2.1 v1 v2 v3 v5 v6 v7 v8 a64) (fun r => True) := by
  intro v1 v2 v3 v5 v6 v7 v8 a64 i0 i1 i2 i3 i4 i5 i6 i7 i8 i9 i10 i11 i12 i13 x0 x1 hm
  obtain ⟨k0, rfl⟩ : ∃ x, k = x + 1 := ⟨k - 1, by omega⟩
  show dz_T (s53_X12_comes_2 fu c2_groups a57 a62 a63 (F53_X12_comes fu c2_groups a57 a62 a63 k0).2.2.2.1 (F53_X12_comes fu c2_groups a57 a62 a63 k0).2.2.2.2  v1 v2 v3 v5 v6 v7 v8 a64) _
  unfold s53_X12_comes_2
  have hdd := dz_dgD3 x1 (by omega) (by omega) (by omega)
  have hop := dz_opat (k := v8) (j := ((4 : Int32) * v2) + (a57 v8.toNatClampNeg)) x0 o0 (by decide) (by omega) (by omega)
  rcases (show v2.toInt = 0 ∨ v2.toInt = 1 ∨ v2.toInt = 2 by omega) with hs | hs | hs
  · skip
    refine dz_Tle (fun h1 => ?_) (fun h1 => ?_)
    · skip
      exact dz_Ts trivial
    · skip
      refine dz_Tin (by omega) (by omega) ?_
      have e2 := dz_l4
      have e3 := dz_mull (a := (4 : Int32)) (b := v2) 4 (by omega) (by omega) (by omega)
      have e4 := dz_rgat (hr_a57) (i := v8) (by omega) (by omega)
      have e5 := dz_add (a := ((4 : Int32) * v2)) (b := (a57 v8.toNatClampNeg)) (by omega) (by omega)
      refine dz_Tin (by omega) (by omega) ?_
      have e6 := dz_rgat (hr_a62) (i := (((4 : Int32) * v2) + (a57 v8.toNatClampNeg))) (by omega) (by omega)
      have e7 := dz_andr (a := v6) (b := (a62 (((4 : Int32) * v2) + (a57 v8.toNatClampNeg)).toNatClampNeg)) (by omega)
      have e8 := dz_andl (a := v6) (b := (a62 (((4 : Int32) * v2) + (a57 v8.toNatClampNeg)).toNatClampNeg)) (by omega)
      have e9 := dz_l0
      refine dz_Teq (fun h10 => ?_) (fun h10 => ?_)
      · skip
        obtain ⟨k1, rfl⟩ : ∃ x, k0 = x + 1 := ⟨k0 - 1, by omega⟩
        show dz_T (s53_X12_comes_5 fu c2_groups a57 a62 a63 (F53_X12_comes fu c2_groups a57 a62 a63 k1).2.1 v1 v2 v3 v5 v6 v7 v8 a64) _
        unfold s53_X12_comes_5
        have e11 := dz_l1
        have e12 := dz_add (a := v8) (b := (1 : Int32)) (by omega) (by omega)
        exact (ih k1 (by omega)).2 v1 v2 v3 v5 v6 v7 (v8 + (1 : Int32)) a64 i0 i1 i2 i3 i4 i5 i6 i7 i8 i9 i10 i11 (by omega) (by omega) (by exact x0) (by exact x1) (by omega)
      · skip
        refine dz_Tin (by omega) (by omega) ?_
        have e13 := dz_sub (a := c2_groups) (b := (a57 v8.toNatClampNeg)) (by omega) (by omega)
        have e14 := dz_ptat (hr_a63) (i := v2) (x := 1) 0 (by omega) (by decide)
        have e15 := dz_mulr (a := (c2_groups - (a57 v8.toNatClampNeg))) (b := (a63 v2.toNatClampNeg)) 1 (by omega) (by omega) (by omega)
        have e16 := dz_sub (a := v1) (b := ((c2_groups - (a57 v8.toNatClampNeg)) * (a63 v2.toNatClampNeg))) (by omega) (by omega)
        refine dz_Tin (by omega) (by omega) ?_
        refine dz_Teq (fun h17 => ?_) (fun h17 => ?_)
        · skip
          refine dz_Tin (by omega) (by omega) ?_
          obtain ⟨k2, rfl⟩ : ∃ x, k0 = x + 1 := ⟨k0 - 1, by omega⟩
          show dz_T (s53_X12_comes_4 fu c2_groups a57 a62 a63 (F53_X12_comes fu c2_groups a57 a62 a63 k2).2.2.2.2 v1 v2 v3 v5 v6 v7 v8 (a64 v1.toNatClampNeg) (a64 (v1 - ((c2_groups - (a57 v8.toNatClampNeg)) * (a63 v2.toNatClampNeg))).toNatClampNeg) (v1 - ((c2_groups - (a57 v8.toNatClampNeg)) * (a63 v2.toNatClampNeg))) a64) _
          unfold s53_X12_comes_4
          refine dz_Tin (by omega) (by omega) ?_
          refine dz_Teq (fun h18 => ?_) (fun h18 => ?_)
          · skip
            exact dz_Ts trivial
          · skip
            exfalso; omega
        · skip
          refine dz_Tin (by omega) (by omega) ?_
          refine dz_Tb (t52_X12_share fu hfu _ i5 i4) (fun r1 q => ?_)
          obtain ⟨q1_0, q1_1, q1_2, q1_3⟩ := q
          refine dz_Tz (by omega) ?_
          obtain ⟨k3, rfl⟩ : ∃ x, k0 = x + 1 := ⟨k0 - 1, by omega⟩
          show dz_T (s53_X12_comes_4 fu c2_groups a57 a62 a63 (F53_X12_comes fu c2_groups a57 a62 a63 k3).2.2.2.2 v1 v2 v3 v5 v6 v7 v8 ((a64 v1.toNatClampNeg) * (r1 / v7).toInt64) (a64 (v1 - ((c2_groups - (a57 v8.toNatClampNeg)) * (a63 v2.toNatClampNeg))).toNatClampNeg) (v1 - ((c2_groups - (a57 v8.toNatClampNeg)) * (a63 v2.toNatClampNeg))) a64) _
          unfold s53_X12_comes_4
          refine dz_Tin (by omega) (by omega) ?_
          refine dz_Teq (fun h19 => ?_) (fun h19 => ?_)
          · skip
            exfalso; omega
          · skip
            obtain ⟨k4, rfl⟩ : ∃ x, k3 = x + 1 := ⟨k3 - 1, by omega⟩
            show dz_T (s53_X12_comes_5 fu c2_groups a57 a62 a63 (F53_X12_comes fu c2_groups a57 a62 a63 k4).2.1 v1 v2 v3 v5 v6 v7 v8 (vp_updL a64 (v1 - ((c2_groups - (a57 v8.toNatClampNeg)) * (a63 v2.toNatClampNeg))).toNatClampNeg ((a64 (v1 - ((c2_groups - (a57 v8.toNatClampNeg)) * (a63 v2.toNatClampNeg))).toNatClampNeg) + ((a64 v1.toNatClampNeg) * (r1 / v7).toInt64)))) _
            unfold s53_X12_comes_5
            have e20 := dz_l1
            have e21 := dz_add (a := v8) (b := (1 : Int32)) (by omega) (by omega)
            exact (ih k4 (by omega)).2 v1 v2 v3 v5 v6 v7 (v8 + (1 : Int32)) (vp_updL a64 (v1 - ((c2_groups - (a57 v8.toNatClampNeg)) * (a63 v2.toNatClampNeg))).toNatClampNeg ((a64 (v1 - ((c2_groups - (a57 v8.toNatClampNeg)) * (a63 v2.toNatClampNeg))).toNatClampNeg) + ((a64 v1.toNatClampNeg) * (r1 / v7).toInt64))) i0 i1 i2 i3 i4 i5 i6 i7 i8 i9 i10 i11 (by omega) (by omega) (by exact x0) (by exact x1) (by omega)
  · skip
    refine dz_Tle (fun h22 => ?_) (fun h22 => ?_)
    · skip
      exact dz_Ts trivial
    · skip
      refine dz_Tin (by omega) (by omega) ?_
      have e23 := dz_l4
      have e24 := dz_mull (a := (4 : Int32)) (b := v2) 4 (by omega) (by omega) (by omega)
      have e25 := dz_rgat (hr_a57) (i := v8) (by omega) (by omega)
      have e26 := dz_add (a := ((4 : Int32) * v2)) (b := (a57 v8.toNatClampNeg)) (by omega) (by omega)
      refine dz_Tin (by omega) (by omega) ?_
      have e27 := dz_rgat (hr_a62) (i := (((4 : Int32) * v2) + (a57 v8.toNatClampNeg))) (by omega) (by omega)
      have e28 := dz_andr (a := v6) (b := (a62 (((4 : Int32) * v2) + (a57 v8.toNatClampNeg)).toNatClampNeg)) (by omega)
      have e29 := dz_andl (a := v6) (b := (a62 (((4 : Int32) * v2) + (a57 v8.toNatClampNeg)).toNatClampNeg)) (by omega)
      have e30 := dz_l0
      refine dz_Teq (fun h31 => ?_) (fun h31 => ?_)
      · skip
        obtain ⟨k5, rfl⟩ : ∃ x, k0 = x + 1 := ⟨k0 - 1, by omega⟩
        show dz_T (s53_X12_comes_5 fu c2_groups a57 a62 a63 (F53_X12_comes fu c2_groups a57 a62 a63 k5).2.1 v1 v2 v3 v5 v6 v7 v8 a64) _
        unfold s53_X12_comes_5
        have e32 := dz_l1
        have e33 := dz_add (a := v8) (b := (1 : Int32)) (by omega) (by omega)
        exact (ih k5 (by omega)).2 v1 v2 v3 v5 v6 v7 (v8 + (1 : Int32)) a64 i0 i1 i2 i3 i4 i5 i6 i7 i8 i9 i10 i11 (by omega) (by omega) (by exact x0) (by exact x1) (by omega)
      · skip
        refine dz_Tin (by omega) (by omega) ?_
        have e34 := dz_sub (a := c2_groups) (b := (a57 v8.toNatClampNeg)) (by omega) (by omega)
        have e35 := dz_ptat (hr_a63) (i := v2) (x := 4) 1 (by omega) (by decide)
        have e36 := dz_mulr (a := (c2_groups - (a57 v8.toNatClampNeg))) (b := (a63 v2.toNatClampNeg)) 4 (by omega) (by omega) (by omega)
        have e37 := dz_sub (a := v1) (b := ((c2_groups - (a57 v8.toNatClampNeg)) * (a63 v2.toNatClampNeg))) (by omega) (by omega)
        refine dz_Tin (by omega) (by omega) ?_
        refine dz_Teq (fun h38 => ?_) (fun h38 => ?_)
        · skip
          refine dz_Tin (by omega) (by omega) ?_
          obtain ⟨k6, rfl⟩ : ∃ x, k0 = x + 1 := ⟨k0 - 1, by omega⟩
          show dz_T (s53_X12_comes_4 fu c2_groups a57 a62 a63 (F53_X12_comes fu c2_groups a57 a62 a63 k6).2.2.2.2 v1 v2 v3 v5 v6 v7 v8 (a64 v1.toNatClampNeg) (a64 (v1 - ((c2_groups - (a57 v8.toNatClampNeg)) * (a63 v2.toNatClampNeg))).toNatClampNeg) (v1 - ((c2_groups - (a57 v8.toNatClampNeg)) * (a63 v2.toNatClampNeg))) a64) _
          unfold s53_X12_comes_4
          refine dz_Tin (by omega) (by omega) ?_
          refine dz_Teq (fun h39 => ?_) (fun h39 => ?_)
          · skip
            exact dz_Ts trivial
          · skip
            exfalso; omega
        · skip
          refine dz_Tin (by omega) (by omega) ?_
          refine dz_Tb (t52_X12_share fu hfu _ i5 i4) (fun r2 q => ?_)
          obtain ⟨q2_0, q2_1, q2_2, q2_3⟩ := q
          refine dz_Tz (by omega) ?_
          obtain ⟨k7, rfl⟩ : ∃ x, k0 = x + 1 := ⟨k0 - 1, by omega⟩
          show dz_T (s53_X12_comes_4 fu c2_groups a57 a62 a63 (F53_X12_comes fu c2_groups a57 a62 a63 k7).2.2.2.2 v1 v2 v3 v5 v6 v7 v8 ((a64 v1.toNatClampNeg) * (r2 / v7).toInt64) (a64 (v1 - ((c2_groups - (a57 v8.toNatClampNeg)) * (a63 v2.toNatClampNeg))).toNatClampNeg) (v1 - ((c2_groups - (a57 v8.toNatClampNeg)) * (a63 v2.toNatClampNeg))) a64) _
          unfold s53_X12_comes_4
          refine dz_Tin (by omega) (by omega) ?_
          refine dz_Teq (fun h40 => ?_) (fun h40 => ?_)
          · skip
            exfalso; omega
          · skip
            obtain ⟨k8, rfl⟩ : ∃ x, k7 = x + 1 := ⟨k7 - 1, by omega⟩
            show dz_T (s53_X12_comes_5 fu c2_groups a57 a62 a63 (F53_X12_comes fu c2_groups a57 a62 a63 k8).2.1 v1 v2 v3 v5 v6 v7 v8 (vp_updL a64 (v1 - ((c2_groups - (a57 v8.toNatClampNeg)) * (a63 v2.toNatClampNeg))).toNatClampNeg ((a64 (v1 - ((c2_groups - (a57 v8.toNatClampNeg)) * (a63 v2.toNatClampNeg))).toNatClampNeg) + ((a64 v1.toNatClampNeg) * (r2 / v7).toInt64)))) _
            unfold s53_X12_comes_5
            have e41 := dz_l1
            have e42 := dz_add (a := v8) (b := (1 : Int32)) (by omega) (by omega)
            exact (ih k8 (by omega)).2 v1 v2 v3 v5 v6 v7 (v8 + (1 : Int32)) (vp_updL a64 (v1 - ((c2_groups - (a57 v8.toNatClampNeg)) * (a63 v2.toNatClampNeg))).toNatClampNeg ((a64 (v1 - ((c2_groups - (a57 v8.toNatClampNeg)) * (a63 v2.toNatClampNeg))).toNatClampNeg) + ((a64 v1.toNatClampNeg) * (r2 / v7).toInt64))) i0 i1 i2 i3 i4 i5 i6 i7 i8 i9 i10 i11 (by omega) (by omega) (by exact x0) (by exact x1) (by omega)
  · skip
    refine dz_Tle (fun h43 => ?_) (fun h43 => ?_)
    · skip
      exact dz_Ts trivial
    · skip
      refine dz_Tin (by omega) (by omega) ?_
      have e44 := dz_l4
      have e45 := dz_mull (a := (4 : Int32)) (b := v2) 4 (by omega) (by omega) (by omega)
      have e46 := dz_rgat (hr_a57) (i := v8) (by omega) (by omega)
      have e47 := dz_add (a := ((4 : Int32) * v2)) (b := (a57 v8.toNatClampNeg)) (by omega) (by omega)
      refine dz_Tin (by omega) (by omega) ?_
      have e48 := dz_rgat (hr_a62) (i := (((4 : Int32) * v2) + (a57 v8.toNatClampNeg))) (by omega) (by omega)
      have e49 := dz_andr (a := v6) (b := (a62 (((4 : Int32) * v2) + (a57 v8.toNatClampNeg)).toNatClampNeg)) (by omega)
      have e50 := dz_andl (a := v6) (b := (a62 (((4 : Int32) * v2) + (a57 v8.toNatClampNeg)).toNatClampNeg)) (by omega)
      have e51 := dz_l0
      refine dz_Teq (fun h52 => ?_) (fun h52 => ?_)
      · skip
        obtain ⟨k9, rfl⟩ : ∃ x, k0 = x + 1 := ⟨k0 - 1, by omega⟩
        show dz_T (s53_X12_comes_5 fu c2_groups a57 a62 a63 (F53_X12_comes fu c2_groups a57 a62 a63 k9).2.1 v1 v2 v3 v5 v6 v7 v8 a64) _
        unfold s53_X12_comes_5
        have e53 := dz_l1
        have e54 := dz_add (a := v8) (b := (1 : Int32)) (by omega) (by omega)
        exact (ih k9 (by omega)).2 v1 v2 v3 v5 v6 v7 (v8 + (1 : Int32)) a64 i0 i1 i2 i3 i4 i5 i6 i7 i8 i9 i10 i11 (by omega) (by omega) (by exact x0) (by exact x1) (by omega)
      · skip
        refine dz_Tin (by omega) (by omega) ?_
        have e55 := dz_sub (a := c2_groups) (b := (a57 v8.toNatClampNeg)) (by omega) (by omega)
        have e56 := dz_ptat (hr_a63) (i := v2) (x := 16) 2 (by omega) (by decide)
        have e57 := dz_mulr (a := (c2_groups - (a57 v8.toNatClampNeg))) (b := (a63 v2.toNatClampNeg)) 16 (by omega) (by omega) (by omega)
        have e58 := dz_sub (a := v1) (b := ((c2_groups - (a57 v8.toNatClampNeg)) * (a63 v2.toNatClampNeg))) (by omega) (by omega)
        refine dz_Tin (by omega) (by omega) ?_
        refine dz_Teq (fun h59 => ?_) (fun h59 => ?_)
        · skip
          refine dz_Tin (by omega) (by omega) ?_
          obtain ⟨k10, rfl⟩ : ∃ x, k0 = x + 1 := ⟨k0 - 1, by omega⟩
          show dz_T (s53_X12_comes_4 fu c2_groups a57 a62 a63 (F53_X12_comes fu c2_groups a57 a62 a63 k10).2.2.2.2 v1 v2 v3 v5 v6 v7 v8 (a64 v1.toNatClampNeg) (a64 (v1 - ((c2_groups - (a57 v8.toNatClampNeg)) * (a63 v2.toNatClampNeg))).toNatClampNeg) (v1 - ((c2_groups - (a57 v8.toNatClampNeg)) * (a63 v2.toNatClampNeg))) a64) _
          unfold s53_X12_comes_4
          refine dz_Tin (by omega) (by omega) ?_
          refine dz_Teq (fun h60 => ?_) (fun h60 => ?_)
          · skip
            exact dz_Ts trivial
          · skip
            exfalso; omega
        · skip
          refine dz_Tin (by omega) (by omega) ?_
          refine dz_Tb (t52_X12_share fu hfu _ i5 i4) (fun r3 q => ?_)
          obtain ⟨q3_0, q3_1, q3_2, q3_3⟩ := q
          refine dz_Tz (by omega) ?_
          obtain ⟨k11, rfl⟩ : ∃ x, k0 = x + 1 := ⟨k0 - 1, by omega⟩
          show dz_T (s53_X12_comes_4 fu c2_groups a57 a62 a63 (F53_X12_comes fu c2_groups a57 a62 a63 k11).2.2.2.2 v1 v2 v3 v5 v6 v7 v8 ((a64 v1.toNatClampNeg) * (r3 / v7).toInt64) (a64 (v1 - ((c2_groups - (a57 v8.toNatClampNeg)) * (a63 v2.toNatClampNeg))).toNatClampNeg) (v1 - ((c2_groups - (a57 v8.toNatClampNeg)) * (a63 v2.toNatClampNeg))) a64) _
          unfold s53_X12_comes_4
          refine dz_Tin (by omega) (by omega) ?_
          refine dz_Teq (fun h61 => ?_) (fun h61 => ?_)
          · skip
            exfalso; omega
          · skip
            obtain ⟨k12, rfl⟩ : ∃ x, k11 = x + 1 := ⟨k11 - 1, by omega⟩
            show dz_T (s53_X12_comes_5 fu c2_groups a57 a62 a63 (F53_X12_comes fu c2_groups a57 a62 a63 k12).2.1 v1 v2 v3 v5 v6 v7 v8 (vp_updL a64 (v1 - ((c2_groups - (a57 v8.toNatClampNeg)) * (a63 v2.toNatClampNeg))).toNatClampNeg ((a64 (v1 - ((c2_groups - (a57 v8.toNatClampNeg)) * (a63 v2.toNatClampNeg))).toNatClampNeg) + ((a64 v1.toNatClampNeg) * (r3 / v7).toInt64)))) _
            unfold s53_X12_comes_5
            have e62 := dz_l1
            have e63 := dz_add (a := v8) (b := (1 : Int32)) (by omega) (by omega)
            exact (ih k12 (by omega)).2 v1 v2 v3 v5 v6 v7 (v8 + (1 : Int32)) (vp_updL a64 (v1 - ((c2_groups - (a57 v8.toNatClampNeg)) * (a63 v2.toNatClampNeg))).toNatClampNeg ((a64 (v1 - ((c2_groups - (a57 v8.toNatClampNeg)) * (a63 v2.toNatClampNeg))).toNatClampNeg) + ((a64 v1.toNatClampNeg) * (r3 / v7).toInt64))) i0 i1 i2 i3 i4 i5 i6 i7 i8 i9 i10 i11 (by omega) (by omega) (by exact x0) (by exact x1) (by omega)
theorem t53_X12_comes_I_g3 (fu : Nat) (hfu : 1000000000000 ≤ fu) (c2_groups : Int32) (a57 : Nat → Int32) (a62 : Nat → Int32) (a63 : Nat → Int32) (p0 : c2_groups.toInt ≤ 3) (p1 : 3 ≤ c2_groups.toInt) (hr_a57 : dz_rg a57 4 0 3) (hr_a62 : dz_rg a62 16 0 16777215) (hr_a63 : dz_pt a63 [1, 4, 16]) (o0 : dz_pm a57 3) (k : Nat) : p53_X12_comes_g3 fu c2_groups a57 a62 a63 k := by
  induction k using Nat.strongRecOn with
  | _ k ih => exact ⟨t53_X12_comes_h1_g3 fu hfu c2_groups a57 a62 a63 p0 p1 hr_a57 hr_a62 hr_a63 o0 k ih, t53_X12_comes_h2_g3 fu hfu c2_groups a57 a62 a63 p0 p1 hr_a57 hr_a62 hr_a63 o0 k ih⟩
set_option maxHeartbeats 4000000 in
set_option maxRecDepth 10000 in
theorem t53_X12_comes_E_g3 (fu : Nat) (hfu : 1000000000000 ≤ fu) (c2_groups : Int32) (a57 : Nat → Int32) (a62 : Nat → Int32) (a63 : Nat → Int32) (v1 : Int32) (v2 : Int32) (v3 : Int32) (v4 : Int32) (v5 : Int32) (a64 : Nat → Int64) (p0 : c2_groups.toInt ≤ 3) (p1 : 3 ≤ c2_groups.toInt) (p2 : 0 ≤ v1.toInt) (p3 : v1.toInt ≤ 63) (p4 : 0 ≤ v2.toInt) (p5 : v2.toInt ≤ 2) (p6 : 0 ≤ v3.toInt) (p7 : v3.toInt ≤ 4) (p8 : 0 ≤ v4.toInt) (p9 : v4.toInt ≤ 16777215) (p10 : 0 ≤ v5.toInt) (p11 : v5.toInt ≤ 1) (hr_a57 : dz_rg a57 4 0 3) (hr_a62 : dz_rg a62 16 0 16777215) (hr_a63 : dz_pt a63 [1, 4, 16]) (o0 : dz_pm a57 3) (o1 : dz_dg 3 v1.toInt.toNat v2.toInt.toNat = 3) (kv : Nat) (hkv : 1000000000000 ≤ kv) : dz_T (s53_X12_comes_0 fu c2_groups a57 a62 a63 (F53_X12_comes fu c2_groups a57 a62 a63 kv).1  v1 v2 v3 v4 v5 a64) (fun r => True) := by
  unfold s53_X12_comes_0
  refine dz_Tb (t51_X12_agreeing_g3 fu hfu _ _ _ _ _ p0 p1 p2 p3 p8 p9 (hr_a62) (hr_a63)) (fun r1 q => ?_)
  obtain ⟨q1_0, q1_1, qo1_0⟩ := q
  have e1 := dz_l0
  exact (t53_X12_comes_I_g3 fu hfu c2_groups a57 a62 a63 p0 p1 hr_a57 hr_a62 hr_a63 o0 kv).1 v1 v2 v3 v5 r1 (0 : Int32) (0 : Int32) a64 p3 p2 p5 p4 p7 p6 p11 p10 q1_0 q1_1 (by omega) (by omega) (by omega) (by omega) (by omega) (by omega) (by exact dz_op0 (by omega)) (by exact o1) (by omega)
theorem t53_X12_comes_g3 (fu : Nat) (hfu : 1000000000000 ≤ fu) (c2_groups : Int32) (a57 : Nat → Int32) (a62 : Nat → Int32) (a63 : Nat → Int32) (v1 : Int32) (v2 : Int32) (v3 : Int32) (v4 : Int32) (v5 : Int32) (a64 : Nat → Int64) (p0 : c2_groups.toInt ≤ 3) (p1 : 3 ≤ c2_groups.toInt) (p2 : 0 ≤ v1.toInt) (p3 : v1.toInt ≤ 63) (p4 : 0 ≤ v2.toInt) (p5 : v2.toInt ≤ 2) (p6 : 0 ≤ v3.toInt) (p7 : v3.toInt ≤ 4) (p8 : 0 ≤ v4.toInt) (p9 : v4.toInt ≤ 16777215) (p10 : 0 ≤ v5.toInt) (p11 : v5.toInt ≤ 1) (hr_a57 : dz_rg a57 4 0 3) (hr_a62 : dz_rg a62 16 0 16777215) (hr_a63 : dz_pt a63 [1, 4, 16]) (o0 : dz_pm a57 3) (o1 : dz_dg 3 v1.toInt.toNat v2.toInt.toNat = 3) : dz_T (f53_X12_comes fu c2_groups a57 a62 a63 v1 v2 v3 v4 v5 a64) (fun r => True) :=
  t53_X12_comes_E_g3 fu hfu c2_groups a57 a62 a63 v1 v2 v3 v4 v5 a64 p0 p1 p2 p3 p4 p5 p6 p7 p8 p9 p10 p11 hr_a57 hr_a62 hr_a63 o0 o1 fu hfu
