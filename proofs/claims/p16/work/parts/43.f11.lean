abbrev p76_X12_fills_g2 (fu : Nat) (c2_groups : Int32) (c2_pots : Int32) (c2_ranks : Int32) (a49 : Nat → Int32) (a69 : Nat → Int32) (a70 : Nat → Int32) (k : Nat) : Prop :=
  (∀ (v2 : Int32) (v3 : Int32) (v4 : Int32) (a67 : Nat → Int32) (a68 : Nat → Int32), v2.toInt ≤ 13824 → 0 ≤ v2.toInt → v3.toInt ≤ 13824 → 0 ≤ v3.toInt → v4.toInt ≤ 13824 → 1 ≤ v4.toInt → v3.toInt ≤ v4.toInt → dz_rg a68 v4.toInt.toNat 0 15 → dz_cw a67 v4.toInt → 0 + 0 + (13824 - v3.toInt) * 1611 + 9 ≤ ((k : Nat) : Int) → dz_T ((F76_X12_fills fu c2_groups c2_pots c2_ranks a49 a69 a70 k).1 v2 v3 v4 a67 a68) (fun r => r.1.toInt ≤ 13824 ∧ 1 ≤ r.1.toInt ∧ dz_rg r.2.2 r.1.toInt.toNat 0 15)) ∧ (∀ (v2 : Int32) (v3 : Int32) (v4 : Int32) (v5 : Int32) (v6 : Int32) (a67 : Nat → Int32) (a68 : Nat → Int32), v2.toInt ≤ 13824 → 0 ≤ v2.toInt → v3.toInt ≤ 13824 → 1 ≤ v3.toInt → v4.toInt ≤ 13824 → 1 ≤ v4.toInt → v5.toInt ≤ 15 → 0 ≤ v5.toInt → v6.toInt ≤ 4 → 0 ≤ v6.toInt → v3.toInt ≤ v4.toInt → v6.toInt ≤ c2_pots.toInt → dz_rg a68 v4.toInt.toNat 0 15 → dz_cw a67 v4.toInt → 0 + 0 + ((13825 - v3.toInt) - 1) * 1611 + 0 + (4 - v6.toInt) * 315 + 18 ≤ ((k : Nat) : Int) → dz_T ((F76_X12_fills fu c2_groups c2_pots c2_ranks a49 a69 a70 k).2.1 v2 v3 v4 v5 v6 a67 a68) (fun r => r.1.toInt ≤ 13824 ∧ 1 ≤ r.1.toInt ∧ dz_rg r.2.2 r.1.toInt.toNat 0 15)) ∧ (∀ (v2 : Int32) (v3 : Int32) (v4 : Int32) (v5 : Int32) (v6 : Int32) (v7 : Int32) (a67 : Nat → Int32) (a68 : Nat → Int32), 1 ≤ c2_pots.toInt → v2.toInt ≤ 13824 → 0 ≤ v2.toInt → v3.toInt ≤ 13824 → 1 ≤ v3.toInt → v4.toInt ≤ 13824 → 1 ≤ v4.toInt → v5.toInt ≤ 15 → 0 ≤ v5.toInt → v6.toInt ≤ 3 → 0 ≤ v6.toInt → v7.toInt ≤ 2 → 0 ≤ v7.toInt → v6.toInt + 1 ≤ c2_pots.toInt → v3.toInt ≤ v4.toInt → dz_rg a68 v4.toInt.toNat 0 15 → dz_cw a67 v4.toInt → 0 + 0 + ((13825 - v3.toInt) - 1) * 1611 + 0 + ((4 - v6.toInt) - 1) * 315 + 0 + (2 - v7.toInt) * 90 + 27 ≤ ((k : Nat) : Int) → dz_T ((F76_X12_fills fu c2_groups c2_pots c2_ranks a49 a69 a70 k).2.2.1 v2 v3 v4 v5 v6 v7 a67 a68) (fun r => r.1.toInt ≤ 13824 ∧ 1 ≤ r.1.toInt ∧ dz_rg r.2.2 r.1.toInt.toNat 0 15)) ∧ (∀ (v2 : Int32) (v3 : Int32) (v4 : Int32) (v5 : Int32) (v6 : Int32) (v7 : Int32) (v8 : Int32) (a67 : Nat → Int32) (a68 : Nat → Int32), 1 ≤ c2_pots.toInt → v2.toInt ≤ 13824 → 0 ≤ v2.toInt → v3.toInt ≤ 13824 → 1 ≤ v3.toInt → v4.toInt ≤ 13824 → 1 ≤ v4.toInt → v5.toInt ≤ 15 → 0 ≤ v5.toInt → v6.toInt ≤ 3 → 0 ≤ v6.toInt → v7.toInt ≤ 1 → 0 ≤ v7.toInt → v8.toInt ≤ 2 → 1 ≤ v8.toInt → v6.toInt + 1 ≤ c2_pots.toInt → v7.toInt + 1 ≤ v8.toInt → v3.toInt ≤ v4.toInt → dz_rg a68 v4.toInt.toNat 0 15 → dz_cw a67 v4.toInt → 0 + 0 + ((13825 - v3.toInt) - 1) * 1611 + 0 + ((4 - v6.toInt) - 1) * 315 + 0 + ((2 - v7.toInt) - 1) * 90 + 0 + (2 - v8.toInt) * 18 + 36 ≤ ((k : Nat) : Int) → dz_T ((F76_X12_fills fu c2_groups c2_pots c2_ranks a49 a69 a70 k).2.2.2.1 v2 v3 v4 v5 v6 v7 v8 a67 a68) (fun r => r.1.toInt ≤ 13824 ∧ 1 ≤ r.1.toInt ∧ dz_rg r.2.2 r.1.toInt.toNat 0 15))
set_option maxHeartbeats 4000000 in
set_option maxRecDepth 10000 in
theorem t76_X12_fills_h1_g2 (fu : Nat) (hfu : 1000000000000 ≤ fu) (c2_groups : Int32) (c2_pots : Int32) (c2_ranks : Int32) (a49 : Nat → Int32) (a69 : Nat → Int32) (a70 : Nat → Int32) (p0 : c2_groups.toInt ≤ 2) (p1 : 2 ≤ c2_groups.toInt) (p2 : c2_pots.toInt ≤ 4) (p3 : 0 ≤ c2_pots.toInt) (p4 : c2_ranks.toInt ≤ 2) (p5 : 2 ≤ c2_ranks.toInt) (hr_a49 : dz_rg a49 13824 0 1023) (o0 : dz_sq [1, 2, 4, 8] a69 (-1) c2_pots.toInt.toNat) (o1 : dz_td 2 2 a70) (k : Nat) (ih : ∀ j9, j9 < k → p76_X12_fills_g2 fu c2_groups c2_pots c2_ranks a49 a69 a70 j9) : ∀ (v2 : Int32) (v3 : Int32) (v4 : Int32) (a67 : Nat → Int32) (a68 : Nat → Int32), v2.toInt ≤ 13824 → 0 ≤ v2.toInt → v3.toInt ≤ 13824 → 0 ≤ v3.toInt → v4.toInt ≤ 13824 → 1 ≤ v4.toInt → v3.toInt ≤ v4.toInt → dz_rg a68 v4.toInt.toNat 0 15 → dz_cw a67 v4.toInt → 0 + 0 + (13824 - v3.toInt) * 1611 + 9 ≤ ((k : Nat) : Int) → dz_T ((F76_X12_fills fu c2_groups c2_pots c2_ranks a49 a69 a70 k).1 v2 v3 v4 a67 a68) (fun r => r.1.toInt ≤ 13824 ∧ 1 ≤ r.1.toInt ∧ dz_rg r.2.2 r.1.toInt.toNat 0 15) := by
  intro v2 v3 v4 a67 a68 i0 i1 i2 i3 i4 i5 i6 hr_a68 x0 hm
  obtain ⟨k0, rfl⟩ : ∃ x, k = x + 1 := ⟨k - 1, by omega⟩
  show dz_T (s76_X12_fills_1 fu c2_groups c2_pots c2_ranks a49 a69 a70 (F76_X12_fills fu c2_groups c2_pots c2_ranks a49 a69 a70 k0).2.1  v2 v3 v4 a67 a68) _
  unfold s76_X12_fills_1
  refine dz_Tle (fun h1 => ?_) (fun h1 => ?_)
  · skip
    refine dz_Ts ?_
    dsimp only
    exact ⟨i4, i5, (dz_rgs (hr_a68) (by omega))⟩
  · skip
    refine dz_Tin (by omega) (by omega) ?_
    have e2 := dz_l1
    have e3 := dz_add (a := v3) (b := (1 : Int32)) (by omega) (by omega)
    have e4 := dz_rgat (hr_a68) (i := v3) (by omega) (by omega)
    have e5 := dz_l0
    exact (ih k0 (by omega)).2.1 v2 (v3 + (1 : Int32)) v4 (a68 v3.toNatClampNeg) (0 : Int32) a67 a68 i0 i1 (by omega) (by omega) i4 i5 (by omega) (by omega) (by omega) (by omega) (by omega) (by omega) (dz_rgs (hr_a68) (by omega)) (by exact x0) (by omega)
set_option maxHeartbeats 4000000 in
set_option maxRecDepth 10000 in
theorem t76_X12_fills_h2_g2 (fu : Nat) (hfu : 1000000000000 ≤ fu) (c2_groups : Int32) (c2_pots : Int32) (c2_ranks : Int32) (a49 : Nat → Int32) (a69 : Nat → Int32) (a70 : Nat → Int32) (p0 : c2_groups.toInt ≤ 2) (p1 : 2 ≤ c2_groups.toInt) (p2 : c2_pots.toInt ≤ 4) (p3 : 0 ≤ c2_pots.toInt) (p4 : c2_ranks.toInt ≤ 2) (p5 : 2 ≤ c2_ranks.toInt) (hr_a49 : dz_rg a49 13824 0 1023) (o0 : dz_sq [1, 2, 4, 8] a69 (-1) c2_pots.toInt.toNat) (o1 : dz_td 2 2 a70) (k : Nat) (ih : ∀ j9, j9 < k → p76_X12_fills_g2 fu c2_groups c2_pots c2_ranks a49 a69 a70 j9) : ∀ (v2 : Int32) (v3 : Int32) (v4 : Int32) (v5 : Int32) (v6 : Int32) (a67 : Nat → Int32) (a68 : Nat → Int32), v2.toInt ≤ 13824 → 0 ≤ v2.toInt → v3.toInt ≤ 13824 → 1 ≤ v3.toInt → v4.toInt ≤ 13824 → 1 ≤ v4.toInt → v5.toInt ≤ 15 → 0 ≤ v5.toInt → v6.toInt ≤ 4 → 0 ≤ v6.toInt → v3.toInt ≤ v4.toInt → v6.toInt ≤ c2_pots.toInt → dz_rg a68 v4.toInt.toNat 0 15 → dz_cw a67 v4.toInt → 0 + 0 + ((13825 - v3.toInt) - 1) * 1611 + 0 + (4 - v6.toInt) * 315 + 18 ≤ ((k : Nat) : Int) → dz_T ((F76_X12_fills fu c2_groups c2_pots c2_ranks a49 a69 a70 k).2.1 v2 v3 v4 v5 v6 a67 a68) (fun r => r.1.toInt ≤ 13824 ∧ 1 ≤ r.1.toInt ∧ dz_rg r.2.2 r.1.toInt.toNat 0 15) := by
  intro v2 v3 v4 v5 v6 a67 a68 i0 i1 i2 i3 i4 i5 i6 i7 i8 i9 i10 i11 hr_a68 x0 hm
  obtain ⟨k0, rfl⟩ : ∃ x, k = x + 1 := ⟨k - 1, by omega⟩
  show dz_T (s76_X12_fills_2 fu c2_groups c2_pots c2_ranks a49 a69 a70 (F76_X12_fills fu c2_groups c2_pots c2_ranks a49 a69 a70 k0).1 (F76_X12_fills fu c2_groups c2_pots c2_ranks a49 a69 a70 k0).2.2.1  v2 v3 v4 v5 v6 a67 a68) _
  unfold s76_X12_fills_2
  refine dz_Tle (fun h1 => ?_) (fun h1 => ?_)
  · skip
    exact (ih k0 (by omega)).1 v2 v3 v4 a67 a68 i0 i1 i2 (by first | assumption | omega) i4 i5 i10 (dz_rgs (hr_a68) (by omega)) (by exact x0) (by omega)
  · skip
    have e2 := dz_l0
    exact (ih k0 (by omega)).2.2.1 v2 v3 v4 v5 v6 (0 : Int32) a67 a68 (by first | assumption | omega) i0 i1 i2 i3 i4 i5 i6 i7 (by first | assumption | omega) i9 (by omega) (by omega) (by first | assumption | omega) i10 (dz_rgs (hr_a68) (by omega)) (by exact x0) (by omega)
set_option maxHeartbeats 4000000 in
set_option maxRecDepth 10000 in
theorem t76_X12_fills_h3_g2 (fu : Nat) (hfu : 1000000000000 ≤ fu) (c2_groups : Int32) (c2_pots : Int32) (c2_ranks : Int32) (a49 : Nat → Int32) (a69 : Nat → Int32) (a70 : Nat → Int32) (p0 : c2_groups.toInt ≤ 2) (p1 : 2 ≤ c2_groups.toInt) (p2 : c2_pots.toInt ≤ 4) (p3 : 0 ≤ c2_pots.toInt) (p4 : c2_ranks.toInt ≤ 2) (p5 : 2 ≤ c2_ranks.toInt) (hr_a49 : dz_rg a49 13824 0 1023) (o0 : dz_sq [1, 2, 4, 8] a69 (-1) c2_pots.toInt.toNat) (o1 : dz_td 2 2 a70) (k : Nat) (ih : ∀ j9, j9 < k → p76_X12_fills_g2 fu c2_groups c2_pots c2_ranks a49 a69 a70 j9) : ∀ (v2 : Int32) (v3 : Int32) (v4 : Int32) (v5 : Int32) (v6 : Int32) (v7 : Int32) (a67 : Nat → Int32) (a68 : Nat → Int32), 1 ≤ c2_pots.toInt → v2.toInt ≤ 13824 → 0 ≤ v2.toInt → v3.toInt ≤ 13824 → 1 ≤ v3.toInt → v4.toInt ≤ 13824 → 1 ≤ v4.toInt → v5.toInt ≤ 15 → 0 ≤ v5.toInt → v6.toInt ≤ 3 → 0 ≤ v6.toInt → v7.toInt ≤ 2 → 0 ≤ v7.toInt → v6.toInt + 1 ≤ c2_pots.toInt → v3.toInt ≤ v4.toInt → dz_rg a68 v4.toInt.toNat 0 15 → dz_cw a67 v4.toInt → 0 + 0 + ((13825 - v3.toInt) - 1) * 1611 + 0 + ((4 - v6.toInt) - 1) * 315 + 0 + (2 - v7.toInt) * 90 + 27 ≤ ((k : Nat) : Int) → dz_T ((F76_X12_fills fu c2_groups c2_pots c2_ranks a49 a69 a70 k).2.2.1 v2 v3 v4 v5 v6 v7 a67 a68) (fun r => r.1.toInt ≤ 13824 ∧ 1 ≤ r.1.toInt ∧ dz_rg r.2.2 r.1.toInt.toNat 0 15) := by
  intro v2 v3 v4 v5 v6 v7 a67 a68 i0 i1 i2 i3 i4 i5 i6 i7 i8 i9 i10 i11 i12 i13 i14 hr_a68 x0 hm
  obtain ⟨k0, rfl⟩ : ∃ x, k = x + 1 := ⟨k - 1, by omega⟩
  show dz_T (s76_X12_fills_3 fu c2_groups c2_pots c2_ranks a49 a69 a70 (F76_X12_fills fu c2_groups c2_pots c2_ranks a49 a69 a70 k0).2.1 (F76_X12_fills fu c2_groups c2_pots c2_ranks a49 a69 a70 k0).2.2.2.1  v2 v3 v4 v5 v6 v7 a67 a68) _
  unfold s76_X12_fills_3
  refine dz_Tle (fun h1 => ?_) (fun h1 => ?_)
  · skip
    have e2 := dz_l1
    have e3 := dz_add (a := v6) (b := (1 : Int32)) (by omega) (by omega)
    exact (ih k0 (by omega)).2.1 v2 v3 v4 v5 (v6 + (1 : Int32)) a67 a68 i1 i2 i3 i4 i5 i6 i7 i8 (by omega) (by omega) i14 (by omega) (dz_rgs (hr_a68) (by omega)) (by exact x0) (by omega)
  · skip
    have e4 := dz_l1
    have e5 := dz_add (a := v7) (b := (1 : Int32)) (by omega) (by omega)
    exact (ih k0 (by omega)).2.2.2 v2 v3 v4 v5 v6 v7 (v7 + (1 : Int32)) a67 a68 i0 i1 i2 i3 i4 i5 i6 i7 i8 i9 i10 (by first | assumption | omega) i12 (by omega) (by omega) i13 (by omega) i14 (dz_rgs (hr_a68) (by omega)) (by exact x0) (by omega)
set_option maxHeartbeats 4000000 in
set_option maxRecDepth 10000 in
theorem t76_X12_fills_h4_g2 (fu : Nat) (hfu : 1000000000000 ≤ fu) (c2_groups : Int32) (c2_pots : Int32) (c2_ranks : Int32) (a49 : Nat → Int32) (a69 : Nat → Int32) (a70 : Nat → Int32) (p0 : c2_groups.toInt ≤ 2) (p1 : 2 ≤ c2_groups.toInt) (p2 : c2_pots.toInt ≤ 4) (p3 : 0 ≤ c2_pots.toInt) (p4 : c2_ranks.toInt ≤ 2) (p5 : 2 ≤ c2_ranks.toInt) (hr_a49 : dz_rg a49 13824 0 1023) (o0 : dz_sq [1, 2, 4, 8] a69 (-1) c2_pots.toInt.toNat) (o1 : dz_td 2 2 a70) (k : Nat) (ih : ∀ j9, j9 < k → p76_X12_fills_g2 fu c2_groups c2_pots c2_ranks a49 a69 a70 j9) : ∀ (v2 : Int32) (v3 : Int32) (v4 : Int32) (v5 : Int32) (v6 : Int32) (v7 : Int32) (v8 : Int32) (a67 : Nat → Int32) (a68 : Nat → Int32), 1 ≤ c2_pots.toInt → v2.toInt ≤ 13824 → 0 ≤ v2.toInt → v3.toInt ≤ 13824 → 1 ≤ v3.toInt → v4.toInt ≤ 13824 → 1 ≤ v4.toInt → v5.toInt ≤ 15 → 0 ≤ v5.toInt → v6.toInt ≤ 3 → 0 ≤ v6.toInt → v7.toInt ≤ 1 → 0 ≤ v7.toInt → v8.toInt ≤ 2 → 1 ≤ v8.toInt → v6.toInt + 1 ≤ c2_pots.toInt → v7.toInt + 1 ≤ v8.toInt → v3.toInt ≤ v4.toInt → dz_rg a68 v4.toInt.toNat 0 15 → dz_cw a67 v4.toInt → 0 + 0 + ((13825 - v3.toInt) - 1) * 1611 + 0 + ((4 - v6.toInt) - 1) * 315 + 0 + ((2 - v7.toInt) - 1) * 90 + 0 + (2 - v8.toInt) * 18 + 36 ≤ ((k : Nat) : Int) → dz_T ((F76_X12_fills fu c2_groups c2_pots c2_ranks a49 a69 a70 k).2.2.2.1 v2 v3 v4 v5 v6 v7 v8 a67 a68) (fun r => r.1.toInt ≤ 13824 ∧ 1 ≤ r.1.toInt ∧ dz_rg r.2.2 r.1.toInt.toNat 0 15) := by
  intro v2 v3 v4 v5 v6 v7 v8 a67 a68 i0 i1 i2 i3 i4 i5 i6 i7 i8 i9 i10 i11 i12 i13 i14 i15 i16 i17 hr_a68 x0 hm
  obtain ⟨k0, rfl⟩ : ∃ x, k = x + 1 := ⟨k - 1, by omega⟩
  show dz_T (s76_X12_fills_4 fu c2_groups c2_pots c2_ranks a49 a69 a70 (F76_X12_fills fu c2_groups c2_pots c2_ranks a49 a69 a70 k0).2.2.1 (F76_X12_fills fu c2_groups c2_pots c2_ranks a49 a69 a70 k0).2.2.2.2  v2 v3 v4 v5 v6 v7 v8 a67 a68) _
  unfold s76_X12_fills_4
  refine dz_Tle (fun h1 => ?_) (fun h1 => ?_)
  · skip
    have e2 := dz_l1
    have e3 := dz_add (a := v7) (b := (1 : Int32)) (by omega) (by omega)
    exact (ih k0 (by omega)).2.2.1 v2 v3 v4 v5 v6 (v7 + (1 : Int32)) a67 a68 i0 i1 i2 i3 i4 i5 i6 i7 i8 i9 i10 (by omega) (by omega) i15 i17 (dz_rgs (hr_a68) (by omega)) (by first | exact dz_cws x0 (by omega) (by omega) (by omega) (by omega) (by omega) | exact x0) (by omega)
  · skip
    refine dz_Tb (t75_X12_swapped_g2 fu hfu _ _ _ _ _ _ _ p4 p5 i8 i7 i10 i9 i12 i11 (by first | assumption | omega) (by first | assumption | omega) (by have hsq := dz_sqat o0 (p := v6) (by omega) (by omega); simp at hsq; first | exact hsq | omega) (o1)) (fun r1 q => ?_)
    obtain ⟨q1_0, q1_1⟩ := q
    have hcw := dz_cwb (i := r1) x0 (by omega) (by omega)
    refine dz_Tin (by omega) (by omega) ?_
    have e4 := dz_rgat (hr_a49) (i := r1) (by omega) (by omega)
    have e5 := dz_l0
    refine dz_Teq (fun h6 => ?_) (fun h6 => ?_)
    · skip
      refine dz_Tin (by omega) (by omega) ?_
      have e7 := dz_lm1
      refine dz_Teq (fun h8 => ?_) (fun h8 => ?_)
      · skip
        refine dz_Tin (by omega) (by omega) ?_
        refine dz_Tin (by omega) (by omega) ?_
        obtain ⟨k1, rfl⟩ : ∃ x, k0 = x + 1 := ⟨k0 - 1, by omega⟩
        show dz_T (s76_X12_fills_5 fu c2_groups c2_pots c2_ranks a49 a69 a70 (F76_X12_fills fu c2_groups c2_pots c2_ranks a49 a69 a70 k1).2.2.2.1 v2 v3 (v4 + (1 : Int32)) v5 v6 v7 v8 (upd a67 r1.toNatClampNeg v2) (upd a68 v4.toNatClampNeg r1)) _
        unfold s76_X12_fills_5
        have e9 := dz_l1
        have e10 := dz_add (a := v4) (b := (1 : Int32)) (by omega) (by omega)
        have e11 := dz_add (a := v8) (b := (1 : Int32)) (by omega) (by omega)
        exact (ih k1 (by omega)).2.2.2 v2 v3 (v4 + (1 : Int32)) v5 v6 v7 (v8 + (1 : Int32)) (upd a67 r1.toNatClampNeg v2) (upd a68 v4.toNatClampNeg r1) i0 i1 i2 i3 i4 (by omega) (by omega) i7 i8 i9 i10 i11 i12 (by omega) (by omega) i15 (by omega) (by omega) (dz_rgx (hr_a68) (k2 := (v4 + (1 : Int32))) (by omega) (by omega) (by omega) (by omega)) (by first | exact dz_cws x0 (by omega) (by omega) (by omega) (by omega) (by omega) | exact x0) (by omega)
      · skip
        obtain ⟨k2, rfl⟩ : ∃ x, k0 = x + 1 := ⟨k0 - 1, by omega⟩
        show dz_T (s76_X12_fills_5 fu c2_groups c2_pots c2_ranks a49 a69 a70 (F76_X12_fills fu c2_groups c2_pots c2_ranks a49 a69 a70 k2).2.2.2.1 v2 v3 v4 v5 v6 v7 v8 a67 a68) _
        unfold s76_X12_fills_5
        have e12 := dz_l1
        have e13 := dz_add (a := v8) (b := (1 : Int32)) (by omega) (by omega)
        exact (ih k2 (by omega)).2.2.2 v2 v3 v4 v5 v6 v7 (v8 + (1 : Int32)) a67 a68 i0 i1 i2 i3 i4 i5 i6 i7 i8 i9 i10 i11 i12 (by omega) (by omega) i15 (by omega) i17 (dz_rgs (hr_a68) (by omega)) (by first | exact dz_cws x0 (by omega) (by omega) (by omega) (by omega) (by omega) | exact x0) (by omega)
    · skip
      obtain ⟨k3, rfl⟩ : ∃ x, k0 = x + 1 := ⟨k0 - 1, by omega⟩
      show dz_T (s76_X12_fills_5 fu c2_groups c2_pots c2_ranks a49 a69 a70 (F76_X12_fills fu c2_groups c2_pots c2_ranks a49 a69 a70 k3).2.2.2.1 v2 v3 v4 v5 v6 v7 v8 a67 a68) _
      unfold s76_X12_fills_5
      have e14 := dz_l1
      have e15 := dz_add (a := v8) (b := (1 : Int32)) (by omega) (by omega)
      exact (ih k3 (by omega)).2.2.2 v2 v3 v4 v5 v6 v7 (v8 + (1 : Int32)) a67 a68 i0 i1 i2 i3 i4 i5 i6 i7 i8 i9 i10 i11 i12 (by omega) (by omega) i15 (by omega) i17 (dz_rgs (hr_a68) (by omega)) (by first | exact dz_cws x0 (by omega) (by omega) (by omega) (by omega) (by omega) | exact x0) (by omega)
theorem t76_X12_fills_I_g2 (fu : Nat) (hfu : 1000000000000 ≤ fu) (c2_groups : Int32) (c2_pots : Int32) (c2_ranks : Int32) (a49 : Nat → Int32) (a69 : Nat → Int32) (a70 : Nat → Int32) (p0 : c2_groups.toInt ≤ 2) (p1 : 2 ≤ c2_groups.toInt) (p2 : c2_pots.toInt ≤ 4) (p3 : 0 ≤ c2_pots.toInt) (p4 : c2_ranks.toInt ≤ 2) (p5 : 2 ≤ c2_ranks.toInt) (hr_a49 : dz_rg a49 13824 0 1023) (o0 : dz_sq [1, 2, 4, 8] a69 (-1) c2_pots.toInt.toNat) (o1 : dz_td 2 2 a70) (k : Nat) : p76_X12_fills_g2 fu c2_groups c2_pots c2_ranks a49 a69 a70 k := by
  induction k using Nat.strongRecOn with
  | _ k ih => exact ⟨t76_X12_fills_h1_g2 fu hfu c2_groups c2_pots c2_ranks a49 a69 a70 p0 p1 p2 p3 p4 p5 hr_a49 o0 o1 k ih, t76_X12_fills_h2_g2 fu hfu c2_groups c2_pots c2_ranks a49 a69 a70 p0 p1 p2 p3 p4 p5 hr_a49 o0 o1 k ih, t76_X12_fills_h3_g2 fu hfu c2_groups c2_pots c2_ranks a49 a69 a70 p0 p1 p2 p3 p4 p5 hr_a49 o0 o1 k ih, t76_X12_fills_h4_g2 fu hfu c2_groups c2_pots c2_ranks a49 a69 a70 p0 p1 p2 p3 p4 p5 hr_a49 o0 o1 k ih⟩
set_option maxHeartbeats 4000000 in
set_option maxRecDepth 10000 in
theorem t76_X12_fills_E_g2 (fu : Nat) (hfu : 1000000000000 ≤ fu) (c2_groups : Int32) (c2_pots : Int32) (c2_ranks : Int32) (a49 : Nat → Int32) (a69 : Nat → Int32) (a70 : Nat → Int32) (v1 : Int32) (v2 : Int32) (a67 : Nat → Int32) (a68 : Nat → Int32) (p0 : c2_groups.toInt ≤ 2) (p1 : 2 ≤ c2_groups.toInt) (p2 : c2_pots.toInt ≤ 4) (p3 : 0 ≤ c2_pots.toInt) (p4 : c2_ranks.toInt ≤ 2) (p5 : 2 ≤ c2_ranks.toInt) (p6 : 0 ≤ v1.toInt) (p7 : v1.toInt ≤ 15) (p8 : 0 ≤ v2.toInt) (p9 : v2.toInt ≤ 13824) (hr_a49 : dz_rg a49 13824 0 1023) (o0 : dz_sq [1, 2, 4, 8] a69 (-1) c2_pots.toInt.toNat) (o1 : dz_td 2 2 a70) (o2 : (a67 v1.toNatClampNeg).toInt = -1) (kv : Nat) (hkv : 1000000000000 ≤ kv) : dz_T (s76_X12_fills_0 fu c2_groups c2_pots c2_ranks a49 a69 a70 (F76_X12_fills fu c2_groups c2_pots c2_ranks a49 a69 a70 kv).1  v1 v2 a67 a68) (fun r => r.1.toInt ≤ 13824 ∧ 1 ≤ r.1.toInt ∧ dz_rg r.2.2 r.1.toInt.toNat 0 15) := by
  unfold s76_X12_fills_0
  refine dz_Tin (by omega) (by omega) ?_
  have e1 := dz_l0
  refine dz_Tin (by omega) (by omega) ?_
  have e2 := dz_l1
  exact (t76_X12_fills_I_g2 fu hfu c2_groups c2_pots c2_ranks a49 a69 a70 p0 p1 p2 p3 p4 p5 hr_a49 o0 o1 kv).1 v2 (0 : Int32) (1 : Int32) (upd a67 v1.toNatClampNeg v2) (upd a68 (0 : Int32).toNatClampNeg v1) p9 p8 (by omega) (by omega) (by omega) (by omega) (by omega) (dz_rgx (k1 := 0) (dz_rgz (by decide)) (by omega) (by decide) (by omega) (by omega)) (by exact dz_cw1 (by omega) (by omega) (by omega) (by omega) (by omega)) (by omega)
theorem t76_X12_fills_g2 (fu : Nat) (hfu : 1000000000000 ≤ fu) (c2_groups : Int32) (c2_pots : Int32) (c2_ranks : Int32) (a49 : Nat → Int32) (a69 : Nat → Int32) (a70 : Nat → Int32) (v1 : Int32) (v2 : Int32) (a67 : Nat → Int32) (a68 : Nat → Int32) (p0 : c2_groups.toInt ≤ 2) (p1 : 2 ≤ c2_groups.toInt) (p2 : c2_pots.toInt ≤ 4) (p3 : 0 ≤ c2_pots.toInt) (p4 : c2_ranks.toInt ≤ 2) (p5 : 2 ≤ c2_ranks.toInt) (p6 : 0 ≤ v1.toInt) (p7 : v1.toInt ≤ 15) (p8 : 0 ≤ v2.toInt) (p9 : v2.toInt ≤ 13824) (hr_a49 : dz_rg a49 13824 0 1023) (o0 : dz_sq [1, 2, 4, 8] a69 (-1) c2_pots.toInt.toNat) (o1 : dz_td 2 2 a70) (o2 : (a67 v1.toNatClampNeg).toInt = -1) : dz_T (f76_X12_fills fu c2_groups c2_pots c2_ranks a49 a69 a70 v1 v2 a67 a68) (fun r => r.1.toInt ≤ 13824 ∧ 1 ≤ r.1.toInt ∧ dz_rg r.2.2 r.1.toInt.toNat 0 15) :=
  t76_X12_fills_E_g2 fu hfu c2_groups c2_pots c2_ranks a49 a69 a70 v1 v2 a67 a68 p0 p1 p2 p3 p4 p5 p6 p7 p8 p9 hr_a49 o0 o1 o2 fu hfu
abbrev p77_X12_parts_g2 (fu : Nat) (c2_groups : Int32) (c2_pots : Int32) (c2_ranks : Int32) (c2_draws : Int32) (a48 : Nat → Int32) (a49 : Nat → Int32) (a52 : Nat → Int32) (a53 : Nat → Int32) (k : Nat) : Prop :=
  (∀ (v1 : Int32) (v2 : Int32) (c2_thrown : Int32) (c2_parts : Int32) (a56 : Nat → Int32) (a57 : Nat → Int32) (a58 : Nat → Int32) (a59 : Nat → Int32) (a61 : Nat → Int32) (a62 : Nat → Int32) (a63 : Nat → Int32) (a67 : Nat → Int32) (a68 : Nat → Int32) (a69 : Nat → Int32) (a70 : Nat → Int32), v1.toInt ≤ 2 → 0 ≤ v1.toInt → v2.toInt ≤ 16 → 0 ≤ v2.toInt → c2_thrown.toInt ≤ 0 → 0 ≤ c2_thrown.toInt → v2.toInt ≤ c2_draws.toInt → dz_rg a56 4 0 3 → dz_rg a57 4 0 3 → dz_rg a59 14425 0 16777215 → dz_rg a61 13824 0 13823 → dz_rg a62 16 0 16777215 → dz_pt a63 [1, 3] → dz_sq [1, 2, 4, 8] a69 (-1) c2_pots.toInt.toNat → dz_td 2 2 a70 → 0 + 315 + (16 - v2.toInt) * 18 + 9 ≤ ((k : Nat) : Int) → dz_T ((F77_X12_parts fu c2_groups c2_pots c2_ranks c2_draws a48 a49 a52 a53 k).1 v1 v2 c2_thrown c2_parts a56 a57 a58 a59 a61 a62 a63 a67 a68 a69 a70) (fun r => r.1.toInt ≤ 13824 ∧ (-1) ≤ r.1.toInt ∧ dz_rg r.2.2.2.1 4 0 3 ∧ dz_rg r.2.2.2.2.1 4 0 3 ∧ dz_rg r.2.2.2.2.2.2.1 14425 0 16777215 ∧ dz_rg r.2.2.2.2.2.2.2.1 13824 0 13823 ∧ dz_rg r.2.2.2.2.2.2.2.2.1 16 0 16777215)) ∧ (∀ (v1 : Int32) (v2 : Int32) (v3 : Int32) (v4 : Int32) (v5 : Int32) (c2_thrown : Int32) (c2_parts : Int32) (a56 : Nat → Int32) (a57 : Nat → Int32) (a58 : Nat → Int32) (a59 : Nat → Int32) (a61 : Nat → Int32) (a62 : Nat → Int32) (a63 : Nat → Int32) (a67 : Nat → Int32) (a68 : Nat → Int32) (a69 : Nat → Int32) (a70 : Nat → Int32), v1.toInt ≤ 2 → 0 ≤ v1.toInt → v2.toInt ≤ 16 → 0 ≤ v2.toInt → v3.toInt ≤ 13824 → 0 ≤ v3.toInt → v4.toInt ≤ 13824 → 0 ≤ v4.toInt → v5.toInt ≤ 16 → 0 ≤ v5.toInt → c2_thrown.toInt ≤ 0 → 0 ≤ c2_thrown.toInt → v2.toInt ≤ c2_draws.toInt → v2.toInt ≤ v5.toInt → v3.toInt ≤ v4.toInt → v5.toInt ≤ c2_draws.toInt → v2.toInt ≤ v4.toInt + 15 → dz_rg a56 4 0 3 → dz_rg a57 4 0 3 → dz_rg a59 14425 0 16777215 → dz_rg a61 13824 0 13823 → dz_rg a62 16 0 16777215 → dz_pt a63 [1, 3] → dz_sq [1, 2, 4, 8] a69 (-1) c2_pots.toInt.toNat → dz_td 2 2 a70 → 0 + 0 + (16 - v5.toInt) * 18 + 9 ≤ ((k : Nat) : Int) → dz_T ((F77_X12_parts fu c2_groups c2_pots c2_ranks c2_draws a48 a49 a52 a53 k).2.1 v1 v2 v3 v4 v5 c2_thrown c2_parts a56 a57 a58 a59 a61 a62 a63 a67 a68 a69 a70) (fun r => r.1.toInt ≤ 13824 ∧ (-1) ≤ r.1.toInt ∧ dz_rg r.2.2.2.1 4 0 3 ∧ dz_rg r.2.2.2.2.1 4 0 3 ∧ dz_rg r.2.2.2.2.2.2.1 14425 0 16777215 ∧ dz_rg r.2.2.2.2.2.2.2.1 13824 0 13823 ∧ dz_rg r.2.2.2.2.2.2.2.2.1 16 0 16777215))
set_option maxHeartbeats 4000000 in
set_option maxRecDepth 10000 in
theorem t77_X12_parts_h1_g2 (fu : Nat) (hfu : 1000000000000 ≤ fu) (c2_groups : Int32) (c2_pots : Int32) (c2_ranks : Int32) (c2_draws : Int32) (a48 : Nat → Int32) (a49 : Nat → Int32) (a52 : Nat → Int32) (a53 : Nat → Int32) (p0 : c2_groups.toInt ≤ 2) (p1 : 2 ≤ c2_groups.toInt) (p2 : c2_pots.toInt ≤ 4) (p3 : 0 ≤ c2_pots.toInt) (p4 : c2_ranks.toInt ≤ 2) (p5 : 2 ≤ c2_ranks.toInt) (p6 : c2_draws.toInt ≤ 16) (p7 : 1 ≤ c2_draws.toInt) (hr_a48 : dz_rg a48 100 0 3) (hr_a49 : dz_rg a49 13824 0 1023) (hr_a52 : dz_rg a52 4 0 3) (hr_a53 : dz_rg a53 4 0 3) (o0 : dz_pm a52 c2_pots.toInt.toNat) (o1 : dz_pm a53 2) (o2 : dz_rw 2 2 a48) (k : Nat) (ih : ∀ j9, j9 < k → p77_X12_parts_g2 fu c2_groups c2_pots c2_ranks c2_draws a48 a49 a52 a53 j9) : ∀ (v1 : Int32) (v2 : Int32) (c2_thrown : Int32) (c2_parts : Int32) (a56 : Nat → Int32) (a57 : Nat → Int32) (a58 : Nat → Int32) (a59 : Nat → Int32) (a61 : Nat → Int32) (a62 : Nat → Int32) (a63 : Nat → Int32) (a67 : Nat → Int32) (a68 : Nat → Int32) (a69 : Nat → Int32) (a70 : Nat → Int32), v1.toInt ≤ 2 → 0 ≤ v1.toInt → v2.toInt ≤ 16 → 0 ≤ v2.toInt → c2_thrown.toInt ≤ 0 → 0 ≤ c2_thrown.toInt → v2.toInt ≤ c2_draws.toInt → dz_rg a56 4 0 3 → dz_rg a57 4 0 3 → dz_rg a59 14425 0 16777215 → dz_rg a61 13824 0 13823 → dz_rg a62 16 0 16777215 → dz_pt a63 [1, 3] → dz_sq [1, 2, 4, 8] a69 (-1) c2_pots.toInt.toNat → dz_td 2 2 a70 → 0 + 315 + (16 - v2.toInt) * 18 + 9 ≤ ((k : Nat) : Int) → dz_T ((F77_X12_parts fu c2_groups c2_pots c2_ranks c2_draws a48 a49 a52 a53 k).1 v1 v2 c2_thrown c2_parts a56 a57 a58 a59 a61 a62 a63 a67 a68 a69 a70) (fun r => r.1.toInt ≤ 13824 ∧ (-1) ≤ r.1.toInt ∧ dz_rg r.2.2.2.1 4 0 3 ∧ dz_rg r.2.2.2.2.1 4 0 3 ∧ dz_rg r.2.2.2.2.2.2.1 14425 0 16777215 ∧ dz_rg r.2.2.2.2.2.2.2.1 13824 0 13823 ∧ dz_rg r.2.2.2.2.2.2.2.2.1 16 0 16777215) := by
  intro v1 v2 c2_thrown c2_parts a56 a57 a58 a59 a61 a62 a63 a67 a68 a69 a70 i0 i1 i2 i3 i4 i5 i6 hr_a56 hr_a57 hr_a59 hr_a61 hr_a62 hr_a63 x0 x1 hm
  obtain ⟨k0, rfl⟩ : ∃ x, k = x + 1 := ⟨k - 1, by omega⟩
  show dz_T (s77_X12_parts_1 fu c2_groups c2_pots c2_ranks c2_draws a48 a49 a52 a53 (F77_X12_parts fu c2_groups c2_pots c2_ranks c2_draws a48 a49 a52 a53 k0).1 (F77_X12_parts fu c2_groups c2_pots c2_ranks c2_draws a48 a49 a52 a53 k0).2.1  v1 v2 c2_thrown c2_parts a56 a57 a58 a59 a61 a62 a63 a67 a68 a69 a70) _
  unfold s77_X12_parts_1
  refine dz_Tle (fun h1 => ?_) (fun h1 => ?_)
  · skip
    have e2 := dz_l0
    exact (ih k0 (by omega)).2 v1 (0 : Int32) (0 : Int32) (0 : Int32) (0 : Int32) c2_thrown c2_parts a56 a57 a58 a59 a61 a62 a63 a67 a68 a69 a70 i0 i1 (by omega) (by omega) (by omega) (by omega) (by omega) (by omega) (by omega) (by omega) i4 i5 (by omega) (by omega) (by omega) (by omega) (by omega) (hr_a56) (hr_a57) (hr_a59) (hr_a61) (hr_a62) (hr_a63) (by exact x0) (by exact x1) (by omega)
  · skip
    refine dz_Tin (by omega) (by omega) ?_
    have e3 := dz_l1
    have e4 := dz_add (a := v2) (b := (1 : Int32)) (by omega) (by omega)
    exact (ih k0 (by omega)).1 v1 (v2 + (1 : Int32)) c2_thrown c2_parts a56 a57 a58 a59 a61 a62 a63 (upd a67 v2.toNatClampNeg (-(1 : Int32))) a68 a69 a70 i0 i1 (by omega) (by omega) i4 i5 (by omega) (hr_a56) (hr_a57) (hr_a59) (hr_a61) (hr_a62) (hr_a63) (by exact x0) (by exact x1) (by omega)
set_option maxHeartbeats 4000000 in
set_option maxRecDepth 10000 in
theorem t77_X12_parts_h2_g2 (fu : Nat) (hfu : 1000000000000 ≤ fu) (c2_groups : Int32) (c2_pots : Int32) (c2_ranks : Int32) (c2_draws : Int32) (a48 : Nat → Int32) (a49 : Nat → Int32) (a52 : Nat → Int32) (a53 : Nat → Int32) (p0 : c2_groups.toInt ≤ 2) (p1 : 2 ≤ c2_groups.toInt) (p2 : c2_pots.toInt ≤ 4) (p3 : 0 ≤ c2_pots.toInt) (p4 : c2_ranks.toInt ≤ 2) (p5 : 2 ≤ c2_ranks.toInt) (p6 : c2_draws.toInt ≤ 16) (p7 : 1 ≤ c2_draws.toInt) (hr_a48 : dz_rg a48 100 0 3) (hr_a49 : dz_rg a49 13824 0 1023) (hr_a52 : dz_rg a52 4 0 3) (hr_a53 : dz_rg a53 4 0 3) (o0 : dz_pm a52 c2_pots.toInt.toNat) (o1 : dz_pm a53 2) (o2 : dz_rw 2 2 a48) (k : Nat) (ih : ∀ j9, j9 < k → p77_X12_parts_g2 fu c2_groups c2_pots c2_ranks c2_draws a48 a49 a52 a53 j9) : ∀ (v1 : Int32) (v2 : Int32) (v3 : Int32) (v4 : Int32) (v5 : Int32) (c2_thrown : Int32) (c2_parts : Int32) (a56 : Nat → Int32) (a57 : Nat → Int32) (a58 : Nat → Int32) (a59 : Nat → Int32) (a61 : Nat → Int32) (a62 : Nat → Int32) (a63 : Nat → Int32) (a67 : Nat → Int32) (a68 : Nat → Int32) (a69 : Nat → Int32) (a70 : Nat → Int32), v1.toInt ≤ 2 → 0 ≤ v1.toInt → v2.toInt ≤ 16 → 0 ≤ v2.toInt → v3.toInt ≤ 13824 → 0 ≤ v3.toInt → v4.toInt ≤ 13824 → 0 ≤ v4.toInt → v5.toInt ≤ 16 → 0 ≤ v5.toInt → c2_thrown.toInt ≤ 0 → 0 ≤ c2_thrown.toInt → v2.toInt ≤ c2_draws.toInt → v2.toInt ≤ v5.toInt → v3.toInt ≤ v4.toInt → v5.toInt ≤ c2_draws.toInt → v2.toInt ≤ v4.toInt + 15 → dz_rg a56 4 0 3 → dz_rg a57 4 0 3 → dz_rg a59 14425 0 16777215 → dz_rg a61 13824 0 13823 → dz_rg a62 16 0 16777215 → dz_pt a63 [1, 3] → dz_sq [1, 2, 4, 8] a69 (-1) c2_pots.toInt.toNat → dz_td 2 2 a70 → 0 + 0 + (16 - v5.toInt) * 18 + 9 ≤ ((k : Nat) : Int) → dz_T ((F77_X12_parts fu c2_groups c2_pots c2_ranks c2_draws a48 a49 a52 a53 k).2.1 v1 v2 v3 v4 v5 c2_thrown c2_parts a56 a57 a58 a59 a61 a62 a63 a67 a68 a69 a70) (fun r => r.1.toInt ≤ 13824 ∧ (-1) ≤ r.1.toInt ∧ dz_rg r.2.2.2.1 4 0 3 ∧ dz_rg r.2.2.2.2.1 4 0 3 ∧ dz_rg r.2.2.2.2.2.2.1 14425 0 16777215 ∧ dz_rg r.2.2.2.2.2.2.2.1 13824 0 13823 ∧ dz_rg r.2.2.2.2.2.2.2.2.1 16 0 16777215) := by
  intro v1 v2 v3 v4 v5 c2_thrown c2_parts a56 a57 a58 a59 a61 a62 a63 a67 a68 a69 a70 i0 i1 i2 i3 i4 i5 i6 i7 i8 i9 i10 i11 i12 i13 i14 i15 i16 hr_a56 hr_a57 hr_a59 hr_a61 hr_a62 hr_a63 x0 x1 hm
  obtain ⟨k0, rfl⟩ : ∃ x, k = x + 1 := ⟨k - 1, by omega⟩
  show dz_T (s77_X12_parts_2 fu c2_groups c2_pots c2_ranks c2_draws a48 a49 a52 a53 (F77_X12_parts fu c2_groups c2_pots c2_ranks c2_draws a48 a49 a52 a53 k0).2.2.1 (F77_X12_parts fu c2_groups c2_pots c2_ranks c2_draws a48 a49 a52 a53 k0).2.2.2.1  v1 v2 v3 v4 v5 c2_thrown c2_parts a56 a57 a58 a59 a61 a62 a63 a67 a68 a69 a70) _
  unfold s77_X12_parts_2
  refine dz_Tle (fun h1 => ?_) (fun h1 => ?_)
  · skip
    have e2 := dz_l0
    refine dz_Teq (fun h3 => ?_) (fun h3 => ?_)
    · skip
      refine dz_Ts ?_
      dsimp only
      exact ⟨(by first | assumption | omega), (by first | assumption | omega), (hr_a56), (hr_a57), (hr_a59), (hr_a61), (hr_a62)⟩
    · skip
      have e4 := dz_l1
      refine dz_Teq (fun h5 => ?_) (fun h5 => ?_)
      · skip
        refine dz_Ts ?_
        dsimp only
        exact ⟨i4, (by first | assumption | omega), (hr_a56), (hr_a57), (hr_a59), (hr_a61), (hr_a62)⟩
      · skip
        refine dz_Ts ?_
        dsimp only
        exact ⟨i6, (by first | assumption | omega), (hr_a56), (hr_a57), (hr_a59), (hr_a61), (hr_a62)⟩
  · skip
    refine dz_Tin (by omega) (by omega) ?_
    have e6 := dz_rgat (hr_a49) (i := v5) (by omega) (by omega)
    have e7 := dz_l0
    refine dz_Teq (fun h8 => ?_) (fun h8 => ?_)
    · skip
      refine dz_Tin (by omega) (by omega) ?_
      have e9 := dz_lm1
      refine dz_Teq (fun h10 => ?_) (fun h10 => ?_)
      · skip
        refine dz_Tb (t76_X12_fills_g2 fu hfu _ _ _ _ _ _ _ _ _ _ p0 p1 p2 p3 p4 p5 i9 (by first | assumption | omega) i3 (by first | assumption | omega) (hr_a49) (x0) (x1) (by omega)) (fun r1 q => ?_)
        obtain ⟨q1_0, q1_1, qa1_2⟩ := q
        refine dz_Teq (fun h11 => ?_) (fun h11 => ?_)
        · skip
          obtain ⟨k1, rfl⟩ : ∃ x, k0 = x + 1 := ⟨k0 - 1, by omega⟩
          show dz_T (s77_X12_parts_4 fu c2_groups c2_pots c2_ranks c2_draws a48 a49 a52 a53 (F77_X12_parts fu c2_groups c2_pots c2_ranks c2_draws a48 a49 a52 a53 k1).2.2.2.2 v1 v2 v4 v5 r1.1 r1.1 c2_thrown c2_parts a56 a57 a58 a59 a61 a62 a63 r1.2.1 r1.2.2 a69 a70) _
          unfold s77_X12_parts_4
          refine dz_Tle (fun h12 => ?_) (fun h12 => ?_)
          · skip
            obtain ⟨k2, rfl⟩ : ∃ x, k1 = x + 1 := ⟨k1 - 1, by omega⟩
            show dz_T (s77_X12_parts_5 fu c2_groups c2_pots c2_ranks c2_draws a48 a49 a52 a53 (F77_X12_parts fu c2_groups c2_pots c2_ranks c2_draws a48 a49 a52 a53 k2).2.2.1 v1 v2 r1.1 v5 v4 c2_thrown c2_parts a56 a57 a58 a59 a61 a62 a63 r1.2.1 r1.2.2 a69 a70) _
            unfold s77_X12_parts_5
            obtain ⟨k3, rfl⟩ : ∃ x, k2 = x + 1 := ⟨k2 - 1, by omega⟩
            show dz_T (s77_X12_parts_3 fu c2_groups c2_pots c2_ranks c2_draws a48 a49 a52 a53 (F77_X12_parts fu c2_groups c2_pots c2_ranks c2_draws a48 a49 a52 a53 k3).2.1 v1 (v2 + (1 : Int32)) r1.1 v4 v5 c2_thrown c2_parts a56 a57 a58 a59 a61 a62 a63 r1.2.1 r1.2.2 a69 a70) _
            unfold s77_X12_parts_3
            have e13 := dz_l1
            have e14 := dz_add (a := v2) (b := (1 : Int32)) (by omega) (by omega)
            have e15 := dz_add (a := v5) (b := (1 : Int32)) (by omega) (by omega)
            exact (ih k3 (by omega)).2 v1 (v2 + (1 : Int32)) r1.1 v4 (v5 + (1 : Int32)) c2_thrown c2_parts a56 a57 a58 a59 a61 a62 a63 r1.2.1 r1.2.2 a69 a70 i0 i1 (by omega) (by omega) q1_0 (by first | assumption | omega) i6 i7 (by omega) (by omega) i10 i11 (by omega) (by omega) (by first | assumption | omega) (by omega) (by omega) (hr_a56) (hr_a57) (hr_a59) (hr_a61) (hr_a62) (hr_a63) (by exact x0) (by exact x1) (by omega)
          · skip
            obtain ⟨k4, rfl⟩ : ∃ x, k1 = x + 1 := ⟨k1 - 1, by omega⟩
            show dz_T (s77_X12_parts_5 fu c2_groups c2_pots c2_ranks c2_draws a48 a49 a52 a53 (F77_X12_parts fu c2_groups c2_pots c2_ranks c2_draws a48 a49 a52 a53 k4).2.2.1 v1 v2 r1.1 v5 r1.1 c2_thrown c2_parts a56 a57 a58 a59 a61 a62 a63 r1.2.1 r1.2.2 a69 a70) _
            unfold s77_X12_parts_5
            obtain ⟨k5, rfl⟩ : ∃ x, k4 = x + 1 := ⟨k4 - 1, by omega⟩
            show dz_T (s77_X12_parts_3 fu c2_groups c2_pots c2_ranks c2_draws a48 a49 a52 a53 (F77_X12_parts fu c2_groups c2_pots c2_ranks c2_draws a48 a49 a52 a53 k5).2.1 v1 (v2 + (1 : Int32)) r1.1 r1.1 v5 c2_thrown c2_parts a56 a57 a58 a59 a61 a62 a63 r1.2.1 r1.2.2 a69 a70) _
            unfold s77_X12_parts_3
            have e16 := dz_l1
            have e17 := dz_add (a := v2) (b := (1 : Int32)) (by omega) (by omega)
            have e18 := dz_add (a := v5) (b := (1 : Int32)) (by omega) (by omega)
            exact (ih k5 (by omega)).2 v1 (v2 + (1 : Int32)) r1.1 r1.1 (v5 + (1 : Int32)) c2_thrown c2_parts a56 a57 a58 a59 a61 a62 a63 r1.2.1 r1.2.2 a69 a70 i0 i1 (by omega) (by omega) q1_0 (by first | assumption | omega) q1_0 (by first | assumption | omega) (by omega) (by omega) i10 i11 (by omega) (by omega) (by first | assumption | omega) (by omega) (by omega) (hr_a56) (hr_a57) (hr_a59) (hr_a61) (hr_a62) (hr_a63) (by exact x0) (by exact x1) (by omega)
        · skip
          obtain ⟨k6, rfl⟩ : ∃ x, k0 = x + 1 := ⟨k0 - 1, by omega⟩
          show dz_T (s77_X12_parts_4 fu c2_groups c2_pots c2_ranks c2_draws a48 a49 a52 a53 (F77_X12_parts fu c2_groups c2_pots c2_ranks c2_draws a48 a49 a52 a53 k6).2.2.2.2 v1 v2 v4 v5 r1.1 v3 c2_thrown c2_parts a56 a57 a58 a59 a61 a62 a63 r1.2.1 r1.2.2 a69 a70) _
          unfold s77_X12_parts_4
          refine dz_Tle (fun h19 => ?_) (fun h19 => ?_)
          · skip
            obtain ⟨k7, rfl⟩ : ∃ x, k6 = x + 1 := ⟨k6 - 1, by omega⟩
            show dz_T (s77_X12_parts_5 fu c2_groups c2_pots c2_ranks c2_draws a48 a49 a52 a53 (F77_X12_parts fu c2_groups c2_pots c2_ranks c2_draws a48 a49 a52 a53 k7).2.2.1 v1 v2 v3 v5 v4 c2_thrown c2_parts a56 a57 a58 a59 a61 a62 a63 r1.2.1 r1.2.2 a69 a70) _
            unfold s77_X12_parts_5
            obtain ⟨k8, rfl⟩ : ∃ x, k7 = x + 1 := ⟨k7 - 1, by omega⟩
            show dz_T (s77_X12_parts_3 fu c2_groups c2_pots c2_ranks c2_draws a48 a49 a52 a53 (F77_X12_parts fu c2_groups c2_pots c2_ranks c2_draws a48 a49 a52 a53 k8).2.1 v1 (v2 + (1 : Int32)) v3 v4 v5 c2_thrown c2_parts a56 a57 a58 a59 a61 a62 a63 r1.2.1 r1.2.2 a69 a70) _
            unfold s77_X12_parts_3
            have e20 := dz_l1
            have e21 := dz_add (a := v2) (b := (1 : Int32)) (by omega) (by omega)
            have e22 := dz_add (a := v5) (b := (1 : Int32)) (by omega) (by omega)
            exact (ih k8 (by omega)).2 v1 (v2 + (1 : Int32)) v3 v4 (v5 + (1 : Int32)) c2_thrown c2_parts a56 a57 a58 a59 a61 a62 a63 r1.2.1 r1.2.2 a69 a70 i0 i1 (by omega) (by omega) i4 i5 i6 i7 (by omega) (by omega) i10 i11 (by omega) (by omega) i14 (by omega) (by omega) (hr_a56) (hr_a57) (hr_a59) (hr_a61) (hr_a62) (hr_a63) (by exact x0) (by exact x1) (by omega)
          · skip
            obtain ⟨k9, rfl⟩ : ∃ x, k6 = x + 1 := ⟨k6 - 1, by omega⟩
            show dz_T (s77_X12_parts_5 fu c2_groups c2_pots c2_ranks c2_draws a48 a49 a52 a53 (F77_X12_parts fu c2_groups c2_pots c2_ranks c2_draws a48 a49 a52 a53 k9).2.2.1 v1 v2 v3 v5 r1.1 c2_thrown c2_parts a56 a57 a58 a59 a61 a62 a63 r1.2.1 r1.2.2 a69 a70) _
            unfold s77_X12_parts_5
            obtain ⟨k10, rfl⟩ : ∃ x, k9 = x + 1 := ⟨k9 - 1, by omega⟩
            show dz_T (s77_X12_parts_3 fu c2_groups c2_pots c2_ranks c2_draws a48 a49 a52 a53 (F77_X12_parts fu c2_groups c2_pots c2_ranks c2_draws a48 a49 a52 a53 k10).2.1 v1 (v2 + (1 : Int32)) v3 r1.1 v5 c2_thrown c2_parts a56 a57 a58 a59 a61 a62 a63 r1.2.1 r1.2.2 a69 a70) _
            unfold s77_X12_parts_3
            have e23 := dz_l1
            have e24 := dz_add (a := v2) (b := (1 : Int32)) (by omega) (by omega)
            have e25 := dz_add (a := v5) (b := (1 : Int32)) (by omega) (by omega)
            exact (ih k10 (by omega)).2 v1 (v2 + (1 : Int32)) v3 r1.1 (v5 + (1 : Int32)) c2_thrown c2_parts a56 a57 a58 a59 a61 a62 a63 r1.2.1 r1.2.2 a69 a70 i0 i1 (by omega) (by omega) i4 i5 q1_0 (by first | assumption | omega) (by omega) (by omega) i10 i11 (by omega) (by omega) (by first | assumption | omega) (by omega) (by omega) (hr_a56) (hr_a57) (hr_a59) (hr_a61) (hr_a62) (hr_a63) (by exact x0) (by exact x1) (by omega)
      · skip
        obtain ⟨k11, rfl⟩ : ∃ x, k0 = x + 1 := ⟨k0 - 1, by omega⟩
        show dz_T (s77_X12_parts_3 fu c2_groups c2_pots c2_ranks c2_draws a48 a49 a52 a53 (F77_X12_parts fu c2_groups c2_pots c2_ranks c2_draws a48 a49 a52 a53 k11).2.1 v1 v2 v3 v4 v5 c2_thrown c2_parts a56 a57 a58 a59 a61 a62 a63 a67 a68 a69 a70) _
        unfold s77_X12_parts_3
        have e26 := dz_l1
        have e27 := dz_add (a := v5) (b := (1 : Int32)) (by omega) (by omega)
        exact (ih k11 (by omega)).2 v1 v2 v3 v4 (v5 + (1 : Int32)) c2_thrown c2_parts a56 a57 a58 a59 a61 a62 a63 a67 a68 a69 a70 i0 i1 i2 i3 i4 i5 i6 i7 (by omega) (by omega) i10 i11 i12 (by omega) i14 (by omega) i16 (hr_a56) (hr_a57) (hr_a59) (hr_a61) (hr_a62) (hr_a63) (by exact x0) (by exact x1) (by omega)
    · skip
      obtain ⟨k12, rfl⟩ : ∃ x, k0 = x + 1 := ⟨k0 - 1, by omega⟩
      show dz_T (s77_X12_parts_3 fu c2_groups c2_pots c2_ranks c2_draws a48 a49 a52 a53 (F77_X12_parts fu c2_groups c2_pots c2_ranks c2_draws a48 a49 a52 a53 k12).2.1 v1 v2 v3 v4 v5 c2_thrown c2_parts a56 a57 a58 a59 a61 a62 a63 a67 a68 a69 a70) _
      unfold s77_X12_parts_3
      have e28 := dz_l1
      have e29 := dz_add (a := v5) (b := (1 : Int32)) (by omega) (by omega)
      exact (ih k12 (by omega)).2 v1 v2 v3 v4 (v5 + (1 : Int32)) c2_thrown c2_parts a56 a57 a58 a59 a61 a62 a63 a67 a68 a69 a70 i0 i1 i2 i3 i4 i5 i6 i7 (by omega) (by omega) i10 i11 i12 (by omega) i14 (by omega) i16 (hr_a56) (hr_a57) (hr_a59) (hr_a61) (hr_a62) (hr_a63) (by exact x0) (by exact x1) (by omega)
theorem t77_X12_parts_I_g2 (fu : Nat) (hfu : 1000000000000 ≤ fu) (c2_groups : Int32) (c2_pots : Int32) (c2_ranks : Int32) (c2_draws : Int32) (a48 : Nat → Int32) (a49 : Nat → Int32) (a52 : Nat → Int32) (a53 : Nat → Int32) (p0 : c2_groups.toInt ≤ 2) (p1 : 2 ≤ c2_groups.toInt) (p2 : c2_pots.toInt ≤ 4) (p3 : 0 ≤ c2_pots.toInt) (p4 : c2_ranks.toInt ≤ 2) (p5 : 2 ≤ c2_ranks.toInt) (p6 : c2_draws.toInt ≤ 16) (p7 : 1 ≤ c2_draws.toInt) (hr_a48 : dz_rg a48 100 0 3) (hr_a49 : dz_rg a49 13824 0 1023) (hr_a52 : dz_rg a52 4 0 3) (hr_a53 : dz_rg a53 4 0 3) (o0 : dz_pm a52 c2_pots.toInt.toNat) (o1 : dz_pm a53 2) (o2 : dz_rw 2 2 a48) (k : Nat) : p77_X12_parts_g2 fu c2_groups c2_pots c2_ranks c2_draws a48 a49 a52 a53 k := by
  induction k using Nat.strongRecOn with
  | _ k ih => exact ⟨t77_X12_parts_h1_g2 fu hfu c2_groups c2_pots c2_ranks c2_draws a48 a49 a52 a53 p0 p1 p2 p3 p4 p5 p6 p7 hr_a48 hr_a49 hr_a52 hr_a53 o0 o1 o2 k ih, t77_X12_parts_h2_g2 fu hfu c2_groups c2_pots c2_ranks c2_draws a48 a49 a52 a53 p0 p1 p2 p3 p4 p5 p6 p7 hr_a48 hr_a49 hr_a52 hr_a53 o0 o1 o2 k ih⟩
set_option maxHeartbeats 4000000 in
set_option maxRecDepth 10000 in
theorem t77_X12_parts_E_g2 (fu : Nat) (hfu : 1000000000000 ≤ fu) (c2_groups : Int32) (c2_pots : Int32) (c2_ranks : Int32) (c2_draws : Int32) (a48 : Nat → Int32) (a49 : Nat → Int32) (a52 : Nat → Int32) (a53 : Nat → Int32) (v1 : Int32) (c2_thrown : Int32) (c2_parts : Int32) (a56 : Nat → Int32) (a57 : Nat → Int32) (a58 : Nat → Int32) (a59 : Nat → Int32) (a61 : Nat → Int32) (a62 : Nat → Int32) (a63 : Nat → Int32) (a67 : Nat → Int32) (a68 : Nat → Int32) (a69 : Nat → Int32) (a70 : Nat → Int32) (p0 : c2_groups.toInt ≤ 2) (p1 : 2 ≤ c2_groups.toInt) (p2 : c2_pots.toInt ≤ 4) (p3 : 0 ≤ c2_pots.toInt) (p4 : c2_ranks.toInt ≤ 2) (p5 : 2 ≤ c2_ranks.toInt) (p6 : c2_draws.toInt ≤ 16) (p7 : 1 ≤ c2_draws.toInt) (hr_a48 : dz_rg a48 100 0 3) (hr_a49 : dz_rg a49 13824 0 1023) (hr_a52 : dz_rg a52 4 0 3) (hr_a53 : dz_rg a53 4 0 3) (hr_a56 : dz_rg a56 4 0 3) (hr_a57 : dz_rg a57 4 0 3) (hr_a59 : dz_rg a59 14425 0 16777215) (hr_a61 : dz_rg a61 13824 0 13823) (hr_a62 : dz_rg a62 16 0 16777215) (o0 : dz_pm a52 c2_pots.toInt.toNat) (o1 : dz_pm a53 2) (o2 : dz_rw 2 2 a48) (kv : Nat) (hkv : 1000000000000 ≤ kv) : dz_T (s77_X12_parts_0 fu c2_groups c2_pots c2_ranks c2_draws a48 a49 a52 a53 (F77_X12_parts fu c2_groups c2_pots c2_ranks c2_draws a48 a49 a52 a53 kv).1  v1 c2_thrown c2_parts a56 a57 a58 a59 a61 a62 a63 a67 a68 a69 a70) (fun r => r.1.toInt ≤ 13824 ∧ (-1) ≤ r.1.toInt ∧ dz_rg r.2.2.2.1 4 0 3 ∧ dz_rg r.2.2.2.2.1 4 0 3 ∧ dz_rg r.2.2.2.2.2.2.1 14425 0 16777215 ∧ dz_rg r.2.2.2.2.2.2.2.1 13824 0 13823 ∧ dz_rg r.2.2.2.2.2.2.2.2.1 16 0 16777215) := by
  unfold s77_X12_parts_0
  refine dz_Tbe (show f1_X12_isIn fu v1 (0 : Int32) (2 : Int32) = (if (v1 < (0 : Int32)) then (some (0 : Int32)) else (if ((2 : Int32) < v1) then (some (0 : Int32)) else (some (1 : Int32)))) from rfl) ?_
  have e1 := dz_l0
  refine dz_Tltb (fun h2 => ?_) (fun h2 => ?_)
  · skip
    refine dz_Tsb ?_
    refine dz_Teq (fun h3 => ?_) (fun h3 => ?_)
    · skip
      have e4 := dz_lm1
      refine dz_Ts ?_
      dsimp only
      exact ⟨(by omega), (by omega), (hr_a56), (hr_a57), (hr_a59), (hr_a61), (hr_a62)⟩
    · skip
      exfalso; omega
  · skip
    have e5 := dz_l2
    refine dz_Tltb (fun h6 => ?_) (fun h6 => ?_)
    · skip
      refine dz_Tsb ?_
      refine dz_Teq (fun h7 => ?_) (fun h7 => ?_)
      · skip
        have e8 := dz_lm1
        refine dz_Ts ?_
        dsimp only
        exact ⟨(by omega), (by omega), (hr_a56), (hr_a57), (hr_a59), (hr_a61), (hr_a62)⟩
      · skip
        exfalso; omega
    · skip
      refine dz_Tsb ?_
      have e9 := dz_l1
      refine dz_Teq (fun h10 => ?_) (fun h10 => ?_)
      · skip
        exfalso; omega
      · skip
        refine dz_Tb (t74_X12_laySwaps_g2 fu hfu _ _ _ _ _ _ _ _ _ _ _ _ _ _ _ _ _ _ p0 p1 p2 p3 p4 p5 p6 p7 (hr_a48) (hr_a49) (hr_a52) (hr_a53) (hr_a56) (hr_a57) (hr_a59) (hr_a61) (hr_a62) o0 o1 o2) (fun r2 q => ?_)
        obtain ⟨qa2_1, qa2_2, qa2_4, qa2_5, qa2_6, qa2_7, qo2_0, qo2_1⟩ := q
        have hsw1 := qo2_0
        have hsw2 := qo2_1
        exact (t77_X12_parts_I_g2 fu hfu c2_groups c2_pots c2_ranks c2_draws a48 a49 a52 a53 p0 p1 p2 p3 p4 p5 p6 p7 hr_a48 hr_a49 hr_a52 hr_a53 o0 o1 o2 kv).1 v1 (0 : Int32) (0 : Int32) r2.1 r2.2.1 r2.2.2.1 r2.2.2.2.1 r2.2.2.2.2.1 r2.2.2.2.2.2.1 r2.2.2.2.2.2.2.1 r2.2.2.2.2.2.2.2.1 a67 a68 r2.2.2.2.2.2.2.2.2.1 r2.2.2.2.2.2.2.2.2.2 (by first | assumption | omega) (by first | assumption | omega) (by omega) (by omega) (by omega) (by omega) (by omega) (qa2_1) (qa2_2) (qa2_4) (qa2_5) (qa2_6) (qa2_7) (by exact hsw1) (by exact hsw2) (by omega)
theorem t77_X12_parts_g2 (fu : Nat) (hfu : 1000000000000 ≤ fu) (c2_groups : Int32) (c2_pots : Int32) (c2_ranks : Int32) (c2_draws : Int32) (a48 : Nat → Int32) (a49 : Nat → Int32) (a52 : Nat → Int32) (a53 : Nat → Int32) (v1 : Int32) (c2_thrown : Int32) (c2_parts : Int32) (a56 : Nat → Int32) (a57 : Nat → Int32) (a58 : Nat → Int32) (a59 : Nat → Int32) (a61 : Nat → Int32) (a62 : Nat → Int32) (a63 : Nat → Int32) (a67 : Nat → Int32) (a68 : Nat → Int32) (a69 : Nat → Int32) (a70 : Nat → Int32) (p0 : c2_groups.toInt ≤ 2) (p1 : 2 ≤ c2_groups.toInt) (p2 : c2_pots.toInt ≤ 4) (p3 : 0 ≤ c2_pots.toInt) (p4 : c2_ranks.toInt ≤ 2) (p5 : 2 ≤ c2_ranks.toInt) (p6 : c2_draws.toInt ≤ 16) (p7 : 1 ≤ c2_draws.toInt) (hr_a48 : dz_rg a48 100 0 3) (hr_a49 : dz_rg a49 13824 0 1023) (hr_a52 : dz_rg a52 4 0 3) (hr_a53 : dz_rg a53 4 0 3) (hr_a56 : dz_rg a56 4 0 3) (hr_a57 : dz_rg a57 4 0 3) (hr_a59 : dz_rg a59 14425 0 16777215) (hr_a61 : dz_rg a61 13824 0 13823) (hr_a62 : dz_rg a62 16 0 16777215) (o0 : dz_pm a52 c2_pots.toInt.toNat) (o1 : dz_pm a53 2) (o2 : dz_rw 2 2 a48) : dz_T (f77_X12_parts fu c2_groups c2_pots c2_ranks c2_draws a48 a49 a52 a53 v1 c2_thrown c2_parts a56 a57 a58 a59 a61 a62 a63 a67 a68 a69 a70) (fun r => r.1.toInt ≤ 13824 ∧ (-1) ≤ r.1.toInt ∧ dz_rg r.2.2.2.1 4 0 3 ∧ dz_rg r.2.2.2.2.1 4 0 3 ∧ dz_rg r.2.2.2.2.2.2.1 14425 0 16777215 ∧ dz_rg r.2.2.2.2.2.2.2.1 13824 0 13823 ∧ dz_rg r.2.2.2.2.2.2.2.2.1 16 0 16777215) :=
  t77_X12_parts_E_g2 fu hfu c2_groups c2_pots c2_ranks c2_draws a48 a49 a52 a53 v1 c2_thrown c2_parts a56 a57 a58 a59 a61 a62 a63 a67 a68 a69 a70 p0 p1 p2 p3 p4 p5 p6 p7 hr_a48 hr_a49 hr_a52 hr_a53 hr_a56 hr_a57 hr_a59 hr_a61 hr_a62 o0 o1 o2 fu hfu
