abbrev p54_X12_pot_g4 (fu : Nat) (c2_groups : Int32) (c2_ranks : Int32) (c2_parts : Int32) (a48 : Nat → Int32) (a57 : Nat → Int32) (a58 : Nat → Int32) (a59 : Nat → Int32) (a62 : Nat → Int32) (a63 : Nat → Int32) (k : Nat) : Prop :=
  (∀ (v1 : Int32) (v2 : Int32) (v3 : Int32) (v4 : Int32) (v5 : Int32) (a60 : Nat → Int64) (a64 : Nat → Int64), v1.toInt ≤ 2 → 0 ≤ v1.toInt → v2.toInt ≤ 13823 → 0 ≤ v2.toInt → v3.toInt ≤ 624 → 0 ≤ v3.toInt → v4.toInt ≤ 1 → 0 ≤ v4.toInt → v5.toInt ≤ 625 → 0 ≤ v5.toInt → dz_lv 24 a58 (v1.toInt.toNat + 1) → dz_xl 24 v2 v1 → 0 + 1496391 + (625 - v5.toInt) * 34 + 17 ≤ ((k : Nat) : Int) → dz_T ((F54_X12_pot fu c2_groups c2_ranks c2_parts a48 a57 a58 a59 a62 a63 k).1 v1 v2 v3 v4 v5 a60 a64) (fun r => True)) ∧ (∀ (v1 : Int32) (v2 : Int32) (v3 : Int32) (v4 : Int32) (v5 : Int32) (v6 : Int32) (a60 : Nat → Int64) (a64 : Nat → Int64), v1.toInt ≤ 2 → 0 ≤ v1.toInt → v2.toInt ≤ 13823 → 0 ≤ v2.toInt → v3.toInt ≤ 624 → 0 ≤ v3.toInt → v4.toInt ≤ 1 → 0 ≤ v4.toInt → v5.toInt ≤ 4 → 0 ≤ v5.toInt → v6.toInt ≤ 4 → 0 ≤ v6.toInt → v5.toInt ≤ v3.toInt → v5.toInt ≤ v6.toInt → dz_lv 24 a58 (v1.toInt.toNat + 1) → dz_xl 24 v2 v1 → 0 + 1496204 + (4 - v6.toInt) * 34 + 17 ≤ ((k : Nat) : Int) → dz_T ((F54_X12_pot fu c2_groups c2_ranks c2_parts a48 a57 a58 a59 a62 a63 k).2.1 v1 v2 v3 v4 v5 v6 a60 a64) (fun r => True)) ∧ (∀ (v1 : Int32) (v2 : Int32) (v4 : Int32) (v5 : Int32) (a60 : Nat → Int64) (a64 : Nat → Int64), v1.toInt ≤ 2 → 0 ≤ v1.toInt → v2.toInt ≤ 13823 → 0 ≤ v2.toInt → v4.toInt ≤ 1 → 0 ≤ v4.toInt → v5.toInt ≤ 4 → 0 ≤ v5.toInt → dz_lv 24 a58 (v1.toInt.toNat + 1) → dz_xl 24 v2 v1 → 0 + 5967 + (v5.toInt - 0) * 298044 + 17 ≤ ((k : Nat) : Int) → dz_T ((F54_X12_pot fu c2_groups c2_ranks c2_parts a48 a57 a58 a59 a62 a63 k).2.2.1 v1 v2 v4 v5 a60 a64) (fun r => True)) ∧ (∀ (v1 : Int32) (v2 : Int32) (v6 : Int32) (a60 : Nat → Int64) (a64 : Nat → Int64), v1.toInt ≤ 2 → 0 ≤ v1.toInt → v2.toInt ≤ 13823 → 0 ≤ v2.toInt → v6.toInt ≤ 24 → 0 ≤ v6.toInt → dz_lv 24 a58 (v1.toInt.toNat + 1) → dz_xl 24 v2 v1 → 0 + 0 + (24 - v6.toInt) * 238 + 17 ≤ ((k : Nat) : Int) → dz_T ((F54_X12_pot fu c2_groups c2_ranks c2_parts a48 a57 a58 a59 a62 a63 k).2.2.2.2.1 v1 v2 v6 a60 a64) (fun r => True)) ∧ (∀ (v1 : Int32) (v2 : Int32) (v4 : Int32) (v5 : Int32) (v6 : Int32) (a60 : Nat → Int64) (a64 : Nat → Int64), v1.toInt ≤ 2 → 0 ≤ v1.toInt → v2.toInt ≤ 13823 → 0 ≤ v2.toInt → v4.toInt ≤ 1 → 0 ≤ v4.toInt → v5.toInt ≤ 4 → 1 ≤ v5.toInt → v6.toInt ≤ 624 → (-1) ≤ v6.toInt → dz_lv 24 a58 (v1.toInt.toNat + 1) → dz_xl 24 v2 v1 → 0 + 5967 + ((v5.toInt - 0) - 1) * 298044 + 0 + (v6.toInt - (-1)) * 476 + 34 ≤ ((k : Nat) : Int) → dz_T ((F54_X12_pot fu c2_groups c2_ranks c2_parts a48 a57 a58 a59 a62 a63 k).2.2.2.2.2.1 v1 v2 v4 v5 v6 a60 a64) (fun r => True)) ∧ (∀ (v1 : Int32) (v2 : Int32) (v6 : Int32) (v7 : Int32) (v8 : Int32) (a60 : Nat → Int64) (a64 : Nat → Int64), v1.toInt ≤ 2 → 0 ≤ v1.toInt → v2.toInt ≤ 13823 → 0 ≤ v2.toInt → v6.toInt ≤ 23 → 0 ≤ v6.toInt → v7.toInt ≤ 624 → 0 ≤ v7.toInt → v8.toInt ≤ 4 → 0 ≤ v8.toInt → dz_lv 24 a58 (v1.toInt.toNat + 1) → dz_xl 24 v2 v1 → ((v8.toInt = 0 ∧ v7.toInt ≤ 0) ∨ (v8.toInt = 1 ∧ v7.toInt ≤ 3) ∨ (v8.toInt = 2 ∧ v7.toInt ≤ 18) ∨ (v8.toInt = 3 ∧ v7.toInt ≤ 93) ∨ (v8.toInt = 4 ∧ v7.toInt ≤ 468)) → 0 + 0 + ((24 - v6.toInt) - 1) * 238 + 0 + (4 - v8.toInt) * 34 + 34 ≤ ((k : Nat) : Int) → dz_T ((F54_X12_pot fu c2_groups c2_ranks c2_parts a48 a57 a58 a59 a62 a63 k).2.2.2.2.2.2.1 v1 v2 v6 v7 v8 a60 a64) (fun r => True)) ∧ (∀ (v1 : Int32) (v2 : Int32) (v4 : Int32) (v5 : Int32) (v6 : Int32) (v7 : Int32) (v8 : Int32) (a60 : Nat → Int64) (a64 : Nat → Int64), v1.toInt ≤ 2 → 0 ≤ v1.toInt → v2.toInt ≤ 13823 → 0 ≤ v2.toInt → v4.toInt ≤ 1 → 0 ≤ v4.toInt → v5.toInt ≤ 4 → 1 ≤ v5.toInt → v6.toInt ≤ 624 → 0 ≤ v6.toInt → v7.toInt ≤ 4 → 0 ≤ v7.toInt → v8.toInt ≤ 4 → 0 ≤ v8.toInt → v7.toInt ≤ v6.toInt → v7.toInt ≤ v8.toInt → dz_lv 24 a58 (v1.toInt.toNat + 1) → dz_xl 24 v2 v1 → 0 + 5967 + ((v5.toInt - 0) - 1) * 298044 + 0 + ((v6.toInt - (-1)) - 1) * 476 + 221 + (4 - v8.toInt) * 34 + 51 ≤ ((k : Nat) : Int) → dz_T ((F54_X12_pot fu c2_groups c2_ranks c2_parts a48 a57 a58 a59 a62 a63 k).2.2.2.2.2.2.2.1 v1 v2 v4 v5 v6 v7 v8 a60 a64) (fun r => True)) ∧ (∀ (v1 : Int32) (v2 : Int32) (v4 : Int32) (v5 : Int32) (v6 : Int32) (v8 : Int32) (a60 : Nat → Int64) (a64 : Nat → Int64), v1.toInt ≤ 2 → 0 ≤ v1.toInt → v2.toInt ≤ 13823 → 0 ≤ v2.toInt → v4.toInt ≤ 1 → 0 ≤ v4.toInt → v5.toInt ≤ 4 → 1 ≤ v5.toInt → v6.toInt ≤ 624 → 1 ≤ v6.toInt → v8.toInt ≤ 4 → 0 ≤ v8.toInt → v5.toInt ≤ v6.toInt → dz_lv 24 a58 (v1.toInt.toNat + 1) → dz_xl 24 v2 v1 → 0 + 5967 + ((v5.toInt - 0) - 1) * 298044 + 0 + ((v6.toInt - (-1)) - 1) * 476 + 0 + (4 - v8.toInt) * 34 + 51 ≤ ((k : Nat) : Int) → dz_T ((F54_X12_pot fu c2_groups c2_ranks c2_parts a48 a57 a58 a59 a62 a63 k).2.2.2.2.2.2.2.2.2.2.1 v1 v2 v4 v5 v6 v8 a60 a64) (fun r => True))
set_option maxHeartbeats 4000000 in
set_option maxRecDepth 10000 in
theorem t54_X12_pot_h1_g4 (fu : Nat) (hfu : 1000000000000 ≤ fu) (c2_groups : Int32) (c2_ranks : Int32) (c2_parts : Int32) (a48 : Nat → Int32) (a57 : Nat → Int32) (a58 : Nat → Int32) (a59 : Nat → Int32) (a62 : Nat → Int32) (a63 : Nat → Int32) (p0 : c2_groups.toInt ≤ 4) (p1 : 4 ≤ c2_groups.toInt) (p2 : c2_ranks.toInt ≤ 24) (p3 : 24 ≤ c2_ranks.toInt) (p4 : c2_parts.toInt ≤ 625) (p5 : 625 ≤ c2_parts.toInt) (hr_a48 : dz_rg a48 100 0 3) (hr_a57 : dz_rg a57 4 0 3) (hr_a59 : dz_rg a59 14425 0 16777215) (hr_a62 : dz_rg a62 16 0 16777215) (hr_a63 : dz_pt a63 [1, 5, 25, 125]) (o0 : dz_pm a57 4) (o1 : dz_rw 4 24 a48) (k : Nat) (ih : ∀ j9, j9 < k → p54_X12_pot_g4 fu c2_groups c2_ranks c2_parts a48 a57 a58 a59 a62 a63 j9) : ∀ (v1 : Int32) (v2 : Int32) (v3 : Int32) (v4 : Int32) (v5 : Int32) (a60 : Nat → Int64) (a64 : Nat → Int64), v1.toInt ≤ 2 → 0 ≤ v1.toInt → v2.toInt ≤ 13823 → 0 ≤ v2.toInt → v3.toInt ≤ 624 → 0 ≤ v3.toInt → v4.toInt ≤ 1 → 0 ≤ v4.toInt → v5.toInt ≤ 625 → 0 ≤ v5.toInt → dz_lv 24 a58 (v1.toInt.toNat + 1) → dz_xl 24 v2 v1 → 0 + 1496391 + (625 - v5.toInt) * 34 + 17 ≤ ((k : Nat) : Int) → dz_T ((F54_X12_pot fu c2_groups c2_ranks c2_parts a48 a57 a58 a59 a62 a63 k).1 v1 v2 v3 v4 v5 a60 a64) (fun r => True) := by
  intro v1 v2 v3 v4 v5 a60 a64 i0 i1 i2 i3 i4 i5 i6 i7 i8 i9 x0 x1 hm
  obtain ⟨k0, rfl⟩ : ∃ x, k = x + 1 := ⟨k - 1, by omega⟩
  show dz_T (s54_X12_pot_1 fu c2_groups c2_ranks c2_parts a48 a57 a58 a59 a62 a63 (F54_X12_pot fu c2_groups c2_ranks c2_parts a48 a57 a58 a59 a62 a63 k0).1 (F54_X12_pot fu c2_groups c2_ranks c2_parts a48 a57 a58 a59 a62 a63 k0).2.1  v1 v2 v3 v4 v5 a60 a64) _
  unfold s54_X12_pot_1
  have hlx := dz_lvy x0 x1 4 14425 (by decide) (by decide) (by omega) (by omega) (by omega)
  refine dz_Tle (fun h1 => ?_) (fun h1 => ?_)
  · skip
    refine dz_Tin (by omega) (by omega) ?_
    have e2 := dz_rng (a58 v1.toNatClampNeg)
    refine dz_Tin (by omega) (by omega) ?_
    refine dz_Tin (by omega) (by omega) ?_
    have e3 := dz_l0
    exact (ih k0 (by omega)).2.1 v1 v2 v3 v4 (0 : Int32) (0 : Int32) a60 (vp_updL a64 v3.toNatClampNeg (a60 ((a58 v1.toNatClampNeg) + v2).toNatClampNeg)) i0 i1 i2 i3 i4 i5 i6 i7 (by omega) (by omega) (by omega) (by omega) (by omega) (by omega) (by exact x0) (by exact x1) (by omega)
  · skip
    refine dz_Tin (by omega) (by omega) ?_
    have e4 := dz_l1
    have e5 := dz_add (a := v5) (b := (1 : Int32)) (by omega) (by omega)
    exact (ih k0 (by omega)).1 v1 v2 v3 v4 (v5 + (1 : Int32)) a60 (vp_updL a64 v5.toNatClampNeg 0) i0 i1 i2 i3 i4 i5 i6 i7 (by omega) (by omega) (by exact x0) (by exact x1) (by omega)
set_option maxHeartbeats 4000000 in
set_option maxRecDepth 10000 in
theorem t54_X12_pot_h2_g4 (fu : Nat) (hfu : 1000000000000 ≤ fu) (c2_groups : Int32) (c2_ranks : Int32) (c2_parts : Int32) (a48 : Nat → Int32) (a57 : Nat → Int32) (a58 : Nat → Int32) (a59 : Nat → Int32) (a62 : Nat → Int32) (a63 : Nat → Int32) (p0 : c2_groups.toInt ≤ 4) (p1 : 4 ≤ c2_groups.toInt) (p2 : c2_ranks.toInt ≤ 24) (p3 : 24 ≤ c2_ranks.toInt) (p4 : c2_parts.toInt ≤ 625) (p5 : 625 ≤ c2_parts.toInt) (hr_a48 : dz_rg a48 100 0 3) (hr_a57 : dz_rg a57 4 0 3) (hr_a59 : dz_rg a59 14425 0 16777215) (hr_a62 : dz_rg a62 16 0 16777215) (hr_a63 : dz_pt a63 [1, 5, 25, 125]) (o0 : dz_pm a57 4) (o1 : dz_rw 4 24 a48) (k : Nat) (ih : ∀ j9, j9 < k → p54_X12_pot_g4 fu c2_groups c2_ranks c2_parts a48 a57 a58 a59 a62 a63 j9) : ∀ (v1 : Int32) (v2 : Int32) (v3 : Int32) (v4 : Int32) (v5 : Int32) (v6 : Int32) (a60 : Nat → Int64) (a64 : Nat → Int64), v1.toInt ≤ 2 → 0 ≤ v1.toInt → v2.toInt ≤ 13823 → 0 ≤ v2.toInt → v3.toInt ≤ 624 → 0 ≤ v3.toInt → v4.toInt ≤ 1 → 0 ≤ v4.toInt → v5.toInt ≤ 4 → 0 ≤ v5.toInt → v6.toInt ≤ 4 → 0 ≤ v6.toInt → v5.toInt ≤ v3.toInt → v5.toInt ≤ v6.toInt → dz_lv 24 a58 (v1.toInt.toNat + 1) → dz_xl 24 v2 v1 → 0 + 1496204 + (4 - v6.toInt) * 34 + 17 ≤ ((k : Nat) : Int) → dz_T ((F54_X12_pot fu c2_groups c2_ranks c2_parts a48 a57 a58 a59 a62 a63 k).2.1 v1 v2 v3 v4 v5 v6 a60 a64) (fun r => True) := by
  intro v1 v2 v3 v4 v5 v6 a60 a64 i0 i1 i2 i3 i4 i5 i6 i7 i8 i9 i10 i11 i12 i13 x0 x1 hm
  obtain ⟨k0, rfl⟩ : ∃ x, k = x + 1 := ⟨k - 1, by omega⟩
  show dz_T (s54_X12_pot_2 fu c2_groups c2_ranks c2_parts a48 a57 a58 a59 a62 a63 (F54_X12_pot fu c2_groups c2_ranks c2_parts a48 a57 a58 a59 a62 a63 k0).2.2.1 (F54_X12_pot fu c2_groups c2_ranks c2_parts a48 a57 a58 a59 a62 a63 k0).2.2.2.1  v1 v2 v3 v4 v5 v6 a60 a64) _
  unfold s54_X12_pot_2
  refine dz_Tle (fun h1 => ?_) (fun h1 => ?_)
  · skip
    exact (ih k0 (by omega)).2.2.1 v1 v2 v4 v5 a60 a64 i0 i1 i2 i3 i6 i7 i8 i9 (by exact x0) (by exact x1) (by omega)
  · skip
    refine dz_Tb (t50_X12_digit_g4 fu hfu _ _ _ _ p0 p1 i5 i4 i11 (by first | assumption | omega) (hr_a63)) (fun r1 q => ?_)
    obtain ⟨q1_0, q1_1, q1_2, qo1_0⟩ := q
    refine dz_Teq (fun h2 => ?_) (fun h2 => ?_)
    · skip
      obtain ⟨k1, rfl⟩ : ∃ x, k0 = x + 1 := ⟨k0 - 1, by omega⟩
      show dz_T (s54_X12_pot_4 fu c2_groups c2_ranks c2_parts a48 a57 a58 a59 a62 a63 (F54_X12_pot fu c2_groups c2_ranks c2_parts a48 a57 a58 a59 a62 a63 k1).2.1 v1 v2 v3 v4 v6 (1 : Int32) v5 a60 a64) _
      unfold s54_X12_pot_4
      have e3 := dz_l1
      have e4 := dz_add (a := v5) (b := (1 : Int32)) (by omega) (by omega)
      have e5 := dz_add (a := v6) (b := (1 : Int32)) (by omega) (by omega)
      exact (ih k1 (by omega)).2.1 v1 v2 v3 v4 (v5 + (1 : Int32)) (v6 + (1 : Int32)) a60 a64 i0 i1 i2 i3 i4 i5 i6 i7 (by omega) (by omega) (by omega) (by omega) (by omega) (by omega) (by exact x0) (by exact x1) (by omega)
    · skip
      obtain ⟨k2, rfl⟩ : ∃ x, k0 = x + 1 := ⟨k0 - 1, by omega⟩
      show dz_T (s54_X12_pot_4 fu c2_groups c2_ranks c2_parts a48 a57 a58 a59 a62 a63 (F54_X12_pot fu c2_groups c2_ranks c2_parts a48 a57 a58 a59 a62 a63 k2).2.1 v1 v2 v3 v4 v6 (0 : Int32) v5 a60 a64) _
      unfold s54_X12_pot_4
      have e6 := dz_l0
      have e7 := dz_add (a := v5) (b := (0 : Int32)) (by omega) (by omega)
      have e8 := dz_l1
      have e9 := dz_add (a := v6) (b := (1 : Int32)) (by omega) (by omega)
      exact (ih k2 (by omega)).2.1 v1 v2 v3 v4 (v5 + (0 : Int32)) (v6 + (1 : Int32)) a60 a64 i0 i1 i2 i3 i4 i5 i6 i7 (by omega) (by omega) (by omega) (by omega) (by omega) (by omega) (by exact x0) (by exact x1) (by omega)
set_option maxHeartbeats 4000000 in
set_option maxRecDepth 10000 in
theorem t54_X12_pot_h3_g4 (fu : Nat) (hfu : 1000000000000 ≤ fu) (c2_groups : Int32) (c2_ranks : Int32) (c2_parts : Int32) (a48 : Nat → Int32) (a57 : Nat → Int32) (a58 : Nat → Int32) (a59 : Nat → Int32) (a62 : Nat → Int32) (a63 : Nat → Int32) (p0 : c2_groups.toInt ≤ 4) (p1 : 4 ≤ c2_groups.toInt) (p2 : c2_ranks.toInt ≤ 24) (p3 : 24 ≤ c2_ranks.toInt) (p4 : c2_parts.toInt ≤ 625) (p5 : 625 ≤ c2_parts.toInt) (hr_a48 : dz_rg a48 100 0 3) (hr_a57 : dz_rg a57 4 0 3) (hr_a59 : dz_rg a59 14425 0 16777215) (hr_a62 : dz_rg a62 16 0 16777215) (hr_a63 : dz_pt a63 [1, 5, 25, 125]) (o0 : dz_pm a57 4) (o1 : dz_rw 4 24 a48) (k : Nat) (ih : ∀ j9, j9 < k → p54_X12_pot_g4 fu c2_groups c2_ranks c2_parts a48 a57 a58 a59 a62 a63 j9) : ∀ (v1 : Int32) (v2 : Int32) (v4 : Int32) (v5 : Int32) (a60 : Nat → Int64) (a64 : Nat → Int64), v1.toInt ≤ 2 → 0 ≤ v1.toInt → v2.toInt ≤ 13823 → 0 ≤ v2.toInt → v4.toInt ≤ 1 → 0 ≤ v4.toInt → v5.toInt ≤ 4 → 0 ≤ v5.toInt → dz_lv 24 a58 (v1.toInt.toNat + 1) → dz_xl 24 v2 v1 → 0 + 5967 + (v5.toInt - 0) * 298044 + 17 ≤ ((k : Nat) : Int) → dz_T ((F54_X12_pot fu c2_groups c2_ranks c2_parts a48 a57 a58 a59 a62 a63 k).2.2.1 v1 v2 v4 v5 a60 a64) (fun r => True) := by
  intro v1 v2 v4 v5 a60 a64 i0 i1 i2 i3 i4 i5 i6 i7 x0 x1 hm
  obtain ⟨k0, rfl⟩ : ∃ x, k = x + 1 := ⟨k - 1, by omega⟩
  show dz_T (s54_X12_pot_3 fu c2_groups c2_ranks c2_parts a48 a57 a58 a59 a62 a63 (F54_X12_pot fu c2_groups c2_ranks c2_parts a48 a57 a58 a59 a62 a63 k0).2.2.2.2.1 (F54_X12_pot fu c2_groups c2_ranks c2_parts a48 a57 a58 a59 a62 a63 k0).2.2.2.2.2.1  v1 v2 v4 v5 a60 a64) _
  unfold s54_X12_pot_3
  have e1 := dz_l0
  refine dz_Tle (fun h2 => ?_) (fun h2 => ?_)
  · skip
    exact (ih k0 (by omega)).2.2.2.1 v1 v2 (0 : Int32) a60 a64 i0 i1 i2 i3 (by omega) (by omega) (by exact x0) (by exact x1) (by omega)
  · skip
    have e3 := dz_l1
    have e4 := dz_sub (a := c2_parts) (b := (1 : Int32)) (by omega) (by omega)
    exact (ih k0 (by omega)).2.2.2.2.1 v1 v2 v4 v5 (c2_parts - (1 : Int32)) a60 a64 i0 i1 i2 i3 i4 i5 i6 (by first | assumption | omega) (by omega) (by omega) (by exact x0) (by exact x1) (by omega)
set_option maxHeartbeats 4000000 in
set_option maxRecDepth 10000 in
theorem t54_X12_pot_h5_g4 (fu : Nat) (hfu : 1000000000000 ≤ fu) (c2_groups : Int32) (c2_ranks : Int32) (c2_parts : Int32) (a48 : Nat → Int32) (a57 : Nat → Int32) (a58 : Nat → Int32) (a59 : Nat → Int32) (a62 : Nat → Int32) (a63 : Nat → Int32) (p0 : c2_groups.toInt ≤ 4) (p1 : 4 ≤ c2_groups.toInt) (p2 : c2_ranks.toInt ≤ 24) (p3 : 24 ≤ c2_ranks.toInt) (p4 : c2_parts.toInt ≤ 625) (p5 : 625 ≤ c2_parts.toInt) (hr_a48 : dz_rg a48 100 0 3) (hr_a57 : dz_rg a57 4 0 3) (hr_a59 : dz_rg a59 14425 0 16777215) (hr_a62 : dz_rg a62 16 0 16777215) (hr_a63 : dz_pt a63 [1, 5, 25, 125]) (o0 : dz_pm a57 4) (o1 : dz_rw 4 24 a48) (k : Nat) (ih : ∀ j9, j9 < k → p54_X12_pot_g4 fu c2_groups c2_ranks c2_parts a48 a57 a58 a59 a62 a63 j9) : ∀ (v1 : Int32) (v2 : Int32) (v6 : Int32) (a60 : Nat → Int64) (a64 : Nat → Int64), v1.toInt ≤ 2 → 0 ≤ v1.toInt → v2.toInt ≤ 13823 → 0 ≤ v2.toInt → v6.toInt ≤ 24 → 0 ≤ v6.toInt → dz_lv 24 a58 (v1.toInt.toNat + 1) → dz_xl 24 v2 v1 → 0 + 0 + (24 - v6.toInt) * 238 + 17 ≤ ((k : Nat) : Int) → dz_T ((F54_X12_pot fu c2_groups c2_ranks c2_parts a48 a57 a58 a59 a62 a63 k).2.2.2.2.1 v1 v2 v6 a60 a64) (fun r => True) := by
  intro v1 v2 v6 a60 a64 i0 i1 i2 i3 i4 i5 x0 x1 hm
  obtain ⟨k0, rfl⟩ : ∃ x, k = x + 1 := ⟨k - 1, by omega⟩
  show dz_T (s54_X12_pot_5 fu c2_groups c2_ranks c2_parts a48 a57 a58 a59 a62 a63 (F54_X12_pot fu c2_groups c2_ranks c2_parts a48 a57 a58 a59 a62 a63 k0).2.2.2.2.2.2.1  v1 v2 v6 a60 a64) _
  unfold s54_X12_pot_5
  refine dz_Tle (fun h1 => ?_) (fun h1 => ?_)
  · skip
    exact dz_Ts trivial
  · skip
    have e2 := dz_l0
    exact (ih k0 (by omega)).2.2.2.2.2.1 v1 v2 v6 (0 : Int32) (0 : Int32) a60 a64 i0 i1 i2 i3 (by first | assumption | omega) i5 (by omega) (by omega) (by omega) (by omega) (by exact x0) (by exact x1) (by omega) (by omega)
set_option maxHeartbeats 4000000 in
set_option maxRecDepth 10000 in
theorem t54_X12_pot_h6_g4 (fu : Nat) (hfu : 1000000000000 ≤ fu) (c2_groups : Int32) (c2_ranks : Int32) (c2_parts : Int32) (a48 : Nat → Int32) (a57 : Nat → Int32) (a58 : Nat → Int32) (a59 : Nat → Int32) (a62 : Nat → Int32) (a63 : Nat → Int32) (p0 : c2_groups.toInt ≤ 4) (p1 : 4 ≤ c2_groups.toInt) (p2 : c2_ranks.toInt ≤ 24) (p3 : 24 ≤ c2_ranks.toInt) (p4 : c2_parts.toInt ≤ 625) (p5 : 625 ≤ c2_parts.toInt) (hr_a48 : dz_rg a48 100 0 3) (hr_a57 : dz_rg a57 4 0 3) (hr_a59 : dz_rg a59 14425 0 16777215) (hr_a62 : dz_rg a62 16 0 16777215) (hr_a63 : dz_pt a63 [1, 5, 25, 125]) (o0 : dz_pm a57 4) (o1 : dz_rw 4 24 a48) (k : Nat) (ih : ∀ j9, j9 < k → p54_X12_pot_g4 fu c2_groups c2_ranks c2_parts a48 a57 a58 a59 a62 a63 j9) : ∀ (v1 : Int32) (v2 : Int32) (v4 : Int32) (v5 : Int32) (v6 : Int32) (a60 : Nat → Int64) (a64 : Nat → Int64), v1.toInt ≤ 2 → 0 ≤ v1.toInt → v2.toInt ≤ 13823 → 0 ≤ v2.toInt → v4.toInt ≤ 1 → 0 ≤ v4.toInt → v5.toInt ≤ 4 → 1 ≤ v5.toInt → v6.toInt ≤ 624 → (-1) ≤ v6.toInt → dz_lv 24 a58 (v1.toInt.toNat + 1) → dz_xl 24 v2 v1 → 0 + 5967 + ((v5.toInt - 0) - 1) * 298044 + 0 + (v6.toInt - (-1)) * 476 + 34 ≤ ((k : Nat) : Int) → dz_T ((F54_X12_pot fu c2_groups c2_ranks c2_parts a48 a57 a58 a59 a62 a63 k).2.2.2.2.2.1 v1 v2 v4 v5 v6 a60 a64) (fun r => True) := by
  intro v1 v2 v4 v5 v6 a60 a64 i0 i1 i2 i3 i4 i5 i6 i7 i8 i9 x0 x1 hm
  obtain ⟨k0, rfl⟩ : ∃ x, k = x + 1 := ⟨k - 1, by omega⟩
  show dz_T (s54_X12_pot_6 fu c2_groups c2_ranks c2_parts a48 a57 a58 a59 a62 a63 (F54_X12_pot fu c2_groups c2_ranks c2_parts a48 a57 a58 a59 a62 a63 k0).2.2.1 (F54_X12_pot fu c2_groups c2_ranks c2_parts a48 a57 a58 a59 a62 a63 k0).2.2.2.2.2.2.2.1 (F54_X12_pot fu c2_groups c2_ranks c2_parts a48 a57 a58 a59 a62 a63 k0).2.2.2.2.2.2.2.2.1  v1 v2 v4 v5 v6 a60 a64) _
  unfold s54_X12_pot_6
  have e1 := dz_l0
  refine dz_Tlt (fun h2 => ?_) (fun h2 => ?_)
  · skip
    have e3 := dz_lm1
    have e4 := dz_add (a := v5) (b := (-(1 : Int32))) (by omega) (by omega)
    generalize (v5 + (-(1 : Int32))) = z1 at *
    exact (ih k0 (by omega)).2.2.1 v1 v2 v4 z1 a60 a64 i0 i1 i2 i3 i4 i5 (by omega) (by omega) (by exact x0) (by exact x1) (by omega)
  · skip
    refine dz_Tin (by omega) (by omega) ?_
    refine dz_Teq (fun h5 => ?_) (fun h5 => ?_)
    · skip
      obtain ⟨k2, rfl⟩ : ∃ x, k0 = x + 1 := ⟨k0 - 1, by omega⟩
      show dz_T (s54_X12_pot_9 fu c2_groups c2_ranks c2_parts a48 a57 a58 a59 a62 a63 (F54_X12_pot fu c2_groups c2_ranks c2_parts a48 a57 a58 a59 a62 a63 k2).2.2.2.2.2.1 v1 v2 v4 v5 v6 a60 a64) _
      unfold s54_X12_pot_9
      have e6 := dz_lm1
      have e7 := dz_add (a := v6) (b := (-(1 : Int32))) (by omega) (by omega)
      generalize (v6 + (-(1 : Int32))) = z3 at *
      exact (ih k2 (by omega)).2.2.2.2.1 v1 v2 v4 v5 z3 a60 a64 i0 i1 i2 i3 i4 i5 i6 i7 (by omega) (by omega) (by exact x0) (by exact x1) (by omega)
    · skip
      exact (ih k0 (by omega)).2.2.2.2.2.2.1 v1 v2 v4 v5 v6 (0 : Int32) (0 : Int32) a60 a64 i0 i1 i2 i3 i4 i5 i6 i7 i8 (by first | assumption | omega) (by omega) (by omega) (by omega) (by omega) (by omega) (by omega) (by exact x0) (by exact x1) (by omega)
set_option maxHeartbeats 4000000 in
set_option maxRecDepth 10000 in
theorem t54_X12_pot_h7_g4 (fu : Nat) (hfu : 1000000000000 ≤ fu) (c2_groups : Int32) (c2_ranks : Int32) (c2_parts : Int32) (a48 : Nat → Int32) (a57 : Nat → Int32) (a58 : Nat → Int32) (a59 : Nat → Int32) (a62 : Nat → Int32) (a63 : Nat → Int32) (p0 : c2_groups.toInt ≤ 4) (p1 : 4 ≤ c2_groups.toInt) (p2 : c2_ranks.toInt ≤ 24) (p3 : 24 ≤ c2_ranks.toInt) (p4 : c2_parts.toInt ≤ 625) (p5 : 625 ≤ c2_parts.toInt) (hr_a48 : dz_rg a48 100 0 3) (hr_a57 : dz_rg a57 4 0 3) (hr_a59 : dz_rg a59 14425 0 16777215) (hr_a62 : dz_rg a62 16 0 16777215) (hr_a63 : dz_pt a63 [1, 5, 25, 125]) (o0 : dz_pm a57 4) (o1 : dz_rw 4 24 a48) (k : Nat) (ih : ∀ j9, j9 < k → p54_X12_pot_g4 fu c2_groups c2_ranks c2_parts a48 a57 a58 a59 a62 a63 j9) : ∀ (v1 : Int32) (v2 : Int32) (v6 : Int32) (v7 : Int32) (v8 : Int32) (a60 : Nat → Int64) (a64 : Nat → Int64), v1.toInt ≤ 2 → 0 ≤ v1.toInt → v2.toInt ≤ 13823 → 0 ≤ v2.toInt → v6.toInt ≤ 23 → 0 ≤ v6.toInt → v7.toInt ≤ 624 → 0 ≤ v7.toInt → v8.toInt ≤ 4 → 0 ≤ v8.toInt → dz_lv 24 a58 (v1.toInt.toNat + 1) → dz_xl 24 v2 v1 → ((v8.toInt = 0 ∧ v7.toInt ≤ 0) ∨ (v8.toInt = 1 ∧ v7.toInt ≤ 3) ∨ (v8.toInt = 2 ∧ v7.toInt ≤ 18) ∨ (v8.toInt = 3 ∧ v7.toInt ≤ 93) ∨ (v8.toInt = 4 ∧ v7.toInt ≤ 468)) → 0 + 0 + ((24 - v6.toInt) - 1) * 238 + 0 + (4 - v8.toInt) * 34 + 34 ≤ ((k : Nat) : Int) → dz_T ((F54_X12_pot fu c2_groups c2_ranks c2_parts a48 a57 a58 a59 a62 a63 k).2.2.2.2.2.2.1 v1 v2 v6 v7 v8 a60 a64) (fun r => True) := by
  intro v1 v2 v6 v7 v8 a60 a64 i0 i1 i2 i3 i4 i5 i6 i7 i8 i9 x0 x1 x2 hm
  obtain ⟨k0, rfl⟩ : ∃ x, k = x + 1 := ⟨k - 1, by omega⟩
  show dz_T (s54_X12_pot_7 fu c2_groups c2_ranks c2_parts a48 a57 a58 a59 a62 a63 (F54_X12_pot fu c2_groups c2_ranks c2_parts a48 a57 a58 a59 a62 a63 k0).2.2.2.2.2.2.1 (F54_X12_pot fu c2_groups c2_ranks c2_parts a48 a57 a58 a59 a62 a63 k0).2.2.2.2.2.2.2.2.2.1  v1 v2 v6 v7 v8 a60 a64) _
  unfold s54_X12_pot_7
  have hrow := dz_rwat (r := v6) (i := v8) (by decide) (by decide) o1 (by omega)
  have hl1 := dz_l1
  have hk1 := dz_add (a := v1) (b := 1) (by omega) (by omega)
  have hm1 := dz_mulr (a := v2) (b := c2_ranks) 24 (by omega) (by omega) (by omega)
  have hlz := dz_lvz (k := v1) (x := v2) (k' := v1 + 1) (y := v2 * c2_ranks) (r := v6) x0 x1 4 14425 (by decide) (by decide) (by omega) (by omega) (by omega) (by omega) (by omega) (by omega) (by omega)
  rcases (show v8.toInt = 0 ∨ v8.toInt = 1 ∨ v8.toInt = 2 ∨ v8.toInt = 3 ∨ v8.toInt = 4 by omega) with hs | hs | hs | hs | hs
  · skip
    refine dz_Tle (fun h1 => ?_) (fun h1 => ?_)
    · skip
      exfalso; omega
    · skip
      have e2 := dz_l4
      have e3 := dz_mull (a := (4 : Int32)) (b := v6) 4 (by omega) (by omega) (by omega)
      have e4 := dz_add (a := ((4 : Int32) * v6)) (b := v8) (by omega) (by omega)
      refine dz_Tin (by omega) (by omega) ?_
      refine dz_Tin (by omega) (by omega) ?_
      have e5 := dz_rgat (hr_a48) (i := (((4 : Int32) * v6) + v8)) (by omega) (by omega)
      have e6 := dz_ptat (hr_a63) (i := v8) (x := 1) 0 (by omega) (by decide)
      have e7 := dz_mulr (a := (a48 (((4 : Int32) * v6) + v8).toNatClampNeg)) (b := (a63 v8.toNatClampNeg)) 1 (by omega) (by omega) (by omega)
      have e8 := dz_add (a := v7) (b := ((a48 (((4 : Int32) * v6) + v8).toNatClampNeg) * (a63 v8.toNatClampNeg))) (by omega) (by omega)
      have e9 := dz_l1
      have e10 := dz_add (a := v8) (b := (1 : Int32)) (by omega) (by omega)
      exact (ih k0 (by omega)).2.2.2.2.2.1 v1 v2 v6 (v7 + ((a48 (((4 : Int32) * v6) + v8).toNatClampNeg) * (a63 v8.toNatClampNeg))) (v8 + (1 : Int32)) a60 a64 i0 i1 i2 i3 i4 i5 (by omega) (by omega) (by omega) (by omega) (by exact x0) (by exact x1) (by omega) (by omega)
  · skip
    refine dz_Tle (fun h11 => ?_) (fun h11 => ?_)
    · skip
      exfalso; omega
    · skip
      have e12 := dz_l4
      have e13 := dz_mull (a := (4 : Int32)) (b := v6) 4 (by omega) (by omega) (by omega)
      have e14 := dz_add (a := ((4 : Int32) * v6)) (b := v8) (by omega) (by omega)
      refine dz_Tin (by omega) (by omega) ?_
      refine dz_Tin (by omega) (by omega) ?_
      have e15 := dz_rgat (hr_a48) (i := (((4 : Int32) * v6) + v8)) (by omega) (by omega)
      have e16 := dz_ptat (hr_a63) (i := v8) (x := 5) 1 (by omega) (by decide)
      have e17 := dz_mulr (a := (a48 (((4 : Int32) * v6) + v8).toNatClampNeg)) (b := (a63 v8.toNatClampNeg)) 5 (by omega) (by omega) (by omega)
      have e18 := dz_add (a := v7) (b := ((a48 (((4 : Int32) * v6) + v8).toNatClampNeg) * (a63 v8.toNatClampNeg))) (by omega) (by omega)
      have e19 := dz_l1
      have e20 := dz_add (a := v8) (b := (1 : Int32)) (by omega) (by omega)
      exact (ih k0 (by omega)).2.2.2.2.2.1 v1 v2 v6 (v7 + ((a48 (((4 : Int32) * v6) + v8).toNatClampNeg) * (a63 v8.toNatClampNeg))) (v8 + (1 : Int32)) a60 a64 i0 i1 i2 i3 i4 i5 (by omega) (by omega) (by omega) (by omega) (by exact x0) (by exact x1) (by omega) (by omega)
  · skip
    refine dz_Tle (fun h21 => ?_) (fun h21 => ?_)
    · skip
      exfalso; omega
    · skip
      have e22 := dz_l4
      have e23 := dz_mull (a := (4 : Int32)) (b := v6) 4 (by omega) (by omega) (by omega)
      have e24 := dz_add (a := ((4 : Int32) * v6)) (b := v8) (by omega) (by omega)
      refine dz_Tin (by omega) (by omega) ?_
      refine dz_Tin (by omega) (by omega) ?_
      have e25 := dz_rgat (hr_a48) (i := (((4 : Int32) * v6) + v8)) (by omega) (by omega)
      have e26 := dz_ptat (hr_a63) (i := v8) (x := 25) 2 (by omega) (by decide)
      have e27 := dz_mulr (a := (a48 (((4 : Int32) * v6) + v8).toNatClampNeg)) (b := (a63 v8.toNatClampNeg)) 25 (by omega) (by omega) (by omega)
      have e28 := dz_add (a := v7) (b := ((a48 (((4 : Int32) * v6) + v8).toNatClampNeg) * (a63 v8.toNatClampNeg))) (by omega) (by omega)
      have e29 := dz_l1
      have e30 := dz_add (a := v8) (b := (1 : Int32)) (by omega) (by omega)
      exact (ih k0 (by omega)).2.2.2.2.2.1 v1 v2 v6 (v7 + ((a48 (((4 : Int32) * v6) + v8).toNatClampNeg) * (a63 v8.toNatClampNeg))) (v8 + (1 : Int32)) a60 a64 i0 i1 i2 i3 i4 i5 (by omega) (by omega) (by omega) (by omega) (by exact x0) (by exact x1) (by omega) (by omega)
  · skip
    refine dz_Tle (fun h31 => ?_) (fun h31 => ?_)
    · skip
      exfalso; omega
    · skip
      have e32 := dz_l4
      have e33 := dz_mull (a := (4 : Int32)) (b := v6) 4 (by omega) (by omega) (by omega)
      have e34 := dz_add (a := ((4 : Int32) * v6)) (b := v8) (by omega) (by omega)
      refine dz_Tin (by omega) (by omega) ?_
      refine dz_Tin (by omega) (by omega) ?_
      have e35 := dz_rgat (hr_a48) (i := (((4 : Int32) * v6) + v8)) (by omega) (by omega)
      have e36 := dz_ptat (hr_a63) (i := v8) (x := 125) 3 (by omega) (by decide)
      have e37 := dz_mulr (a := (a48 (((4 : Int32) * v6) + v8).toNatClampNeg)) (b := (a63 v8.toNatClampNeg)) 125 (by omega) (by omega) (by omega)
      have e38 := dz_add (a := v7) (b := ((a48 (((4 : Int32) * v6) + v8).toNatClampNeg) * (a63 v8.toNatClampNeg))) (by omega) (by omega)
      have e39 := dz_l1
      have e40 := dz_add (a := v8) (b := (1 : Int32)) (by omega) (by omega)
      exact (ih k0 (by omega)).2.2.2.2.2.1 v1 v2 v6 (v7 + ((a48 (((4 : Int32) * v6) + v8).toNatClampNeg) * (a63 v8.toNatClampNeg))) (v8 + (1 : Int32)) a60 a64 i0 i1 i2 i3 i4 i5 (by omega) (by omega) (by omega) (by omega) (by exact x0) (by exact x1) (by omega) (by omega)
  · skip
    refine dz_Tle (fun h41 => ?_) (fun h41 => ?_)
    · skip
      refine dz_Tin (by omega) (by omega) ?_
      have e42 := dz_l0
      refine dz_Tle (fun h43 => ?_) (fun h43 => ?_)
      · skip
        obtain ⟨k1, rfl⟩ : ∃ x, k0 = x + 1 := ⟨k0 - 1, by omega⟩
        show dz_T (s54_X12_pot_10 fu c2_groups c2_ranks c2_parts a48 a57 a58 a59 a62 a63 (F54_X12_pot fu c2_groups c2_ranks c2_parts a48 a57 a58 a59 a62 a63 k1).2.2.2.2.1 v1 v2 v6 a60 a64) _
        unfold s54_X12_pot_10
        have e44 := dz_l1
        have e45 := dz_add (a := v6) (b := (1 : Int32)) (by omega) (by omega)
        exact (ih k1 (by omega)).2.2.2.1 v1 v2 (v6 + (1 : Int32)) a60 a64 i0 i1 i2 i3 (by omega) (by omega) (by exact x0) (by exact x1) (by omega)
      · skip
        have e46 := dz_l1
        have e47 := dz_add (a := v1) (b := (1 : Int32)) (by omega) (by omega)
        refine dz_Tin (by omega) (by omega) ?_
        have e48 := dz_mulr (a := v2) (b := c2_ranks) 24 (by omega) (by omega) (by omega)
        have e49 := dz_rng (a58 (v1 + (1 : Int32)).toNatClampNeg)
        have e50 := dz_rng ((a58 (v1 + (1 : Int32)).toNatClampNeg) + (v2 * c2_ranks))
        refine dz_Tin (by omega) (by omega) ?_
        refine dz_Tin (by omega) (by omega) ?_
        refine dz_Tin (by omega) (by omega) ?_
        obtain ⟨k2, rfl⟩ : ∃ x, k0 = x + 1 := ⟨k0 - 1, by omega⟩
        show dz_T (s54_X12_pot_10 fu c2_groups c2_ranks c2_parts a48 a57 a58 a59 a62 a63 (F54_X12_pot fu c2_groups c2_ranks c2_parts a48 a57 a58 a59 a62 a63 k2).2.2.2.2.1 v1 v2 v6 (vp_updL a60 (((a58 (v1 + (1 : Int32)).toNatClampNeg) + (v2 * c2_ranks)) + v6).toNatClampNeg ((a60 (((a58 (v1 + (1 : Int32)).toNatClampNeg) + (v2 * c2_ranks)) + v6).toNatClampNeg) + (a64 v7.toNatClampNeg))) a64) _
        unfold s54_X12_pot_10
        have e51 := dz_add (a := v6) (b := (1 : Int32)) (by omega) (by omega)
        exact (ih k2 (by omega)).2.2.2.1 v1 v2 (v6 + (1 : Int32)) (vp_updL a60 (((a58 (v1 + (1 : Int32)).toNatClampNeg) + (v2 * c2_ranks)) + v6).toNatClampNeg ((a60 (((a58 (v1 + (1 : Int32)).toNatClampNeg) + (v2 * c2_ranks)) + v6).toNatClampNeg) + (a64 v7.toNatClampNeg))) a64 i0 i1 i2 i3 (by omega) (by omega) (by exact x0) (by exact x1) (by omega)
    · skip
      exfalso; omega
set_option maxHeartbeats 4000000 in
set_option maxRecDepth 10000 in
theorem t54_X12_pot_h8_g4 (fu : Nat) (hfu : 1000000000000 ≤ fu) (c2_groups : Int32) (c2_ranks : Int32) (c2_parts : Int32) (a48 : Nat → Int32) (a57 : Nat → Int32) (a58 : Nat → Int32) (a59 : Nat → Int32) (a62 : Nat → Int32) (a63 : Nat → Int32) (p0 : c2_groups.toInt ≤ 4) (p1 : 4 ≤ c2_groups.toInt) (p2 : c2_ranks.toInt ≤ 24) (p3 : 24 ≤ c2_ranks.toInt) (p4 : c2_parts.toInt ≤ 625) (p5 : 625 ≤ c2_parts.toInt) (hr_a48 : dz_rg a48 100 0 3) (hr_a57 : dz_rg a57 4 0 3) (hr_a59 : dz_rg a59 14425 0 16777215) (hr_a62 : dz_rg a62 16 0 16777215) (hr_a63 : dz_pt a63 [1, 5, 25, 125]) (o0 : dz_pm a57 4) (o1 : dz_rw 4 24 a48) (k : Nat) (ih : ∀ j9, j9 < k → p54_X12_pot_g4 fu c2_groups c2_ranks c2_parts a48 a57 a58 a59 a62 a63 j9) : ∀ (v1 : Int32) (v2 : Int32) (v4 : Int32) (v5 : Int32) (v6 : Int32) (v7 : Int32) (v8 : Int32) (a60 : Nat → Int64) (a64 : Nat → Int64), v1.toInt ≤ 2 → 0 ≤ v1.toInt → v2.toInt ≤ 13823 → 0 ≤ v2.toInt → v4.toInt ≤ 1 → 0 ≤ v4.toInt → v5.toInt ≤ 4 → 1 ≤ v5.toInt → v6.toInt ≤ 624 → 0 ≤ v6.toInt → v7.toInt ≤ 4 → 0 ≤ v7.toInt → v8.toInt ≤ 4 → 0 ≤ v8.toInt → v7.toInt ≤ v6.toInt → v7.toInt ≤ v8.toInt → dz_lv 24 a58 (v1.toInt.toNat + 1) → dz_xl 24 v2 v1 → 0 + 5967 + ((v5.toInt - 0) - 1) * 298044 + 0 + ((v6.toInt - (-1)) - 1) * 476 + 221 + (4 - v8.toInt) * 34 + 51 ≤ ((k : Nat) : Int) → dz_T ((F54_X12_pot fu c2_groups c2_ranks c2_parts a48 a57 a58 a59 a62 a63 k).2.2.2.2.2.2.2.1 v1 v2 v4 v5 v6 v7 v8 a60 a64) (fun r => True) := by
  intro v1 v2 v4 v5 v6 v7 v8 a60 a64 i0 i1 i2 i3 i4 i5 i6 i7 i8 i9 i10 i11 i12 i13 i14 i15 x0 x1 hm
  obtain ⟨k0, rfl⟩ : ∃ x, k = x + 1 := ⟨k - 1, by omega⟩
  show dz_T (s54_X12_pot_8 fu c2_groups c2_ranks c2_parts a48 a57 a58 a59 a62 a63 (F54_X12_pot fu c2_groups c2_ranks c2_parts a48 a57 a58 a59 a62 a63 k0).2.2.2.2.2.2.2.2.1 (F54_X12_pot fu c2_groups c2_ranks c2_parts a48 a57 a58 a59 a62 a63 k0).2.2.2.2.2.2.2.2.2.2.1 (F54_X12_pot fu c2_groups c2_ranks c2_parts a48 a57 a58 a59 a62 a63 k0).2.2.2.2.2.2.2.2.2.2.2.1  v1 v2 v4 v5 v6 v7 v8 a60 a64) _
  unfold s54_X12_pot_8
  refine dz_Tle (fun h1 => ?_) (fun h1 => ?_)
  · skip
    refine dz_Teq (fun h2 => ?_) (fun h2 => ?_)
    · skip
      have e3 := dz_l0
      exact (ih k0 (by omega)).2.2.2.2.2.2.2 v1 v2 v4 v5 v6 (0 : Int32) a60 a64 i0 i1 i2 i3 i4 i5 i6 i7 i8 (by first | assumption | omega) (by omega) (by omega) (by first | assumption | omega) (by exact x0) (by exact x1) (by omega)
    · skip
      obtain ⟨k1, rfl⟩ : ∃ x, k0 = x + 1 := ⟨k0 - 1, by omega⟩
      show dz_T (s54_X12_pot_9 fu c2_groups c2_ranks c2_parts a48 a57 a58 a59 a62 a63 (F54_X12_pot fu c2_groups c2_ranks c2_parts a48 a57 a58 a59 a62 a63 k1).2.2.2.2.2.1 v1 v2 v4 v5 v6 a60 a64) _
      unfold s54_X12_pot_9
      have e4 := dz_lm1
      have e5 := dz_add (a := v6) (b := (-(1 : Int32))) (by omega) (by omega)
      generalize (v6 + (-(1 : Int32))) = z2 at *
      exact (ih k1 (by omega)).2.2.2.2.1 v1 v2 v4 v5 z2 a60 a64 i0 i1 i2 i3 i4 i5 i6 i7 (by omega) (by omega) (by exact x0) (by exact x1) (by omega)
  · skip
    refine dz_Tb (t50_X12_digit_g4 fu hfu _ _ _ _ p0 p1 i9 i8 i13 (by first | assumption | omega) (hr_a63)) (fun r1 q => ?_)
    obtain ⟨q1_0, q1_1, q1_2, qo1_0⟩ := q
    refine dz_Teq (fun h6 => ?_) (fun h6 => ?_)
    · skip
      obtain ⟨k3, rfl⟩ : ∃ x, k0 = x + 1 := ⟨k0 - 1, by omega⟩
      show dz_T (s54_X12_pot_12 fu c2_groups c2_ranks c2_parts a48 a57 a58 a59 a62 a63 (F54_X12_pot fu c2_groups c2_ranks c2_parts a48 a57 a58 a59 a62 a63 k3).2.2.2.2.2.2.2.1 v1 v2 v4 v5 v6 v8 (1 : Int32) v7 a60 a64) _
      unfold s54_X12_pot_12
      have e7 := dz_l1
      have e8 := dz_add (a := v7) (b := (1 : Int32)) (by omega) (by omega)
      have e9 := dz_add (a := v8) (b := (1 : Int32)) (by omega) (by omega)
      exact (ih k3 (by omega)).2.2.2.2.2.2.1 v1 v2 v4 v5 v6 (v7 + (1 : Int32)) (v8 + (1 : Int32)) a60 a64 i0 i1 i2 i3 i4 i5 i6 i7 i8 i9 (by omega) (by omega) (by omega) (by omega) (by omega) (by omega) (by exact x0) (by exact x1) (by omega)
    · skip
      obtain ⟨k4, rfl⟩ : ∃ x, k0 = x + 1 := ⟨k0 - 1, by omega⟩
      show dz_T (s54_X12_pot_12 fu c2_groups c2_ranks c2_parts a48 a57 a58 a59 a62 a63 (F54_X12_pot fu c2_groups c2_ranks c2_parts a48 a57 a58 a59 a62 a63 k4).2.2.2.2.2.2.2.1 v1 v2 v4 v5 v6 v8 (0 : Int32) v7 a60 a64) _
      unfold s54_X12_pot_12
      have e10 := dz_l0
      have e11 := dz_add (a := v7) (b := (0 : Int32)) (by omega) (by omega)
      have e12 := dz_l1
      have e13 := dz_add (a := v8) (b := (1 : Int32)) (by omega) (by omega)
      exact (ih k4 (by omega)).2.2.2.2.2.2.1 v1 v2 v4 v5 v6 (v7 + (0 : Int32)) (v8 + (1 : Int32)) a60 a64 i0 i1 i2 i3 i4 i5 i6 i7 i8 i9 (by omega) (by omega) (by omega) (by omega) (by omega) (by omega) (by exact x0) (by exact x1) (by omega)
set_option maxHeartbeats 4000000 in
set_option maxRecDepth 10000 in
theorem t54_X12_pot_h11_g4 (fu : Nat) (hfu : 1000000000000 ≤ fu) (c2_groups : Int32) (c2_ranks : Int32) (c2_parts : Int32) (a48 : Nat → Int32) (a57 : Nat → Int32) (a58 : Nat → Int32) (a59 : Nat → Int32) (a62 : Nat → Int32) (a63 : Nat → Int32) (p0 : c2_groups.toInt ≤ 4) (p1 : 4 ≤ c2_groups.toInt) (p2 : c2_ranks.toInt ≤ 24) (p3 : 24 ≤ c2_ranks.toInt) (p4 : c2_parts.toInt ≤ 625) (p5 : 625 ≤ c2_parts.toInt) (hr_a48 : dz_rg a48 100 0 3) (hr_a57 : dz_rg a57 4 0 3) (hr_a59 : dz_rg a59 14425 0 16777215) (hr_a62 : dz_rg a62 16 0 16777215) (hr_a63 : dz_pt a63 [1, 5, 25, 125]) (o0 : dz_pm a57 4) (o1 : dz_rw 4 24 a48) (k : Nat) (ih : ∀ j9, j9 < k → p54_X12_pot_g4 fu c2_groups c2_ranks c2_parts a48 a57 a58 a59 a62 a63 j9) : ∀ (v1 : Int32) (v2 : Int32) (v4 : Int32) (v5 : Int32) (v6 : Int32) (v8 : Int32) (a60 : Nat → Int64) (a64 : Nat → Int64), v1.toInt ≤ 2 → 0 ≤ v1.toInt → v2.toInt ≤ 13823 → 0 ≤ v2.toInt → v4.toInt ≤ 1 → 0 ≤ v4.toInt → v5.toInt ≤ 4 → 1 ≤ v5.toInt → v6.toInt ≤ 624 → 1 ≤ v6.toInt → v8.toInt ≤ 4 → 0 ≤ v8.toInt → v5.toInt ≤ v6.toInt → dz_lv 24 a58 (v1.toInt.toNat + 1) → dz_xl 24 v2 v1 → 0 + 5967 + ((v5.toInt - 0) - 1) * 298044 + 0 + ((v6.toInt - (-1)) - 1) * 476 + 0 + (4 - v8.toInt) * 34 + 51 ≤ ((k : Nat) : Int) → dz_T ((F54_X12_pot fu c2_groups c2_ranks c2_parts a48 a57 a58 a59 a62 a63 k).2.2.2.2.2.2.2.2.2.2.1 v1 v2 v4 v5 v6 v8 a60 a64) (fun r => True) := by
  intro v1 v2 v4 v5 v6 v8 a60 a64 i0 i1 i2 i3 i4 i5 i6 i7 i8 i9 i10 i11 i12 x0 x1 hm
  obtain ⟨k0, rfl⟩ : ∃ x, k = x + 1 := ⟨k - 1, by omega⟩
  show dz_T (s54_X12_pot_11 fu c2_groups c2_ranks c2_parts a48 a57 a58 a59 a62 a63 (F54_X12_pot fu c2_groups c2_ranks c2_parts a48 a57 a58 a59 a62 a63 k0).2.2.2.2.2.2.2.2.1 (F54_X12_pot fu c2_groups c2_ranks c2_parts a48 a57 a58 a59 a62 a63 k0).2.2.2.2.2.2.2.2.2.2.2.2  v1 v2 v4 v5 v6 v8 a60 a64) _
  unfold s54_X12_pot_11
  have hlx := dz_lvy x0 x1 4 14425 (by decide) (by decide) (by omega) (by omega) (by omega)
  refine dz_Tle (fun h1 => ?_) (fun h1 => ?_)
  · skip
    obtain ⟨k1, rfl⟩ : ∃ x, k0 = x + 1 := ⟨k0 - 1, by omega⟩
    show dz_T (s54_X12_pot_9 fu c2_groups c2_ranks c2_parts a48 a57 a58 a59 a62 a63 (F54_X12_pot fu c2_groups c2_ranks c2_parts a48 a57 a58 a59 a62 a63 k1).2.2.2.2.2.1 v1 v2 v4 v5 v6 a60 a64) _
    unfold s54_X12_pot_9
    have e2 := dz_lm1
    have e3 := dz_add (a := v6) (b := (-(1 : Int32))) (by omega) (by omega)
    generalize (v6 + (-(1 : Int32))) = z2 at *
    exact (ih k1 (by omega)).2.2.2.2.1 v1 v2 v4 v5 z2 a60 a64 i0 i1 i2 i3 i4 i5 i6 i7 (by omega) (by omega) (by exact x0) (by exact x1) (by omega)
  · skip
    refine dz_Tb (t50_X12_digit_g4 fu hfu _ _ _ _ p0 p1 (by first | assumption | omega) i8 i11 (by first | assumption | omega) (hr_a63)) (fun r1 q => ?_)
    obtain ⟨q1_0, q1_1, q1_2, qo1_0⟩ := q
    refine dz_Teq (fun h4 => ?_) (fun h4 => ?_)
    · skip
      refine dz_Tin (by omega) (by omega) ?_
      have e5 := dz_rng (a58 v1.toNatClampNeg)
      refine dz_Tin (by omega) (by omega) ?_
      have e6 := dz_rgat (hr_a59) (i := ((a58 v1.toNatClampNeg) + v2)) (by omega) (by omega)
      refine dz_Tb (t53_X12_comes_g4 fu hfu _ _ _ _ _ _ _ _ _ _ p0 p1 (by first | assumption | omega) i8 i11 (by first | assumption | omega) (by first | assumption | omega) i6 (by omega) (by omega) i5 i4 (hr_a57) (hr_a62) (hr_a63) (o0) (by omega)) (fun r2 _ => ?_)
      obtain ⟨k3, rfl⟩ : ∃ x, k0 = x + 1 := ⟨k0 - 1, by omega⟩
      show dz_T (s54_X12_pot_13 fu c2_groups c2_ranks c2_parts a48 a57 a58 a59 a62 a63 (F54_X12_pot fu c2_groups c2_ranks c2_parts a48 a57 a58 a59 a62 a63 k3).2.2.2.2.2.2.2.2.2.2.1 v1 v2 v4 v5 v6 v8 a60 r2) _
      unfold s54_X12_pot_13
      have e7 := dz_l1
      have e8 := dz_add (a := v8) (b := (1 : Int32)) (by omega) (by omega)
      exact (ih k3 (by omega)).2.2.2.2.2.2.2 v1 v2 v4 v5 v6 (v8 + (1 : Int32)) a60 r2 i0 i1 i2 i3 i4 i5 i6 i7 i8 i9 (by omega) (by omega) i12 (by exact x0) (by exact x1) (by omega)
    · skip
      obtain ⟨k4, rfl⟩ : ∃ x, k0 = x + 1 := ⟨k0 - 1, by omega⟩
      show dz_T (s54_X12_pot_13 fu c2_groups c2_ranks c2_parts a48 a57 a58 a59 a62 a63 (F54_X12_pot fu c2_groups c2_ranks c2_parts a48 a57 a58 a59 a62 a63 k4).2.2.2.2.2.2.2.2.2.2.1 v1 v2 v4 v5 v6 v8 a60 a64) _
      unfold s54_X12_pot_13
      have e9 := dz_l1
      have e10 := dz_add (a := v8) (b := (1 : Int32)) (by omega) (by omega)
      exact (ih k4 (by omega)).2.2.2.2.2.2.2 v1 v2 v4 v5 v6 (v8 + (1 : Int32)) a60 a64 i0 i1 i2 i3 i4 i5 i6 i7 i8 i9 (by omega) (by omega) i12 (by exact x0) (by exact x1) (by omega)
theorem t54_X12_pot_I_g4 (fu : Nat) (hfu : 1000000000000 ≤ fu) (c2_groups : Int32) (c2_ranks : Int32) (c2_parts : Int32) (a48 : Nat → Int32) (a57 : Nat → Int32) (a58 : Nat → Int32) (a59 : Nat → Int32) (a62 : Nat → Int32) (a63 : Nat → Int32) (p0 : c2_groups.toInt ≤ 4) (p1 : 4 ≤ c2_groups.toInt) (p2 : c2_ranks.toInt ≤ 24) (p3 : 24 ≤ c2_ranks.toInt) (p4 : c2_parts.toInt ≤ 625) (p5 : 625 ≤ c2_parts.toInt) (hr_a48 : dz_rg a48 100 0 3) (hr_a57 : dz_rg a57 4 0 3) (hr_a59 : dz_rg a59 14425 0 16777215) (hr_a62 : dz_rg a62 16 0 16777215) (hr_a63 : dz_pt a63 [1, 5, 25, 125]) (o0 : dz_pm a57 4) (o1 : dz_rw 4 24 a48) (k : Nat) : p54_X12_pot_g4 fu c2_groups c2_ranks c2_parts a48 a57 a58 a59 a62 a63 k := by
  induction k using Nat.strongRecOn with
  | _ k ih => exact ⟨t54_X12_pot_h1_g4 fu hfu c2_groups c2_ranks c2_parts a48 a57 a58 a59 a62 a63 p0 p1 p2 p3 p4 p5 hr_a48 hr_a57 hr_a59 hr_a62 hr_a63 o0 o1 k ih, t54_X12_pot_h2_g4 fu hfu c2_groups c2_ranks c2_parts a48 a57 a58 a59 a62 a63 p0 p1 p2 p3 p4 p5 hr_a48 hr_a57 hr_a59 hr_a62 hr_a63 o0 o1 k ih, t54_X12_pot_h3_g4 fu hfu c2_groups c2_ranks c2_parts a48 a57 a58 a59 a62 a63 p0 p1 p2 p3 p4 p5 hr_a48 hr_a57 hr_a59 hr_a62 hr_a63 o0 o1 k ih, t54_X12_pot_h5_g4 fu hfu c2_groups c2_ranks c2_parts a48 a57 a58 a59 a62 a63 p0 p1 p2 p3 p4 p5 hr_a48 hr_a57 hr_a59 hr_a62 hr_a63 o0 o1 k ih, t54_X12_pot_h6_g4 fu hfu c2_groups c2_ranks c2_parts a48 a57 a58 a59 a62 a63 p0 p1 p2 p3 p4 p5 hr_a48 hr_a57 hr_a59 hr_a62 hr_a63 o0 o1 k ih, t54_X12_pot_h7_g4 fu hfu c2_groups c2_ranks c2_parts a48 a57 a58 a59 a62 a63 p0 p1 p2 p3 p4 p5 hr_a48 hr_a57 hr_a59 hr_a62 hr_a63 o0 o1 k ih, t54_X12_pot_h8_g4 fu hfu c2_groups c2_ranks c2_parts a48 a57 a58 a59 a62 a63 p0 p1 p2 p3 p4 p5 hr_a48 hr_a57 hr_a59 hr_a62 hr_a63 o0 o1 k ih, t54_X12_pot_h11_g4 fu hfu c2_groups c2_ranks c2_parts a48 a57 a58 a59 a62 a63 p0 p1 p2 p3 p4 p5 hr_a48 hr_a57 hr_a59 hr_a62 hr_a63 o0 o1 k ih⟩
set_option maxHeartbeats 4000000 in
set_option maxRecDepth 10000 in
theorem t54_X12_pot_E_g4 (fu : Nat) (hfu : 1000000000000 ≤ fu) (c2_groups : Int32) (c2_ranks : Int32) (c2_parts : Int32) (a48 : Nat → Int32) (a57 : Nat → Int32) (a58 : Nat → Int32) (a59 : Nat → Int32) (a62 : Nat → Int32) (a63 : Nat → Int32) (v1 : Int32) (v2 : Int32) (v3 : Int32) (v4 : Int32) (a60 : Nat → Int64) (a64 : Nat → Int64) (p0 : c2_groups.toInt ≤ 4) (p1 : 4 ≤ c2_groups.toInt) (p2 : c2_ranks.toInt ≤ 24) (p3 : 24 ≤ c2_ranks.toInt) (p4 : 0 ≤ v1.toInt) (p5 : v1.toInt ≤ 2) (p6 : 0 ≤ v2.toInt) (p7 : v2.toInt ≤ 13823) (p8 : 0 ≤ v3.toInt) (p9 : v3.toInt ≤ 624) (p10 : 0 ≤ v4.toInt) (p11 : v4.toInt ≤ 1) (p12 : c2_parts.toInt ≤ 625) (p13 : 625 ≤ c2_parts.toInt) (hr_a48 : dz_rg a48 100 0 3) (hr_a57 : dz_rg a57 4 0 3) (hr_a59 : dz_rg a59 14425 0 16777215) (hr_a62 : dz_rg a62 16 0 16777215) (hr_a63 : dz_pt a63 [1, 5, 25, 125]) (o0 : dz_pm a57 4) (o1 : dz_rw 4 24 a48) (o2 : dz_lv 24 a58 (v1.toInt.toNat + 1)) (o3 : dz_xl 24 v2 v1) (kv : Nat) (hkv : 1000000000000 ≤ kv) : dz_T (s54_X12_pot_0 fu c2_groups c2_ranks c2_parts a48 a57 a58 a59 a62 a63 (F54_X12_pot fu c2_groups c2_ranks c2_parts a48 a57 a58 a59 a62 a63 kv).1  v1 v2 v3 v4 a60 a64) (fun r => True) := by
  unfold s54_X12_pot_0
  have e1 := dz_l0
  exact (t54_X12_pot_I_g4 fu hfu c2_groups c2_ranks c2_parts a48 a57 a58 a59 a62 a63 p0 p1 p2 p3 p12 p13 hr_a48 hr_a57 hr_a59 hr_a62 hr_a63 o0 o1 kv).1 v1 v2 v3 v4 (0 : Int32) a60 a64 p5 p4 p7 p6 p9 p8 p11 p10 (by omega) (by omega) (by exact o2) (by exact o3) (by omega)
theorem t54_X12_pot_g4 (fu : Nat) (hfu : 1000000000000 ≤ fu) (c2_groups : Int32) (c2_ranks : Int32) (c2_parts : Int32) (a48 : Nat → Int32) (a57 : Nat → Int32) (a58 : Nat → Int32) (a59 : Nat → Int32) (a62 : Nat → Int32) (a63 : Nat → Int32) (v1 : Int32) (v2 : Int32) (v3 : Int32) (v4 : Int32) (a60 : Nat → Int64) (a64 : Nat → Int64) (p0 : c2_groups.toInt ≤ 4) (p1 : 4 ≤ c2_groups.toInt) (p2 : c2_ranks.toInt ≤ 24) (p3 : 24 ≤ c2_ranks.toInt) (p4 : 0 ≤ v1.toInt) (p5 : v1.toInt ≤ 2) (p6 : 0 ≤ v2.toInt) (p7 : v2.toInt ≤ 13823) (p8 : 0 ≤ v3.toInt) (p9 : v3.toInt ≤ 624) (p10 : 0 ≤ v4.toInt) (p11 : v4.toInt ≤ 1) (p12 : c2_parts.toInt ≤ 625) (p13 : 625 ≤ c2_parts.toInt) (hr_a48 : dz_rg a48 100 0 3) (hr_a57 : dz_rg a57 4 0 3) (hr_a59 : dz_rg a59 14425 0 16777215) (hr_a62 : dz_rg a62 16 0 16777215) (hr_a63 : dz_pt a63 [1, 5, 25, 125]) (o0 : dz_pm a57 4) (o1 : dz_rw 4 24 a48) (o2 : dz_lv 24 a58 (v1.toInt.toNat + 1)) (o3 : dz_xl 24 v2 v1) : dz_T (f54_X12_pot fu c2_groups c2_ranks c2_parts a48 a57 a58 a59 a62 a63 v1 v2 v3 v4 a60 a64) (fun r => True) :=
  t54_X12_pot_E_g4 fu hfu c2_groups c2_ranks c2_parts a48 a57 a58 a59 a62 a63 v1 v2 v3 v4 a60 a64 p0 p1 p2 p3 p4 p5 p6 p7 p8 p9 p10 p11 p12 p13 hr_a48 hr_a57 hr_a59 hr_a62 hr_a63 o0 o1 o2 o3 fu hfu
