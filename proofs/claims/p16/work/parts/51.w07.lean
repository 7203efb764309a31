abbrev p57_X12_layWeights_g4 (fu : Nat) (c2_groups : Int32) (c2_pots : Int32) (c2_ranks : Int32) (c2_draws : Int32) (c2_lawful : Int32) (c2_out : Int32) (a48 : Nat → Int32) (a49 : Nat → Int32) (a50 : Nat → Int32) (a54 : Nat → Int32) (a55 : Nat → Int32) (a56 : Nat → Int32) (a57 : Nat → Int32) (k : Nat) : Prop :=
  (∀ (v1 : Int32) (v2 : Int32) (v3 : Int32) (v4 : Int32) (c2_parts : Int32) (c2_laid : Int32) (a58 : Nat → Int32) (a59 : Nat → Int32) (a60 : Nat → Int64) (a61 : Nat → Int32) (a62 : Nat → Int32) (a63 : Nat → Int32) (a64 : Nat → Int64) (a65 : Nat → Int64), v1.toInt ≤ 2 → 0 ≤ v1.toInt → v2.toInt ≤ 1 → 0 ≤ v2.toInt → v3.toInt ≤ 12 → 0 ≤ v3.toInt → v4.toInt ≤ 13824 → 0 ≤ v4.toInt → c2_parts.toInt ≤ 625 → 625 ≤ c2_parts.toInt → c2_laid.toInt ≤ (-1) → (-1) ≤ c2_laid.toInt → v3.toInt ≤ c2_out.toInt → v4.toInt ≤ c2_draws.toInt → v3.toInt ≤ v2.toInt + 11 → dz_rg a59 14425 0 16777215 → dz_rg a61 13824 0 13823 → dz_rg a62 16 0 16777215 → dz_pt a63 [1, 5, 25, 125] → dz_lv 24 a58 (c2_pots.toInt.toNat + 1) → dz_hv 4 24 a62 → 0 + 3094884 + (13824 - v4.toInt) * 36 + 18 ≤ ((k : Nat) : Int) → dz_T ((F57_X12_layWeights fu c2_groups c2_pots c2_ranks c2_draws c2_lawful c2_out a48 a49 a50 a54 a55 a56 a57 k).2.1 v1 v2 v3 v4 c2_parts c2_laid a58 a59 a60 a61 a62 a63 a64 a65) (fun r => dz_rg r.2.2.2.1 14425 0 16777215 ∧ dz_rg r.2.2.2.2.2.1 13824 0 13823 ∧ dz_rg r.2.2.2.2.2.2.1 16 0 16777215 ∧ dz_pt r.2.2.2.2.2.2.2.1 [1, 5, 25, 125])) ∧ (∀ (v1 : Int32) (v2 : Int32) (v3 : Int32) (v4 : Int32) (c2_parts : Int32) (c2_laid : Int32) (a58 : Nat → Int32) (a59 : Nat → Int32) (a60 : Nat → Int64) (a61 : Nat → Int32) (a62 : Nat → Int32) (a63 : Nat → Int32) (a64 : Nat → Int64) (a65 : Nat → Int64), 1 ≤ c2_lawful.toInt → v1.toInt ≤ 2 → 0 ≤ v1.toInt → v2.toInt ≤ 1 → 0 ≤ v2.toInt → v3.toInt ≤ 12 → 0 ≤ v3.toInt → v4.toInt ≤ 14425 → 0 ≤ v4.toInt → c2_parts.toInt ≤ 625 → 625 ≤ c2_parts.toInt → c2_laid.toInt ≤ (-1) → (-1) ≤ c2_laid.toInt → v3.toInt ≤ c2_out.toInt → v3.toInt ≤ v2.toInt + 11 → dz_rg a59 14425 0 16777215 → dz_rg a61 13824 0 13823 → dz_rg a62 16 0 16777215 → dz_pt a63 [1, 5, 25, 125] → dz_lv 24 a58 (c2_pots.toInt.toNat + 1) → dz_hv 4 24 a62 → 0 + 2575530 + (14425 - v4.toInt) * 36 + 18 ≤ ((k : Nat) : Int) → dz_T ((F57_X12_layWeights fu c2_groups c2_pots c2_ranks c2_draws c2_lawful c2_out a48 a49 a50 a54 a55 a56 a57 k).2.2.1 v1 v2 v3 v4 c2_parts c2_laid a58 a59 a60 a61 a62 a63 a64 a65) (fun r => dz_rg r.2.2.2.1 14425 0 16777215 ∧ dz_rg r.2.2.2.2.2.1 13824 0 13823 ∧ dz_rg r.2.2.2.2.2.2.1 16 0 16777215 ∧ dz_pt r.2.2.2.2.2.2.2.1 [1, 5, 25, 125])) ∧ (∀ (v1 : Int32) (v2 : Int32) (v3 : Int32) (v4 : Int32) (v5 : Int32) (v6 : Int32) (c2_parts : Int32) (c2_laid : Int32) (a58 : Nat → Int32) (a59 : Nat → Int32) (a60 : Nat → Int64) (a61 : Nat → Int32) (a62 : Nat → Int32) (a63 : Nat → Int32) (a64 : Nat → Int64) (a65 : Nat → Int64), 1 ≤ c2_lawful.toInt → v1.toInt ≤ 2 → 0 ≤ v1.toInt → v2.toInt ≤ 1 → 0 ≤ v2.toInt → v3.toInt ≤ 12 → 0 ≤ v3.toInt → v4.toInt ≤ 3 → 0 ≤ v4.toInt → v5.toInt ≤ 13823 → 0 ≤ v5.toInt → v6.toInt ≤ 3 → 0 ≤ v6.toInt → c2_parts.toInt ≤ 625 → 625 ≤ c2_parts.toInt → c2_laid.toInt ≤ (-1) → (-1) ≤ c2_laid.toInt → v3.toInt ≤ c2_out.toInt → v4.toInt ≤ c2_out.toInt → v4.toInt ≤ c2_pots.toInt → v4.toInt ≤ v3.toInt → v6.toInt ≤ c2_out.toInt → v6.toInt ≤ c2_pots.toInt → v6.toInt ≤ v3.toInt → v6.toInt ≤ v4.toInt → v3.toInt ≤ v2.toInt + 11 → dz_rg a59 14425 0 16777215 → dz_rg a61 13824 0 13823 → dz_rg a62 16 0 16777215 → dz_pt a63 [1, 5, 25, 125] → dz_lv 24 a58 (c2_pots.toInt.toNat + 1) → dz_hv 4 24 a62 → dz_xl 24 v5 v6 → 0 + 2575368 + (3 - v6.toInt) * 36 + 18 ≤ ((k : Nat) : Int) → dz_T ((F57_X12_layWeights fu c2_groups c2_pots c2_ranks c2_draws c2_lawful c2_out a48 a49 a50 a54 a55 a56 a57 k).2.2.2.2.2.1 v1 v2 v3 v4 v5 v6 c2_parts c2_laid a58 a59 a60 a61 a62 a63 a64 a65) (fun r => dz_rg r.2.2.2.1 14425 0 16777215 ∧ dz_rg r.2.2.2.2.2.1 13824 0 13823 ∧ dz_rg r.2.2.2.2.2.2.1 16 0 16777215 ∧ dz_pt r.2.2.2.2.2.2.2.1 [1, 5, 25, 125])) ∧ (∀ (v1 : Int32) (v2 : Int32) (v3 : Int32) (v4 : Int32) (v6 : Int32) (v7 : Int32) (c2_parts : Int32) (c2_laid : Int32) (a58 : Nat → Int32) (a59 : Nat → Int32) (a60 : Nat → Int64) (a61 : Nat → Int32) (a62 : Nat → Int32) (a63 : Nat → Int32) (a64 : Nat → Int64) (a65 : Nat → Int64), 1 ≤ c2_lawful.toInt → v1.toInt ≤ 2 → 0 ≤ v1.toInt → v2.toInt ≤ 1 → 0 ≤ v2.toInt → v3.toInt ≤ 12 → 0 ≤ v3.toInt → v4.toInt ≤ 3 → 0 ≤ v4.toInt → v6.toInt ≤ 624 → 624 ≤ v6.toInt → v7.toInt ≤ 3 → 0 ≤ v7.toInt → c2_parts.toInt ≤ 625 → 625 ≤ c2_parts.toInt → c2_laid.toInt ≤ (-1) → (-1) ≤ c2_laid.toInt → v3.toInt ≤ c2_out.toInt → v4.toInt ≤ c2_out.toInt → v4.toInt ≤ c2_pots.toInt → v4.toInt ≤ v3.toInt → v4.toInt ≤ v7.toInt → v7.toInt ≤ c2_pots.toInt → v3.toInt ≤ v2.toInt + 11 → dz_rg a59 14425 0 16777215 → dz_rg a61 13824 0 13823 → dz_rg a62 16 0 16777215 → dz_pt a63 [1, 5, 25, 125] → dz_lv 24 a58 (c2_pots.toInt.toNat + 1) → dz_hv 4 24 a62 → 0 + 497718 + (3 - v7.toInt) * 519408 + 18 ≤ ((k : Nat) : Int) → dz_T ((F57_X12_layWeights fu c2_groups c2_pots c2_ranks c2_draws c2_lawful c2_out a48 a49 a50 a54 a55 a56 a57 k).2.2.2.2.2.2.1 v1 v2 v3 v4 v6 v7 c2_parts c2_laid a58 a59 a60 a61 a62 a63 a64 a65) (fun r => dz_rg r.2.2.2.1 14425 0 16777215 ∧ dz_rg r.2.2.2.2.2.1 13824 0 13823 ∧ dz_rg r.2.2.2.2.2.2.1 16 0 16777215 ∧ dz_pt r.2.2.2.2.2.2.2.1 [1, 5, 25, 125])) ∧ (∀ (v7 : Int32) (c2_parts : Int32) (c2_laid : Int32) (a58 : Nat → Int32) (a59 : Nat → Int32) (a60 : Nat → Int64) (a61 : Nat → Int32) (a62 : Nat → Int32) (a63 : Nat → Int32) (a64 : Nat → Int64) (a65 : Nat → Int64), 1 ≤ c2_lawful.toInt → v7.toInt ≤ 13824 → 0 ≤ v7.toInt → c2_parts.toInt ≤ 625 → 625 ≤ c2_parts.toInt → c2_laid.toInt ≤ (-1) → (-1) ≤ c2_laid.toInt → v7.toInt ≤ c2_draws.toInt → dz_rg a59 14425 0 16777215 → dz_rg a61 13824 0 13823 → dz_rg a62 16 0 16777215 → dz_pt a63 [1, 5, 25, 125] → dz_lv 24 a58 (c2_pots.toInt.toNat + 1) → dz_hv 4 24 a62 → 0 + 0 + (13824 - v7.toInt) * 36 + 18 ≤ ((k : Nat) : Int) → dz_T ((F57_X12_layWeights fu c2_groups c2_pots c2_ranks c2_draws c2_lawful c2_out a48 a49 a50 a54 a55 a56 a57 k).2.2.2.2.2.2.2.1 v7 c2_parts c2_laid a58 a59 a60 a61 a62 a63 a64 a65) (fun r => dz_rg r.2.2.2.1 14425 0 16777215 ∧ dz_rg r.2.2.2.2.2.1 13824 0 13823 ∧ dz_rg r.2.2.2.2.2.2.1 16 0 16777215 ∧ dz_pt r.2.2.2.2.2.2.2.1 [1, 5, 25, 125])) ∧ (∀ (v1 : Int32) (v2 : Int32) (v3 : Int32) (v4 : Int32) (v6 : Int32) (v7 : Int32) (v8 : Int32) (v9 : Int32) (c2_parts : Int32) (c2_laid : Int32) (a58 : Nat → Int32) (a59 : Nat → Int32) (a60 : Nat → Int64) (a61 : Nat → Int32) (a62 : Nat → Int32) (a63 : Nat → Int32) (a64 : Nat → Int64) (a65 : Nat → Int64), 1 ≤ c2_pots.toInt → 1 ≤ c2_lawful.toInt → v1.toInt ≤ 2 → 0 ≤ v1.toInt → v2.toInt ≤ 1 → 0 ≤ v2.toInt → v3.toInt ≤ 12 → 0 ≤ v3.toInt → v4.toInt ≤ 2 → 0 ≤ v4.toInt → v6.toInt ≤ 624 → 624 ≤ v6.toInt → v7.toInt ≤ 2 → 0 ≤ v7.toInt → v8.toInt ≤ 624 → 0 ≤ v8.toInt → v9.toInt ≤ 14425 → 0 ≤ v9.toInt → c2_parts.toInt ≤ 625 → 625 ≤ c2_parts.toInt → c2_laid.toInt ≤ (-1) → (-1) ≤ c2_laid.toInt → v4.toInt + 1 ≤ c2_pots.toInt → v7.toInt + 1 ≤ c2_pots.toInt → v3.toInt ≤ c2_out.toInt → v4.toInt ≤ c2_out.toInt → v4.toInt ≤ v3.toInt → v4.toInt ≤ v7.toInt → v3.toInt ≤ v2.toInt + 11 → dz_rg a59 14425 0 16777215 → dz_rg a61 13824 0 13823 → dz_rg a62 16 0 16777215 → dz_pt a63 [1, 5, 25, 125] → dz_lv 24 a58 (c2_pots.toInt.toNat + 1) → dz_hv 4 24 a62 → 0 + 497718 + ((3 - v7.toInt) - 1) * 519408 + 0 + (14425 - v9.toInt) * 36 + 36 ≤ ((k : Nat) : Int) → dz_T ((F57_X12_layWeights fu c2_groups c2_pots c2_ranks c2_draws c2_lawful c2_out a48 a49 a50 a54 a55 a56 a57 k).2.2.2.2.2.2.2.2.2.2.2.1 v1 v2 v3 v4 v6 v7 v8 v9 c2_parts c2_laid a58 a59 a60 a61 a62 a63 a64 a65) (fun r => dz_rg r.2.2.2.1 14425 0 16777215 ∧ dz_rg r.2.2.2.2.2.1 13824 0 13823 ∧ dz_rg r.2.2.2.2.2.2.1 16 0 16777215 ∧ dz_pt r.2.2.2.2.2.2.2.1 [1, 5, 25, 125]))
set_option maxHeartbeats 4000000 in
set_option maxRecDepth 10000 in
theorem t57_X12_layWeights_h2_g4 (fu : Nat) (hfu : 1000000000000 ≤ fu) (c2_groups : Int32) (c2_pots : Int32) (c2_ranks : Int32) (c2_draws : Int32) (c2_lawful : Int32) (c2_out : Int32) (a48 : Nat → Int32) (a49 : Nat → Int32) (a50 : Nat → Int32) (a54 : Nat → Int32) (a55 : Nat → Int32) (a56 : Nat → Int32) (a57 : Nat → Int32) (p0 : c2_groups.toInt ≤ 4) (p1 : 4 ≤ c2_groups.toInt) (p2 : c2_pots.toInt ≤ 3) (p3 : 0 ≤ c2_pots.toInt) (p4 : c2_ranks.toInt ≤ 24) (p5 : 24 ≤ c2_ranks.toInt) (p6 : c2_draws.toInt ≤ 13824) (p7 : 1 ≤ c2_draws.toInt) (p8 : c2_lawful.toInt ≤ 13824) (p9 : 0 ≤ c2_lawful.toInt) (p10 : c2_out.toInt ≤ 12) (p11 : 0 ≤ c2_out.toInt) (p12 : c2_lawful.toInt ≤ c2_draws.toInt) (hr_a48 : dz_rg a48 100 0 3) (hr_a49 : dz_rg a49 13824 0 1023) (hr_a50 : dz_rg a50 165888 0 3) (hr_a54 : dz_rg a54 12 0 11) (hr_a55 : dz_rg a55 12 0 3) (hr_a56 : dz_rg a56 4 0 3) (hr_a57 : dz_rg a57 4 0 3) (o0 : dz_pq a56 c2_pots.toInt.toNat) (o1 : dz_pm a57 4) (o2 : dz_rw 4 24 a48) (o3 : ∀ t : Int, dz_pp 4 24 a54 a55 t c2_out.toInt.toNat) (o4 : c2_out.toInt ≤ 4 * c2_pots.toInt) (k : Nat) (ih : ∀ j9, j9 < k → p57_X12_layWeights_g4 fu c2_groups c2_pots c2_ranks c2_draws c2_lawful c2_out a48 a49 a50 a54 a55 a56 a57 j9) : ∀ (v1 : Int32) (v2 : Int32) (v3 : Int32) (v4 : Int32) (c2_parts : Int32) (c2_laid : Int32) (a58 : Nat → Int32) (a59 : Nat → Int32) (a60 : Nat → Int64) (a61 : Nat → Int32) (a62 : Nat → Int32) (a63 : Nat → Int32) (a64 : Nat → Int64) (a65 : Nat → Int64), v1.toInt ≤ 2 → 0 ≤ v1.toInt → v2.toInt ≤ 1 → 0 ≤ v2.toInt → v3.toInt ≤ 12 → 0 ≤ v3.toInt → v4.toInt ≤ 13824 → 0 ≤ v4.toInt → c2_parts.toInt ≤ 625 → 625 ≤ c2_parts.toInt → c2_laid.toInt ≤ (-1) → (-1) ≤ c2_laid.toInt → v3.toInt ≤ c2_out.toInt → v4.toInt ≤ c2_draws.toInt → v3.toInt ≤ v2.toInt + 11 → dz_rg a59 14425 0 16777215 → dz_rg a61 13824 0 13823 → dz_rg a62 16 0 16777215 → dz_pt a63 [1, 5, 25, 125] → dz_lv 24 a58 (c2_pots.toInt.toNat + 1) → dz_hv 4 24 a62 → 0 + 3094884 + (13824 - v4.toInt) * 36 + 18 ≤ ((k : Nat) : Int) → dz_T ((F57_X12_layWeights fu c2_groups c2_pots c2_ranks c2_draws c2_lawful c2_out a48 a49 a50 a54 a55 a56 a57 k).2.1 v1 v2 v3 v4 c2_parts c2_laid a58 a59 a60 a61 a62 a63 a64 a65) (fun r => dz_rg r.2.2.2.1 14425 0 16777215 ∧ dz_rg r.2.2.2.2.2.1 13824 0 13823 ∧ dz_rg r.2.2.2.2.2.2.1 16 0 16777215 ∧ dz_pt r.2.2.2.2.2.2.2.1 [1, 5, 25, 125]) := by
  intro v1 v2 v3 v4 c2_parts c2_laid a58 a59 a60 a61 a62 a63 a64 a65 i0 i1 i2 i3 i4 i5 i6 i7 i8 i9 i10 i11 i12 i13 i14 hr_a59 hr_a61 hr_a62 hr_a63 x0 x1 hm
  obtain ⟨k0, rfl⟩ : ∃ x, k = x + 1 := ⟨k - 1, by omega⟩
  show dz_T (s57_X12_layWeights_2 fu c2_groups c2_pots c2_ranks c2_draws c2_lawful c2_out a48 a49 a50 a54 a55 a56 a57 (F57_X12_layWeights fu c2_groups c2_pots c2_ranks c2_draws c2_lawful c2_out a48 a49 a50 a54 a55 a56 a57 k0).2.2.1 (F57_X12_layWeights fu c2_groups c2_pots c2_ranks c2_draws c2_lawful c2_out a48 a49 a50 a54 a55 a56 a57 k0).2.2.2.1 (F57_X12_layWeights fu c2_groups c2_pots c2_ranks c2_draws c2_lawful c2_out a48 a49 a50 a54 a55 a56 a57 k0).2.2.2.2.1  v1 v2 v3 v4 c2_parts c2_laid a58 a59 a60 a61 a62 a63 a64 a65) _
  unfold s57_X12_layWeights_2
  refine dz_Tle (fun h1 => ?_) (fun h1 => ?_)
  · skip
    have e2 := dz_l1
    refine dz_Teq (fun h3 => ?_) (fun h3 => ?_)
    · skip
      refine dz_Ts ?_
      dsimp only
      exact ⟨(hr_a59), (hr_a61), (hr_a62), (hr_a63)⟩
    · skip
      have e4 := dz_l0
      refine dz_Teq (fun h5 => ?_) (fun h5 => ?_)
      · skip
        refine dz_Ts ?_
        dsimp only
        exact ⟨(hr_a59), (hr_a61), (hr_a62), (hr_a63)⟩
      · skip
        exact (ih k0 (by omega)).2.1 v1 v2 v3 (0 : Int32) c2_parts c2_laid a58 a59 a60 a61 a62 a63 a64 a65 (by first | assumption | omega) i0 i1 i2 i3 i4 i5 (by omega) (by omega) i8 i9 i10 i11 i12 i14 (hr_a59) (hr_a61) (hr_a62) (hr_a63) (by exact x0) (by exact x1) (by omega)
  · skip
    have e6 := dz_l1
    refine dz_Teq (fun h7 => ?_) (fun h7 => ?_)
    · skip
      refine dz_Tin (by omega) (by omega) ?_
      have e8 := dz_rgat (hr_a49) (i := v4) (by omega) (by omega)
      have e9 := dz_l0
      refine dz_Teq (fun h10 => ?_) (fun h10 => ?_)
      · skip
        refine dz_Tb (t38_X12_isAsPlaced fu hfu _ _ _ _ _ i7 (by first | assumption | omega) i5 i4 (hr_a50) (hr_a54) (hr_a55)) (fun r1 q => ?_)
        obtain ⟨q1_0, q1_1, qo1_0, qo1_1⟩ := q
        refine dz_Teq (fun h11 => ?_) (fun h11 => ?_)
        · skip
          obtain ⟨k1, rfl⟩ : ∃ x, k0 = x + 1 := ⟨k0 - 1, by omega⟩
          show dz_T (s57_X12_layWeights_4 fu c2_groups c2_pots c2_ranks c2_draws c2_lawful c2_out a48 a49 a50 a54 a55 a56 a57 (F57_X12_layWeights fu c2_groups c2_pots c2_ranks c2_draws c2_lawful c2_out a48 a49 a50 a54 a55 a56 a57 k1).2.2.2.2.1 v1 v2 v3 v4 v4 c2_parts c2_laid a58 a59 a60 a61 a62 a63 a64 a65) _
          unfold s57_X12_layWeights_4
          obtain ⟨k2, rfl⟩ : ∃ x, k1 = x + 1 := ⟨k1 - 1, by omega⟩
          show dz_T (s57_X12_layWeights_5 fu c2_groups c2_pots c2_ranks c2_draws c2_lawful c2_out a48 a49 a50 a54 a55 a56 a57 (F57_X12_layWeights fu c2_groups c2_pots c2_ranks c2_draws c2_lawful c2_out a48 a49 a50 a54 a55 a56 a57 k2).2.1 v1 v2 v3 v4 (0 : Int64) v4 c2_parts c2_laid a58 a59 a60 a61 a62 a63 a64 a65) _
          unfold s57_X12_layWeights_5
          refine dz_Tin (by omega) (by omega) ?_
          have e12 := dz_add (a := v4) (b := (1 : Int32)) (by omega) (by omega)
          exact (ih k2 (by omega)).1 v1 v2 v3 (v4 + (1 : Int32)) c2_parts c2_laid a58 a59 a60 a61 a62 a63 a64 (vp_updL a65 v4.toNatClampNeg 0) i0 i1 i2 i3 i4 i5 (by omega) (by omega) i8 i9 i10 i11 i12 (by omega) i14 (hr_a59) (hr_a61) (hr_a62) (hr_a63) (by exact x0) (by exact x1) (by omega)
        · skip
          obtain ⟨k3, rfl⟩ : ∃ x, k0 = x + 1 := ⟨k0 - 1, by omega⟩
          show dz_T (s57_X12_layWeights_5 fu c2_groups c2_pots c2_ranks c2_draws c2_lawful c2_out a48 a49 a50 a54 a55 a56 a57 (F57_X12_layWeights fu c2_groups c2_pots c2_ranks c2_draws c2_lawful c2_out a48 a49 a50 a54 a55 a56 a57 k3).2.1 v1 v2 v3 v4 (1 : Int64) v4 c2_parts c2_laid a58 a59 a60 a61 a62 a63 a64 a65) _
          unfold s57_X12_layWeights_5
          refine dz_Tin (by omega) (by omega) ?_
          have e13 := dz_add (a := v4) (b := (1 : Int32)) (by omega) (by omega)
          exact (ih k3 (by omega)).1 v1 v2 v3 (v4 + (1 : Int32)) c2_parts c2_laid a58 a59 a60 a61 a62 a63 a64 (vp_updL a65 v4.toNatClampNeg 1) i0 i1 i2 i3 i4 i5 (by omega) (by omega) i8 i9 i10 i11 i12 (by omega) i14 (hr_a59) (hr_a61) (hr_a62) (hr_a63) (by exact x0) (by exact x1) (by omega)
      · skip
        obtain ⟨k4, rfl⟩ : ∃ x, k0 = x + 1 := ⟨k0 - 1, by omega⟩
        show dz_T (s57_X12_layWeights_4 fu c2_groups c2_pots c2_ranks c2_draws c2_lawful c2_out a48 a49 a50 a54 a55 a56 a57 (F57_X12_layWeights fu c2_groups c2_pots c2_ranks c2_draws c2_lawful c2_out a48 a49 a50 a54 a55 a56 a57 k4).2.2.2.2.1 v1 v2 v3 v4 v4 c2_parts c2_laid a58 a59 a60 a61 a62 a63 a64 a65) _
        unfold s57_X12_layWeights_4
        obtain ⟨k5, rfl⟩ : ∃ x, k4 = x + 1 := ⟨k4 - 1, by omega⟩
        show dz_T (s57_X12_layWeights_5 fu c2_groups c2_pots c2_ranks c2_draws c2_lawful c2_out a48 a49 a50 a54 a55 a56 a57 (F57_X12_layWeights fu c2_groups c2_pots c2_ranks c2_draws c2_lawful c2_out a48 a49 a50 a54 a55 a56 a57 k5).2.1 v1 v2 v3 v4 (0 : Int64) v4 c2_parts c2_laid a58 a59 a60 a61 a62 a63 a64 a65) _
        unfold s57_X12_layWeights_5
        refine dz_Tin (by omega) (by omega) ?_
        have e14 := dz_add (a := v4) (b := (1 : Int32)) (by omega) (by omega)
        exact (ih k5 (by omega)).1 v1 v2 v3 (v4 + (1 : Int32)) c2_parts c2_laid a58 a59 a60 a61 a62 a63 a64 (vp_updL a65 v4.toNatClampNeg 0) i0 i1 i2 i3 i4 i5 (by omega) (by omega) i8 i9 i10 i11 i12 (by omega) i14 (hr_a59) (hr_a61) (hr_a62) (hr_a63) (by exact x0) (by exact x1) (by omega)
    · skip
      obtain ⟨k6, rfl⟩ : ∃ x, k0 = x + 1 := ⟨k0 - 1, by omega⟩
      show dz_T (s57_X12_layWeights_4 fu c2_groups c2_pots c2_ranks c2_draws c2_lawful c2_out a48 a49 a50 a54 a55 a56 a57 (F57_X12_layWeights fu c2_groups c2_pots c2_ranks c2_draws c2_lawful c2_out a48 a49 a50 a54 a55 a56 a57 k6).2.2.2.2.1 v1 v2 v3 v4 v4 c2_parts c2_laid a58 a59 a60 a61 a62 a63 a64 a65) _
      unfold s57_X12_layWeights_4
      obtain ⟨k7, rfl⟩ : ∃ x, k6 = x + 1 := ⟨k6 - 1, by omega⟩
      show dz_T (s57_X12_layWeights_5 fu c2_groups c2_pots c2_ranks c2_draws c2_lawful c2_out a48 a49 a50 a54 a55 a56 a57 (F57_X12_layWeights fu c2_groups c2_pots c2_ranks c2_draws c2_lawful c2_out a48 a49 a50 a54 a55 a56 a57 k7).2.1 v1 v2 v3 v4 (0 : Int64) v4 c2_parts c2_laid a58 a59 a60 a61 a62 a63 a64 a65) _
      unfold s57_X12_layWeights_5
      refine dz_Tin (by omega) (by omega) ?_
      have e15 := dz_add (a := v4) (b := (1 : Int32)) (by omega) (by omega)
      exact (ih k7 (by omega)).1 v1 v2 v3 (v4 + (1 : Int32)) c2_parts c2_laid a58 a59 a60 a61 a62 a63 a64 (vp_updL a65 v4.toNatClampNeg 0) i0 i1 i2 i3 i4 i5 (by omega) (by omega) i8 i9 i10 i11 i12 (by omega) i14 (hr_a59) (hr_a61) (hr_a62) (hr_a63) (by exact x0) (by exact x1) (by omega)
set_option maxHeartbeats 4000000 in
set_option maxRecDepth 10000 in
theorem t57_X12_layWeights_h3_g4 (fu : Nat) (hfu : 1000000000000 ≤ fu) (c2_groups : Int32) (c2_pots : Int32) (c2_ranks : Int32) (c2_draws : Int32) (c2_lawful : Int32) (c2_out : Int32) (a48 : Nat → Int32) (a49 : Nat → Int32) (a50 : Nat → Int32) (a54 : Nat → Int32) (a55 : Nat → Int32) (a56 : Nat → Int32) (a57 : Nat → Int32) (p0 : c2_groups.toInt ≤ 4) (p1 : 4 ≤ c2_groups.toInt) (p2 : c2_pots.toInt ≤ 3) (p3 : 0 ≤ c2_pots.toInt) (p4 : c2_ranks.toInt ≤ 24) (p5 : 24 ≤ c2_ranks.toInt) (p6 : c2_draws.toInt ≤ 13824) (p7 : 1 ≤ c2_draws.toInt) (p8 : c2_lawful.toInt ≤ 13824) (p9 : 0 ≤ c2_lawful.toInt) (p10 : c2_out.toInt ≤ 12) (p11 : 0 ≤ c2_out.toInt) (p12 : c2_lawful.toInt ≤ c2_draws.toInt) (hr_a48 : dz_rg a48 100 0 3) (hr_a49 : dz_rg a49 13824 0 1023) (hr_a50 : dz_rg a50 165888 0 3) (hr_a54 : dz_rg a54 12 0 11) (hr_a55 : dz_rg a55 12 0 3) (hr_a56 : dz_rg a56 4 0 3) (hr_a57 : dz_rg a57 4 0 3) (o0 : dz_pq a56 c2_pots.toInt.toNat) (o1 : dz_pm a57 4) (o2 : dz_rw 4 24 a48) (o3 : ∀ t : Int, dz_pp 4 24 a54 a55 t c2_out.toInt.toNat) (o4 : c2_out.toInt ≤ 4 * c2_pots.toInt) (k : Nat) (ih : ∀ j9, j9 < k → p57_X12_layWeights_g4 fu c2_groups c2_pots c2_ranks c2_draws c2_lawful c2_out a48 a49 a50 a54 a55 a56 a57 j9) : ∀ (v1 : Int32) (v2 : Int32) (v3 : Int32) (v4 : Int32) (c2_parts : Int32) (c2_laid : Int32) (a58 : Nat → Int32) (a59 : Nat → Int32) (a60 : Nat → Int64) (a61 : Nat → Int32) (a62 : Nat → Int32) (a63 : Nat → Int32) (a64 : Nat → Int64) (a65 : Nat → Int64), 1 ≤ c2_lawful.toInt → v1.toInt ≤ 2 → 0 ≤ v1.toInt → v2.toInt ≤ 1 → 0 ≤ v2.toInt → v3.toInt ≤ 12 → 0 ≤ v3.toInt → v4.toInt ≤ 14425 → 0 ≤ v4.toInt → c2_parts.toInt ≤ 625 → 625 ≤ c2_parts.toInt → c2_laid.toInt ≤ (-1) → (-1) ≤ c2_laid.toInt → v3.toInt ≤ c2_out.toInt → v3.toInt ≤ v2.toInt + 11 → dz_rg a59 14425 0 16777215 → dz_rg a61 13824 0 13823 → dz_rg a62 16 0 16777215 → dz_pt a63 [1, 5, 25, 125] → dz_lv 24 a58 (c2_pots.toInt.toNat + 1) → dz_hv 4 24 a62 → 0 + 2575530 + (14425 - v4.toInt) * 36 + 18 ≤ ((k : Nat) : Int) → dz_T ((F57_X12_layWeights fu c2_groups c2_pots c2_ranks c2_draws c2_lawful c2_out a48 a49 a50 a54 a55 a56 a57 k).2.2.1 v1 v2 v3 v4 c2_parts c2_laid a58 a59 a60 a61 a62 a63 a64 a65) (fun r => dz_rg r.2.2.2.1 14425 0 16777215 ∧ dz_rg r.2.2.2.2.2.1 13824 0 13823 ∧ dz_rg r.2.2.2.2.2.2.1 16 0 16777215 ∧ dz_pt r.2.2.2.2.2.2.2.1 [1, 5, 25, 125]) := by
  intro v1 v2 v3 v4 c2_parts c2_laid a58 a59 a60 a61 a62 a63 a64 a65 i0 i1 i2 i3 i4 i5 i6 i7 i8 i9 i10 i11 i12 i13 i14 hr_a59 hr_a61 hr_a62 hr_a63 x0 x1 hm
  obtain ⟨k0, rfl⟩ : ∃ x, k = x + 1 := ⟨k - 1, by omega⟩
  show dz_T (s57_X12_layWeights_3 fu c2_groups c2_pots c2_ranks c2_draws c2_lawful c2_out a48 a49 a50 a54 a55 a56 a57 (F57_X12_layWeights fu c2_groups c2_pots c2_ranks c2_draws c2_lawful c2_out a48 a49 a50 a54 a55 a56 a57 k0).2.2.1 (F57_X12_layWeights fu c2_groups c2_pots c2_ranks c2_draws c2_lawful c2_out a48 a49 a50 a54 a55 a56 a57 k0).2.2.2.2.2.1  v1 v2 v3 v4 c2_parts c2_laid a58 a59 a60 a61 a62 a63 a64 a65) _
  unfold s57_X12_layWeights_3
  have hl1 := dz_l1
  have hp1 := dz_add (a := c2_pots) (b := 1) (by omega) (by omega)
  have hle := dz_lve x0 4 14425 (by decide) (i := c2_pots + 1) (by omega) (by omega) (by omega)
  have e1 := dz_l1
  have e2 := dz_add (a := c2_pots) (b := (1 : Int32)) (by omega) (by omega)
  refine dz_Tin (by omega) (by omega) ?_
  refine dz_Tle (fun h3 => ?_) (fun h3 => ?_)
  · skip
    refine dz_Tz (by omega) ?_
    have e4 := dz_divn (a := v3) (b := c2_groups) 4 (by omega) (by omega) (by omega)
    have e5 := dz_l0
    exact (ih k0 (by omega)).2.2.1 v1 v2 v3 (v3 / c2_groups) (0 : Int32) (0 : Int32) c2_parts c2_laid a58 a59 a60 a61 a62 a63 a64 a65 i0 i1 i2 i3 i4 i5 i6 (by omega) (by omega) (by omega) (by omega) (by omega) (by omega) i9 i10 i11 i12 i13 (by omega) (by omega) (by omega) (by omega) (by omega) (by omega) (by omega) i14 (hr_a59) (hr_a61) (hr_a62) (hr_a63) (by exact x0) (by exact x1) (by first | exact hx2 | exact dz_xl0 (by omega) (by omega)) (by omega)
  · skip
    refine dz_Tin (by omega) (by omega) ?_
    have e6 := dz_add (a := v4) (b := (1 : Int32)) (by omega) (by omega)
    exact (ih k0 (by omega)).2.1 v1 v2 v3 (v4 + (1 : Int32)) c2_parts c2_laid a58 a59 (vp_updL a60 v4.toNatClampNeg 0) a61 a62 a63 a64 a65 i0 i1 i2 i3 i4 i5 i6 (by omega) (by omega) i9 i10 i11 i12 i13 i14 (hr_a59) (hr_a61) (hr_a62) (hr_a63) (by exact x0) (by exact x1) (by omega)
set_option maxHeartbeats 4000000 in
set_option maxRecDepth 10000 in
theorem t57_X12_layWeights_h6_g4 (fu : Nat) (hfu : 1000000000000 ≤ fu) (c2_groups : Int32) (c2_pots : Int32) (c2_ranks : Int32) (c2_draws : Int32) (c2_lawful : Int32) (c2_out : Int32) (a48 : Nat → Int32) (a49 : Nat → Int32) (a50 : Nat → Int32) (a54 : Nat → Int32) (a55 : Nat → Int32) (a56 : Nat → Int32) (a57 : Nat → Int32) (p0 : c2_groups.toInt ≤ 4) (p1 : 4 ≤ c2_groups.toInt) (p2 : c2_pots.toInt ≤ 3) (p3 : 0 ≤ c2_pots.toInt) (p4 : c2_ranks.toInt ≤ 24) (p5 : 24 ≤ c2_ranks.toInt) (p6 : c2_draws.toInt ≤ 13824) (p7 : 1 ≤ c2_draws.toInt) (p8 : c2_lawful.toInt ≤ 13824) (p9 : 0 ≤ c2_lawful.toInt) (p10 : c2_out.toInt ≤ 12) (p11 : 0 ≤ c2_out.toInt) (p12 : c2_lawful.toInt ≤ c2_draws.toInt) (hr_a48 : dz_rg a48 100 0 3) (hr_a49 : dz_rg a49 13824 0 1023) (hr_a50 : dz_rg a50 165888 0 3) (hr_a54 : dz_rg a54 12 0 11) (hr_a55 : dz_rg a55 12 0 3) (hr_a56 : dz_rg a56 4 0 3) (hr_a57 : dz_rg a57 4 0 3) (o0 : dz_pq a56 c2_pots.toInt.toNat) (o1 : dz_pm a57 4) (o2 : dz_rw 4 24 a48) (o3 : ∀ t : Int, dz_pp 4 24 a54 a55 t c2_out.toInt.toNat) (o4 : c2_out.toInt ≤ 4 * c2_pots.toInt) (k : Nat) (ih : ∀ j9, j9 < k → p57_X12_layWeights_g4 fu c2_groups c2_pots c2_ranks c2_draws c2_lawful c2_out a48 a49 a50 a54 a55 a56 a57 j9) : ∀ (v1 : Int32) (v2 : Int32) (v3 : Int32) (v4 : Int32) (v5 : Int32) (v6 : Int32) (c2_parts : Int32) (c2_laid : Int32) (a58 : Nat → Int32) (a59 : Nat → Int32) (a60 : Nat → Int64) (a61 : Nat → Int32) (a62 : Nat → Int32) (a63 : Nat → Int32) (a64 : Nat → Int64) (a65 : Nat → Int64), 1 ≤ c2_lawful.toInt → v1.toInt ≤ 2 → 0 ≤ v1.toInt → v2.toInt ≤ 1 → 0 ≤ v2.toInt → v3.toInt ≤ 12 → 0 ≤ v3.toInt → v4.toInt ≤ 3 → 0 ≤ v4.toInt → v5.toInt ≤ 13823 → 0 ≤ v5.toInt → v6.toInt ≤ 3 → 0 ≤ v6.toInt → c2_parts.toInt ≤ 625 → 625 ≤ c2_parts.toInt → c2_laid.toInt ≤ (-1) → (-1) ≤ c2_laid.toInt → v3.toInt ≤ c2_out.toInt → v4.toInt ≤ c2_out.toInt → v4.toInt ≤ c2_pots.toInt → v4.toInt ≤ v3.toInt → v6.toInt ≤ c2_out.toInt → v6.toInt ≤ c2_pots.toInt → v6.toInt ≤ v3.toInt → v6.toInt ≤ v4.toInt → v3.toInt ≤ v2.toInt + 11 → dz_rg a59 14425 0 16777215 → dz_rg a61 13824 0 13823 → dz_rg a62 16 0 16777215 → dz_pt a63 [1, 5, 25, 125] → dz_lv 24 a58 (c2_pots.toInt.toNat + 1) → dz_hv 4 24 a62 → dz_xl 24 v5 v6 → 0 + 2575368 + (3 - v6.toInt) * 36 + 18 ≤ ((k : Nat) : Int) → dz_T ((F57_X12_layWeights fu c2_groups c2_pots c2_ranks c2_draws c2_lawful c2_out a48 a49 a50 a54 a55 a56 a57 k).2.2.2.2.2.1 v1 v2 v3 v4 v5 v6 c2_parts c2_laid a58 a59 a60 a61 a62 a63 a64 a65) (fun r => dz_rg r.2.2.2.1 14425 0 16777215 ∧ dz_rg r.2.2.2.2.2.1 13824 0 13823 ∧ dz_rg r.2.2.2.2.2.2.1 16 0 16777215 ∧ dz_pt r.2.2.2.2.2.2.2.1 [1, 5, 25, 125]) := by
  intro v1 v2 v3 v4 v5 v6 c2_parts c2_laid a58 a59 a60 a61 a62 a63 a64 a65 i0 i1 i2 i3 i4 i5 i6 i7 i8 i9 i10 i11 i12 i13 i14 i15 i16 i17 i18 i19 i20 i21 i22 i23 i24 i25 hr_a59 hr_a61 hr_a62 hr_a63 x0 x1 x2 hm
  obtain ⟨k0, rfl⟩ : ∃ x, k = x + 1 := ⟨k - 1, by omega⟩
  show dz_T (s57_X12_layWeights_6 fu c2_groups c2_pots c2_ranks c2_draws c2_lawful c2_out a48 a49 a50 a54 a55 a56 a57 (F57_X12_layWeights fu c2_groups c2_pots c2_ranks c2_draws c2_lawful c2_out a48 a49 a50 a54 a55 a56 a57 k0).2.2.2.2.2.1 (F57_X12_layWeights fu c2_groups c2_pots c2_ranks c2_draws c2_lawful c2_out a48 a49 a50 a54 a55 a56 a57 k0).2.2.2.2.2.2.1  v1 v2 v3 v4 v5 v6 c2_parts c2_laid a58 a59 a60 a61 a62 a63 a64 a65) _
  unfold s57_X12_layWeights_6
  have hlw := dz_lvw (k := v4) x0 x2 4 14425 (by decide) (by decide) (by omega) (by omega) (by omega)
  have hpq := dz_pqat o0 (i := v6)
  refine dz_Tle (fun h1 => ?_) (fun h1 => ?_)
  · skip
    refine dz_Tin (by omega) (by omega) ?_
    have e2 := dz_rng (a58 v4.toNatClampNeg)
    refine dz_Tin (by omega) (by omega) ?_
    have e3 := dz_l1
    have e4 := dz_sub (a := c2_parts) (b := (1 : Int32)) (by omega) (by omega)
    exact (ih k0 (by omega)).2.2.2.1 v1 v2 v3 v4 (c2_parts - (1 : Int32)) v4 c2_parts c2_laid a58 a59 (vp_updL a60 ((a58 v4.toNatClampNeg) + v5).toNatClampNeg 1) a61 a62 a63 a64 a65 i0 i1 i2 i3 i4 i5 i6 i7 i8 (by omega) (by omega) i7 i8 i13 i14 i15 i16 i17 i18 i19 i20 (by first | assumption | omega) i19 i25 (hr_a59) (hr_a61) (hr_a62) (hr_a63) (by exact x0) (by exact x1) (by omega)
  · skip
    refine dz_Tin (by omega) (by omega) ?_
    have e5 := dz_rgat (hr_a56) (i := v6) (by omega) (by omega)
    refine dz_Tb (t56_X12_placedPart_g4 fu hfu _ _ _ _ _ _ _ p0 p1 i6 i5 i13 i14 (hr_a54) (hr_a55) (hr_a63) (dz_ppm (o3 _) (by omega))) (fun r1 q => ?_)
    obtain ⟨q1_0, q1_1, qo1_0⟩ := q
    refine dz_Tb (t55_X12_rankOf_g4 fu hfu _ _ _ _ _ p0 p1 p4 p5 q1_0 q1_1 (hr_a62) (hr_a63) (x1) (qo1_0)) (fun r2 q => ?_)
    obtain ⟨q2_0, q2_1, qo2_0, qo2_1⟩ := q
    have hl1 := dz_l1
    have hk1 := dz_add (a := v6) (b := 1) (by omega) (by omega)
    have hm1 := dz_mulr (a := v5) (b := c2_ranks) 24 (by omega) (by omega) (by omega)
    have hm2 := dz_add (a := v5 * c2_ranks) (b := r2) (by omega) (by omega)
    have hx2 : dz_xl 24 ((v5 * c2_ranks) + r2) (v6 + 1) := dz_xls x2 (by omega) (by omega) (r := r2) (by omega) (by omega) (by omega)
    have hb2 := dz_xlb hx2 3 13824 (by decide) (by decide) (by omega)
    have e6 := dz_mulr (a := v5) (b := c2_ranks) 24 (by omega) (by omega) (by omega)
    have e7 := dz_add (a := (v5 * c2_ranks)) (b := r2) (by omega) (by omega)
    have e8 := dz_l1
    have e9 := dz_add (a := v6) (b := (1 : Int32)) (by omega) (by omega)
    exact (ih k0 (by omega)).2.2.1 v1 v2 v3 v4 ((v5 * c2_ranks) + r2) (v6 + (1 : Int32)) c2_parts c2_laid a58 a59 a60 a61 a62 a63 a64 a65 i0 i1 i2 i3 i4 i5 i6 i7 i8 (by omega) (by omega) (by omega) (by omega) i13 i14 i15 i16 i17 i18 i19 i20 (by omega) (by omega) (by omega) (by omega) i25 (hr_a59) (hr_a61) (hr_a62) (hr_a63) (by exact x0) (by exact x1) (by first | exact hx2 | exact dz_xl0 (by omega) (by omega)) (by omega)
set_option maxHeartbeats 4000000 in
set_option maxRecDepth 10000 in
theorem t57_X12_layWeights_h7_g4 (fu : Nat) (hfu : 1000000000000 ≤ fu) (c2_groups : Int32) (c2_pots : Int32) (c2_ranks : Int32) (c2_draws : Int32) (c2_lawful : Int32) (c2_out : Int32) (a48 : Nat → Int32) (a49 : Nat → Int32) (a50 : Nat → Int32) (a54 : Nat → Int32) (a55 : Nat → Int32) (a56 : Nat → Int32) (a57 : Nat → Int32) (p0 : c2_groups.toInt ≤ 4) (p1 : 4 ≤ c2_groups.toInt) (p2 : c2_pots.toInt ≤ 3) (p3 : 0 ≤ c2_pots.toInt) (p4 : c2_ranks.toInt ≤ 24) (p5 : 24 ≤ c2_ranks.toInt) (p6 : c2_draws.toInt ≤ 13824) (p7 : 1 ≤ c2_draws.toInt) (p8 : c2_lawful.toInt ≤ 13824) (p9 : 0 ≤ c2_lawful.toInt) (p10 : c2_out.toInt ≤ 12) (p11 : 0 ≤ c2_out.toInt) (p12 : c2_lawful.toInt ≤ c2_draws.toInt) (hr_a48 : dz_rg a48 100 0 3) (hr_a49 : dz_rg a49 13824 0 1023) (hr_a50 : dz_rg a50 165888 0 3) (hr_a54 : dz_rg a54 12 0 11) (hr_a55 : dz_rg a55 12 0 3) (hr_a56 : dz_rg a56 4 0 3) (hr_a57 : dz_rg a57 4 0 3) (o0 : dz_pq a56 c2_pots.toInt.toNat) (o1 : dz_pm a57 4) (o2 : dz_rw 4 24 a48) (o3 : ∀ t : Int, dz_pp 4 24 a54 a55 t c2_out.toInt.toNat) (o4 : c2_out.toInt ≤ 4 * c2_pots.toInt) (k : Nat) (ih : ∀ j9, j9 < k → p57_X12_layWeights_g4 fu c2_groups c2_pots c2_ranks c2_draws c2_lawful c2_out a48 a49 a50 a54 a55 a56 a57 j9) : ∀ (v1 : Int32) (v2 : Int32) (v3 : Int32) (v4 : Int32) (v6 : Int32) (v7 : Int32) (c2_parts : Int32) (c2_laid : Int32) (a58 : Nat → Int32) (a59 : Nat → Int32) (a60 : Nat → Int64) (a61 : Nat → Int32) (a62 : Nat → Int32) (a63 : Nat → Int32) (a64 : Nat → Int64) (a65 : Nat → Int64), 1 ≤ c2_lawful.toInt → v1.toInt ≤ 2 → 0 ≤ v1.toInt → v2.toInt ≤ 1 → 0 ≤ v2.toInt → v3.toInt ≤ 12 → 0 ≤ v3.toInt → v4.toInt ≤ 3 → 0 ≤ v4.toInt → v6.toInt ≤ 624 → 624 ≤ v6.toInt → v7.toInt ≤ 3 → 0 ≤ v7.toInt → c2_parts.toInt ≤ 625 → 625 ≤ c2_parts.toInt → c2_laid.toInt ≤ (-1) → (-1) ≤ c2_laid.toInt → v3.toInt ≤ c2_out.toInt → v4.toInt ≤ c2_out.toInt → v4.toInt ≤ c2_pots.toInt → v4.toInt ≤ v3.toInt → v4.toInt ≤ v7.toInt → v7.toInt ≤ c2_pots.toInt → v3.toInt ≤ v2.toInt + 11 → dz_rg a59 14425 0 16777215 → dz_rg a61 13824 0 13823 → dz_rg a62 16 0 16777215 → dz_pt a63 [1, 5, 25, 125] → dz_lv 24 a58 (c2_pots.toInt.toNat + 1) → dz_hv 4 24 a62 → 0 + 497718 + (3 - v7.toInt) * 519408 + 18 ≤ ((k : Nat) : Int) → dz_T ((F57_X12_layWeights fu c2_groups c2_pots c2_ranks c2_draws c2_lawful c2_out a48 a49 a50 a54 a55 a56 a57 k).2.2.2.2.2.2.1 v1 v2 v3 v4 v6 v7 c2_parts c2_laid a58 a59 a60 a61 a62 a63 a64 a65) (fun r => dz_rg r.2.2.2.1 14425 0 16777215 ∧ dz_rg r.2.2.2.2.2.1 13824 0 13823 ∧ dz_rg r.2.2.2.2.2.2.1 16 0 16777215 ∧ dz_pt r.2.2.2.2.2.2.2.1 [1, 5, 25, 125]) := by
  intro v1 v2 v3 v4 v6 v7 c2_parts c2_laid a58 a59 a60 a61 a62 a63 a64 a65 i0 i1 i2 i3 i4 i5 i6 i7 i8 i9 i10 i11 i12 i13 i14 i15 i16 i17 i18 i19 i20 i21 i22 i23 hr_a59 hr_a61 hr_a62 hr_a63 x0 x1 hm
  obtain ⟨k0, rfl⟩ : ∃ x, k = x + 1 := ⟨k - 1, by omega⟩
  show dz_T (s57_X12_layWeights_7 fu c2_groups c2_pots c2_ranks c2_draws c2_lawful c2_out a48 a49 a50 a54 a55 a56 a57 (F57_X12_layWeights fu c2_groups c2_pots c2_ranks c2_draws c2_lawful c2_out a48 a49 a50 a54 a55 a56 a57 k0).2.2.2.2.2.2.2.1 (F57_X12_layWeights fu c2_groups c2_pots c2_ranks c2_draws c2_lawful c2_out a48 a49 a50 a54 a55 a56 a57 k0).2.2.2.2.2.2.2.2.1 (F57_X12_layWeights fu c2_groups c2_pots c2_ranks c2_draws c2_lawful c2_out a48 a49 a50 a54 a55 a56 a57 k0).2.2.2.2.2.2.2.2.2.1  v1 v2 v3 v4 v6 v7 c2_parts c2_laid a58 a59 a60 a61 a62 a63 a64 a65) _
  unfold s57_X12_layWeights_7
  have hpq := dz_pqat o0 (i := v7)
  refine dz_Tle (fun h1 => ?_) (fun h1 => ?_)
  · skip
    have e2 := dz_l0
    exact (ih k0 (by omega)).2.2.2.2.1 (0 : Int32) c2_parts c2_laid a58 a59 a60 a61 a62 a63 a64 a65 i0 (by omega) (by omega) i13 i14 i15 i16 (by omega) (hr_a59) (hr_a61) (hr_a62) (hr_a63) (by exact x0) (by exact x1) (by omega)
  · skip
    refine dz_Teq (fun h3 => ?_) (fun h3 => ?_)
    · skip
      have e4 := dz_l0
      refine dz_Teq (fun h5 => ?_) (fun h5 => ?_)
      · skip
        obtain ⟨k1, rfl⟩ : ∃ x, k0 = x + 1 := ⟨k0 - 1, by omega⟩
        show dz_T (s57_X12_layWeights_9 fu c2_groups c2_pots c2_ranks c2_draws c2_lawful c2_out a48 a49 a50 a54 a55 a56 a57 (F57_X12_layWeights fu c2_groups c2_pots c2_ranks c2_draws c2_lawful c2_out a48 a49 a50 a54 a55 a56 a57 k1).2.2.2.2.2.2.2.2.2.1 v1 v2 v3 v4 v6 v7 c2_parts c2_laid a58 a59 a60 a61 a62 a63 a64 a65) _
        unfold s57_X12_layWeights_9
        obtain ⟨k2, rfl⟩ : ∃ x, k1 = x + 1 := ⟨k1 - 1, by omega⟩
        show dz_T (s57_X12_layWeights_10 fu c2_groups c2_pots c2_ranks c2_draws c2_lawful c2_out a48 a49 a50 a54 a55 a56 a57 (F57_X12_layWeights fu c2_groups c2_pots c2_ranks c2_draws c2_lawful c2_out a48 a49 a50 a54 a55 a56 a57 k2).2.2.2.2.2.2.2.2.2.2.2.1 v1 v2 v3 v4 v6 v7 v6 c2_parts c2_laid a58 a59 a60 a61 a62 a63 a64 a65) _
        unfold s57_X12_layWeights_10
        exact (ih k2 (by omega)).2.2.2.2.2 v1 v2 v3 v4 v6 v7 v6 (0 : Int32) c2_parts c2_laid a58 a59 a60 a61 a62 a63 a64 a65 (by first | assumption | omega) i0 i1 i2 i3 i4 i5 i6 (by first | assumption | omega) i8 i9 i10 (by first | assumption | omega) i12 i9 (by first | assumption | omega) (by omega) (by omega) i13 i14 i15 i16 (by first | assumption | omega) (by first | assumption | omega) i17 i18 i20 i21 i23 (hr_a59) (hr_a61) (hr_a62) (hr_a63) (by exact x0) (by exact x1) (by omega)
      · skip
        refine dz_Tin (by omega) (by omega) ?_
        have e6 := dz_rgat (hr_a56) (i := v7) (by omega) (by omega)
        refine dz_Tb (t56_X12_placedPart_g4 fu hfu _ _ _ _ _ _ _ p0 p1 i6 i5 i13 i14 (hr_a54) (hr_a55) (hr_a63) (dz_ppm (o3 _) (by omega))) (fun r1 q => ?_)
        obtain ⟨q1_0, q1_1, qo1_0⟩ := q
        obtain ⟨k3, rfl⟩ : ∃ x, k0 = x + 1 := ⟨k0 - 1, by omega⟩
        show dz_T (s57_X12_layWeights_10 fu c2_groups c2_pots c2_ranks c2_draws c2_lawful c2_out a48 a49 a50 a54 a55 a56 a57 (F57_X12_layWeights fu c2_groups c2_pots c2_ranks c2_draws c2_lawful c2_out a48 a49 a50 a54 a55 a56 a57 k3).2.2.2.2.2.2.2.2.2.2.2.1 v1 v2 v3 v4 v6 v7 r1 c2_parts c2_laid a58 a59 a60 a61 a62 a63 a64 a65) _
        unfold s57_X12_layWeights_10
        exact (ih k3 (by omega)).2.2.2.2.2 v1 v2 v3 v4 v6 v7 r1 (0 : Int32) c2_parts c2_laid a58 a59 a60 a61 a62 a63 a64 a65 (by first | assumption | omega) i0 i1 i2 i3 i4 i5 i6 (by first | assumption | omega) i8 i9 i10 (by first | assumption | omega) i12 q1_1 q1_0 (by omega) (by omega) i13 i14 i15 i16 (by first | assumption | omega) (by first | assumption | omega) i17 i18 i20 i21 i23 (hr_a59) (hr_a61) (hr_a62) (hr_a63) (by exact x0) (by exact x1) (by omega)
    · skip
      obtain ⟨k4, rfl⟩ : ∃ x, k0 = x + 1 := ⟨k0 - 1, by omega⟩
      show dz_T (s57_X12_layWeights_9 fu c2_groups c2_pots c2_ranks c2_draws c2_lawful c2_out a48 a49 a50 a54 a55 a56 a57 (F57_X12_layWeights fu c2_groups c2_pots c2_ranks c2_draws c2_lawful c2_out a48 a49 a50 a54 a55 a56 a57 k4).2.2.2.2.2.2.2.2.2.1 v1 v2 v3 v4 v6 v7 c2_parts c2_laid a58 a59 a60 a61 a62 a63 a64 a65) _
      unfold s57_X12_layWeights_9
      obtain ⟨k5, rfl⟩ : ∃ x, k4 = x + 1 := ⟨k4 - 1, by omega⟩
      show dz_T (s57_X12_layWeights_10 fu c2_groups c2_pots c2_ranks c2_draws c2_lawful c2_out a48 a49 a50 a54 a55 a56 a57 (F57_X12_layWeights fu c2_groups c2_pots c2_ranks c2_draws c2_lawful c2_out a48 a49 a50 a54 a55 a56 a57 k5).2.2.2.2.2.2.2.2.2.2.2.1 v1 v2 v3 v4 v6 v7 v6 c2_parts c2_laid a58 a59 a60 a61 a62 a63 a64 a65) _
      unfold s57_X12_layWeights_10
      have e7 := dz_l0
      exact (ih k5 (by omega)).2.2.2.2.2 v1 v2 v3 v4 v6 v7 v6 (0 : Int32) c2_parts c2_laid a58 a59 a60 a61 a62 a63 a64 a65 (by first | assumption | omega) i0 i1 i2 i3 i4 i5 i6 (by first | assumption | omega) i8 i9 i10 (by first | assumption | omega) i12 i9 (by first | assumption | omega) (by omega) (by omega) i13 i14 i15 i16 (by first | assumption | omega) (by first | assumption | omega) i17 i18 i20 i21 i23 (hr_a59) (hr_a61) (hr_a62) (hr_a63) (by exact x0) (by exact x1) (by omega)
set_option maxHeartbeats 4000000 in
set_option maxRecDepth 10000 in
theorem t57_X12_layWeights_h8_g4 (fu : Nat) (hfu : 1000000000000 ≤ fu) (c2_groups : Int32) (c2_pots : Int32) (c2_ranks : Int32) (c2_draws : Int32) (c2_lawful : Int32) (c2_out : Int32) (a48 : Nat → Int32) (a49 : Nat → Int32) (a50 : Nat → Int32) (a54 : Nat → Int32) (a55 : Nat → Int32) (a56 : Nat → Int32) (a57 : Nat → Int32) (p0 : c2_groups.toInt ≤ 4) (p1 : 4 ≤ c2_groups.toInt) (p2 : c2_pots.toInt ≤ 3) (p3 : 0 ≤ c2_pots.toInt) (p4 : c2_ranks.toInt ≤ 24) (p5 : 24 ≤ c2_ranks.toInt) (p6 : c2_draws.toInt ≤ 13824) (p7 : 1 ≤ c2_draws.toInt) (p8 : c2_lawful.toInt ≤ 13824) (p9 : 0 ≤ c2_lawful.toInt) (p10 : c2_out.toInt ≤ 12) (p11 : 0 ≤ c2_out.toInt) (p12 : c2_lawful.toInt ≤ c2_draws.toInt) (hr_a48 : dz_rg a48 100 0 3) (hr_a49 : dz_rg a49 13824 0 1023) (hr_a50 : dz_rg a50 165888 0 3) (hr_a54 : dz_rg a54 12 0 11) (hr_a55 : dz_rg a55 12 0 3) (hr_a56 : dz_rg a56 4 0 3) (hr_a57 : dz_rg a57 4 0 3) (o0 : dz_pq a56 c2_pots.toInt.toNat) (o1 : dz_pm a57 4) (o2 : dz_rw 4 24 a48) (o3 : ∀ t : Int, dz_pp 4 24 a54 a55 t c2_out.toInt.toNat) (o4 : c2_out.toInt ≤ 4 * c2_pots.toInt) (k : Nat) (ih : ∀ j9, j9 < k → p57_X12_layWeights_g4 fu c2_groups c2_pots c2_ranks c2_draws c2_lawful c2_out a48 a49 a50 a54 a55 a56 a57 j9) : ∀ (v7 : Int32) (c2_parts : Int32) (c2_laid : Int32) (a58 : Nat → Int32) (a59 : Nat → Int32) (a60 : Nat → Int64) (a61 : Nat → Int32) (a62 : Nat → Int32) (a63 : Nat → Int32) (a64 : Nat → Int64) (a65 : Nat → Int64), 1 ≤ c2_lawful.toInt → v7.toInt ≤ 13824 → 0 ≤ v7.toInt → c2_parts.toInt ≤ 625 → 625 ≤ c2_parts.toInt → c2_laid.toInt ≤ (-1) → (-1) ≤ c2_laid.toInt → v7.toInt ≤ c2_draws.toInt → dz_rg a59 14425 0 16777215 → dz_rg a61 13824 0 13823 → dz_rg a62 16 0 16777215 → dz_pt a63 [1, 5, 25, 125] → dz_lv 24 a58 (c2_pots.toInt.toNat + 1) → dz_hv 4 24 a62 → 0 + 0 + (13824 - v7.toInt) * 36 + 18 ≤ ((k : Nat) : Int) → dz_T ((F57_X12_layWeights fu c2_groups c2_pots c2_ranks c2_draws c2_lawful c2_out a48 a49 a50 a54 a55 a56 a57 k).2.2.2.2.2.2.2.1 v7 c2_parts c2_laid a58 a59 a60 a61 a62 a63 a64 a65) (fun r => dz_rg r.2.2.2.1 14425 0 16777215 ∧ dz_rg r.2.2.2.2.2.1 13824 0 13823 ∧ dz_rg r.2.2.2.2.2.2.1 16 0 16777215 ∧ dz_pt r.2.2.2.2.2.2.2.1 [1, 5, 25, 125]) := by
  intro v7 c2_parts c2_laid a58 a59 a60 a61 a62 a63 a64 a65 i0 i1 i2 i3 i4 i5 i6 i7 hr_a59 hr_a61 hr_a62 hr_a63 x0 x1 hm
  obtain ⟨k0, rfl⟩ : ∃ x, k = x + 1 := ⟨k - 1, by omega⟩
  show dz_T (s57_X12_layWeights_8 fu c2_groups c2_pots c2_ranks c2_draws c2_lawful c2_out a48 a49 a50 a54 a55 a56 a57 (F57_X12_layWeights fu c2_groups c2_pots c2_ranks c2_draws c2_lawful c2_out a48 a49 a50 a54 a55 a56 a57 k0).2.2.2.2.2.2.2.2.2.2.1  v7 c2_parts c2_laid a58 a59 a60 a61 a62 a63 a64 a65) _
  unfold s57_X12_layWeights_8
  have hle := dz_lve x0 3 601 (by decide) (i := c2_pots) (by omega) (by omega) (by omega)
  have hs8 := dz_rgor hr_a61 (i := v7) (x := a58 c2_pots.toNatClampNeg) (by omega) (by omega) (by omega) (by omega) (by omega)
  refine dz_Tle (fun h1 => ?_) (fun h1 => ?_)
  · skip
    refine dz_Ts ?_
    dsimp only
    exact ⟨(hr_a59), (hr_a61), (hr_a62), (hr_a63)⟩
  · skip
    refine dz_Tin (by omega) (by omega) ?_
    have e2 := dz_rgat (hr_a49) (i := v7) (by omega) (by omega)
    have e3 := dz_l0
    refine dz_Teq (fun h4 => ?_) (fun h4 => ?_)
    · skip
      refine dz_Tin (by omega) (by omega) ?_
      refine dz_Tin (by omega) (by omega) ?_
      have e5 := dz_rgat (hr_a61) (i := v7) (by omega) (by omega)
      have e6 := dz_rng (a58 c2_pots.toNatClampNeg)
      refine dz_Tin (by omega) (by omega) ?_
      obtain ⟨k1, rfl⟩ : ∃ x, k0 = x + 1 := ⟨k0 - 1, by omega⟩
      show dz_T (s57_X12_layWeights_11 fu c2_groups c2_pots c2_ranks c2_draws c2_lawful c2_out a48 a49 a50 a54 a55 a56 a57 (F57_X12_layWeights fu c2_groups c2_pots c2_ranks c2_draws c2_lawful c2_out a48 a49 a50 a54 a55 a56 a57 k1).2.2.2.2.2.2.2.1 v7 (a60 ((a58 c2_pots.toNatClampNeg) + (a61 v7.toNatClampNeg)).toNatClampNeg) v7 c2_parts c2_laid a58 a59 a60 a61 a62 a63 a64 a65) _
      unfold s57_X12_layWeights_11
      refine dz_Tin (by omega) (by omega) ?_
      have e7 := dz_l1
      have e8 := dz_add (a := v7) (b := (1 : Int32)) (by omega) (by omega)
      exact (ih k1 (by omega)).2.2.2.2.1 (v7 + (1 : Int32)) c2_parts c2_laid a58 a59 a60 a61 a62 a63 a64 (vp_updL a65 v7.toNatClampNeg (a60 ((a58 c2_pots.toNatClampNeg) + (a61 v7.toNatClampNeg)).toNatClampNeg)) i0 (by omega) (by omega) i3 i4 i5 i6 (by omega) (hr_a59) (hr_a61) (hr_a62) (hr_a63) (by exact x0) (by exact x1) (by omega)
    · skip
      obtain ⟨k2, rfl⟩ : ∃ x, k0 = x + 1 := ⟨k0 - 1, by omega⟩
      show dz_T (s57_X12_layWeights_11 fu c2_groups c2_pots c2_ranks c2_draws c2_lawful c2_out a48 a49 a50 a54 a55 a56 a57 (F57_X12_layWeights fu c2_groups c2_pots c2_ranks c2_draws c2_lawful c2_out a48 a49 a50 a54 a55 a56 a57 k2).2.2.2.2.2.2.2.1 v7 (0 : Int64) v7 c2_parts c2_laid a58 a59 a60 a61 a62 a63 a64 a65) _
      unfold s57_X12_layWeights_11
      refine dz_Tin (by omega) (by omega) ?_
      have e9 := dz_l1
      have e10 := dz_add (a := v7) (b := (1 : Int32)) (by omega) (by omega)
      exact (ih k2 (by omega)).2.2.2.2.1 (v7 + (1 : Int32)) c2_parts c2_laid a58 a59 a60 a61 a62 a63 a64 (vp_updL a65 v7.toNatClampNeg 0) i0 (by omega) (by omega) i3 i4 i5 i6 (by omega) (hr_a59) (hr_a61) (hr_a62) (hr_a63) (by exact x0) (by exact x1) (by omega)
set_option maxHeartbeats 4000000 in
set_option maxRecDepth 10000 in
theorem t57_X12_layWeights_h12_g4 (fu : Nat) (hfu : 1000000000000 ≤ fu) (c2_groups : Int32) (c2_pots : Int32) (c2_ranks : Int32) (c2_draws : Int32) (c2_lawful : Int32) (c2_out : Int32) (a48 : Nat → Int32) (a49 : Nat → Int32) (a50 : Nat → Int32) (a54 : Nat → Int32) (a55 : Nat → Int32) (a56 : Nat → Int32) (a57 : Nat → Int32) (p0 : c2_groups.toInt ≤ 4) (p1 : 4 ≤ c2_groups.toInt) (p2 : c2_pots.toInt ≤ 3) (p3 : 0 ≤ c2_pots.toInt) (p4 : c2_ranks.toInt ≤ 24) (p5 : 24 ≤ c2_ranks.toInt) (p6 : c2_draws.toInt ≤ 13824) (p7 : 1 ≤ c2_draws.toInt) (p8 : c2_lawful.toInt ≤ 13824) (p9 : 0 ≤ c2_lawful.toInt) (p10 : c2_out.toInt ≤ 12) (p11 : 0 ≤ c2_out.toInt) (p12 : c2_lawful.toInt ≤ c2_draws.toInt) (hr_a48 : dz_rg a48 100 0 3) (hr_a49 : dz_rg a49 13824 0 1023) (hr_a50 : dz_rg a50 165888 0 3) (hr_a54 : dz_rg a54 12 0 11) (hr_a55 : dz_rg a55 12 0 3) (hr_a56 : dz_rg a56 4 0 3) (hr_a57 : dz_rg a57 4 0 3) (o0 : dz_pq a56 c2_pots.toInt.toNat) (o1 : dz_pm a57 4) (o2 : dz_rw 4 24 a48) (o3 : ∀ t : Int, dz_pp 4 24 a54 a55 t c2_out.toInt.toNat) (o4 : c2_out.toInt ≤ 4 * c2_pots.toInt) (k : Nat) (ih : ∀ j9, j9 < k → p57_X12_layWeights_g4 fu c2_groups c2_pots c2_ranks c2_draws c2_lawful c2_out a48 a49 a50 a54 a55 a56 a57 j9) : ∀ (v1 : Int32) (v2 : Int32) (v3 : Int32) (v4 : Int32) (v6 : Int32) (v7 : Int32) (v8 : Int32) (v9 : Int32) (c2_parts : Int32) (c2_laid : Int32) (a58 : Nat → Int32) (a59 : Nat → Int32) (a60 : Nat → Int64) (a61 : Nat → Int32) (a62 : Nat → Int32) (a63 : Nat → Int32) (a64 : Nat → Int64) (a65 : Nat → Int64), 1 ≤ c2_pots.toInt → 1 ≤ c2_lawful.toInt → v1.toInt ≤ 2 → 0 ≤ v1.toInt → v2.toInt ≤ 1 → 0 ≤ v2.toInt → v3.toInt ≤ 12 → 0 ≤ v3.toInt → v4.toInt ≤ 2 → 0 ≤ v4.toInt → v6.toInt ≤ 624 → 624 ≤ v6.toInt → v7.toInt ≤ 2 → 0 ≤ v7.toInt → v8.toInt ≤ 624 → 0 ≤ v8.toInt → v9.toInt ≤ 14425 → 0 ≤ v9.toInt → c2_parts.toInt ≤ 625 → 625 ≤ c2_parts.toInt → c2_laid.toInt ≤ (-1) → (-1) ≤ c2_laid.toInt → v4.toInt + 1 ≤ c2_pots.toInt → v7.toInt + 1 ≤ c2_pots.toInt → v3.toInt ≤ c2_out.toInt → v4.toInt ≤ c2_out.toInt → v4.toInt ≤ v3.toInt → v4.toInt ≤ v7.toInt → v3.toInt ≤ v2.toInt + 11 → dz_rg a59 14425 0 16777215 → dz_rg a61 13824 0 13823 → dz_rg a62 16 0 16777215 → dz_pt a63 [1, 5, 25, 125] → dz_lv 24 a58 (c2_pots.toInt.toNat + 1) → dz_hv 4 24 a62 → 0 + 497718 + ((3 - v7.toInt) - 1) * 519408 + 0 + (14425 - v9.toInt) * 36 + 36 ≤ ((k : Nat) : Int) → dz_T ((F57_X12_layWeights fu c2_groups c2_pots c2_ranks c2_draws c2_lawful c2_out a48 a49 a50 a54 a55 a56 a57 k).2.2.2.2.2.2.2.2.2.2.2.1 v1 v2 v3 v4 v6 v7 v8 v9 c2_parts c2_laid a58 a59 a60 a61 a62 a63 a64 a65) (fun r => dz_rg r.2.2.2.1 14425 0 16777215 ∧ dz_rg r.2.2.2.2.2.1 13824 0 13823 ∧ dz_rg r.2.2.2.2.2.2.1 16 0 16777215 ∧ dz_pt r.2.2.2.2.2.2.2.1 [1, 5, 25, 125]) := by
  intro v1 v2 v3 v4 v6 v7 v8 v9 c2_parts c2_laid a58 a59 a60 a61 a62 a63 a64 a65 i0 i1 i2 i3 i4 i5 i6 i7 i8 i9 i10 i11 i12 i13 i14 i15 i16 i17 i18 i19 i20 i21 i22 i23 i24 i25 i26 i27 i28 hr_a59 hr_a61 hr_a62 hr_a63 x0 x1 hm
  obtain ⟨k0, rfl⟩ : ∃ x, k = x + 1 := ⟨k - 1, by omega⟩
  show dz_T (s57_X12_layWeights_12 fu c2_groups c2_pots c2_ranks c2_draws c2_lawful c2_out a48 a49 a50 a54 a55 a56 a57 (F57_X12_layWeights fu c2_groups c2_pots c2_ranks c2_draws c2_lawful c2_out a48 a49 a50 a54 a55 a56 a57 k0).2.2.2.2.2.2.1 (F57_X12_layWeights fu c2_groups c2_pots c2_ranks c2_draws c2_lawful c2_out a48 a49 a50 a54 a55 a56 a57 k0).2.2.2.2.2.2.2.2.2.2.2.2.1 (F57_X12_layWeights fu c2_groups c2_pots c2_ranks c2_draws c2_lawful c2_out a48 a49 a50 a54 a55 a56 a57 k0).2.2.2.2.2.2.2.2.2.2.2.2.2  v1 v2 v3 v4 v6 v7 v8 v9 c2_parts c2_laid a58 a59 a60 a61 a62 a63 a64 a65) _
  unfold s57_X12_layWeights_12
  have hl1 := dz_l1
  have hk1 := dz_add (a := v7) (b := 1) (by omega) (by omega)
  have hlq := dz_lvq (k := v7) (k' := v7 + 1) (x := v9) x0 3 13824 (by decide) (by decide) (by omega) 4 14425 (by decide) (by decide) (by omega) (by omega) (by omega) (by omega) (by omega)
  have e1 := dz_l1
  have e2 := dz_add (a := v7) (b := (1 : Int32)) (by omega) (by omega)
  refine dz_Tin (by omega) (by omega) ?_
  refine dz_Tin (by omega) (by omega) ?_
  have e3 := dz_rng (a58 (v7 + (1 : Int32)).toNatClampNeg)
  have e4 := dz_rng (a58 v7.toNatClampNeg)
  refine dz_Tle (fun h5 => ?_) (fun h5 => ?_)
  · skip
    exact (ih k0 (by omega)).2.2.2.1 v1 v2 v3 v4 v6 (v7 + (1 : Int32)) c2_parts c2_laid a58 a59 a60 a61 a62 a63 a64 a65 i1 i2 i3 i4 i5 i6 i7 (by first | assumption | omega) i9 i10 i11 (by omega) (by omega) i18 i19 i20 i21 i24 i25 (by first | assumption | omega) i26 (by omega) (by omega) i28 (hr_a59) (hr_a61) (hr_a62) (hr_a63) (by exact x0) (by exact x1) (by omega)
  · skip
    refine dz_Tin (by omega) (by omega) ?_
    refine dz_Tin (by omega) (by omega) ?_
    have e6 := dz_l0
    refine dz_Tle (fun h7 => ?_) (fun h7 => ?_)
    · skip
      obtain ⟨k1, rfl⟩ : ∃ x, k0 = x + 1 := ⟨k0 - 1, by omega⟩
      show dz_T (s57_X12_layWeights_13 fu c2_groups c2_pots c2_ranks c2_draws c2_lawful c2_out a48 a49 a50 a54 a55 a56 a57 (F57_X12_layWeights fu c2_groups c2_pots c2_ranks c2_draws c2_lawful c2_out a48 a49 a50 a54 a55 a56 a57 k1).2.2.2.2.2.2.2.2.2.2.2.1 v1 v2 v3 v4 v6 v7 v8 v9 c2_parts c2_laid a58 a59 a60 a61 a62 a63 a64 a65) _
      unfold s57_X12_layWeights_13
      have e8 := dz_add (a := v9) (b := (1 : Int32)) (by omega) (by omega)
      exact (ih k1 (by omega)).2.2.2.2.2 v1 v2 v3 v4 v6 v7 v8 (v9 + (1 : Int32)) c2_parts c2_laid a58 a59 a60 a61 a62 a63 a64 a65 i0 i1 i2 i3 i4 i5 i6 i7 i8 i9 i10 i11 i12 i13 i14 i15 (by omega) (by omega) i18 i19 i20 i21 i22 i23 i24 i25 i26 i27 i28 (hr_a59) (hr_a61) (hr_a62) (hr_a63) (by exact x0) (by exact x1) (by omega)
    · skip
      have e9 := dz_l2
      refine dz_Teq (fun h10 => ?_) (fun h10 => ?_)
      · skip
        obtain ⟨k2, rfl⟩ : ∃ x, k0 = x + 1 := ⟨k0 - 1, by omega⟩
        show dz_T (s57_X12_layWeights_14 fu c2_groups c2_pots c2_ranks c2_draws c2_lawful c2_out a48 a49 a50 a54 a55 a56 a57 (F57_X12_layWeights fu c2_groups c2_pots c2_ranks c2_draws c2_lawful c2_out a48 a49 a50 a54 a55 a56 a57 k2).2.2.2.2.2.2.2.2.2.2.2.2.1 v1 v2 v3 v4 v6 v7 v8 v9 (1 : Int32) v8 v9 v7 c2_parts c2_laid a58 a59 a60 a61 a62 a63 a64 a65) _
        unfold s57_X12_layWeights_14
        refine dz_Tb (t54_X12_pot_g4 fu hfu _ _ _ _ _ _ _ _ _ _ _ _ _ _ _ p0 p1 p4 p5 i13 i12 i17 (by first | assumption | omega) i15 i14 (by omega) (by omega) i18 i19 (hr_a48) (hr_a57) (hr_a59) (hr_a62) (hr_a63) (o1) (o2) (dz_lvm x0 (by omega)) ((hlq.2.2.resolve_left (by omega)).1)) (fun r1 _ => ?_)
        obtain ⟨k3, rfl⟩ : ∃ x, k2 = x + 1 := ⟨k2 - 1, by omega⟩
        show dz_T (s57_X12_layWeights_13 fu c2_groups c2_pots c2_ranks c2_draws c2_lawful c2_out a48 a49 a50 a54 a55 a56 a57 (F57_X12_layWeights fu c2_groups c2_pots c2_ranks c2_draws c2_lawful c2_out a48 a49 a50 a54 a55 a56 a57 k3).2.2.2.2.2.2.2.2.2.2.2.1 v1 v2 v3 v4 v6 v7 v8 v9 c2_parts c2_laid a58 a59 r1.1 a61 a62 a63 r1.2 a65) _
        unfold s57_X12_layWeights_13
        have e11 := dz_add (a := v9) (b := (1 : Int32)) (by omega) (by omega)
        exact (ih k3 (by omega)).2.2.2.2.2 v1 v2 v3 v4 v6 v7 v8 (v9 + (1 : Int32)) c2_parts c2_laid a58 a59 r1.1 a61 a62 a63 r1.2 a65 i0 i1 i2 i3 i4 i5 i6 i7 i8 i9 i10 i11 i12 i13 i14 i15 (by omega) (by omega) i18 i19 i20 i21 i22 i23 i24 i25 i26 i27 i28 (hr_a59) (hr_a61) (hr_a62) (hr_a63) (by exact x0) (by exact x1) (by omega)
      · skip
        obtain ⟨k4, rfl⟩ : ∃ x, k0 = x + 1 := ⟨k0 - 1, by omega⟩
        show dz_T (s57_X12_layWeights_14 fu c2_groups c2_pots c2_ranks c2_draws c2_lawful c2_out a48 a49 a50 a54 a55 a56 a57 (F57_X12_layWeights fu c2_groups c2_pots c2_ranks c2_draws c2_lawful c2_out a48 a49 a50 a54 a55 a56 a57 k4).2.2.2.2.2.2.2.2.2.2.2.2.1 v1 v2 v3 v4 v6 v7 v8 v9 (0 : Int32) v8 v9 v7 c2_parts c2_laid a58 a59 a60 a61 a62 a63 a64 a65) _
        unfold s57_X12_layWeights_14
        refine dz_Tb (t54_X12_pot_g4 fu hfu _ _ _ _ _ _ _ _ _ _ _ _ _ _ _ p0 p1 p4 p5 i13 i12 i17 (by first | assumption | omega) i15 i14 (by omega) (by omega) i18 i19 (hr_a48) (hr_a57) (hr_a59) (hr_a62) (hr_a63) (o1) (o2) (dz_lvm x0 (by omega)) ((hlq.2.2.resolve_left (by omega)).1)) (fun r2 _ => ?_)
        obtain ⟨k5, rfl⟩ : ∃ x, k4 = x + 1 := ⟨k4 - 1, by omega⟩
        show dz_T (s57_X12_layWeights_13 fu c2_groups c2_pots c2_ranks c2_draws c2_lawful c2_out a48 a49 a50 a54 a55 a56 a57 (F57_X12_layWeights fu c2_groups c2_pots c2_ranks c2_draws c2_lawful c2_out a48 a49 a50 a54 a55 a56 a57 k5).2.2.2.2.2.2.2.2.2.2.2.1 v1 v2 v3 v4 v6 v7 v8 v9 c2_parts c2_laid a58 a59 r2.1 a61 a62 a63 r2.2 a65) _
        unfold s57_X12_layWeights_13
        have e12 := dz_add (a := v9) (b := (1 : Int32)) (by omega) (by omega)
        exact (ih k5 (by omega)).2.2.2.2.2 v1 v2 v3 v4 v6 v7 v8 (v9 + (1 : Int32)) c2_parts c2_laid a58 a59 r2.1 a61 a62 a63 r2.2 a65 i0 i1 i2 i3 i4 i5 i6 i7 i8 i9 i10 i11 i12 i13 i14 i15 (by omega) (by omega) i18 i19 i20 i21 i22 i23 i24 i25 i26 i27 i28 (hr_a59) (hr_a61) (hr_a62) (hr_a63) (by exact x0) (by exact x1) (by omega)
theorem t57_X12_layWeights_I_g4 (fu : Nat) (hfu : 1000000000000 ≤ fu) (c2_groups : Int32) (c2_pots : Int32) (c2_ranks : Int32) (c2_draws : Int32) (c2_lawful : Int32) (c2_out : Int32) (a48 : Nat → Int32) (a49 : Nat → Int32) (a50 : Nat → Int32) (a54 : Nat → Int32) (a55 : Nat → Int32) (a56 : Nat → Int32) (a57 : Nat → Int32) (p0 : c2_groups.toInt ≤ 4) (p1 : 4 ≤ c2_groups.toInt) (p2 : c2_pots.toInt ≤ 3) (p3 : 0 ≤ c2_pots.toInt) (p4 : c2_ranks.toInt ≤ 24) (p5 : 24 ≤ c2_ranks.toInt) (p6 : c2_draws.toInt ≤ 13824) (p7 : 1 ≤ c2_draws.toInt) (p8 : c2_lawful.toInt ≤ 13824) (p9 : 0 ≤ c2_lawful.toInt) (p10 : c2_out.toInt ≤ 12) (p11 : 0 ≤ c2_out.toInt) (p12 : c2_lawful.toInt ≤ c2_draws.toInt) (hr_a48 : dz_rg a48 100 0 3) (hr_a49 : dz_rg a49 13824 0 1023) (hr_a50 : dz_rg a50 165888 0 3) (hr_a54 : dz_rg a54 12 0 11) (hr_a55 : dz_rg a55 12 0 3) (hr_a56 : dz_rg a56 4 0 3) (hr_a57 : dz_rg a57 4 0 3) (o0 : dz_pq a56 c2_pots.toInt.toNat) (o1 : dz_pm a57 4) (o2 : dz_rw 4 24 a48) (o3 : ∀ t : Int, dz_pp 4 24 a54 a55 t c2_out.toInt.toNat) (o4 : c2_out.toInt ≤ 4 * c2_pots.toInt) (k : Nat) : p57_X12_layWeights_g4 fu c2_groups c2_pots c2_ranks c2_draws c2_lawful c2_out a48 a49 a50 a54 a55 a56 a57 k := by
  induction k using Nat.strongRecOn with
  | _ k ih => exact ⟨t57_X12_layWeights_h2_g4 fu hfu c2_groups c2_pots c2_ranks c2_draws c2_lawful c2_out a48 a49 a50 a54 a55 a56 a57 p0 p1 p2 p3 p4 p5 p6 p7 p8 p9 p10 p11 p12 hr_a48 hr_a49 hr_a50 hr_a54 hr_a55 hr_a56 hr_a57 o0 o1 o2 o3 o4 k ih, t57_X12_layWeights_h3_g4 fu hfu c2_groups c2_pots c2_ranks c2_draws c2_lawful c2_out a48 a49 a50 a54 a55 a56 a57 p0 p1 p2 p3 p4 p5 p6 p7 p8 p9 p10 p11 p12 hr_a48 hr_a49 hr_a50 hr_a54 hr_a55 hr_a56 hr_a57 o0 o1 o2 o3 o4 k ih, t57_X12_layWeights_h6_g4 fu hfu c2_groups c2_pots c2_ranks c2_draws c2_lawful c2_out a48 a49 a50 a54 a55 a56 a57 p0 p1 p2 p3 p4 p5 p6 p7 p8 p9 p10 p11 p12 hr_a48 hr_a49 hr_a50 hr_a54 hr_a55 hr_a56 hr_a57 o0 o1 o2 o3 o4 k ih, t57_X12_layWeights_h7_g4 fu hfu c2_groups c2_pots c2_ranks c2_draws c2_lawful c2_out a48 a49 a50 a54 a55 a56 a57 p0 p1 p2 p3 p4 p5 p6 p7 p8 p9 p10 p11 p12 hr_a48 hr_a49 hr_a50 hr_a54 hr_a55 hr_a56 hr_a57 o0 o1 o2 o3 o4 k ih, t57_X12_layWeights_h8_g4 fu hfu c2_groups c2_pots c2_ranks c2_draws c2_lawful c2_out a48 a49 a50 a54 a55 a56 a57 p0 p1 p2 p3 p4 p5 p6 p7 p8 p9 p10 p11 p12 hr_a48 hr_a49 hr_a50 hr_a54 hr_a55 hr_a56 hr_a57 o0 o1 o2 o3 o4 k ih, t57_X12_layWeights_h12_g4 fu hfu c2_groups c2_pots c2_ranks c2_draws c2_lawful c2_out a48 a49 a50 a54 a55 a56 a57 p0 p1 p2 p3 p4 p5 p6 p7 p8 p9 p10 p11 p12 hr_a48 hr_a49 hr_a50 hr_a54 hr_a55 hr_a56 hr_a57 o0 o1 o2 o3 o4 k ih⟩
set_option maxHeartbeats 4000000 in
set_option maxRecDepth 10000 in
theorem t57_X12_layWeights_E_g4 (fu : Nat) (hfu : 1000000000000 ≤ fu) (c2_groups : Int32) (c2_pots : Int32) (c2_ranks : Int32) (c2_draws : Int32) (c2_lawful : Int32) (c2_out : Int32) (a48 : Nat → Int32) (a49 : Nat → Int32) (a50 : Nat → Int32) (a54 : Nat → Int32) (a55 : Nat → Int32) (a56 : Nat → Int32) (a57 : Nat → Int32) (v1 : Int32) (v2 : Int32) (c2_parts : Int32) (c2_laid : Int32) (a58 : Nat → Int32) (a59 : Nat → Int32) (a60 : Nat → Int64) (a61 : Nat → Int32) (a62 : Nat → Int32) (a63 : Nat → Int32) (a64 : Nat → Int64) (a65 : Nat → Int64) (p0 : c2_groups.toInt ≤ 4) (p1 : 4 ≤ c2_groups.toInt) (p2 : c2_pots.toInt ≤ 3) (p3 : 0 ≤ c2_pots.toInt) (p4 : c2_ranks.toInt ≤ 24) (p5 : 24 ≤ c2_ranks.toInt) (p6 : c2_draws.toInt ≤ 13824) (p7 : 1 ≤ c2_draws.toInt) (p8 : c2_lawful.toInt ≤ 13824) (p9 : 0 ≤ c2_lawful.toInt) (p10 : c2_out.toInt ≤ 12) (p11 : 0 ≤ c2_out.toInt) (p12 : c2_lawful.toInt ≤ c2_draws.toInt) (p13 : 0 ≤ v1.toInt) (p14 : v1.toInt ≤ 2) (p15 : 0 ≤ v2.toInt) (p16 : v2.toInt ≤ 1) (hr_a48 : dz_rg a48 100 0 3) (hr_a49 : dz_rg a49 13824 0 1023) (hr_a50 : dz_rg a50 165888 0 3) (hr_a54 : dz_rg a54 12 0 11) (hr_a55 : dz_rg a55 12 0 3) (hr_a56 : dz_rg a56 4 0 3) (hr_a57 : dz_rg a57 4 0 3) (hr_a59 : dz_rg a59 14425 0 16777215) (hr_a61 : dz_rg a61 13824 0 13823) (hr_a62 : dz_rg a62 16 0 16777215) (o0 : dz_pq a56 c2_pots.toInt.toNat) (o1 : dz_pm a57 4) (o2 : dz_rw 4 24 a48) (o3 : ∀ t : Int, dz_pp 4 24 a54 a55 t c2_out.toInt.toNat) (o4 : c2_out.toInt ≤ 4 * c2_pots.toInt) (kv : Nat) (hkv : 1000000000000 ≤ kv) : dz_T (s57_X12_layWeights_0 fu c2_groups c2_pots c2_ranks c2_draws c2_lawful c2_out a48 a49 a50 a54 a55 a56 a57 (F57_X12_layWeights fu c2_groups c2_pots c2_ranks c2_draws c2_lawful c2_out a48 a49 a50 a54 a55 a56 a57 kv).1  v1 v2 c2_parts c2_laid a58 a59 a60 a61 a62 a63 a64 a65) (fun r => dz_rg r.2.2.2.1 14425 0 16777215 ∧ dz_rg r.2.2.2.2.2.1 13824 0 13823 ∧ dz_rg r.2.2.2.2.2.2.1 16 0 16777215 ∧ dz_pt r.2.2.2.2.2.2.2.1 [1, 5, 25, 125]) := by
  unfold s57_X12_layWeights_0
  refine dz_Tb (t49_X12_layMasks_g4 fu hfu _ _ _ _ _ _ _ _ _ _ _ _ _ p0 p1 p2 p3 p4 p5 p6 p7 (hr_a48) (hr_a49) (hr_a56) (hr_a59) (hr_a61) (hr_a62) (o2) (o0)) (fun r1 q => ?_)
  obtain ⟨qa1_2, qa1_3, qa1_4, qa1_5, qo1_0, qo1_1, qo1_2, qo1_3, qo1_4, qo1_5⟩ := q
  have e1 := dz_l0
  refine dz_Teq (fun h2 => ?_) (fun h2 => ?_)
  · skip
    obtain ⟨k1, rfl⟩ : ∃ x, kv = x + 1 := ⟨kv - 1, by omega⟩
    show dz_T (s57_X12_layWeights_1 fu c2_groups c2_pots c2_ranks c2_draws c2_lawful c2_out a48 a49 a50 a54 a55 a56 a57 (F57_X12_layWeights fu c2_groups c2_pots c2_ranks c2_draws c2_lawful c2_out a48 a49 a50 a54 a55 a56 a57 k1).2.1 v1 v2 (0 : Int32) r1.1 (-(1 : Int32)) r1.2.1 r1.2.2.1 a60 r1.2.2.2.1 r1.2.2.2.2.1 r1.2.2.2.2.2 a64 a65) _
    unfold s57_X12_layWeights_1
    have e3 := dz_lm1
    exact (t57_X12_layWeights_I_g4 fu hfu c2_groups c2_pots c2_ranks c2_draws c2_lawful c2_out a48 a49 a50 a54 a55 a56 a57 p0 p1 p2 p3 p4 p5 p6 p7 p8 p9 p10 p11 p12 hr_a48 hr_a49 hr_a50 hr_a54 hr_a55 hr_a56 hr_a57 o0 o1 o2 o3 o4 k1).1 v1 v2 (0 : Int32) (0 : Int32) r1.1 (-(1 : Int32)) r1.2.1 r1.2.2.1 a60 r1.2.2.2.1 r1.2.2.2.2.1 r1.2.2.2.2.2 a64 a65 p14 p13 p16 p15 (by omega) (by omega) (by omega) (by omega) (by first | assumption | omega) (by first | assumption | omega) (by omega) (by omega) (by omega) (by omega) (by omega) (qa1_2) (qa1_3) (qa1_4) (qa1_5) (by exact qo1_1) (by exact qo1_4) (by omega)
  · skip
    obtain ⟨k2, rfl⟩ : ∃ x, kv = x + 1 := ⟨kv - 1, by omega⟩
    show dz_T (s57_X12_layWeights_1 fu c2_groups c2_pots c2_ranks c2_draws c2_lawful c2_out a48 a49 a50 a54 a55 a56 a57 (F57_X12_layWeights fu c2_groups c2_pots c2_ranks c2_draws c2_lawful c2_out a48 a49 a50 a54 a55 a56 a57 k2).2.1 v1 v2 c2_out r1.1 (-(1 : Int32)) r1.2.1 r1.2.2.1 a60 r1.2.2.2.1 r1.2.2.2.2.1 r1.2.2.2.2.2 a64 a65) _
    unfold s57_X12_layWeights_1
    have e4 := dz_lm1
    exact (t57_X12_layWeights_I_g4 fu hfu c2_groups c2_pots c2_ranks c2_draws c2_lawful c2_out a48 a49 a50 a54 a55 a56 a57 p0 p1 p2 p3 p4 p5 p6 p7 p8 p9 p10 p11 p12 hr_a48 hr_a49 hr_a50 hr_a54 hr_a55 hr_a56 hr_a57 o0 o1 o2 o3 o4 k2).1 v1 v2 c2_out (0 : Int32) r1.1 (-(1 : Int32)) r1.2.1 r1.2.2.1 a60 r1.2.2.2.1 r1.2.2.2.2.1 r1.2.2.2.2.2 a64 a65 p14 p13 p16 p15 p10 p11 (by omega) (by omega) (by first | assumption | omega) (by first | assumption | omega) (by omega) (by omega) (by first | assumption | omega) (by omega) (by first | assumption | omega) (qa1_2) (qa1_3) (qa1_4) (qa1_5) (by exact qo1_1) (by exact qo1_4) (by omega)
theorem t57_X12_layWeights_g4 (fu : Nat) (hfu : 1000000000000 ≤ fu) (c2_groups : Int32) (c2_pots : Int32) (c2_ranks : Int32) (c2_draws : Int32) (c2_lawful : Int32) (c2_out : Int32) (a48 : Nat → Int32) (a49 : Nat → Int32) (a50 : Nat → Int32) (a54 : Nat → Int32) (a55 : Nat → Int32) (a56 : Nat → Int32) (a57 : Nat → Int32) (v1 : Int32) (v2 : Int32) (c2_parts : Int32) (c2_laid : Int32) (a58 : Nat → Int32) (a59 : Nat → Int32) (a60 : Nat → Int64) (a61 : Nat → Int32) (a62 : Nat → Int32) (a63 : Nat → Int32) (a64 : Nat → Int64) (a65 : Nat → Int64) (p0 : c2_groups.toInt ≤ 4) (p1 : 4 ≤ c2_groups.toInt) (p2 : c2_pots.toInt ≤ 3) (p3 : 0 ≤ c2_pots.toInt) (p4 : c2_ranks.toInt ≤ 24) (p5 : 24 ≤ c2_ranks.toInt) (p6 : c2_draws.toInt ≤ 13824) (p7 : 1 ≤ c2_draws.toInt) (p8 : c2_lawful.toInt ≤ 13824) (p9 : 0 ≤ c2_lawful.toInt) (p10 : c2_out.toInt ≤ 12) (p11 : 0 ≤ c2_out.toInt) (p12 : c2_lawful.toInt ≤ c2_draws.toInt) (p13 : 0 ≤ v1.toInt) (p14 : v1.toInt ≤ 2) (p15 : 0 ≤ v2.toInt) (p16 : v2.toInt ≤ 1) (hr_a48 : dz_rg a48 100 0 3) (hr_a49 : dz_rg a49 13824 0 1023) (hr_a50 : dz_rg a50 165888 0 3) (hr_a54 : dz_rg a54 12 0 11) (hr_a55 : dz_rg a55 12 0 3) (hr_a56 : dz_rg a56 4 0 3) (hr_a57 : dz_rg a57 4 0 3) (hr_a59 : dz_rg a59 14425 0 16777215) (hr_a61 : dz_rg a61 13824 0 13823) (hr_a62 : dz_rg a62 16 0 16777215) (o0 : dz_pq a56 c2_pots.toInt.toNat) (o1 : dz_pm a57 4) (o2 : dz_rw 4 24 a48) (o3 : ∀ t : Int, dz_pp 4 24 a54 a55 t c2_out.toInt.toNat) (o4 : c2_out.toInt ≤ 4 * c2_pots.toInt) : dz_T (f57_X12_layWeights fu c2_groups c2_pots c2_ranks c2_draws c2_lawful c2_out a48 a49 a50 a54 a55 a56 a57 v1 v2 c2_parts c2_laid a58 a59 a60 a61 a62 a63 a64 a65) (fun r => dz_rg r.2.2.2.1 14425 0 16777215 ∧ dz_rg r.2.2.2.2.2.1 13824 0 13823 ∧ dz_rg r.2.2.2.2.2.2.1 16 0 16777215 ∧ dz_pt r.2.2.2.2.2.2.2.1 [1, 5, 25, 125]) :=
  t57_X12_layWeights_E_g4 fu hfu c2_groups c2_pots c2_ranks c2_draws c2_lawful c2_out a48 a49 a50 a54 a55 a56 a57 v1 v2 c2_parts c2_laid a58 a59 a60 a61 a62 a63 a64 a65 p0 p1 p2 p3 p4 p5 p6 p7 p8 p9 p10 p11 p12 p13 p14 p15 p16 hr_a48 hr_a49 hr_a50 hr_a54 hr_a55 hr_a56 hr_a57 hr_a59 hr_a61 hr_a62 o0 o1 o2 o3 o4 fu hfu
