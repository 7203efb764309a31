abbrev p65_X12_layApart_s (fu : Nat) (κ : Nat) (c2_groups : Int32) (c2_pots : Int32) (c2_ranks : Int32) (c2_draws : Int32) (c2_lawful : Int32) (c2_out : Int32) (a48 : Nat → Int32) (a49 : Nat → Int32) (a50 : Nat → Int32) (a54 : Nat → Int32) (a55 : Nat → Int32) (a56 : Nat → Int32) (a57 : Nat → Int32) (k : Nat) : Prop :=
  (∀ (v2 : Int32) (v3 : Int64) (v5 : Int32) (c2_parts : Int32) (c2_laid : Int32) (c2_apart : Int64) (c2_sum : Int64) (c2_farOne : Int32) (c2_farOther : Int32) (c2_far : Int64) (c2_beneath : Int64) (a58 : Nat → Int32) (a59 : Nat → Int32) (a60 : Nat → Int64) (a61 : Nat → Int32) (a62 : Nat → Int32) (a63 : Nat → Int32) (a64 : Nat → Int64) (a65 : Nat → Int64) (a66 : Nat → Int64), v2.toInt ≤ 2 → 0 ≤ v2.toInt → v5.toInt ≤ 12 → 0 ≤ v5.toInt → v5.toInt ≤ c2_groups.toInt + 9 → dz_rg a59 14425 0 16777215 → dz_rg a61 13824 0 13823 → dz_rg a62 16 0 16777215 → 0 + 4015 + (12 - v5.toInt) * 308 + 11 ≤ ((k : Nat) : Int) → dz_T ((F65_X12_layApart fu c2_groups c2_pots c2_ranks c2_draws c2_lawful c2_out a48 a49 a50 a54 a55 a56 a57 k).1 v2 v3 v5 c2_parts c2_laid c2_apart c2_sum c2_farOne c2_farOther c2_far c2_beneath a58 a59 a60 a61 a62 a63 a64 a65 a66) (fun r => dz_rg r.2.2.2.2.2.2.2.2.2.1 14425 0 16777215 ∧ dz_rg r.2.2.2.2.2.2.2.2.2.2.2.1 13824 0 13823 ∧ dz_rg r.2.2.2.2.2.2.2.2.2.2.2.2.1 16 0 16777215)) ∧ (∀ (v3 : Int64) (v5 : Int64) (v7 : Int32) (c2_parts : Int32) (c2_laid : Int32) (c2_apart : Int64) (c2_sum : Int64) (c2_farOne : Int32) (c2_farOther : Int32) (c2_far : Int64) (c2_beneath : Int64) (a58 : Nat → Int32) (a59 : Nat → Int32) (a60 : Nat → Int64) (a61 : Nat → Int32) (a62 : Nat → Int32) (a63 : Nat → Int32) (a64 : Nat → Int64) (a65 : Nat → Int64) (a66 : Nat → Int64), v7.toInt ≤ 12 → 0 ≤ v7.toInt → c2_farOne.toInt ≤ 10 → (-1) ≤ c2_farOne.toInt → c2_farOther.toInt ≤ 11 → (-1) ≤ c2_farOther.toInt → c2_farOne.toInt + 1 ≤ v7.toInt → c2_farOne.toInt ≤ c2_farOther.toInt → c2_farOne.toInt ≤ c2_groups.toInt + 7 → c2_farOther.toInt ≤ c2_groups.toInt + 8 → v7.toInt ≤ c2_groups.toInt + 9 → c2_farOther.toInt ≤ v7.toInt + 10 → c2_farOther.toInt ≤ c2_farOne.toInt + 11 → dz_rg a59 14425 0 16777215 → dz_rg a61 13824 0 13823 → dz_rg a62 16 0 16777215 → 0 + 0 + (12 - v7.toInt) * 308 + 11 ≤ ((k : Nat) : Int) → dz_T ((F65_X12_layApart fu c2_groups c2_pots c2_ranks c2_draws c2_lawful c2_out a48 a49 a50 a54 a55 a56 a57 k).2.1 v3 v5 v7 c2_parts c2_laid c2_apart c2_sum c2_farOne c2_farOther c2_far c2_beneath a58 a59 a60 a61 a62 a63 a64 a65 a66) (fun r => dz_rg r.2.2.2.2.2.2.2.2.2.1 14425 0 16777215 ∧ dz_rg r.2.2.2.2.2.2.2.2.2.2.2.1 13824 0 13823 ∧ dz_rg r.2.2.2.2.2.2.2.2.2.2.2.2.1 16 0 16777215)) ∧ (∀ (v2 : Int32) (v3 : Int64) (v5 : Int32) (v6 : Int32) (c2_parts : Int32) (c2_laid : Int32) (c2_apart : Int64) (c2_sum : Int64) (c2_farOne : Int32) (c2_farOther : Int32) (c2_far : Int64) (c2_beneath : Int64) (a58 : Nat → Int32) (a59 : Nat → Int32) (a60 : Nat → Int64) (a61 : Nat → Int32) (a62 : Nat → Int32) (a63 : Nat → Int32) (a64 : Nat → Int64) (a65 : Nat → Int64) (a66 : Nat → Int64), v2.toInt ≤ 2 → 0 ≤ v2.toInt → v5.toInt ≤ 11 → 0 ≤ v5.toInt → v6.toInt ≤ 12 → 1 ≤ v6.toInt → v5.toInt + 1 ≤ v6.toInt → v5.toInt ≤ c2_groups.toInt + 8 → v6.toInt ≤ c2_groups.toInt + 9 → dz_rg a59 14425 0 16777215 → dz_rg a61 13824 0 13823 → dz_rg a62 16 0 16777215 → 0 + 4015 + ((12 - v5.toInt) - 1) * 308 + 0 + (12 - v6.toInt) * 22 + 22 ≤ ((k : Nat) : Int) → dz_T ((F65_X12_layApart fu c2_groups c2_pots c2_ranks c2_draws c2_lawful c2_out a48 a49 a50 a54 a55 a56 a57 k).2.2.1 v2 v3 v5 v6 c2_parts c2_laid c2_apart c2_sum c2_farOne c2_farOther c2_far c2_beneath a58 a59 a60 a61 a62 a63 a64 a65 a66) (fun r => dz_rg r.2.2.2.2.2.2.2.2.2.1 14425 0 16777215 ∧ dz_rg r.2.2.2.2.2.2.2.2.2.2.2.1 13824 0 13823 ∧ dz_rg r.2.2.2.2.2.2.2.2.2.2.2.2.1 16 0 16777215)) ∧ (∀ (v3 : Int64) (v5 : Int64) (v7 : Int32) (v8 : Int32) (c2_parts : Int32) (c2_laid : Int32) (c2_apart : Int64) (c2_sum : Int64) (c2_farOne : Int32) (c2_farOther : Int32) (c2_far : Int64) (c2_beneath : Int64) (a58 : Nat → Int32) (a59 : Nat → Int32) (a60 : Nat → Int64) (a61 : Nat → Int32) (a62 : Nat → Int32) (a63 : Nat → Int32) (a64 : Nat → Int64) (a65 : Nat → Int64) (a66 : Nat → Int64), v7.toInt ≤ 11 → 0 ≤ v7.toInt → v8.toInt ≤ 12 → 1 ≤ v8.toInt → c2_farOne.toInt ≤ 10 → (-1) ≤ c2_farOne.toInt → c2_farOther.toInt ≤ 11 → (-1) ≤ c2_farOther.toInt → v7.toInt + 1 ≤ v8.toInt → c2_farOne.toInt ≤ c2_farOther.toInt → c2_farOne.toInt ≤ v7.toInt → c2_farOne.toInt + 2 ≤ v8.toInt → c2_farOne.toInt ≤ c2_groups.toInt + 7 → c2_farOther.toInt ≤ c2_groups.toInt + 8 → v7.toInt ≤ c2_groups.toInt + 8 → c2_farOther.toInt ≤ v8.toInt + 9 → v8.toInt ≤ c2_groups.toInt + 9 → c2_farOther.toInt ≤ c2_farOne.toInt + 11 → dz_rg a59 14425 0 16777215 → dz_rg a61 13824 0 13823 → dz_rg a62 16 0 16777215 → 0 + 0 + ((12 - v7.toInt) - 1) * 308 + 0 + (12 - v8.toInt) * 22 + 22 ≤ ((k : Nat) : Int) → dz_T ((F65_X12_layApart fu c2_groups c2_pots c2_ranks c2_draws c2_lawful c2_out a48 a49 a50 a54 a55 a56 a57 k).2.2.2.1 v3 v5 v7 v8 c2_parts c2_laid c2_apart c2_sum c2_farOne c2_farOther c2_far c2_beneath a58 a59 a60 a61 a62 a63 a64 a65 a66) (fun r => dz_rg r.2.2.2.2.2.2.2.2.2.1 14425 0 16777215 ∧ dz_rg r.2.2.2.2.2.2.2.2.2.2.2.1 13824 0 13823 ∧ dz_rg r.2.2.2.2.2.2.2.2.2.2.2.2.1 16 0 16777215))
set_option maxHeartbeats 4000000 in
set_option maxRecDepth 10000 in
theorem t65_X12_layApart_h1_s (fu : Nat) (hfu : 1000000000000 ≤ fu) (κ : Nat) (hκ : κ < 14) (c2_groups : Int32) (c2_pots : Int32) (c2_ranks : Int32) (c2_draws : Int32) (c2_lawful : Int32) (c2_out : Int32) (a48 : Nat → Int32) (a49 : Nat → Int32) (a50 : Nat → Int32) (a54 : Nat → Int32) (a55 : Nat → Int32) (a56 : Nat → Int32) (a57 : Nat → Int32) (p0 : c2_groups.toInt ≤ 4) (p1 : 2 ≤ c2_groups.toInt) (p2 : c2_pots.toInt ≤ 4) (p3 : 0 ≤ c2_pots.toInt) (p4 : c2_ranks.toInt ≤ 24) (p5 : 2 ≤ c2_ranks.toInt) (p6 : c2_draws.toInt ≤ 13824) (p7 : 1 ≤ c2_draws.toInt) (p8 : c2_lawful.toInt ≤ 13824) (p9 : 0 ≤ c2_lawful.toInt) (p10 : c2_out.toInt ≤ 12) (p11 : 0 ≤ c2_out.toInt) (p12 : c2_lawful.toInt ≤ c2_draws.toInt) (hr_a48 : dz_rg a48 100 0 3) (hr_a49 : dz_rg a49 13824 0 1023) (hr_a50 : dz_rg a50 165888 0 3) (hr_a54 : dz_rg a54 12 0 11) (hr_a55 : dz_rg a55 12 0 3) (hr_a56 : dz_rg a56 4 0 3) (hr_a57 : dz_rg a57 4 0 3) (o0 : dz_pq a56 c2_pots.toInt.toNat) (o1 : dz_pm a57 (dz_kg κ)) (o2 : dz_rw (dz_kg κ) (dz_kr κ) a48) (o3 : ∀ t : Int, dz_pp (dz_kg κ) (dz_kr κ) a54 a55 t c2_out.toInt.toNat) (o4 : c2_out.toInt ≤ ((dz_km κ : Nat) : Int)) (o5 : c2_groups.toInt = ((dz_kg κ : Nat) : Int)) (o6 : c2_pots.toInt = ((dz_kp κ : Nat) : Int)) (o7 : c2_ranks.toInt = ((dz_kr κ : Nat) : Int)) (o8 : c2_draws.toInt = ((dz_kt κ : Nat) : Int)) (k : Nat) (ih : ∀ j9, j9 < k → p65_X12_layApart_s fu κ c2_groups c2_pots c2_ranks c2_draws c2_lawful c2_out a48 a49 a50 a54 a55 a56 a57 j9) : ∀ (v2 : Int32) (v3 : Int64) (v5 : Int32) (c2_parts : Int32) (c2_laid : Int32) (c2_apart : Int64) (c2_sum : Int64) (c2_farOne : Int32) (c2_farOther : Int32) (c2_far : Int64) (c2_beneath : Int64) (a58 : Nat → Int32) (a59 : Nat → Int32) (a60 : Nat → Int64) (a61 : Nat → Int32) (a62 : Nat → Int32) (a63 : Nat → Int32) (a64 : Nat → Int64) (a65 : Nat → Int64) (a66 : Nat → Int64), v2.toInt ≤ 2 → 0 ≤ v2.toInt → v5.toInt ≤ 12 → 0 ≤ v5.toInt → v5.toInt ≤ c2_groups.toInt + 9 → dz_rg a59 14425 0 16777215 → dz_rg a61 13824 0 13823 → dz_rg a62 16 0 16777215 → 0 + 4015 + (12 - v5.toInt) * 308 + 11 ≤ ((k : Nat) : Int) → dz_T ((F65_X12_layApart fu c2_groups c2_pots c2_ranks c2_draws c2_lawful c2_out a48 a49 a50 a54 a55 a56 a57 k).1 v2 v3 v5 c2_parts c2_laid c2_apart c2_sum c2_farOne c2_farOther c2_far c2_beneath a58 a59 a60 a61 a62 a63 a64 a65 a66) (fun r => dz_rg r.2.2.2.2.2.2.2.2.2.1 14425 0 16777215 ∧ dz_rg r.2.2.2.2.2.2.2.2.2.2.2.1 13824 0 13823 ∧ dz_rg r.2.2.2.2.2.2.2.2.2.2.2.2.1 16 0 16777215) := by
  intro v2 v3 v5 c2_parts c2_laid c2_apart c2_sum c2_farOne c2_farOther c2_far c2_beneath a58 a59 a60 a61 a62 a63 a64 a65 a66 i0 i1 i2 i3 i4 hr_a59 hr_a61 hr_a62 hm
  obtain ⟨k0, rfl⟩ : ∃ x, k = x + 1 := ⟨k - 1, by omega⟩
  show dz_T (s65_X12_layApart_1 fu c2_groups c2_pots c2_ranks c2_draws c2_lawful c2_out a48 a49 a50 a54 a55 a56 a57 (F65_X12_layApart fu c2_groups c2_pots c2_ranks c2_draws c2_lawful c2_out a48 a49 a50 a54 a55 a56 a57 k0).2.1 (F65_X12_layApart fu c2_groups c2_pots c2_ranks c2_draws c2_lawful c2_out a48 a49 a50 a54 a55 a56 a57 k0).2.2.1  v2 v3 v5 c2_parts c2_laid c2_apart c2_sum c2_farOne c2_farOther c2_far c2_beneath a58 a59 a60 a61 a62 a63 a64 a65 a66) _
  unfold s65_X12_layApart_1
  refine dz_Tb (t9_X12_teams_s fu hfu κ hκ _ _ p0 p1 p2 p3 o5 o6) (fun r1 q => ?_)
  obtain ⟨q1_0, q1_1, q1_2, qo1_0⟩ := q
  refine dz_Tle (fun h1 => ?_) (fun h1 => ?_)
  · skip
    have e2 := dz_l0
    refine dz_Tb (t57_X12_layWeights_s fu hfu κ hκ _ _ _ _ _ _ _ _ _ _ _ _ _ _ _ _ _ _ _ _ _ _ _ _ _ p0 p1 p2 p3 p4 p5 p6 p7 p8 p9 p10 p11 p12 i1 i0 (by omega) (by omega) (hr_a48) (hr_a49) (hr_a50) (hr_a54) (hr_a55) (hr_a56) (hr_a57) (hr_a59) (hr_a61) (hr_a62) o0 o1 o2 o3 o4 o5 o6 o7 o8) (fun r2 q => ?_)
    obtain ⟨qa2_3, qa2_5, qa2_6⟩ := q
    refine dz_Tb (t59_X12_allRows_s fu hfu κ hκ _ _ p6 p7 o8) (fun r3 _ => ?_)
    have e3 := dz_lm1
    exact (ih k0 (by omega)).2.1 v3 r3 (0 : Int32) r2.1 r2.2.1 (0 : Int64) (0 : Int64) (-(1 : Int32)) (-(1 : Int32)) (0 : Int64) (v3 * r3) r2.2.2.1 r2.2.2.2.1 r2.2.2.2.2.1 r2.2.2.2.2.2.1 r2.2.2.2.2.2.2.1 r2.2.2.2.2.2.2.2.1 r2.2.2.2.2.2.2.2.2.1 r2.2.2.2.2.2.2.2.2.2 a66 (by omega) (by omega) (by omega) (by omega) (by omega) (by omega) (by omega) (by omega) (by omega) (by omega) (by omega) (by omega) (by omega) (qa2_3) (qa2_5) (qa2_6) (by omega)
  · skip
    have e4 := dz_l1
    have e5 := dz_add (a := v5) (b := (1 : Int32)) (by omega) (by omega)
    exact (ih k0 (by omega)).2.2.1 v2 v3 v5 (v5 + (1 : Int32)) c2_parts c2_laid c2_apart c2_sum c2_farOne c2_farOther c2_far c2_beneath a58 a59 a60 a61 a62 a63 a64 a65 a66 i0 i1 (by first | assumption | omega) i3 (by omega) (by omega) (by omega) (by first | assumption | omega) (by omega) (hr_a59) (hr_a61) (hr_a62) (by omega)
set_option maxHeartbeats 4000000 in
set_option maxRecDepth 10000 in
theorem t65_X12_layApart_h2_s (fu : Nat) (hfu : 1000000000000 ≤ fu) (κ : Nat) (hκ : κ < 14) (c2_groups : Int32) (c2_pots : Int32) (c2_ranks : Int32) (c2_draws : Int32) (c2_lawful : Int32) (c2_out : Int32) (a48 : Nat → Int32) (a49 : Nat → Int32) (a50 : Nat → Int32) (a54 : Nat → Int32) (a55 : Nat → Int32) (a56 : Nat → Int32) (a57 : Nat → Int32) (p0 : c2_groups.toInt ≤ 4) (p1 : 2 ≤ c2_groups.toInt) (p2 : c2_pots.toInt ≤ 4) (p3 : 0 ≤ c2_pots.toInt) (p4 : c2_ranks.toInt ≤ 24) (p5 : 2 ≤ c2_ranks.toInt) (p6 : c2_draws.toInt ≤ 13824) (p7 : 1 ≤ c2_draws.toInt) (p8 : c2_lawful.toInt ≤ 13824) (p9 : 0 ≤ c2_lawful.toInt) (p10 : c2_out.toInt ≤ 12) (p11 : 0 ≤ c2_out.toInt) (p12 : c2_lawful.toInt ≤ c2_draws.toInt) (hr_a48 : dz_rg a48 100 0 3) (hr_a49 : dz_rg a49 13824 0 1023) (hr_a50 : dz_rg a50 165888 0 3) (hr_a54 : dz_rg a54 12 0 11) (hr_a55 : dz_rg a55 12 0 3) (hr_a56 : dz_rg a56 4 0 3) (hr_a57 : dz_rg a57 4 0 3) (o0 : dz_pq a56 c2_pots.toInt.toNat) (o1 : dz_pm a57 (dz_kg κ)) (o2 : dz_rw (dz_kg κ) (dz_kr κ) a48) (o3 : ∀ t : Int, dz_pp (dz_kg κ) (dz_kr κ) a54 a55 t c2_out.toInt.toNat) (o4 : c2_out.toInt ≤ ((dz_km κ : Nat) : Int)) (o5 : c2_groups.toInt = ((dz_kg κ : Nat) : Int)) (o6 : c2_pots.toInt = ((dz_kp κ : Nat) : Int)) (o7 : c2_ranks.toInt = ((dz_kr κ : Nat) : Int)) (o8 : c2_draws.toInt = ((dz_kt κ : Nat) : Int)) (k : Nat) (ih : ∀ j9, j9 < k → p65_X12_layApart_s fu κ c2_groups c2_pots c2_ranks c2_draws c2_lawful c2_out a48 a49 a50 a54 a55 a56 a57 j9) : ∀ (v3 : Int64) (v5 : Int64) (v7 : Int32) (c2_parts : Int32) (c2_laid : Int32) (c2_apart : Int64) (c2_sum : Int64) (c2_farOne : Int32) (c2_farOther : Int32) (c2_far : Int64) (c2_beneath : Int64) (a58 : Nat → Int32) (a59 : Nat → Int32) (a60 : Nat → Int64) (a61 : Nat → Int32) (a62 : Nat → Int32) (a63 : Nat → Int32) (a64 : Nat → Int64) (a65 : Nat → Int64) (a66 : Nat → Int64), v7.toInt ≤ 12 → 0 ≤ v7.toInt → c2_farOne.toInt ≤ 10 → (-1) ≤ c2_farOne.toInt → c2_farOther.toInt ≤ 11 → (-1) ≤ c2_farOther.toInt → c2_farOne.toInt + 1 ≤ v7.toInt → c2_farOne.toInt ≤ c2_farOther.toInt → c2_farOne.toInt ≤ c2_groups.toInt + 7 → c2_farOther.toInt ≤ c2_groups.toInt + 8 → v7.toInt ≤ c2_groups.toInt + 9 → c2_farOther.toInt ≤ v7.toInt + 10 → c2_farOther.toInt ≤ c2_farOne.toInt + 11 → dz_rg a59 14425 0 16777215 → dz_rg a61 13824 0 13823 → dz_rg a62 16 0 16777215 → 0 + 0 + (12 - v7.toInt) * 308 + 11 ≤ ((k : Nat) : Int) → dz_T ((F65_X12_layApart fu c2_groups c2_pots c2_ranks c2_draws c2_lawful c2_out a48 a49 a50 a54 a55 a56 a57 k).2.1 v3 v5 v7 c2_parts c2_laid c2_apart c2_sum c2_farOne c2_farOther c2_far c2_beneath a58 a59 a60 a61 a62 a63 a64 a65 a66) (fun r => dz_rg r.2.2.2.2.2.2.2.2.2.1 14425 0 16777215 ∧ dz_rg r.2.2.2.2.2.2.2.2.2.2.2.1 13824 0 13823 ∧ dz_rg r.2.2.2.2.2.2.2.2.2.2.2.2.1 16 0 16777215) := by
  intro v3 v5 v7 c2_parts c2_laid c2_apart c2_sum c2_farOne c2_farOther c2_far c2_beneath a58 a59 a60 a61 a62 a63 a64 a65 a66 i0 i1 i2 i3 i4 i5 i6 i7 i8 i9 i10 i11 i12 hr_a59 hr_a61 hr_a62 hm
  obtain ⟨k0, rfl⟩ : ∃ x, k = x + 1 := ⟨k - 1, by omega⟩
  show dz_T (s65_X12_layApart_2 fu c2_groups c2_pots c2_ranks c2_draws c2_lawful c2_out a48 a49 a50 a54 a55 a56 a57 (F65_X12_layApart fu c2_groups c2_pots c2_ranks c2_draws c2_lawful c2_out a48 a49 a50 a54 a55 a56 a57 k0).2.2.2.1  v3 v5 v7 c2_parts c2_laid c2_apart c2_sum c2_farOne c2_farOther c2_far c2_beneath a58 a59 a60 a61 a62 a63 a64 a65 a66) _
  unfold s65_X12_layApart_2
  refine dz_Tb (t9_X12_teams_s fu hfu κ hκ _ _ p0 p1 p2 p3 o5 o6) (fun r1 q => ?_)
  obtain ⟨q1_0, q1_1, q1_2, qo1_0⟩ := q
  refine dz_Tle (fun h1 => ?_) (fun h1 => ?_)
  · skip
    refine dz_Ts ?_
    dsimp only
    exact ⟨(hr_a59), (hr_a61), (hr_a62)⟩
  · skip
    have e2 := dz_l1
    have e3 := dz_add (a := v7) (b := (1 : Int32)) (by omega) (by omega)
    exact (ih k0 (by omega)).2.2.2 v3 v5 v7 (v7 + (1 : Int32)) c2_parts c2_laid c2_apart c2_sum c2_farOne c2_farOther c2_far c2_beneath a58 a59 a60 a61 a62 a63 a64 a65 a66 (by first | assumption | omega) i1 (by omega) (by omega) i2 i3 i4 i5 (by omega) i7 (by first | assumption | omega) (by omega) i8 i9 (by first | assumption | omega) (by omega) (by omega) i12 (hr_a59) (hr_a61) (hr_a62) (by omega)
set_option maxHeartbeats 4000000 in
set_option maxRecDepth 10000 in
theorem t65_X12_layApart_h3_s (fu : Nat) (hfu : 1000000000000 ≤ fu) (κ : Nat) (hκ : κ < 14) (c2_groups : Int32) (c2_pots : Int32) (c2_ranks : Int32) (c2_draws : Int32) (c2_lawful : Int32) (c2_out : Int32) (a48 : Nat → Int32) (a49 : Nat → Int32) (a50 : Nat → Int32) (a54 : Nat → Int32) (a55 : Nat → Int32) (a56 : Nat → Int32) (a57 : Nat → Int32) (p0 : c2_groups.toInt ≤ 4) (p1 : 2 ≤ c2_groups.toInt) (p2 : c2_pots.toInt ≤ 4) (p3 : 0 ≤ c2_pots.toInt) (p4 : c2_ranks.toInt ≤ 24) (p5 : 2 ≤ c2_ranks.toInt) (p6 : c2_draws.toInt ≤ 13824) (p7 : 1 ≤ c2_draws.toInt) (p8 : c2_lawful.toInt ≤ 13824) (p9 : 0 ≤ c2_lawful.toInt) (p10 : c2_out.toInt ≤ 12) (p11 : 0 ≤ c2_out.toInt) (p12 : c2_lawful.toInt ≤ c2_draws.toInt) (hr_a48 : dz_rg a48 100 0 3) (hr_a49 : dz_rg a49 13824 0 1023) (hr_a50 : dz_rg a50 165888 0 3) (hr_a54 : dz_rg a54 12 0 11) (hr_a55 : dz_rg a55 12 0 3) (hr_a56 : dz_rg a56 4 0 3) (hr_a57 : dz_rg a57 4 0 3) (o0 : dz_pq a56 c2_pots.toInt.toNat) (o1 : dz_pm a57 (dz_kg κ)) (o2 : dz_rw (dz_kg κ) (dz_kr κ) a48) (o3 : ∀ t : Int, dz_pp (dz_kg κ) (dz_kr κ) a54 a55 t c2_out.toInt.toNat) (o4 : c2_out.toInt ≤ ((dz_km κ : Nat) : Int)) (o5 : c2_groups.toInt = ((dz_kg κ : Nat) : Int)) (o6 : c2_pots.toInt = ((dz_kp κ : Nat) : Int)) (o7 : c2_ranks.toInt = ((dz_kr κ : Nat) : Int)) (o8 : c2_draws.toInt = ((dz_kt κ : Nat) : Int)) (k : Nat) (ih : ∀ j9, j9 < k → p65_X12_layApart_s fu κ c2_groups c2_pots c2_ranks c2_draws c2_lawful c2_out a48 a49 a50 a54 a55 a56 a57 j9) : ∀ (v2 : Int32) (v3 : Int64) (v5 : Int32) (v6 : Int32) (c2_parts : Int32) (c2_laid : Int32) (c2_apart : Int64) (c2_sum : Int64) (c2_farOne : Int32) (c2_farOther : Int32) (c2_far : Int64) (c2_beneath : Int64) (a58 : Nat → Int32) (a59 : Nat → Int32) (a60 : Nat → Int64) (a61 : Nat → Int32) (a62 : Nat → Int32) (a63 : Nat → Int32) (a64 : Nat → Int64) (a65 : Nat → Int64) (a66 : Nat → Int64), v2.toInt ≤ 2 → 0 ≤ v2.toInt → v5.toInt ≤ 11 → 0 ≤ v5.toInt → v6.toInt ≤ 12 → 1 ≤ v6.toInt → v5.toInt + 1 ≤ v6.toInt → v5.toInt ≤ c2_groups.toInt + 8 → v6.toInt ≤ c2_groups.toInt + 9 → dz_rg a59 14425 0 16777215 → dz_rg a61 13824 0 13823 → dz_rg a62 16 0 16777215 → 0 + 4015 + ((12 - v5.toInt) - 1) * 308 + 0 + (12 - v6.toInt) * 22 + 22 ≤ ((k : Nat) : Int) → dz_T ((F65_X12_layApart fu c2_groups c2_pots c2_ranks c2_draws c2_lawful c2_out a48 a49 a50 a54 a55 a56 a57 k).2.2.1 v2 v3 v5 v6 c2_parts c2_laid c2_apart c2_sum c2_farOne c2_farOther c2_far c2_beneath a58 a59 a60 a61 a62 a63 a64 a65 a66) (fun r => dz_rg r.2.2.2.2.2.2.2.2.2.1 14425 0 16777215 ∧ dz_rg r.2.2.2.2.2.2.2.2.2.2.2.1 13824 0 13823 ∧ dz_rg r.2.2.2.2.2.2.2.2.2.2.2.2.1 16 0 16777215) := by
  intro v2 v3 v5 v6 c2_parts c2_laid c2_apart c2_sum c2_farOne c2_farOther c2_far c2_beneath a58 a59 a60 a61 a62 a63 a64 a65 a66 i0 i1 i2 i3 i4 i5 i6 i7 i8 hr_a59 hr_a61 hr_a62 hm
  obtain ⟨k0, rfl⟩ : ∃ x, k = x + 1 := ⟨k - 1, by omega⟩
  show dz_T (s65_X12_layApart_3 fu c2_groups c2_pots c2_ranks c2_draws c2_lawful c2_out a48 a49 a50 a54 a55 a56 a57 (F65_X12_layApart fu c2_groups c2_pots c2_ranks c2_draws c2_lawful c2_out a48 a49 a50 a54 a55 a56 a57 k0).1 (F65_X12_layApart fu c2_groups c2_pots c2_ranks c2_draws c2_lawful c2_out a48 a49 a50 a54 a55 a56 a57 k0).2.2.1  v2 v3 v5 v6 c2_parts c2_laid c2_apart c2_sum c2_farOne c2_farOther c2_far c2_beneath a58 a59 a60 a61 a62 a63 a64 a65 a66) _
  unfold s65_X12_layApart_3
  refine dz_Tb (t9_X12_teams_s fu hfu κ hκ _ _ p0 p1 p2 p3 o5 o6) (fun r1 q => ?_)
  obtain ⟨q1_0, q1_1, q1_2, qo1_0⟩ := q
  refine dz_Tle (fun h1 => ?_) (fun h1 => ?_)
  · skip
    have e2 := dz_l1
    have e3 := dz_add (a := v5) (b := (1 : Int32)) (by omega) (by omega)
    exact (ih k0 (by omega)).1 v2 v3 (v5 + (1 : Int32)) c2_parts c2_laid c2_apart c2_sum c2_farOne c2_farOther c2_far c2_beneath a58 a59 a60 a61 a62 a63 a64 a65 a66 i0 i1 (by omega) (by omega) (by omega) (hr_a59) (hr_a61) (hr_a62) (by omega)
  · skip
    refine dz_Tb (t60_X12_pairRows_s fu hfu κ hκ _ _ _ _ _ p6 p7 i3 i2 (by first | assumption | omega) (by first | assumption | omega) (hr_a50) o8) (fun r2 _ => ?_)
    have e4 := dz_l12
    have e5 := dz_mull (a := (12 : Int32)) (b := v5) 12 (by omega) (by omega) (by omega)
    have e6 := dz_add (a := ((12 : Int32) * v5)) (b := v6) (by omega) (by omega)
    refine dz_Tin (by omega) (by omega) ?_
    have e7 := dz_l1
    have e8 := dz_add (a := v6) (b := (1 : Int32)) (by omega) (by omega)
    exact (ih k0 (by omega)).2.2.1 v2 v3 v5 (v6 + (1 : Int32)) c2_parts c2_laid c2_apart c2_sum c2_farOne c2_farOther c2_far c2_beneath a58 a59 a60 a61 a62 a63 a64 a65 (vp_updL a66 (((12 : Int32) * v5) + v6).toNatClampNeg r2) i0 i1 i2 i3 (by omega) (by omega) (by omega) i7 (by omega) (hr_a59) (hr_a61) (hr_a62) (by omega)
set_option maxHeartbeats 4000000 in
set_option maxRecDepth 10000 in
theorem t65_X12_layApart_h4_s (fu : Nat) (hfu : 1000000000000 ≤ fu) (κ : Nat) (hκ : κ < 14) (c2_groups : Int32) (c2_pots : Int32) (c2_ranks : Int32) (c2_draws : Int32) (c2_lawful : Int32) (c2_out : Int32) (a48 : Nat → Int32) (a49 : Nat → Int32) (a50 : Nat → Int32) (a54 : Nat → Int32) (a55 : Nat → Int32) (a56 : Nat → Int32) (a57 : Nat → Int32) (p0 : c2_groups.toInt ≤ 4) (p1 : 2 ≤ c2_groups.toInt) (p2 : c2_pots.toInt ≤ 4) (p3 : 0 ≤ c2_pots.toInt) (p4 : c2_ranks.toInt ≤ 24) (p5 : 2 ≤ c2_ranks.toInt) (p6 : c2_draws.toInt ≤ 13824) (p7 : 1 ≤ c2_draws.toInt) (p8 : c2_lawful.toInt ≤ 13824) (p9 : 0 ≤ c2_lawful.toInt) (p10 : c2_out.toInt ≤ 12) (p11 : 0 ≤ c2_out.toInt) (p12 : c2_lawful.toInt ≤ c2_draws.toInt) (hr_a48 : dz_rg a48 100 0 3) (hr_a49 : dz_rg a49 13824 0 1023) (hr_a50 : dz_rg a50 165888 0 3) (hr_a54 : dz_rg a54 12 0 11) (hr_a55 : dz_rg a55 12 0 3) (hr_a56 : dz_rg a56 4 0 3) (hr_a57 : dz_rg a57 4 0 3) (o0 : dz_pq a56 c2_pots.toInt.toNat) (o1 : dz_pm a57 (dz_kg κ)) (o2 : dz_rw (dz_kg κ) (dz_kr κ) a48) (o3 : ∀ t : Int, dz_pp (dz_kg κ) (dz_kr κ) a54 a55 t c2_out.toInt.toNat) (o4 : c2_out.toInt ≤ ((dz_km κ : Nat) : Int)) (o5 : c2_groups.toInt = ((dz_kg κ : Nat) : Int)) (o6 : c2_pots.toInt = ((dz_kp κ : Nat) : Int)) (o7 : c2_ranks.toInt = ((dz_kr κ : Nat) : Int)) (o8 : c2_draws.toInt = ((dz_kt κ : Nat) : Int)) (k : Nat) (ih : ∀ j9, j9 < k → p65_X12_layApart_s fu κ c2_groups c2_pots c2_ranks c2_draws c2_lawful c2_out a48 a49 a50 a54 a55 a56 a57 j9) : ∀ (v3 : Int64) (v5 : Int64) (v7 : Int32) (v8 : Int32) (c2_parts : Int32) (c2_laid : Int32) (c2_apart : Int64) (c2_sum : Int64) (c2_farOne : Int32) (c2_farOther : Int32) (c2_far : Int64) (c2_beneath : Int64) (a58 : Nat → Int32) (a59 : Nat → Int32) (a60 : Nat → Int64) (a61 : Nat → Int32) (a62 : Nat → Int32) (a63 : Nat → Int32) (a64 : Nat → Int64) (a65 : Nat → Int64) (a66 : Nat → Int64), v7.toInt ≤ 11 → 0 ≤ v7.toInt → v8.toInt ≤ 12 → 1 ≤ v8.toInt → c2_farOne.toInt ≤ 10 → (-1) ≤ c2_farOne.toInt → c2_farOther.toInt ≤ 11 → (-1) ≤ c2_farOther.toInt → v7.toInt + 1 ≤ v8.toInt → c2_farOne.toInt ≤ c2_farOther.toInt → c2_farOne.toInt ≤ v7.toInt → c2_farOne.toInt + 2 ≤ v8.toInt → c2_farOne.toInt ≤ c2_groups.toInt + 7 → c2_farOther.toInt ≤ c2_groups.toInt + 8 → v7.toInt ≤ c2_groups.toInt + 8 → c2_farOther.toInt ≤ v8.toInt + 9 → v8.toInt ≤ c2_groups.toInt + 9 → c2_farOther.toInt ≤ c2_farOne.toInt + 11 → dz_rg a59 14425 0 16777215 → dz_rg a61 13824 0 13823 → dz_rg a62 16 0 16777215 → 0 + 0 + ((12 - v7.toInt) - 1) * 308 + 0 + (12 - v8.toInt) * 22 + 22 ≤ ((k : Nat) : Int) → dz_T ((F65_X12_layApart fu c2_groups c2_pots c2_ranks c2_draws c2_lawful c2_out a48 a49 a50 a54 a55 a56 a57 k).2.2.2.1 v3 v5 v7 v8 c2_parts c2_laid c2_apart c2_sum c2_farOne c2_farOther c2_far c2_beneath a58 a59 a60 a61 a62 a63 a64 a65 a66) (fun r => dz_rg r.2.2.2.2.2.2.2.2.2.1 14425 0 16777215 ∧ dz_rg r.2.2.2.2.2.2.2.2.2.2.2.1 13824 0 13823 ∧ dz_rg r.2.2.2.2.2.2.2.2.2.2.2.2.1 16 0 16777215) := by
  intro v3 v5 v7 v8 c2_parts c2_laid c2_apart c2_sum c2_farOne c2_farOther c2_far c2_beneath a58 a59 a60 a61 a62 a63 a64 a65 a66 i0 i1 i2 i3 i4 i5 i6 i7 i8 i9 i10 i11 i12 i13 i14 i15 i16 i17 hr_a59 hr_a61 hr_a62 hm
  obtain ⟨k0, rfl⟩ : ∃ x, k = x + 1 := ⟨k - 1, by omega⟩
  show dz_T (s65_X12_layApart_4 fu c2_groups c2_pots c2_ranks c2_draws c2_lawful c2_out a48 a49 a50 a54 a55 a56 a57 (F65_X12_layApart fu c2_groups c2_pots c2_ranks c2_draws c2_lawful c2_out a48 a49 a50 a54 a55 a56 a57 k0).2.1 (F65_X12_layApart fu c2_groups c2_pots c2_ranks c2_draws c2_lawful c2_out a48 a49 a50 a54 a55 a56 a57 k0).2.2.2.2.1 (F65_X12_layApart fu c2_groups c2_pots c2_ranks c2_draws c2_lawful c2_out a48 a49 a50 a54 a55 a56 a57 k0).2.2.2.2.2.1  v3 v5 v7 v8 c2_parts c2_laid c2_apart c2_sum c2_farOne c2_farOther c2_far c2_beneath a58 a59 a60 a61 a62 a63 a64 a65 a66) _
  unfold s65_X12_layApart_4
  refine dz_Tb (t9_X12_teams_s fu hfu κ hκ _ _ p0 p1 p2 p3 o5 o6) (fun r1 q => ?_)
  obtain ⟨q1_0, q1_1, q1_2, qo1_0⟩ := q
  refine dz_Tle (fun h1 => ?_) (fun h1 => ?_)
  · skip
    have e2 := dz_l1
    have e3 := dz_add (a := v7) (b := (1 : Int32)) (by omega) (by omega)
    exact (ih k0 (by omega)).2.1 v3 v5 (v7 + (1 : Int32)) c2_parts c2_laid c2_apart c2_sum c2_farOne c2_farOther c2_far c2_beneath a58 a59 a60 a61 a62 a63 a64 a65 a66 (by omega) (by omega) i4 i5 i6 i7 (by omega) i9 i12 i13 (by omega) (by omega) i17 (hr_a59) (hr_a61) (hr_a62) (by omega)
  · skip
    refine dz_Tz (by omega) ?_
    refine dz_Tz (by omega) ?_
    have e4 := dz_divq (a := v7) (b := c2_groups) 2 10 (by omega) (by omega) (by omega) (by omega)
    have e5 := dz_divq (a := v8) (b := c2_groups) 2 11 (by omega) (by omega) (by omega) (by omega)
    refine dz_Teq (fun h6 => ?_) (fun h6 => ?_)
    · skip
      obtain ⟨k1, rfl⟩ : ∃ x, k0 = x + 1 := ⟨k0 - 1, by omega⟩
      show dz_T (s65_X12_layApart_6 fu c2_groups c2_pots c2_ranks c2_draws c2_lawful c2_out a48 a49 a50 a54 a55 a56 a57 (F65_X12_layApart fu c2_groups c2_pots c2_ranks c2_draws c2_lawful c2_out a48 a49 a50 a54 a55 a56 a57 k1).2.2.2.1 v3 v5 v7 v8 c2_parts c2_laid c2_apart c2_sum c2_farOne c2_farOther c2_far c2_beneath a58 a59 a60 a61 a62 a63 a64 a65 a66) _
      unfold s65_X12_layApart_6
      have e7 := dz_l1
      have e8 := dz_add (a := v8) (b := (1 : Int32)) (by omega) (by omega)
      exact (ih k1 (by omega)).2.2.2 v3 v5 v7 (v8 + (1 : Int32)) c2_parts c2_laid c2_apart c2_sum c2_farOne c2_farOther c2_far c2_beneath a58 a59 a60 a61 a62 a63 a64 a65 a66 i0 i1 (by omega) (by omega) i4 i5 i6 i7 (by omega) i9 i10 (by omega) i12 i13 i14 (by omega) (by omega) i17 (hr_a59) (hr_a61) (hr_a62) (by omega)
    · skip
      have e9 := dz_l12
      have e10 := dz_mull (a := (12 : Int32)) (b := v7) 12 (by omega) (by omega) (by omega)
      have e11 := dz_add (a := ((12 : Int32) * v7)) (b := v8) (by omega) (by omega)
      refine dz_Tin (by omega) (by omega) ?_
      refine dz_Tb (t60_X12_pairRows_s fu hfu κ hκ _ _ _ _ _ p6 p7 i1 i0 (by first | assumption | omega) (by first | assumption | omega) (hr_a50) o8) (fun r2 _ => ?_)
      have e12 := dz_l0
      refine dz_Tle (fun h13 => ?_) (fun h13 => ?_)
      · skip
        obtain ⟨k2, rfl⟩ : ∃ x, k0 = x + 1 := ⟨k0 - 1, by omega⟩
        show dz_T (s65_X12_layApart_5 fu c2_groups c2_pots c2_ranks c2_draws c2_lawful c2_out a48 a49 a50 a54 a55 a56 a57 (F65_X12_layApart fu c2_groups c2_pots c2_ranks c2_draws c2_lawful c2_out a48 a49 a50 a54 a55 a56 a57 k2).2.2.2.2.2.1 (F65_X12_layApart fu c2_groups c2_pots c2_ranks c2_draws c2_lawful c2_out a48 a49 a50 a54 a55 a56 a57 k2).2.2.2.2.2.2 v3 v5 v7 v8 (((a66 (((12 : Int32) * v7) + v8).toNatClampNeg) * v5) - (r2 * v3)) (((a66 (((12 : Int32) * v7) + v8).toNatClampNeg) * v5) - (r2 * v3)) c2_parts c2_laid c2_apart c2_sum c2_farOne c2_farOther c2_far c2_beneath a58 a59 a60 a61 a62 a63 a64 a65 a66) _
        unfold s65_X12_layApart_5
        have e14 := dz_lm1
        refine dz_Teq (fun h15 => ?_) (fun h15 => ?_)
        · skip
          obtain ⟨k3, rfl⟩ : ∃ x, k2 = x + 1 := ⟨k2 - 1, by omega⟩
          show dz_T (s65_X12_layApart_7 fu c2_groups c2_pots c2_ranks c2_draws c2_lawful c2_out a48 a49 a50 a54 a55 a56 a57 (F65_X12_layApart fu c2_groups c2_pots c2_ranks c2_draws c2_lawful c2_out a48 a49 a50 a54 a55 a56 a57 k3).2.2.2.2.2.1 v3 v5 v7 v8 (((a66 (((12 : Int32) * v7) + v8).toNatClampNeg) * v5) - (r2 * v3)) (((a66 (((12 : Int32) * v7) + v8).toNatClampNeg) * v5) - (r2 * v3)) c2_parts c2_laid c2_apart (c2_sum + (((a66 (((12 : Int32) * v7) + v8).toNatClampNeg) * v5) - (r2 * v3))) c2_farOne c2_farOther c2_far c2_beneath a58 a59 a60 a61 a62 a63 a64 a65 a66) _
          unfold s65_X12_layApart_7
          obtain ⟨k4, rfl⟩ : ∃ x, k3 = x + 1 := ⟨k3 - 1, by omega⟩
          show dz_T (s65_X12_layApart_6 fu c2_groups c2_pots c2_ranks c2_draws c2_lawful c2_out a48 a49 a50 a54 a55 a56 a57 (F65_X12_layApart fu c2_groups c2_pots c2_ranks c2_draws c2_lawful c2_out a48 a49 a50 a54 a55 a56 a57 k4).2.2.2.1 v3 v5 v7 v8 c2_parts c2_laid (((a66 (((12 : Int32) * v7) + v8).toNatClampNeg) * v5) - (r2 * v3)) (c2_sum + (((a66 (((12 : Int32) * v7) + v8).toNatClampNeg) * v5) - (r2 * v3))) v7 v8 (((a66 (((12 : Int32) * v7) + v8).toNatClampNeg) * v5) - (r2 * v3)) c2_beneath a58 a59 a60 a61 a62 a63 a64 a65 a66) _
          unfold s65_X12_layApart_6
          have e16 := dz_l1
          have e17 := dz_add (a := v8) (b := (1 : Int32)) (by omega) (by omega)
          exact (ih k4 (by omega)).2.2.2 v3 v5 v7 (v8 + (1 : Int32)) c2_parts c2_laid (((a66 (((12 : Int32) * v7) + v8).toNatClampNeg) * v5) - (r2 * v3)) (c2_sum + (((a66 (((12 : Int32) * v7) + v8).toNatClampNeg) * v5) - (r2 * v3))) v7 v8 (((a66 (((12 : Int32) * v7) + v8).toNatClampNeg) * v5) - (r2 * v3)) c2_beneath a58 a59 a60 a61 a62 a63 a64 a65 a66 i0 i1 (by omega) (by omega) (by first | assumption | omega) (by first | assumption | omega) (by first | assumption | omega) (by first | assumption | omega) (by omega) (by first | assumption | omega) (by first | assumption | omega) (by omega) (by first | assumption | omega) (by first | assumption | omega) i14 (by omega) (by omega) (by first | assumption | omega) (hr_a59) (hr_a61) (hr_a62) (by omega)
        · skip
          refine dz_Tlt (fun h18 => ?_) (fun h18 => ?_)
          · skip
            obtain ⟨k5, rfl⟩ : ∃ x, k2 = x + 1 := ⟨k2 - 1, by omega⟩
            show dz_T (s65_X12_layApart_7 fu c2_groups c2_pots c2_ranks c2_draws c2_lawful c2_out a48 a49 a50 a54 a55 a56 a57 (F65_X12_layApart fu c2_groups c2_pots c2_ranks c2_draws c2_lawful c2_out a48 a49 a50 a54 a55 a56 a57 k5).2.2.2.2.2.1 v3 v5 v7 v8 (((a66 (((12 : Int32) * v7) + v8).toNatClampNeg) * v5) - (r2 * v3)) (((a66 (((12 : Int32) * v7) + v8).toNatClampNeg) * v5) - (r2 * v3)) c2_parts c2_laid c2_apart (c2_sum + (((a66 (((12 : Int32) * v7) + v8).toNatClampNeg) * v5) - (r2 * v3))) c2_farOne c2_farOther c2_far c2_beneath a58 a59 a60 a61 a62 a63 a64 a65 a66) _
            unfold s65_X12_layApart_7
            obtain ⟨k6, rfl⟩ : ∃ x, k5 = x + 1 := ⟨k5 - 1, by omega⟩
            show dz_T (s65_X12_layApart_6 fu c2_groups c2_pots c2_ranks c2_draws c2_lawful c2_out a48 a49 a50 a54 a55 a56 a57 (F65_X12_layApart fu c2_groups c2_pots c2_ranks c2_draws c2_lawful c2_out a48 a49 a50 a54 a55 a56 a57 k6).2.2.2.1 v3 v5 v7 v8 c2_parts c2_laid (((a66 (((12 : Int32) * v7) + v8).toNatClampNeg) * v5) - (r2 * v3)) (c2_sum + (((a66 (((12 : Int32) * v7) + v8).toNatClampNeg) * v5) - (r2 * v3))) v7 v8 (((a66 (((12 : Int32) * v7) + v8).toNatClampNeg) * v5) - (r2 * v3)) c2_beneath a58 a59 a60 a61 a62 a63 a64 a65 a66) _
            unfold s65_X12_layApart_6
            have e19 := dz_l1
            have e20 := dz_add (a := v8) (b := (1 : Int32)) (by omega) (by omega)
            exact (ih k6 (by omega)).2.2.2 v3 v5 v7 (v8 + (1 : Int32)) c2_parts c2_laid (((a66 (((12 : Int32) * v7) + v8).toNatClampNeg) * v5) - (r2 * v3)) (c2_sum + (((a66 (((12 : Int32) * v7) + v8).toNatClampNeg) * v5) - (r2 * v3))) v7 v8 (((a66 (((12 : Int32) * v7) + v8).toNatClampNeg) * v5) - (r2 * v3)) c2_beneath a58 a59 a60 a61 a62 a63 a64 a65 a66 i0 i1 (by omega) (by omega) (by first | assumption | omega) (by first | assumption | omega) (by first | assumption | omega) (by first | assumption | omega) (by omega) (by first | assumption | omega) (by first | assumption | omega) (by omega) (by first | assumption | omega) (by first | assumption | omega) i14 (by omega) (by omega) (by first | assumption | omega) (hr_a59) (hr_a61) (hr_a62) (by omega)
          · skip
            obtain ⟨k7, rfl⟩ : ∃ x, k2 = x + 1 := ⟨k2 - 1, by omega⟩
            show dz_T (s65_X12_layApart_6 fu c2_groups c2_pots c2_ranks c2_draws c2_lawful c2_out a48 a49 a50 a54 a55 a56 a57 (F65_X12_layApart fu c2_groups c2_pots c2_ranks c2_draws c2_lawful c2_out a48 a49 a50 a54 a55 a56 a57 k7).2.2.2.1 v3 v5 v7 v8 c2_parts c2_laid c2_apart (c2_sum + (((a66 (((12 : Int32) * v7) + v8).toNatClampNeg) * v5) - (r2 * v3))) c2_farOne c2_farOther c2_far c2_beneath a58 a59 a60 a61 a62 a63 a64 a65 a66) _
            unfold s65_X12_layApart_6
            have e21 := dz_l1
            have e22 := dz_add (a := v8) (b := (1 : Int32)) (by omega) (by omega)
            exact (ih k7 (by omega)).2.2.2 v3 v5 v7 (v8 + (1 : Int32)) c2_parts c2_laid c2_apart (c2_sum + (((a66 (((12 : Int32) * v7) + v8).toNatClampNeg) * v5) - (r2 * v3))) c2_farOne c2_farOther c2_far c2_beneath a58 a59 a60 a61 a62 a63 a64 a65 a66 i0 i1 (by omega) (by omega) i4 i5 i6 i7 (by omega) i9 i10 (by omega) i12 i13 i14 (by omega) (by omega) i17 (hr_a59) (hr_a61) (hr_a62) (by omega)
      · skip
        obtain ⟨k8, rfl⟩ : ∃ x, k0 = x + 1 := ⟨k0 - 1, by omega⟩
        show dz_T (s65_X12_layApart_5 fu c2_groups c2_pots c2_ranks c2_draws c2_lawful c2_out a48 a49 a50 a54 a55 a56 a57 (F65_X12_layApart fu c2_groups c2_pots c2_ranks c2_draws c2_lawful c2_out a48 a49 a50 a54 a55 a56 a57 k8).2.2.2.2.2.1 (F65_X12_layApart fu c2_groups c2_pots c2_ranks c2_draws c2_lawful c2_out a48 a49 a50 a54 a55 a56 a57 k8).2.2.2.2.2.2 v3 v5 v7 v8 (((a66 (((12 : Int32) * v7) + v8).toNatClampNeg) * v5) - (r2 * v3)) ((-(((a66 (((12 : Int32) * v7) + v8).toNatClampNeg) * v5) - (r2 * v3))) : Int64) c2_parts c2_laid c2_apart c2_sum c2_farOne c2_farOther c2_far c2_beneath a58 a59 a60 a61 a62 a63 a64 a65 a66) _
        unfold s65_X12_layApart_5
        have e23 := dz_lm1
        refine dz_Teq (fun h24 => ?_) (fun h24 => ?_)
        · skip
          obtain ⟨k9, rfl⟩ : ∃ x, k8 = x + 1 := ⟨k8 - 1, by omega⟩
          show dz_T (s65_X12_layApart_7 fu c2_groups c2_pots c2_ranks c2_draws c2_lawful c2_out a48 a49 a50 a54 a55 a56 a57 (F65_X12_layApart fu c2_groups c2_pots c2_ranks c2_draws c2_lawful c2_out a48 a49 a50 a54 a55 a56 a57 k9).2.2.2.2.2.1 v3 v5 v7 v8 (((a66 (((12 : Int32) * v7) + v8).toNatClampNeg) * v5) - (r2 * v3)) ((-(((a66 (((12 : Int32) * v7) + v8).toNatClampNeg) * v5) - (r2 * v3))) : Int64) c2_parts c2_laid c2_apart (c2_sum + (-(((a66 (((12 : Int32) * v7) + v8).toNatClampNeg) * v5) - (r2 * v3)))) c2_farOne c2_farOther c2_far c2_beneath a58 a59 a60 a61 a62 a63 a64 a65 a66) _
          unfold s65_X12_layApart_7
          obtain ⟨k10, rfl⟩ : ∃ x, k9 = x + 1 := ⟨k9 - 1, by omega⟩
          show dz_T (s65_X12_layApart_6 fu c2_groups c2_pots c2_ranks c2_draws c2_lawful c2_out a48 a49 a50 a54 a55 a56 a57 (F65_X12_layApart fu c2_groups c2_pots c2_ranks c2_draws c2_lawful c2_out a48 a49 a50 a54 a55 a56 a57 k10).2.2.2.1 v3 v5 v7 v8 c2_parts c2_laid ((-(((a66 (((12 : Int32) * v7) + v8).toNatClampNeg) * v5) - (r2 * v3))) : Int64) (c2_sum + (-(((a66 (((12 : Int32) * v7) + v8).toNatClampNeg) * v5) - (r2 * v3)))) v7 v8 (((a66 (((12 : Int32) * v7) + v8).toNatClampNeg) * v5) - (r2 * v3)) c2_beneath a58 a59 a60 a61 a62 a63 a64 a65 a66) _
          unfold s65_X12_layApart_6
          have e25 := dz_l1
          have e26 := dz_add (a := v8) (b := (1 : Int32)) (by omega) (by omega)
          exact (ih k10 (by omega)).2.2.2 v3 v5 v7 (v8 + (1 : Int32)) c2_parts c2_laid ((-(((a66 (((12 : Int32) * v7) + v8).toNatClampNeg) * v5) - (r2 * v3))) : Int64) (c2_sum + (-(((a66 (((12 : Int32) * v7) + v8).toNatClampNeg) * v5) - (r2 * v3)))) v7 v8 (((a66 (((12 : Int32) * v7) + v8).toNatClampNeg) * v5) - (r2 * v3)) c2_beneath a58 a59 a60 a61 a62 a63 a64 a65 a66 i0 i1 (by omega) (by omega) (by first | assumption | omega) (by first | assumption | omega) (by first | assumption | omega) (by first | assumption | omega) (by omega) (by first | assumption | omega) (by first | assumption | omega) (by omega) (by first | assumption | omega) (by first | assumption | omega) i14 (by omega) (by omega) (by first | assumption | omega) (hr_a59) (hr_a61) (hr_a62) (by omega)
        · skip
          refine dz_Tlt (fun h27 => ?_) (fun h27 => ?_)
          · skip
            obtain ⟨k11, rfl⟩ : ∃ x, k8 = x + 1 := ⟨k8 - 1, by omega⟩
            show dz_T (s65_X12_layApart_7 fu c2_groups c2_pots c2_ranks c2_draws c2_lawful c2_out a48 a49 a50 a54 a55 a56 a57 (F65_X12_layApart fu c2_groups c2_pots c2_ranks c2_draws c2_lawful c2_out a48 a49 a50 a54 a55 a56 a57 k11).2.2.2.2.2.1 v3 v5 v7 v8 (((a66 (((12 : Int32) * v7) + v8).toNatClampNeg) * v5) - (r2 * v3)) ((-(((a66 (((12 : Int32) * v7) + v8).toNatClampNeg) * v5) - (r2 * v3))) : Int64) c2_parts c2_laid c2_apart (c2_sum + (-(((a66 (((12 : Int32) * v7) + v8).toNatClampNeg) * v5) - (r2 * v3)))) c2_farOne c2_farOther c2_far c2_beneath a58 a59 a60 a61 a62 a63 a64 a65 a66) _
            unfold s65_X12_layApart_7
            obtain ⟨k12, rfl⟩ : ∃ x, k11 = x + 1 := ⟨k11 - 1, by omega⟩
            show dz_T (s65_X12_layApart_6 fu c2_groups c2_pots c2_ranks c2_draws c2_lawful c2_out a48 a49 a50 a54 a55 a56 a57 (F65_X12_layApart fu c2_groups c2_pots c2_ranks c2_draws c2_lawful c2_out a48 a49 a50 a54 a55 a56 a57 k12).2.2.2.1 v3 v5 v7 v8 c2_parts c2_laid ((-(((a66 (((12 : Int32) * v7) + v8).toNatClampNeg) * v5) - (r2 * v3))) : Int64) (c2_sum + (-(((a66 (((12 : Int32) * v7) + v8).toNatClampNeg) * v5) - (r2 * v3)))) v7 v8 (((a66 (((12 : Int32) * v7) + v8).toNatClampNeg) * v5) - (r2 * v3)) c2_beneath a58 a59 a60 a61 a62 a63 a64 a65 a66) _
            unfold s65_X12_layApart_6
            have e28 := dz_l1
            have e29 := dz_add (a := v8) (b := (1 : Int32)) (by omega) (by omega)
            exact (ih k12 (by omega)).2.2.2 v3 v5 v7 (v8 + (1 : Int32)) c2_parts c2_laid ((-(((a66 (((12 : Int32) * v7) + v8).toNatClampNeg) * v5) - (r2 * v3))) : Int64) (c2_sum + (-(((a66 (((12 : Int32) * v7) + v8).toNatClampNeg) * v5) - (r2 * v3)))) v7 v8 (((a66 (((12 : Int32) * v7) + v8).toNatClampNeg) * v5) - (r2 * v3)) c2_beneath a58 a59 a60 a61 a62 a63 a64 a65 a66 i0 i1 (by omega) (by omega) (by first | assumption | omega) (by first | assumption | omega) (by first | assumption | omega) (by first | assumption | omega) (by omega) (by first | assumption | omega) (by first | assumption | omega) (by omega) (by first | assumption | omega) (by first | assumption | omega) i14 (by omega) (by omega) (by first | assumption | omega) (hr_a59) (hr_a61) (hr_a62) (by omega)
          · skip
            obtain ⟨k13, rfl⟩ : ∃ x, k8 = x + 1 := ⟨k8 - 1, by omega⟩
            show dz_T (s65_X12_layApart_6 fu c2_groups c2_pots c2_ranks c2_draws c2_lawful c2_out a48 a49 a50 a54 a55 a56 a57 (F65_X12_layApart fu c2_groups c2_pots c2_ranks c2_draws c2_lawful c2_out a48 a49 a50 a54 a55 a56 a57 k13).2.2.2.1 v3 v5 v7 v8 c2_parts c2_laid c2_apart (c2_sum + (-(((a66 (((12 : Int32) * v7) + v8).toNatClampNeg) * v5) - (r2 * v3)))) c2_farOne c2_farOther c2_far c2_beneath a58 a59 a60 a61 a62 a63 a64 a65 a66) _
            unfold s65_X12_layApart_6
            have e30 := dz_l1
            have e31 := dz_add (a := v8) (b := (1 : Int32)) (by omega) (by omega)
            exact (ih k13 (by omega)).2.2.2 v3 v5 v7 (v8 + (1 : Int32)) c2_parts c2_laid c2_apart (c2_sum + (-(((a66 (((12 : Int32) * v7) + v8).toNatClampNeg) * v5) - (r2 * v3)))) c2_farOne c2_farOther c2_far c2_beneath a58 a59 a60 a61 a62 a63 a64 a65 a66 i0 i1 (by omega) (by omega) i4 i5 i6 i7 (by omega) i9 i10 (by omega) i12 i13 i14 (by omega) (by omega) i17 (hr_a59) (hr_a61) (hr_a62) (by omega)
theorem t65_X12_layApart_I_s (fu : Nat) (hfu : 1000000000000 ≤ fu) (κ : Nat) (hκ : κ < 14) (c2_groups : Int32) (c2_pots : Int32) (c2_ranks : Int32) (c2_draws : Int32) (c2_lawful : Int32) (c2_out : Int32) (a48 : Nat → Int32) (a49 : Nat → Int32) (a50 : Nat → Int32) (a54 : Nat → Int32) (a55 : Nat → Int32) (a56 : Nat → Int32) (a57 : Nat → Int32) (p0 : c2_groups.toInt ≤ 4) (p1 : 2 ≤ c2_groups.toInt) (p2 : c2_pots.toInt ≤ 4) (p3 : 0 ≤ c2_pots.toInt) (p4 : c2_ranks.toInt ≤ 24) (p5 : 2 ≤ c2_ranks.toInt) (p6 : c2_draws.toInt ≤ 13824) (p7 : 1 ≤ c2_draws.toInt) (p8 : c2_lawful.toInt ≤ 13824) (p9 : 0 ≤ c2_lawful.toInt) (p10 : c2_out.toInt ≤ 12) (p11 : 0 ≤ c2_out.toInt) (p12 : c2_lawful.toInt ≤ c2_draws.toInt) (hr_a48 : dz_rg a48 100 0 3) (hr_a49 : dz_rg a49 13824 0 1023) (hr_a50 : dz_rg a50 165888 0 3) (hr_a54 : dz_rg a54 12 0 11) (hr_a55 : dz_rg a55 12 0 3) (hr_a56 : dz_rg a56 4 0 3) (hr_a57 : dz_rg a57 4 0 3) (o0 : dz_pq a56 c2_pots.toInt.toNat) (o1 : dz_pm a57 (dz_kg κ)) (o2 : dz_rw (dz_kg κ) (dz_kr κ) a48) (o3 : ∀ t : Int, dz_pp (dz_kg κ) (dz_kr κ) a54 a55 t c2_out.toInt.toNat) (o4 : c2_out.toInt ≤ ((dz_km κ : Nat) : Int)) (o5 : c2_groups.toInt = ((dz_kg κ : Nat) : Int)) (o6 : c2_pots.toInt = ((dz_kp κ : Nat) : Int)) (o7 : c2_ranks.toInt = ((dz_kr κ : Nat) : Int)) (o8 : c2_draws.toInt = ((dz_kt κ : Nat) : Int)) (k : Nat) : p65_X12_layApart_s fu κ c2_groups c2_pots c2_ranks c2_draws c2_lawful c2_out a48 a49 a50 a54 a55 a56 a57 k := by
  induction k using Nat.strongRecOn with
  | _ k ih => exact ⟨t65_X12_layApart_h1_s fu hfu κ hκ c2_groups c2_pots c2_ranks c2_draws c2_lawful c2_out a48 a49 a50 a54 a55 a56 a57 p0 p1 p2 p3 p4 p5 p6 p7 p8 p9 p10 p11 p12 hr_a48 hr_a49 hr_a50 hr_a54 hr_a55 hr_a56 hr_a57 o0 o1 o2 o3 o4 o5 o6 o7 o8 k ih, t65_X12_layApart_h2_s fu hfu κ hκ c2_groups c2_pots c2_ranks c2_draws c2_lawful c2_out a48 a49 a50 a54 a55 a56 a57 p0 p1 p2 p3 p4 p5 p6 p7 p8 p9 p10 p11 p12 hr_a48 hr_a49 hr_a50 hr_a54 hr_a55 hr_a56 hr_a57 o0 o1 o2 o3 o4 o5 o6 o7 o8 k ih, t65_X12_layApart_h3_s fu hfu κ hκ c2_groups c2_pots c2_ranks c2_draws c2_lawful c2_out a48 a49 a50 a54 a55 a56 a57 p0 p1 p2 p3 p4 p5 p6 p7 p8 p9 p10 p11 p12 hr_a48 hr_a49 hr_a50 hr_a54 hr_a55 hr_a56 hr_a57 o0 o1 o2 o3 o4 o5 o6 o7 o8 k ih, t65_X12_layApart_h4_s fu hfu κ hκ c2_groups c2_pots c2_ranks c2_draws c2_lawful c2_out a48 a49 a50 a54 a55 a56 a57 p0 p1 p2 p3 p4 p5 p6 p7 p8 p9 p10 p11 p12 hr_a48 hr_a49 hr_a50 hr_a54 hr_a55 hr_a56 hr_a57 o0 o1 o2 o3 o4 o5 o6 o7 o8 k ih⟩
set_option maxHeartbeats 4000000 in
set_option maxRecDepth 10000 in
theorem t65_X12_layApart_E_s (fu : Nat) (hfu : 1000000000000 ≤ fu) (κ : Nat) (hκ : κ < 14) (c2_groups : Int32) (c2_pots : Int32) (c2_ranks : Int32) (c2_draws : Int32) (c2_lawful : Int32) (c2_out : Int32) (a48 : Nat → Int32) (a49 : Nat → Int32) (a50 : Nat → Int32) (a54 : Nat → Int32) (a55 : Nat → Int32) (a56 : Nat → Int32) (a57 : Nat → Int32) (v1 : Int32) (v2 : Int32) (c2_parts : Int32) (c2_laid : Int32) (c2_apart : Int64) (c2_sum : Int64) (c2_farOne : Int32) (c2_farOther : Int32) (c2_far : Int64) (c2_beneath : Int64) (a58 : Nat → Int32) (a59 : Nat → Int32) (a60 : Nat → Int64) (a61 : Nat → Int32) (a62 : Nat → Int32) (a63 : Nat → Int32) (a64 : Nat → Int64) (a65 : Nat → Int64) (a66 : Nat → Int64) (p0 : c2_groups.toInt ≤ 4) (p1 : 2 ≤ c2_groups.toInt) (p2 : c2_pots.toInt ≤ 4) (p3 : 0 ≤ c2_pots.toInt) (p4 : c2_ranks.toInt ≤ 24) (p5 : 2 ≤ c2_ranks.toInt) (p6 : c2_draws.toInt ≤ 13824) (p7 : 1 ≤ c2_draws.toInt) (p8 : c2_lawful.toInt ≤ 13824) (p9 : 0 ≤ c2_lawful.toInt) (p10 : c2_out.toInt ≤ 12) (p11 : 0 ≤ c2_out.toInt) (p12 : c2_lawful.toInt ≤ c2_draws.toInt) (p13 : 0 ≤ v1.toInt) (p14 : v1.toInt ≤ 2) (p15 : 0 ≤ v2.toInt) (p16 : v2.toInt ≤ 2) (hr_a48 : dz_rg a48 100 0 3) (hr_a49 : dz_rg a49 13824 0 1023) (hr_a50 : dz_rg a50 165888 0 3) (hr_a54 : dz_rg a54 12 0 11) (hr_a55 : dz_rg a55 12 0 3) (hr_a56 : dz_rg a56 4 0 3) (hr_a57 : dz_rg a57 4 0 3) (hr_a59 : dz_rg a59 14425 0 16777215) (hr_a61 : dz_rg a61 13824 0 13823) (hr_a62 : dz_rg a62 16 0 16777215) (o0 : dz_pq a56 c2_pots.toInt.toNat) (o1 : dz_pm a57 (dz_kg κ)) (o2 : dz_rw (dz_kg κ) (dz_kr κ) a48) (o3 : ∀ t : Int, dz_pp (dz_kg κ) (dz_kr κ) a54 a55 t c2_out.toInt.toNat) (o4 : c2_out.toInt ≤ ((dz_km κ : Nat) : Int)) (o5 : c2_groups.toInt = ((dz_kg κ : Nat) : Int)) (o6 : c2_pots.toInt = ((dz_kp κ : Nat) : Int)) (o7 : c2_ranks.toInt = ((dz_kr κ : Nat) : Int)) (o8 : c2_draws.toInt = ((dz_kt κ : Nat) : Int)) (kv : Nat) (hkv : 1000000000000 ≤ kv) : dz_T (s65_X12_layApart_0 fu c2_groups c2_pots c2_ranks c2_draws c2_lawful c2_out a48 a49 a50 a54 a55 a56 a57 (F65_X12_layApart fu c2_groups c2_pots c2_ranks c2_draws c2_lawful c2_out a48 a49 a50 a54 a55 a56 a57 kv).1  v1 v2 c2_parts c2_laid c2_apart c2_sum c2_farOne c2_farOther c2_far c2_beneath a58 a59 a60 a61 a62 a63 a64 a65 a66) (fun r => dz_rg r.2.2.2.2.2.2.2.2.2.1 14425 0 16777215 ∧ dz_rg r.2.2.2.2.2.2.2.2.2.2.2.1 13824 0 13823 ∧ dz_rg r.2.2.2.2.2.2.2.2.2.2.2.2.1 16 0 16777215) := by
  unfold s65_X12_layApart_0
  have e1 := dz_l0
  refine dz_Tb (t57_X12_layWeights_s fu hfu κ hκ _ _ _ _ _ _ _ _ _ _ _ _ _ _ _ _ _ _ _ _ _ _ _ _ _ p0 p1 p2 p3 p4 p5 p6 p7 p8 p9 p10 p11 p12 p13 p14 (by omega) (by omega) (hr_a48) (hr_a49) (hr_a50) (hr_a54) (hr_a55) (hr_a56) (hr_a57) (hr_a59) (hr_a61) (hr_a62) o0 o1 o2 o3 o4 o5 o6 o7 o8) (fun r1 q => ?_)
  obtain ⟨qa1_3, qa1_5, qa1_6⟩ := q
  refine dz_Tb (t59_X12_allRows_s fu hfu κ hκ _ _ p6 p7 o8) (fun r2 _ => ?_)
  exact (t65_X12_layApart_I_s fu hfu κ hκ c2_groups c2_pots c2_ranks c2_draws c2_lawful c2_out a48 a49 a50 a54 a55 a56 a57 p0 p1 p2 p3 p4 p5 p6 p7 p8 p9 p10 p11 p12 hr_a48 hr_a49 hr_a50 hr_a54 hr_a55 hr_a56 hr_a57 o0 o1 o2 o3 o4 o5 o6 o7 o8 kv).1 v2 r2 (0 : Int32) r1.1 r1.2.1 c2_apart c2_sum c2_farOne c2_farOther c2_far c2_beneath r1.2.2.1 r1.2.2.2.1 r1.2.2.2.2.1 r1.2.2.2.2.2.1 r1.2.2.2.2.2.2.1 r1.2.2.2.2.2.2.2.1 r1.2.2.2.2.2.2.2.2.1 r1.2.2.2.2.2.2.2.2.2 a66 p16 p15 (by omega) (by omega) (by omega) (qa1_3) (qa1_5) (qa1_6) (by omega)
theorem t65_X12_layApart_s (fu : Nat) (hfu : 1000000000000 ≤ fu) (κ : Nat) (hκ : κ < 14) (c2_groups : Int32) (c2_pots : Int32) (c2_ranks : Int32) (c2_draws : Int32) (c2_lawful : Int32) (c2_out : Int32) (a48 : Nat → Int32) (a49 : Nat → Int32) (a50 : Nat → Int32) (a54 : Nat → Int32) (a55 : Nat → Int32) (a56 : Nat → Int32) (a57 : Nat → Int32) (v1 : Int32) (v2 : Int32) (c2_parts : Int32) (c2_laid : Int32) (c2_apart : Int64) (c2_sum : Int64) (c2_farOne : Int32) (c2_farOther : Int32) (c2_far : Int64) (c2_beneath : Int64) (a58 : Nat → Int32) (a59 : Nat → Int32) (a60 : Nat → Int64) (a61 : Nat → Int32) (a62 : Nat → Int32) (a63 : Nat → Int32) (a64 : Nat → Int64) (a65 : Nat → Int64) (a66 : Nat → Int64) (p0 : c2_groups.toInt ≤ 4) (p1 : 2 ≤ c2_groups.toInt) (p2 : c2_pots.toInt ≤ 4) (p3 : 0 ≤ c2_pots.toInt) (p4 : c2_ranks.toInt ≤ 24) (p5 : 2 ≤ c2_ranks.toInt) (p6 : c2_draws.toInt ≤ 13824) (p7 : 1 ≤ c2_draws.toInt) (p8 : c2_lawful.toInt ≤ 13824) (p9 : 0 ≤ c2_lawful.toInt) (p10 : c2_out.toInt ≤ 12) (p11 : 0 ≤ c2_out.toInt) (p12 : c2_lawful.toInt ≤ c2_draws.toInt) (p13 : 0 ≤ v1.toInt) (p14 : v1.toInt ≤ 2) (p15 : 0 ≤ v2.toInt) (p16 : v2.toInt ≤ 2) (hr_a48 : dz_rg a48 100 0 3) (hr_a49 : dz_rg a49 13824 0 1023) (hr_a50 : dz_rg a50 165888 0 3) (hr_a54 : dz_rg a54 12 0 11) (hr_a55 : dz_rg a55 12 0 3) (hr_a56 : dz_rg a56 4 0 3) (hr_a57 : dz_rg a57 4 0 3) (hr_a59 : dz_rg a59 14425 0 16777215) (hr_a61 : dz_rg a61 13824 0 13823) (hr_a62 : dz_rg a62 16 0 16777215) (o0 : dz_pq a56 c2_pots.toInt.toNat) (o1 : dz_pm a57 (dz_kg κ)) (o2 : dz_rw (dz_kg κ) (dz_kr κ) a48) (o3 : ∀ t : Int, dz_pp (dz_kg κ) (dz_kr κ) a54 a55 t c2_out.toInt.toNat) (o4 : c2_out.toInt ≤ ((dz_km κ : Nat) : Int)) (o5 : c2_groups.toInt = ((dz_kg κ : Nat) : Int)) (o6 : c2_pots.toInt = ((dz_kp κ : Nat) : Int)) (o7 : c2_ranks.toInt = ((dz_kr κ : Nat) : Int)) (o8 : c2_draws.toInt = ((dz_kt κ : Nat) : Int)) : dz_T (f65_X12_layApart fu c2_groups c2_pots c2_ranks c2_draws c2_lawful c2_out a48 a49 a50 a54 a55 a56 a57 v1 v2 c2_parts c2_laid c2_apart c2_sum c2_farOne c2_farOther c2_far c2_beneath a58 a59 a60 a61 a62 a63 a64 a65 a66) (fun r => dz_rg r.2.2.2.2.2.2.2.2.2.1 14425 0 16777215 ∧ dz_rg r.2.2.2.2.2.2.2.2.2.2.2.1 13824 0 13823 ∧ dz_rg r.2.2.2.2.2.2.2.2.2.2.2.2.1 16 0 16777215) :=
  t65_X12_layApart_E_s fu hfu κ hκ c2_groups c2_pots c2_ranks c2_draws c2_lawful c2_out a48 a49 a50 a54 a55 a56 a57 v1 v2 c2_parts c2_laid c2_apart c2_sum c2_farOne c2_farOther c2_far c2_beneath a58 a59 a60 a61 a62 a63 a64 a65 a66 p0 p1 p2 p3 p4 p5 p6 p7 p8 p9 p10 p11 p12 p13 p14 p15 p16 hr_a48 hr_a49 hr_a50 hr_a54 hr_a55 hr_a56 hr_a57 hr_a59 hr_a61 hr_a62 o0 o1 o2 o3 o4 o5 o6 o7 o8 fu hfu
set_option maxHeartbeats 4000000 in
set_option maxRecDepth 10000 in
theorem t66_X12_apart_s (fu : Nat) (hfu : 1000000000000 ≤ fu) (κ : Nat) (hκ : κ < 14) (c2_groups : Int32) (c2_pots : Int32) (c2_ranks : Int32) (c2_draws : Int32) (c2_lawful : Int32) (c2_out : Int32) (a48 : Nat → Int32) (a49 : Nat → Int32) (a50 : Nat → Int32) (a52 : Nat → Int32) (a53 : Nat → Int32) (a54 : Nat → Int32) (a55 : Nat → Int32) (v1 : Int32) (v2 : Int32) (v3 : Int32) (c2_thrown : Int32) (c2_parts : Int32) (c2_laid : Int32) (c2_apart : Int64) (c2_sum : Int64) (c2_farOne : Int32) (c2_farOther : Int32) (c2_far : Int64) (c2_beneath : Int64) (a56 : Nat → Int32) (a57 : Nat → Int32) (a58 : Nat → Int32) (a59 : Nat → Int32) (a60 : Nat → Int64) (a61 : Nat → Int32) (a62 : Nat → Int32) (a63 : Nat → Int32) (a64 : Nat → Int64) (a65 : Nat → Int64) (a66 : Nat → Int64) (p0 : c2_groups.toInt ≤ 4) (p1 : 2 ≤ c2_groups.toInt) (p2 : c2_pots.toInt ≤ 4) (p3 : 0 ≤ c2_pots.toInt) (p4 : c2_ranks.toInt ≤ 24) (p5 : 2 ≤ c2_ranks.toInt) (p6 : c2_draws.toInt ≤ 13824) (p7 : 1 ≤ c2_draws.toInt) (p8 : c2_lawful.toInt ≤ 13824) (p9 : 0 ≤ c2_lawful.toInt) (p10 : c2_out.toInt ≤ 12) (p11 : 0 ≤ c2_out.toInt) (p12 : c2_lawful.toInt ≤ c2_draws.toInt) (hr_a48 : dz_rg a48 100 0 3) (hr_a49 : dz_rg a49 13824 0 1023) (hr_a50 : dz_rg a50 165888 0 3) (hr_a52 : dz_rg a52 4 0 3) (hr_a53 : dz_rg a53 4 0 3) (hr_a54 : dz_rg a54 12 0 11) (hr_a55 : dz_rg a55 12 0 3) (hr_a56 : dz_rg a56 4 0 3) (hr_a57 : dz_rg a57 4 0 3) (hr_a59 : dz_rg a59 14425 0 16777215) (hr_a61 : dz_rg a61 13824 0 13823) (hr_a62 : dz_rg a62 16 0 16777215) (o0 : dz_pm a52 (dz_kp κ)) (o1 : dz_pm a53 (dz_kg κ)) (o2 : dz_rw (dz_kg κ) (dz_kr κ) a48) (o3 : ∀ t : Int, dz_pp (dz_kg κ) (dz_kr κ) a54 a55 t c2_out.toInt.toNat) (o4 : c2_out.toInt ≤ ((dz_km κ : Nat) : Int)) (o5 : c2_groups.toInt = ((dz_kg κ : Nat) : Int)) (o6 : c2_pots.toInt = ((dz_kp κ : Nat) : Int)) (o7 : c2_ranks.toInt = ((dz_kr κ : Nat) : Int)) (o8 : c2_draws.toInt = ((dz_kt κ : Nat) : Int)) : dz_T (f66_X12_apart fu c2_groups c2_pots c2_ranks c2_draws c2_lawful c2_out a48 a49 a50 a52 a53 a54 a55 v1 v2 v3 c2_thrown c2_parts c2_laid c2_apart c2_sum c2_farOne c2_farOther c2_far c2_beneath a56 a57 a58 a59 a60 a61 a62 a63 a64 a65 a66) (fun r => dz_rg r.2.2.2.2.2.2.2.2.2.2.1 4 0 3 ∧ dz_rg r.2.2.2.2.2.2.2.2.2.2.2.1 4 0 3 ∧ dz_rg r.2.2.2.2.2.2.2.2.2.2.2.2.2.1 14425 0 16777215 ∧ dz_rg r.2.2.2.2.2.2.2.2.2.2.2.2.2.2.2.1 13824 0 13823 ∧ dz_rg r.2.2.2.2.2.2.2.2.2.2.2.2.2.2.2.2.1 16 0 16777215) := by
  unfold f66_X12_apart s66_X12_apart_0
  refine dz_Tbe (show f61_X12_isWay fu v1 = (if (v1 < (0 : Int32)) then (some (0 : Int32)) else (if ((3 : Int32) ≤ v1) then (some (0 : Int32)) else (some (1 : Int32)))) from rfl) ?_
  have e1 := dz_l0
  refine dz_Tltb (fun h2 => ?_) (fun h2 => ?_)
  · skip
    refine dz_Tsb ?_
    refine dz_Teq (fun h3 => ?_) (fun h3 => ?_)
    · skip
      refine dz_Ts ?_
      dsimp only
      exact ⟨(hr_a56), (hr_a57), (hr_a59), (hr_a61), (hr_a62)⟩
    · skip
      exfalso; omega
  · skip
    have e4 := dz_l3
    refine dz_Tleb (fun h5 => ?_) (fun h5 => ?_)
    · skip
      refine dz_Tsb ?_
      refine dz_Teq (fun h6 => ?_) (fun h6 => ?_)
      · skip
        refine dz_Ts ?_
        dsimp only
        exact ⟨(hr_a56), (hr_a57), (hr_a59), (hr_a61), (hr_a62)⟩
      · skip
        exfalso; omega
    · skip
      refine dz_Tsb ?_
      have e7 := dz_l1
      refine dz_Teq (fun h8 => ?_) (fun h8 => ?_)
      · skip
        exfalso; omega
      · skip
        refine dz_Tbe (show f61_X12_isWay fu v2 = (if (v2 < (0 : Int32)) then (some (0 : Int32)) else (if ((3 : Int32) ≤ v2) then (some (0 : Int32)) else (some (1 : Int32)))) from rfl) ?_
        refine dz_Tltb (fun h9 => ?_) (fun h9 => ?_)
        · skip
          refine dz_Tsb ?_
          refine dz_Teq (fun h10 => ?_) (fun h10 => ?_)
          · skip
            refine dz_Ts ?_
            dsimp only
            exact ⟨(hr_a56), (hr_a57), (hr_a59), (hr_a61), (hr_a62)⟩
          · skip
            exfalso; omega
        · skip
          refine dz_Tleb (fun h11 => ?_) (fun h11 => ?_)
          · skip
            refine dz_Tsb ?_
            refine dz_Teq (fun h12 => ?_) (fun h12 => ?_)
            · skip
              refine dz_Ts ?_
              dsimp only
              exact ⟨(hr_a56), (hr_a57), (hr_a59), (hr_a61), (hr_a62)⟩
            · skip
              exfalso; omega
          · skip
            refine dz_Tsb ?_
            refine dz_Teq (fun h13 => ?_) (fun h13 => ?_)
            · skip
              exfalso; omega
            · skip
              refine dz_Teq (fun h14 => ?_) (fun h14 => ?_)
              · skip
                refine dz_Ts ?_
                dsimp only
                exact ⟨(hr_a56), (hr_a57), (hr_a59), (hr_a61), (hr_a62)⟩
              · skip
                refine dz_Tbe (show f1_X12_isIn fu v3 (0 : Int32) (5 : Int32) = (if (v3 < (0 : Int32)) then (some (0 : Int32)) else (if ((5 : Int32) < v3) then (some (0 : Int32)) else (some (1 : Int32)))) from rfl) ?_
                refine dz_Tltb (fun h15 => ?_) (fun h15 => ?_)
                · skip
                  refine dz_Tsb ?_
                  refine dz_Teq (fun h16 => ?_) (fun h16 => ?_)
                  · skip
                    refine dz_Ts ?_
                    dsimp only
                    exact ⟨(hr_a56), (hr_a57), (hr_a59), (hr_a61), (hr_a62)⟩
                  · skip
                    exfalso; omega
                · skip
                  have e17 := dz_l5
                  refine dz_Tltb (fun h18 => ?_) (fun h18 => ?_)
                  · skip
                    refine dz_Tsb ?_
                    refine dz_Teq (fun h19 => ?_) (fun h19 => ?_)
                    · skip
                      refine dz_Ts ?_
                      dsimp only
                      exact ⟨(hr_a56), (hr_a57), (hr_a59), (hr_a61), (hr_a62)⟩
                    · skip
                      exfalso; omega
                  · skip
                    refine dz_Tsb ?_
                    refine dz_Teq (fun h20 => ?_) (fun h20 => ?_)
                    · skip
                      exfalso; omega
                    · skip
                      refine dz_Teq (fun h21 => ?_) (fun h21 => ?_)
                      · skip
                        refine dz_Ts ?_
                        dsimp only
                        exact ⟨(hr_a56), (hr_a57), (hr_a59), (hr_a61), (hr_a62)⟩
                      · skip
                        refine dz_Tb (t48_X12_turnsAs fu hfu _ _ _ _ (hr_a52) (hr_a53) (hr_a56) (hr_a57)) (fun r4 q => ?_)
                        obtain ⟨qa4_0, qa4_1, qo4_0, qo4_1⟩ := q
                        have htn0 := qo4_0
                        have htn1 := qo4_1
                        refine dz_Tb (t65_X12_layApart_s fu hfu κ hκ _ _ _ _ _ _ _ _ _ _ _ _ _ _ _ _ _ _ _ _ _ _ _ _ _ _ _ _ _ _ _ _ p0 p1 p2 p3 p4 p5 p6 p7 p8 p9 p10 p11 p12 (by first | assumption | omega) (by first | assumption | omega) (by first | assumption | omega) (by first | assumption | omega) (hr_a48) (hr_a49) (hr_a50) (hr_a54) (hr_a55) (qa4_0) (qa4_1) (hr_a59) (hr_a61) (hr_a62) (dz_pqpm (dz_pmcp htn0 o0 (dz_kp4 hκ) rfl) (dz_kp4 hκ) (by omega)) (dz_pmcp htn1 o1 (by have := dz_kg4 hκ; omega) rfl) (o2) (o3) (o4) o5 o6 o7 o8) (fun r5 q => ?_)
                        obtain ⟨qa5_9, qa5_11, qa5_12⟩ := q
                        refine dz_Teq (fun h22 => ?_) (fun h22 => ?_)
                        · skip
                          refine dz_Ts ?_
                          dsimp only
                          exact ⟨(qa4_0), (qa4_1), (qa5_9), (qa5_11), (qa5_12)⟩
                        · skip
                          refine dz_Teq (fun h23 => ?_) (fun h23 => ?_)
                          · skip
                            refine dz_Ts ?_
                            dsimp only
                            exact ⟨(qa4_0), (qa4_1), (qa5_9), (qa5_11), (qa5_12)⟩
                          · skip
                            have e24 := dz_l2
                            refine dz_Teq (fun h25 => ?_) (fun h25 => ?_)
                            · skip
                              refine dz_Ts ?_
                              dsimp only
                              exact ⟨(qa4_0), (qa4_1), (qa5_9), (qa5_11), (qa5_12)⟩
                            · skip
                              refine dz_Teq (fun h26 => ?_) (fun h26 => ?_)
                              · skip
                                refine dz_Ts ?_
                                dsimp only
                                exact ⟨(qa4_0), (qa4_1), (qa5_9), (qa5_11), (qa5_12)⟩
                              · skip
                                have e27 := dz_l4
                                refine dz_Teq (fun h28 => ?_) (fun h28 => ?_)
                                · skip
                                  refine dz_Ts ?_
                                  dsimp only
                                  exact ⟨(qa4_0), (qa4_1), (qa5_9), (qa5_11), (qa5_12)⟩
                                · skip
                                  refine dz_Ts ?_
                                  dsimp only
                                  exact ⟨(qa4_0), (qa4_1), (qa5_9), (qa5_11), (qa5_12)⟩
