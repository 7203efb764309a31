abbrev p79_X12_mixes_g2 (fu : Nat) (c2_groups : Int32) (c2_pots : Int32) (c2_ranks : Int32) (c2_draws : Int32) (a48 : Nat → Int32) (a49 : Nat → Int32) (a52 : Nat → Int32) (a53 : Nat → Int32) (k : Nat) : Prop :=
  (∀ (v1 : Int32) (v2 : Int32) (c2_parts : Int32) (c2_rowsInAll : Int64) (a56 : Nat → Int32) (a57 : Nat → Int32) (a58 : Nat → Int32) (a59 : Nat → Int32) (a61 : Nat → Int32) (a62 : Nat → Int32) (a63 : Nat → Int32) (a69 : Nat → Int32) (a70 : Nat → Int32) (a71 : Nat → Int32) (a72 : Nat → Int32), v1.toInt ≤ 5 → 0 ≤ v1.toInt → v2.toInt ≤ 13824 → 0 ≤ v2.toInt → dz_rg a56 4 0 3 → dz_rg a57 4 0 3 → dz_rg a59 14425 0 16777215 → dz_rg a61 13824 0 13823 → dz_rg a62 16 0 16777215 → dz_pt a63 [1, 3] → dz_sq [1, 2, 4, 8] a69 (-1) c2_pots.toInt.toNat → dz_td 2 2 a70 → dz_ex a49 v2 c2_draws.toInt.toNat 0 → 0 + 7656 + (13824 - v2.toInt) * 22 + 11 ≤ ((k : Nat) : Int) → dz_T ((F79_X12_mixes fu c2_groups c2_pots c2_ranks c2_draws a48 a49 a52 a53 k).1 v1 v2 c2_parts c2_rowsInAll a56 a57 a58 a59 a61 a62 a63 a69 a70 a71 a72) (fun r => dz_rg r.2.2.1 4 0 3 ∧ dz_rg r.2.2.2.1 4 0 3 ∧ dz_rg r.2.2.2.2.2.1 14425 0 16777215 ∧ dz_rg r.2.2.2.2.2.2.1 13824 0 13823 ∧ dz_rg r.2.2.2.2.2.2.2.1 16 0 16777215 ∧ dz_pt r.2.2.2.2.2.2.2.2.1 [1, 3])) ∧ (∀ (v1 : Int32) (v2 : Int32) (v3 : Int32) (c2_parts : Int32) (c2_rowsInAll : Int64) (a56 : Nat → Int32) (a57 : Nat → Int32) (a58 : Nat → Int32) (a59 : Nat → Int32) (a61 : Nat → Int32) (a62 : Nat → Int32) (a63 : Nat → Int32) (a69 : Nat → Int32) (a70 : Nat → Int32) (a71 : Nat → Int32) (a72 : Nat → Int32), v1.toInt ≤ 5 → 0 ≤ v1.toInt → v2.toInt ≤ 13823 → 0 ≤ v2.toInt → v3.toInt ≤ 16 → 0 ≤ v3.toInt → v3.toInt ≤ c2_draws.toInt → dz_rg a56 4 0 3 → dz_rg a57 4 0 3 → dz_rg a59 14425 0 16777215 → dz_rg a61 13824 0 13823 → dz_rg a62 16 0 16777215 → dz_pt a63 [1, 3] → dz_sq [1, 2, 4, 8] a69 (-1) c2_pots.toInt.toNat → dz_td 2 2 a70 → 0 + 7271 + (16 - v3.toInt) * 22 + 11 ≤ ((k : Nat) : Int) → dz_T ((F79_X12_mixes fu c2_groups c2_pots c2_ranks c2_draws a48 a49 a52 a53 k).2.1 v1 v2 v3 c2_parts c2_rowsInAll a56 a57 a58 a59 a61 a62 a63 a69 a70 a71 a72) (fun r => dz_rg r.2.2.1 4 0 3 ∧ dz_rg r.2.2.2.1 4 0 3 ∧ dz_rg r.2.2.2.2.2.1 14425 0 16777215 ∧ dz_rg r.2.2.2.2.2.2.1 13824 0 13823 ∧ dz_rg r.2.2.2.2.2.2.2.1 16 0 16777215 ∧ dz_pt r.2.2.2.2.2.2.2.2.1 [1, 3])) ∧ (∀ (v1 : Int32) (v3 : Int32) (c2_parts : Int32) (c2_rowsInAll : Int64) (a56 : Nat → Int32) (a57 : Nat → Int32) (a58 : Nat → Int32) (a59 : Nat → Int32) (a61 : Nat → Int32) (a62 : Nat → Int32) (a63 : Nat → Int32) (a69 : Nat → Int32) (a70 : Nat → Int32) (a71 : Nat → Int32) (a72 : Nat → Int32), v1.toInt ≤ 5 → 0 ≤ v1.toInt → v3.toInt ≤ 5 → 0 ≤ v3.toInt → v3.toInt ≤ v1.toInt → dz_rg a56 4 0 3 → dz_rg a57 4 0 3 → dz_rg a59 14425 0 16777215 → dz_rg a61 13824 0 13823 → dz_rg a62 16 0 16777215 → dz_pt a63 [1, 3] → dz_sq [1, 2, 4, 8] a69 (-1) c2_pots.toInt.toNat → dz_td 2 2 a70 → 0 + 0 + (5 - v3.toInt) * 1210 + 11 ≤ ((k : Nat) : Int) → dz_T ((F79_X12_mixes fu c2_groups c2_pots c2_ranks c2_draws a48 a49 a52 a53 k).2.2.1 v1 v3 c2_parts c2_rowsInAll a56 a57 a58 a59 a61 a62 a63 a69 a70 a71 a72) (fun r => dz_rg r.2.2.1 4 0 3 ∧ dz_rg r.2.2.2.1 4 0 3 ∧ dz_rg r.2.2.2.2.2.1 14425 0 16777215 ∧ dz_rg r.2.2.2.2.2.2.1 13824 0 13823 ∧ dz_rg r.2.2.2.2.2.2.2.1 16 0 16777215 ∧ dz_pt r.2.2.2.2.2.2.2.2.1 [1, 3])) ∧ (∀ (v1 : Int32) (v3 : Int32) (v4 : Int32) (c2_parts : Int32) (c2_rowsInAll : Int64) (a56 : Nat → Int32) (a57 : Nat → Int32) (a58 : Nat → Int32) (a59 : Nat → Int32) (a61 : Nat → Int32) (a62 : Nat → Int32) (a63 : Nat → Int32) (a69 : Nat → Int32) (a70 : Nat → Int32) (a71 : Nat → Int32) (a72 : Nat → Int32), v1.toInt ≤ 5 → 1 ≤ v1.toInt → v3.toInt ≤ 4 → 0 ≤ v3.toInt → v4.toInt ≤ 16 → 0 ≤ v4.toInt → v3.toInt + 1 ≤ v1.toInt → v4.toInt ≤ c2_draws.toInt → dz_rg a56 4 0 3 → dz_rg a57 4 0 3 → dz_rg a59 14425 0 16777215 → dz_rg a61 13824 0 13823 → dz_rg a62 16 0 16777215 → dz_pt a63 [1, 3] → dz_sq [1, 2, 4, 8] a69 (-1) c2_pots.toInt.toNat → dz_td 2 2 a70 → 0 + 0 + ((5 - v3.toInt) - 1) * 1210 + 792 + (16 - v4.toInt) * 22 + 22 ≤ ((k : Nat) : Int) → dz_T ((F79_X12_mixes fu c2_groups c2_pots c2_ranks c2_draws a48 a49 a52 a53 k).2.2.2.1 v1 v3 v4 c2_parts c2_rowsInAll a56 a57 a58 a59 a61 a62 a63 a69 a70 a71 a72) (fun r => dz_rg r.2.2.1 4 0 3 ∧ dz_rg r.2.2.2.1 4 0 3 ∧ dz_rg r.2.2.2.2.2.1 14425 0 16777215 ∧ dz_rg r.2.2.2.2.2.2.1 13824 0 13823 ∧ dz_rg r.2.2.2.2.2.2.2.1 16 0 16777215 ∧ dz_pt r.2.2.2.2.2.2.2.2.1 [1, 3])) ∧ (∀ (v1 : Int32) (v3 : Int32) (v4 : Int32) (c2_parts : Int32) (c2_rowsInAll : Int64) (a56 : Nat → Int32) (a57 : Nat → Int32) (a58 : Nat → Int32) (a59 : Nat → Int32) (a61 : Nat → Int32) (a62 : Nat → Int32) (a63 : Nat → Int32) (a69 : Nat → Int32) (a70 : Nat → Int32) (a71 : Nat → Int32) (a72 : Nat → Int32), v1.toInt ≤ 5 → 1 ≤ v1.toInt → v3.toInt ≤ 4 → 0 ≤ v3.toInt → v4.toInt ≤ 16 → 0 ≤ v4.toInt → v3.toInt + 1 ≤ v1.toInt → v4.toInt ≤ c2_draws.toInt → dz_rg a56 4 0 3 → dz_rg a57 4 0 3 → dz_rg a59 14425 0 16777215 → dz_rg a61 13824 0 13823 → dz_rg a62 16 0 16777215 → dz_pt a63 [1, 3] → dz_sq [1, 2, 4, 8] a69 (-1) c2_pots.toInt.toNat → dz_td 2 2 a70 → 0 + 0 + ((5 - v3.toInt) - 1) * 1210 + 396 + (16 - v4.toInt) * 22 + 22 ≤ ((k : Nat) : Int) → dz_T ((F79_X12_mixes fu c2_groups c2_pots c2_ranks c2_draws a48 a49 a52 a53 k).2.2.2.2.1 v1 v3 v4 c2_parts c2_rowsInAll a56 a57 a58 a59 a61 a62 a63 a69 a70 a71 a72) (fun r => dz_rg r.2.2.1 4 0 3 ∧ dz_rg r.2.2.2.1 4 0 3 ∧ dz_rg r.2.2.2.2.2.1 14425 0 16777215 ∧ dz_rg r.2.2.2.2.2.2.1 13824 0 13823 ∧ dz_rg r.2.2.2.2.2.2.2.1 16 0 16777215 ∧ dz_pt r.2.2.2.2.2.2.2.2.1 [1, 3])) ∧ (∀ (v1 : Int32) (v3 : Int32) (v4 : Int32) (c2_parts : Int32) (c2_rowsInAll : Int64) (a56 : Nat → Int32) (a57 : Nat → Int32) (a58 : Nat → Int32) (a59 : Nat → Int32) (a61 : Nat → Int32) (a62 : Nat → Int32) (a63 : Nat → Int32) (a69 : Nat → Int32) (a70 : Nat → Int32) (a71 : Nat → Int32) (a72 : Nat → Int32), v1.toInt ≤ 5 → 1 ≤ v1.toInt → v3.toInt ≤ 4 → 0 ≤ v3.toInt → v4.toInt ≤ 16 → 0 ≤ v4.toInt → v3.toInt + 1 ≤ v1.toInt → v4.toInt ≤ c2_draws.toInt → dz_rg a56 4 0 3 → dz_rg a57 4 0 3 → dz_rg a59 14425 0 16777215 → dz_rg a61 13824 0 13823 → dz_rg a62 16 0 16777215 → dz_pt a63 [1, 3] → dz_sq [1, 2, 4, 8] a69 (-1) c2_pots.toInt.toNat → dz_td 2 2 a70 → 0 + 0 + ((5 - v3.toInt) - 1) * 1210 + 0 + (16 - v4.toInt) * 22 + 22 ≤ ((k : Nat) : Int) → dz_T ((F79_X12_mixes fu c2_groups c2_pots c2_ranks c2_draws a48 a49 a52 a53 k).2.2.2.2.2.1 v1 v3 v4 c2_parts c2_rowsInAll a56 a57 a58 a59 a61 a62 a63 a69 a70 a71 a72) (fun r => dz_rg r.2.2.1 4 0 3 ∧ dz_rg r.2.2.2.1 4 0 3 ∧ dz_rg r.2.2.2.2.2.1 14425 0 16777215 ∧ dz_rg r.2.2.2.2.2.2.1 13824 0 13823 ∧ dz_rg r.2.2.2.2.2.2.2.1 16 0 16777215 ∧ dz_pt r.2.2.2.2.2.2.2.2.1 [1, 3]))
set_option maxHeartbeats 4000000 in
set_option maxRecDepth 10000 in
theorem t79_X12_mixes_h1_g2 (fu : Nat) (hfu : 1000000000000 ≤ fu) (c2_groups : Int32) (c2_pots : Int32) (c2_ranks : Int32) (c2_draws : Int32) (a48 : Nat → Int32) (a49 : Nat → Int32) (a52 : Nat → Int32) (a53 : Nat → Int32) (p0 : c2_groups.toInt ≤ 2) (p1 : 2 ≤ c2_groups.toInt) (p2 : c2_pots.toInt ≤ 4) (p3 : 0 ≤ c2_pots.toInt) (p4 : c2_ranks.toInt ≤ 2) (p5 : 2 ≤ c2_ranks.toInt) (p6 : c2_draws.toInt ≤ 16) (p7 : 1 ≤ c2_draws.toInt) (hr_a48 : dz_rg a48 100 0 3) (hr_a49 : dz_rg a49 13824 0 1023) (hr_a52 : dz_rg a52 4 0 3) (hr_a53 : dz_rg a53 4 0 3) (o0 : dz_pm a52 c2_pots.toInt.toNat) (o1 : dz_pm a53 2) (o2 : dz_rw 2 2 a48) (o3 : ∃ c : Nat, (c : Int) < c2_draws.toInt ∧ (a49 c).toInt = 0) (k : Nat) (ih : ∀ j9, j9 < k → p79_X12_mixes_g2 fu c2_groups c2_pots c2_ranks c2_draws a48 a49 a52 a53 j9) : ∀ (v1 : Int32) (v2 : Int32) (c2_parts : Int32) (c2_rowsInAll : Int64) (a56 : Nat → Int32) (a57 : Nat → Int32) (a58 : Nat → Int32) (a59 : Nat → Int32) (a61 : Nat → Int32) (a62 : Nat → Int32) (a63 : Nat → Int32) (a69 : Nat → Int32) (a70 : Nat → Int32) (a71 : Nat → Int32) (a72 : Nat → Int32), v1.toInt ≤ 5 → 0 ≤ v1.toInt → v2.toInt ≤ 13824 → 0 ≤ v2.toInt → dz_rg a56 4 0 3 → dz_rg a57 4 0 3 → dz_rg a59 14425 0 16777215 → dz_rg a61 13824 0 13823 → dz_rg a62 16 0 16777215 → dz_pt a63 [1, 3] → dz_sq [1, 2, 4, 8] a69 (-1) c2_pots.toInt.toNat → dz_td 2 2 a70 → dz_ex a49 v2 c2_draws.toInt.toNat 0 → 0 + 7656 + (13824 - v2.toInt) * 22 + 11 ≤ ((k : Nat) : Int) → dz_T ((F79_X12_mixes fu c2_groups c2_pots c2_ranks c2_draws a48 a49 a52 a53 k).1 v1 v2 c2_parts c2_rowsInAll a56 a57 a58 a59 a61 a62 a63 a69 a70 a71 a72) (fun r => dz_rg r.2.2.1 4 0 3 ∧ dz_rg r.2.2.2.1 4 0 3 ∧ dz_rg r.2.2.2.2.2.1 14425 0 16777215 ∧ dz_rg r.2.2.2.2.2.2.1 13824 0 13823 ∧ dz_rg r.2.2.2.2.2.2.2.1 16 0 16777215 ∧ dz_pt r.2.2.2.2.2.2.2.2.1 [1, 3]) := by
  intro v1 v2 c2_parts c2_rowsInAll a56 a57 a58 a59 a61 a62 a63 a69 a70 a71 a72 i0 i1 i2 i3 hr_a56 hr_a57 hr_a59 hr_a61 hr_a62 hr_a63 x0 x1 x2 hm
  obtain ⟨k0, rfl⟩ : ∃ x, k = x + 1 := ⟨k - 1, by omega⟩
  show dz_T (s79_X12_mixes_1 fu c2_groups c2_pots c2_ranks c2_draws a48 a49 a52 a53 (F79_X12_mixes fu c2_groups c2_pots c2_ranks c2_draws a48 a49 a52 a53 k0).1 (F79_X12_mixes fu c2_groups c2_pots c2_ranks c2_draws a48 a49 a52 a53 k0).2.1  v1 v2 c2_parts c2_rowsInAll a56 a57 a58 a59 a61 a62 a63 a69 a70 a71 a72) _
  unfold s79_X12_mixes_1
  have hex := dz_exl x2
  refine dz_Tin (by omega) (by omega) ?_
  have e1 := dz_rgat (hr_a49) (i := v2) (by omega) (by omega)
  have e2 := dz_l0
  refine dz_Teq (fun h3 => ?_) (fun h3 => ?_)
  · skip
    exact (ih k0 (by omega)).2.1 v1 v2 (0 : Int32) c2_parts c2_rowsInAll a56 a57 a58 a59 a61 a62 a63 a69 a70 a71 a72 i0 i1 (by first | assumption | omega) i3 (by omega) (by omega) (by omega) (hr_a56) (hr_a57) (hr_a59) (hr_a61) (hr_a62) (hr_a63) (by exact x0) (by exact x1) (by omega)
  · skip
    have e4 := dz_l1
    have e5 := dz_add (a := v2) (b := (1 : Int32)) (by omega) (by omega)
    exact (ih k0 (by omega)).1 v1 (v2 + (1 : Int32)) c2_parts c2_rowsInAll a56 a57 a58 a59 a61 a62 a63 a69 a70 a71 a72 i0 i1 (by omega) (by omega) (hr_a56) (hr_a57) (hr_a59) (hr_a61) (hr_a62) (hr_a63) (by exact x0) (by exact x1) (by exact dz_exs x2 (by omega) (by omega) (by omega)) (by omega)
set_option maxHeartbeats 4000000 in
set_option maxRecDepth 10000 in
theorem t79_X12_mixes_h2_g2 (fu : Nat) (hfu : 1000000000000 ≤ fu) (c2_groups : Int32) (c2_pots : Int32) (c2_ranks : Int32) (c2_draws : Int32) (a48 : Nat → Int32) (a49 : Nat → Int32) (a52 : Nat → Int32) (a53 : Nat → Int32) (p0 : c2_groups.toInt ≤ 2) (p1 : 2 ≤ c2_groups.toInt) (p2 : c2_pots.toInt ≤ 4) (p3 : 0 ≤ c2_pots.toInt) (p4 : c2_ranks.toInt ≤ 2) (p5 : 2 ≤ c2_ranks.toInt) (p6 : c2_draws.toInt ≤ 16) (p7 : 1 ≤ c2_draws.toInt) (hr_a48 : dz_rg a48 100 0 3) (hr_a49 : dz_rg a49 13824 0 1023) (hr_a52 : dz_rg a52 4 0 3) (hr_a53 : dz_rg a53 4 0 3) (o0 : dz_pm a52 c2_pots.toInt.toNat) (o1 : dz_pm a53 2) (o2 : dz_rw 2 2 a48) (o3 : ∃ c : Nat, (c : Int) < c2_draws.toInt ∧ (a49 c).toInt = 0) (k : Nat) (ih : ∀ j9, j9 < k → p79_X12_mixes_g2 fu c2_groups c2_pots c2_ranks c2_draws a48 a49 a52 a53 j9) : ∀ (v1 : Int32) (v2 : Int32) (v3 : Int32) (c2_parts : Int32) (c2_rowsInAll : Int64) (a56 : Nat → Int32) (a57 : Nat → Int32) (a58 : Nat → Int32) (a59 : Nat → Int32) (a61 : Nat → Int32) (a62 : Nat → Int32) (a63 : Nat → Int32) (a69 : Nat → Int32) (a70 : Nat → Int32) (a71 : Nat → Int32) (a72 : Nat → Int32), v1.toInt ≤ 5 → 0 ≤ v1.toInt → v2.toInt ≤ 13823 → 0 ≤ v2.toInt → v3.toInt ≤ 16 → 0 ≤ v3.toInt → v3.toInt ≤ c2_draws.toInt → dz_rg a56 4 0 3 → dz_rg a57 4 0 3 → dz_rg a59 14425 0 16777215 → dz_rg a61 13824 0 13823 → dz_rg a62 16 0 16777215 → dz_pt a63 [1, 3] → dz_sq [1, 2, 4, 8] a69 (-1) c2_pots.toInt.toNat → dz_td 2 2 a70 → 0 + 7271 + (16 - v3.toInt) * 22 + 11 ≤ ((k : Nat) : Int) → dz_T ((F79_X12_mixes fu c2_groups c2_pots c2_ranks c2_draws a48 a49 a52 a53 k).2.1 v1 v2 v3 c2_parts c2_rowsInAll a56 a57 a58 a59 a61 a62 a63 a69 a70 a71 a72) (fun r => dz_rg r.2.2.1 4 0 3 ∧ dz_rg r.2.2.2.1 4 0 3 ∧ dz_rg r.2.2.2.2.2.1 14425 0 16777215 ∧ dz_rg r.2.2.2.2.2.2.1 13824 0 13823 ∧ dz_rg r.2.2.2.2.2.2.2.1 16 0 16777215 ∧ dz_pt r.2.2.2.2.2.2.2.2.1 [1, 3]) := by
  intro v1 v2 v3 c2_parts c2_rowsInAll a56 a57 a58 a59 a61 a62 a63 a69 a70 a71 a72 i0 i1 i2 i3 i4 i5 i6 hr_a56 hr_a57 hr_a59 hr_a61 hr_a62 hr_a63 x0 x1 hm
  obtain ⟨k0, rfl⟩ : ∃ x, k = x + 1 := ⟨k - 1, by omega⟩
  show dz_T (s79_X12_mixes_2 fu c2_groups c2_pots c2_ranks c2_draws a48 a49 a52 a53 (F79_X12_mixes fu c2_groups c2_pots c2_ranks c2_draws a48 a49 a52 a53 k0).2.1 (F79_X12_mixes fu c2_groups c2_pots c2_ranks c2_draws a48 a49 a52 a53 k0).2.2.1  v1 v2 v3 c2_parts c2_rowsInAll a56 a57 a58 a59 a61 a62 a63 a69 a70 a71 a72) _
  unfold s79_X12_mixes_2
  refine dz_Tle (fun h1 => ?_) (fun h1 => ?_)
  · skip
    refine dz_Tin (by omega) (by omega) ?_
    have e2 := dz_l0
    exact (ih k0 (by omega)).2.2.1 v1 (0 : Int32) c2_parts (1 : Int64) a56 a57 a58 a59 a61 a62 a63 a69 a70 (upd a71 v2.toNatClampNeg (1 : Int32)) a72 i0 i1 (by omega) (by omega) (by omega) (hr_a56) (hr_a57) (hr_a59) (hr_a61) (hr_a62) (hr_a63) (by exact x0) (by exact x1) (by omega)
  · skip
    refine dz_Tin (by omega) (by omega) ?_
    have e3 := dz_l1
    have e4 := dz_add (a := v3) (b := (1 : Int32)) (by omega) (by omega)
    exact (ih k0 (by omega)).2.1 v1 v2 (v3 + (1 : Int32)) c2_parts c2_rowsInAll a56 a57 a58 a59 a61 a62 a63 a69 a70 (upd a71 v3.toNatClampNeg (0 : Int32)) a72 i0 i1 i2 i3 (by omega) (by omega) (by omega) (hr_a56) (hr_a57) (hr_a59) (hr_a61) (hr_a62) (hr_a63) (by exact x0) (by exact x1) (by omega)
set_option maxHeartbeats 4000000 in
set_option maxRecDepth 10000 in
theorem t79_X12_mixes_h3_g2 (fu : Nat) (hfu : 1000000000000 ≤ fu) (c2_groups : Int32) (c2_pots : Int32) (c2_ranks : Int32) (c2_draws : Int32) (a48 : Nat → Int32) (a49 : Nat → Int32) (a52 : Nat → Int32) (a53 : Nat → Int32) (p0 : c2_groups.toInt ≤ 2) (p1 : 2 ≤ c2_groups.toInt) (p2 : c2_pots.toInt ≤ 4) (p3 : 0 ≤ c2_pots.toInt) (p4 : c2_ranks.toInt ≤ 2) (p5 : 2 ≤ c2_ranks.toInt) (p6 : c2_draws.toInt ≤ 16) (p7 : 1 ≤ c2_draws.toInt) (hr_a48 : dz_rg a48 100 0 3) (hr_a49 : dz_rg a49 13824 0 1023) (hr_a52 : dz_rg a52 4 0 3) (hr_a53 : dz_rg a53 4 0 3) (o0 : dz_pm a52 c2_pots.toInt.toNat) (o1 : dz_pm a53 2) (o2 : dz_rw 2 2 a48) (o3 : ∃ c : Nat, (c : Int) < c2_draws.toInt ∧ (a49 c).toInt = 0) (k : Nat) (ih : ∀ j9, j9 < k → p79_X12_mixes_g2 fu c2_groups c2_pots c2_ranks c2_draws a48 a49 a52 a53 j9) : ∀ (v1 : Int32) (v3 : Int32) (c2_parts : Int32) (c2_rowsInAll : Int64) (a56 : Nat → Int32) (a57 : Nat → Int32) (a58 : Nat → Int32) (a59 : Nat → Int32) (a61 : Nat → Int32) (a62 : Nat → Int32) (a63 : Nat → Int32) (a69 : Nat → Int32) (a70 : Nat → Int32) (a71 : Nat → Int32) (a72 : Nat → Int32), v1.toInt ≤ 5 → 0 ≤ v1.toInt → v3.toInt ≤ 5 → 0 ≤ v3.toInt → v3.toInt ≤ v1.toInt → dz_rg a56 4 0 3 → dz_rg a57 4 0 3 → dz_rg a59 14425 0 16777215 → dz_rg a61 13824 0 13823 → dz_rg a62 16 0 16777215 → dz_pt a63 [1, 3] → dz_sq [1, 2, 4, 8] a69 (-1) c2_pots.toInt.toNat → dz_td 2 2 a70 → 0 + 0 + (5 - v3.toInt) * 1210 + 11 ≤ ((k : Nat) : Int) → dz_T ((F79_X12_mixes fu c2_groups c2_pots c2_ranks c2_draws a48 a49 a52 a53 k).2.2.1 v1 v3 c2_parts c2_rowsInAll a56 a57 a58 a59 a61 a62 a63 a69 a70 a71 a72) (fun r => dz_rg r.2.2.1 4 0 3 ∧ dz_rg r.2.2.2.1 4 0 3 ∧ dz_rg r.2.2.2.2.2.1 14425 0 16777215 ∧ dz_rg r.2.2.2.2.2.2.1 13824 0 13823 ∧ dz_rg r.2.2.2.2.2.2.2.1 16 0 16777215 ∧ dz_pt r.2.2.2.2.2.2.2.2.1 [1, 3]) := by
  intro v1 v3 c2_parts c2_rowsInAll a56 a57 a58 a59 a61 a62 a63 a69 a70 a71 a72 i0 i1 i2 i3 i4 hr_a56 hr_a57 hr_a59 hr_a61 hr_a62 hr_a63 x0 x1 hm
  obtain ⟨k0, rfl⟩ : ∃ x, k = x + 1 := ⟨k - 1, by omega⟩
  show dz_T (s79_X12_mixes_3 fu c2_groups c2_pots c2_ranks c2_draws a48 a49 a52 a53 (F79_X12_mixes fu c2_groups c2_pots c2_ranks c2_draws a48 a49 a52 a53 k0).2.2.2.1  v1 v3 c2_parts c2_rowsInAll a56 a57 a58 a59 a61 a62 a63 a69 a70 a71 a72) _
  unfold s79_X12_mixes_3
  refine dz_Tle (fun h1 => ?_) (fun h1 => ?_)
  · skip
    refine dz_Ts ?_
    dsimp only
    exact ⟨(hr_a56), (hr_a57), (hr_a59), (hr_a61), (hr_a62), (hr_a63)⟩
  · skip
    have e2 := dz_l0
    exact (ih k0 (by omega)).2.2.2.1 v1 v3 (0 : Int32) c2_parts c2_rowsInAll a56 a57 a58 a59 a61 a62 a63 a69 a70 a71 a72 i0 (by first | assumption | omega) (by first | assumption | omega) i3 (by omega) (by omega) (by first | assumption | omega) (by omega) (hr_a56) (hr_a57) (hr_a59) (hr_a61) (hr_a62) (hr_a63) (by exact x0) (by exact x1) (by omega)
set_option maxHeartbeats 4000000 in
set_option maxRecDepth 10000 in
theorem t79_X12_mixes_h4_g2 (fu : Nat) (hfu : 1000000000000 ≤ fu) (c2_groups : Int32) (c2_pots : Int32) (c2_ranks : Int32) (c2_draws : Int32) (a48 : Nat → Int32) (a49 : Nat → Int32) (a52 : Nat → Int32) (a53 : Nat → Int32) (p0 : c2_groups.toInt ≤ 2) (p1 : 2 ≤ c2_groups.toInt) (p2 : c2_pots.toInt ≤ 4) (p3 : 0 ≤ c2_pots.toInt) (p4 : c2_ranks.toInt ≤ 2) (p5 : 2 ≤ c2_ranks.toInt) (p6 : c2_draws.toInt ≤ 16) (p7 : 1 ≤ c2_draws.toInt) (hr_a48 : dz_rg a48 100 0 3) (hr_a49 : dz_rg a49 13824 0 1023) (hr_a52 : dz_rg a52 4 0 3) (hr_a53 : dz_rg a53 4 0 3) (o0 : dz_pm a52 c2_pots.toInt.toNat) (o1 : dz_pm a53 2) (o2 : dz_rw 2 2 a48) (o3 : ∃ c : Nat, (c : Int) < c2_draws.toInt ∧ (a49 c).toInt = 0) (k : Nat) (ih : ∀ j9, j9 < k → p79_X12_mixes_g2 fu c2_groups c2_pots c2_ranks c2_draws a48 a49 a52 a53 j9) : ∀ (v1 : Int32) (v3 : Int32) (v4 : Int32) (c2_parts : Int32) (c2_rowsInAll : Int64) (a56 : Nat → Int32) (a57 : Nat → Int32) (a58 : Nat → Int32) (a59 : Nat → Int32) (a61 : Nat → Int32) (a62 : Nat → Int32) (a63 : Nat → Int32) (a69 : Nat → Int32) (a70 : Nat → Int32) (a71 : Nat → Int32) (a72 : Nat → Int32), v1.toInt ≤ 5 → 1 ≤ v1.toInt → v3.toInt ≤ 4 → 0 ≤ v3.toInt → v4.toInt ≤ 16 → 0 ≤ v4.toInt → v3.toInt + 1 ≤ v1.toInt → v4.toInt ≤ c2_draws.toInt → dz_rg a56 4 0 3 → dz_rg a57 4 0 3 → dz_rg a59 14425 0 16777215 → dz_rg a61 13824 0 13823 → dz_rg a62 16 0 16777215 → dz_pt a63 [1, 3] → dz_sq [1, 2, 4, 8] a69 (-1) c2_pots.toInt.toNat → dz_td 2 2 a70 → 0 + 0 + ((5 - v3.toInt) - 1) * 1210 + 792 + (16 - v4.toInt) * 22 + 22 ≤ ((k : Nat) : Int) → dz_T ((F79_X12_mixes fu c2_groups c2_pots c2_ranks c2_draws a48 a49 a52 a53 k).2.2.2.1 v1 v3 v4 c2_parts c2_rowsInAll a56 a57 a58 a59 a61 a62 a63 a69 a70 a71 a72) (fun r => dz_rg r.2.2.1 4 0 3 ∧ dz_rg r.2.2.2.1 4 0 3 ∧ dz_rg r.2.2.2.2.2.1 14425 0 16777215 ∧ dz_rg r.2.2.2.2.2.2.1 13824 0 13823 ∧ dz_rg r.2.2.2.2.2.2.2.1 16 0 16777215 ∧ dz_pt r.2.2.2.2.2.2.2.2.1 [1, 3]) := by
  intro v1 v3 v4 c2_parts c2_rowsInAll a56 a57 a58 a59 a61 a62 a63 a69 a70 a71 a72 i0 i1 i2 i3 i4 i5 i6 i7 hr_a56 hr_a57 hr_a59 hr_a61 hr_a62 hr_a63 x0 x1 hm
  obtain ⟨k0, rfl⟩ : ∃ x, k = x + 1 := ⟨k - 1, by omega⟩
  show dz_T (s79_X12_mixes_4 fu c2_groups c2_pots c2_ranks c2_draws a48 a49 a52 a53 (F79_X12_mixes fu c2_groups c2_pots c2_ranks c2_draws a48 a49 a52 a53 k0).2.2.2.1 (F79_X12_mixes fu c2_groups c2_pots c2_ranks c2_draws a48 a49 a52 a53 k0).2.2.2.2.1  v1 v3 v4 c2_parts c2_rowsInAll a56 a57 a58 a59 a61 a62 a63 a69 a70 a71 a72) _
  unfold s79_X12_mixes_4
  refine dz_Tle (fun h1 => ?_) (fun h1 => ?_)
  · skip
    have e2 := dz_l0
    exact (ih k0 (by omega)).2.2.2.2.1 v1 v3 (0 : Int32) c2_parts c2_rowsInAll a56 a57 a58 a59 a61 a62 a63 a69 a70 a71 a72 i0 i1 i2 i3 (by omega) (by omega) i6 (by omega) (hr_a56) (hr_a57) (hr_a59) (hr_a61) (hr_a62) (hr_a63) (by exact x0) (by exact x1) (by omega)
  · skip
    refine dz_Tin (by omega) (by omega) ?_
    have e3 := dz_l1
    have e4 := dz_add (a := v4) (b := (1 : Int32)) (by omega) (by omega)
    exact (ih k0 (by omega)).2.2.2.1 v1 v3 (v4 + (1 : Int32)) c2_parts c2_rowsInAll a56 a57 a58 a59 a61 a62 a63 a69 a70 a71 (upd a72 v4.toNatClampNeg (0 : Int32)) i0 i1 i2 i3 (by omega) (by omega) i6 (by omega) (hr_a56) (hr_a57) (hr_a59) (hr_a61) (hr_a62) (hr_a63) (by exact x0) (by exact x1) (by omega)
set_option maxHeartbeats 4000000 in
set_option maxRecDepth 10000 in
theorem t79_X12_mixes_h5_g2 (fu : Nat) (hfu : 1000000000000 ≤ fu) (c2_groups : Int32) (c2_pots : Int32) (c2_ranks : Int32) (c2_draws : Int32) (a48 : Nat → Int32) (a49 : Nat → Int32) (a52 : Nat → Int32) (a53 : Nat → Int32) (p0 : c2_groups.toInt ≤ 2) (p1 : 2 ≤ c2_groups.toInt) (p2 : c2_pots.toInt ≤ 4) (p3 : 0 ≤ c2_pots.toInt) (p4 : c2_ranks.toInt ≤ 2) (p5 : 2 ≤ c2_ranks.toInt) (p6 : c2_draws.toInt ≤ 16) (p7 : 1 ≤ c2_draws.toInt) (hr_a48 : dz_rg a48 100 0 3) (hr_a49 : dz_rg a49 13824 0 1023) (hr_a52 : dz_rg a52 4 0 3) (hr_a53 : dz_rg a53 4 0 3) (o0 : dz_pm a52 c2_pots.toInt.toNat) (o1 : dz_pm a53 2) (o2 : dz_rw 2 2 a48) (o3 : ∃ c : Nat, (c : Int) < c2_draws.toInt ∧ (a49 c).toInt = 0) (k : Nat) (ih : ∀ j9, j9 < k → p79_X12_mixes_g2 fu c2_groups c2_pots c2_ranks c2_draws a48 a49 a52 a53 j9) : ∀ (v1 : Int32) (v3 : Int32) (v4 : Int32) (c2_parts : Int32) (c2_rowsInAll : Int64) (a56 : Nat → Int32) (a57 : Nat → Int32) (a58 : Nat → Int32) (a59 : Nat → Int32) (a61 : Nat → Int32) (a62 : Nat → Int32) (a63 : Nat → Int32) (a69 : Nat → Int32) (a70 : Nat → Int32) (a71 : Nat → Int32) (a72 : Nat → Int32), v1.toInt ≤ 5 → 1 ≤ v1.toInt → v3.toInt ≤ 4 → 0 ≤ v3.toInt → v4.toInt ≤ 16 → 0 ≤ v4.toInt → v3.toInt + 1 ≤ v1.toInt → v4.toInt ≤ c2_draws.toInt → dz_rg a56 4 0 3 → dz_rg a57 4 0 3 → dz_rg a59 14425 0 16777215 → dz_rg a61 13824 0 13823 → dz_rg a62 16 0 16777215 → dz_pt a63 [1, 3] → dz_sq [1, 2, 4, 8] a69 (-1) c2_pots.toInt.toNat → dz_td 2 2 a70 → 0 + 0 + ((5 - v3.toInt) - 1) * 1210 + 396 + (16 - v4.toInt) * 22 + 22 ≤ ((k : Nat) : Int) → dz_T ((F79_X12_mixes fu c2_groups c2_pots c2_ranks c2_draws a48 a49 a52 a53 k).2.2.2.2.1 v1 v3 v4 c2_parts c2_rowsInAll a56 a57 a58 a59 a61 a62 a63 a69 a70 a71 a72) (fun r => dz_rg r.2.2.1 4 0 3 ∧ dz_rg r.2.2.2.1 4 0 3 ∧ dz_rg r.2.2.2.2.2.1 14425 0 16777215 ∧ dz_rg r.2.2.2.2.2.2.1 13824 0 13823 ∧ dz_rg r.2.2.2.2.2.2.2.1 16 0 16777215 ∧ dz_pt r.2.2.2.2.2.2.2.2.1 [1, 3]) := by
  intro v1 v3 v4 c2_parts c2_rowsInAll a56 a57 a58 a59 a61 a62 a63 a69 a70 a71 a72 i0 i1 i2 i3 i4 i5 i6 i7 hr_a56 hr_a57 hr_a59 hr_a61 hr_a62 hr_a63 x0 x1 hm
  obtain ⟨k0, rfl⟩ : ∃ x, k = x + 1 := ⟨k - 1, by omega⟩
  show dz_T (s79_X12_mixes_5 fu c2_groups c2_pots c2_ranks c2_draws a48 a49 a52 a53 (F79_X12_mixes fu c2_groups c2_pots c2_ranks c2_draws a48 a49 a52 a53 k0).2.2.2.2.2.1 (F79_X12_mixes fu c2_groups c2_pots c2_ranks c2_draws a48 a49 a52 a53 k0).2.2.2.2.2.2  v1 v3 v4 c2_parts c2_rowsInAll a56 a57 a58 a59 a61 a62 a63 a69 a70 a71 a72) _
  unfold s79_X12_mixes_5
  refine dz_Tle (fun h1 => ?_) (fun h1 => ?_)
  · skip
    have e2 := dz_l0
    exact (ih k0 (by omega)).2.2.2.2.2 v1 v3 (0 : Int32) c2_parts c2_rowsInAll a56 a57 a58 a59 a61 a62 a63 a69 a70 a71 a72 i0 i1 i2 i3 (by omega) (by omega) i6 (by omega) (hr_a56) (hr_a57) (hr_a59) (hr_a61) (hr_a62) (hr_a63) (by exact x0) (by exact x1) (by omega)
  · skip
    refine dz_Tin (by omega) (by omega) ?_
    have e3 := dz_l0
    refine dz_Tle (fun h4 => ?_) (fun h4 => ?_)
    · skip
      obtain ⟨k1, rfl⟩ : ∃ x, k0 = x + 1 := ⟨k0 - 1, by omega⟩
      show dz_T (s79_X12_mixes_7 fu c2_groups c2_pots c2_ranks c2_draws a48 a49 a52 a53 (F79_X12_mixes fu c2_groups c2_pots c2_ranks c2_draws a48 a49 a52 a53 k1).2.2.2.2.1 v1 v3 v4 c2_parts c2_rowsInAll a56 a57 a58 a59 a61 a62 a63 a69 a70 a71 a72) _
      unfold s79_X12_mixes_7
      have e5 := dz_l1
      have e6 := dz_add (a := v4) (b := (1 : Int32)) (by omega) (by omega)
      exact (ih k1 (by omega)).2.2.2.2.1 v1 v3 (v4 + (1 : Int32)) c2_parts c2_rowsInAll a56 a57 a58 a59 a61 a62 a63 a69 a70 a71 a72 i0 i1 i2 i3 (by omega) (by omega) i6 (by omega) (hr_a56) (hr_a57) (hr_a59) (hr_a61) (hr_a62) (hr_a63) (by exact x0) (by exact x1) (by omega)
    · skip
      refine dz_Tb (t78_X12_mixesOne_g2 fu hfu _ _ _ _ _ _ _ _ _ p0 p1 p2 p3 p4 p5 i5 (by first | assumption | omega) (hr_a49) (x0) (x1)) (fun r1 _ => ?_)
      obtain ⟨k2, rfl⟩ : ∃ x, k0 = x + 1 := ⟨k0 - 1, by omega⟩
      show dz_T (s79_X12_mixes_7 fu c2_groups c2_pots c2_ranks c2_draws a48 a49 a52 a53 (F79_X12_mixes fu c2_groups c2_pots c2_ranks c2_draws a48 a49 a52 a53 k2).2.2.2.2.1 v1 v3 v4 c2_parts c2_rowsInAll a56 a57 a58 a59 a61 a62 a63 a69 a70 a71 r1) _
      unfold s79_X12_mixes_7
      have e7 := dz_l1
      have e8 := dz_add (a := v4) (b := (1 : Int32)) (by omega) (by omega)
      exact (ih k2 (by omega)).2.2.2.2.1 v1 v3 (v4 + (1 : Int32)) c2_parts c2_rowsInAll a56 a57 a58 a59 a61 a62 a63 a69 a70 a71 r1 i0 i1 i2 i3 (by omega) (by omega) i6 (by omega) (hr_a56) (hr_a57) (hr_a59) (hr_a61) (hr_a62) (hr_a63) (by exact x0) (by exact x1) (by omega)
set_option maxHeartbeats 4000000 in
set_option maxRecDepth 10000 in
theorem t79_X12_mixes_h6_g2 (fu : Nat) (hfu : 1000000000000 ≤ fu) (c2_groups : Int32) (c2_pots : Int32) (c2_ranks : Int32) (c2_draws : Int32) (a48 : Nat → Int32) (a49 : Nat → Int32) (a52 : Nat → Int32) (a53 : Nat → Int32) (p0 : c2_groups.toInt ≤ 2) (p1 : 2 ≤ c2_groups.toInt) (p2 : c2_pots.toInt ≤ 4) (p3 : 0 ≤ c2_pots.toInt) (p4 : c2_ranks.toInt ≤ 2) (p5 : 2 ≤ c2_ranks.toInt) (p6 : c2_draws.toInt ≤ 16) (p7 : 1 ≤ c2_draws.toInt) (hr_a48 : dz_rg a48 100 0 3) (hr_a49 : dz_rg a49 13824 0 1023) (hr_a52 : dz_rg a52 4 0 3) (hr_a53 : dz_rg a53 4 0 3) (o0 : dz_pm a52 c2_pots.toInt.toNat) (o1 : dz_pm a53 2) (o2 : dz_rw 2 2 a48) (o3 : ∃ c : Nat, (c : Int) < c2_draws.toInt ∧ (a49 c).toInt = 0) (k : Nat) (ih : ∀ j9, j9 < k → p79_X12_mixes_g2 fu c2_groups c2_pots c2_ranks c2_draws a48 a49 a52 a53 j9) : ∀ (v1 : Int32) (v3 : Int32) (v4 : Int32) (c2_parts : Int32) (c2_rowsInAll : Int64) (a56 : Nat → Int32) (a57 : Nat → Int32) (a58 : Nat → Int32) (a59 : Nat → Int32) (a61 : Nat → Int32) (a62 : Nat → Int32) (a63 : Nat → Int32) (a69 : Nat → Int32) (a70 : Nat → Int32) (a71 : Nat → Int32) (a72 : Nat → Int32), v1.toInt ≤ 5 → 1 ≤ v1.toInt → v3.toInt ≤ 4 → 0 ≤ v3.toInt → v4.toInt ≤ 16 → 0 ≤ v4.toInt → v3.toInt + 1 ≤ v1.toInt → v4.toInt ≤ c2_draws.toInt → dz_rg a56 4 0 3 → dz_rg a57 4 0 3 → dz_rg a59 14425 0 16777215 → dz_rg a61 13824 0 13823 → dz_rg a62 16 0 16777215 → dz_pt a63 [1, 3] → dz_sq [1, 2, 4, 8] a69 (-1) c2_pots.toInt.toNat → dz_td 2 2 a70 → 0 + 0 + ((5 - v3.toInt) - 1) * 1210 + 0 + (16 - v4.toInt) * 22 + 22 ≤ ((k : Nat) : Int) → dz_T ((F79_X12_mixes fu c2_groups c2_pots c2_ranks c2_draws a48 a49 a52 a53 k).2.2.2.2.2.1 v1 v3 v4 c2_parts c2_rowsInAll a56 a57 a58 a59 a61 a62 a63 a69 a70 a71 a72) (fun r => dz_rg r.2.2.1 4 0 3 ∧ dz_rg r.2.2.2.1 4 0 3 ∧ dz_rg r.2.2.2.2.2.1 14425 0 16777215 ∧ dz_rg r.2.2.2.2.2.2.1 13824 0 13823 ∧ dz_rg r.2.2.2.2.2.2.2.1 16 0 16777215 ∧ dz_pt r.2.2.2.2.2.2.2.2.1 [1, 3]) := by
  intro v1 v3 v4 c2_parts c2_rowsInAll a56 a57 a58 a59 a61 a62 a63 a69 a70 a71 a72 i0 i1 i2 i3 i4 i5 i6 i7 hr_a56 hr_a57 hr_a59 hr_a61 hr_a62 hr_a63 x0 x1 hm
  obtain ⟨k0, rfl⟩ : ∃ x, k = x + 1 := ⟨k - 1, by omega⟩
  show dz_T (s79_X12_mixes_6 fu c2_groups c2_pots c2_ranks c2_draws a48 a49 a52 a53 (F79_X12_mixes fu c2_groups c2_pots c2_ranks c2_draws a48 a49 a52 a53 k0).2.2.1 (F79_X12_mixes fu c2_groups c2_pots c2_ranks c2_draws a48 a49 a52 a53 k0).2.2.2.2.2.1  v1 v3 v4 c2_parts c2_rowsInAll a56 a57 a58 a59 a61 a62 a63 a69 a70 a71 a72) _
  unfold s79_X12_mixes_6
  refine dz_Tle (fun h1 => ?_) (fun h1 => ?_)
  · skip
    have e2 := dz_l1
    have e3 := dz_add (a := v3) (b := (1 : Int32)) (by omega) (by omega)
    exact (ih k0 (by omega)).2.2.1 v1 (v3 + (1 : Int32)) c2_parts (c2_rowsInAll * (((c2_pots * c2_groups) * (c2_groups - (1 : Int32))) / (2 : Int32)).toInt64) a56 a57 a58 a59 a61 a62 a63 a69 a70 a71 a72 i0 (by first | assumption | omega) (by omega) (by omega) (by omega) (hr_a56) (hr_a57) (hr_a59) (hr_a61) (hr_a62) (hr_a63) (by exact x0) (by exact x1) (by omega)
  · skip
    refine dz_Tin (by omega) (by omega) ?_
    refine dz_Tin (by omega) (by omega) ?_
    have e4 := dz_l1
    have e5 := dz_add (a := v4) (b := (1 : Int32)) (by omega) (by omega)
    exact (ih k0 (by omega)).2.2.2.2.2 v1 v3 (v4 + (1 : Int32)) c2_parts c2_rowsInAll a56 a57 a58 a59 a61 a62 a63 a69 a70 (upd a71 v4.toNatClampNeg (a72 v4.toNatClampNeg)) a72 i0 i1 i2 i3 (by omega) (by omega) i6 (by omega) (hr_a56) (hr_a57) (hr_a59) (hr_a61) (hr_a62) (hr_a63) (by exact x0) (by exact x1) (by omega)
theorem t79_X12_mixes_I_g2 (fu : Nat) (hfu : 1000000000000 ≤ fu) (c2_groups : Int32) (c2_pots : Int32) (c2_ranks : Int32) (c2_draws : Int32) (a48 : Nat → Int32) (a49 : Nat → Int32) (a52 : Nat → Int32) (a53 : Nat → Int32) (p0 : c2_groups.toInt ≤ 2) (p1 : 2 ≤ c2_groups.toInt) (p2 : c2_pots.toInt ≤ 4) (p3 : 0 ≤ c2_pots.toInt) (p4 : c2_ranks.toInt ≤ 2) (p5 : 2 ≤ c2_ranks.toInt) (p6 : c2_draws.toInt ≤ 16) (p7 : 1 ≤ c2_draws.toInt) (hr_a48 : dz_rg a48 100 0 3) (hr_a49 : dz_rg a49 13824 0 1023) (hr_a52 : dz_rg a52 4 0 3) (hr_a53 : dz_rg a53 4 0 3) (o0 : dz_pm a52 c2_pots.toInt.toNat) (o1 : dz_pm a53 2) (o2 : dz_rw 2 2 a48) (o3 : ∃ c : Nat, (c : Int) < c2_draws.toInt ∧ (a49 c).toInt = 0) (k : Nat) : p79_X12_mixes_g2 fu c2_groups c2_pots c2_ranks c2_draws a48 a49 a52 a53 k := by
  induction k using Nat.strongRecOn with
  | _ k ih => exact ⟨t79_X12_mixes_h1_g2 fu hfu c2_groups c2_pots c2_ranks c2_draws a48 a49 a52 a53 p0 p1 p2 p3 p4 p5 p6 p7 hr_a48 hr_a49 hr_a52 hr_a53 o0 o1 o2 o3 k ih, t79_X12_mixes_h2_g2 fu hfu c2_groups c2_pots c2_ranks c2_draws a48 a49 a52 a53 p0 p1 p2 p3 p4 p5 p6 p7 hr_a48 hr_a49 hr_a52 hr_a53 o0 o1 o2 o3 k ih, t79_X12_mixes_h3_g2 fu hfu c2_groups c2_pots c2_ranks c2_draws a48 a49 a52 a53 p0 p1 p2 p3 p4 p5 p6 p7 hr_a48 hr_a49 hr_a52 hr_a53 o0 o1 o2 o3 k ih, t79_X12_mixes_h4_g2 fu hfu c2_groups c2_pots c2_ranks c2_draws a48 a49 a52 a53 p0 p1 p2 p3 p4 p5 p6 p7 hr_a48 hr_a49 hr_a52 hr_a53 o0 o1 o2 o3 k ih, t79_X12_mixes_h5_g2 fu hfu c2_groups c2_pots c2_ranks c2_draws a48 a49 a52 a53 p0 p1 p2 p3 p4 p5 p6 p7 hr_a48 hr_a49 hr_a52 hr_a53 o0 o1 o2 o3 k ih, t79_X12_mixes_h6_g2 fu hfu c2_groups c2_pots c2_ranks c2_draws a48 a49 a52 a53 p0 p1 p2 p3 p4 p5 p6 p7 hr_a48 hr_a49 hr_a52 hr_a53 o0 o1 o2 o3 k ih⟩
set_option maxHeartbeats 4000000 in
set_option maxRecDepth 10000 in
theorem t79_X12_mixes_E_g2 (fu : Nat) (hfu : 1000000000000 ≤ fu) (c2_groups : Int32) (c2_pots : Int32) (c2_ranks : Int32) (c2_draws : Int32) (a48 : Nat → Int32) (a49 : Nat → Int32) (a52 : Nat → Int32) (a53 : Nat → Int32) (v1 : Int32) (c2_parts : Int32) (c2_rowsInAll : Int64) (a56 : Nat → Int32) (a57 : Nat → Int32) (a58 : Nat → Int32) (a59 : Nat → Int32) (a61 : Nat → Int32) (a62 : Nat → Int32) (a63 : Nat → Int32) (a69 : Nat → Int32) (a70 : Nat → Int32) (a71 : Nat → Int32) (a72 : Nat → Int32) (p0 : c2_groups.toInt ≤ 2) (p1 : 2 ≤ c2_groups.toInt) (p2 : c2_pots.toInt ≤ 4) (p3 : 0 ≤ c2_pots.toInt) (p4 : c2_ranks.toInt ≤ 2) (p5 : 2 ≤ c2_ranks.toInt) (p6 : c2_draws.toInt ≤ 16) (p7 : 1 ≤ c2_draws.toInt) (p8 : 0 ≤ v1.toInt) (p9 : v1.toInt ≤ 5) (hr_a48 : dz_rg a48 100 0 3) (hr_a49 : dz_rg a49 13824 0 1023) (hr_a52 : dz_rg a52 4 0 3) (hr_a53 : dz_rg a53 4 0 3) (hr_a56 : dz_rg a56 4 0 3) (hr_a57 : dz_rg a57 4 0 3) (hr_a59 : dz_rg a59 14425 0 16777215) (hr_a61 : dz_rg a61 13824 0 13823) (hr_a62 : dz_rg a62 16 0 16777215) (o0 : dz_pm a52 c2_pots.toInt.toNat) (o1 : dz_pm a53 2) (o2 : dz_rw 2 2 a48) (o3 : ∃ c : Nat, (c : Int) < c2_draws.toInt ∧ (a49 c).toInt = 0) (kv : Nat) (hkv : 1000000000000 ≤ kv) : dz_T (s79_X12_mixes_0 fu c2_groups c2_pots c2_ranks c2_draws a48 a49 a52 a53 (F79_X12_mixes fu c2_groups c2_pots c2_ranks c2_draws a48 a49 a52 a53 kv).1  v1 c2_parts c2_rowsInAll a56 a57 a58 a59 a61 a62 a63 a69 a70 a71 a72) (fun r => dz_rg r.2.2.1 4 0 3 ∧ dz_rg r.2.2.2.1 4 0 3 ∧ dz_rg r.2.2.2.2.2.1 14425 0 16777215 ∧ dz_rg r.2.2.2.2.2.2.1 13824 0 13823 ∧ dz_rg r.2.2.2.2.2.2.2.1 16 0 16777215 ∧ dz_pt r.2.2.2.2.2.2.2.2.1 [1, 3]) := by
  unfold s79_X12_mixes_0
  refine dz_Tb (t74_X12_laySwaps_g2 fu hfu _ _ _ _ _ _ _ _ _ _ _ _ _ _ _ _ _ _ p0 p1 p2 p3 p4 p5 p6 p7 (hr_a48) (hr_a49) (hr_a52) (hr_a53) (hr_a56) (hr_a57) (hr_a59) (hr_a61) (hr_a62) o0 o1 o2) (fun r1 q => ?_)
  obtain ⟨qa1_1, qa1_2, qa1_4, qa1_5, qa1_6, qa1_7, qo1_0, qo1_1⟩ := q
  have hsw1 := qo1_0
  have hsw2 := qo1_1
  have e1 := dz_l0
  exact (t79_X12_mixes_I_g2 fu hfu c2_groups c2_pots c2_ranks c2_draws a48 a49 a52 a53 p0 p1 p2 p3 p4 p5 p6 p7 hr_a48 hr_a49 hr_a52 hr_a53 o0 o1 o2 o3 kv).1 v1 (0 : Int32) r1.1 c2_rowsInAll r1.2.1 r1.2.2.1 r1.2.2.2.1 r1.2.2.2.2.1 r1.2.2.2.2.2.1 r1.2.2.2.2.2.2.1 r1.2.2.2.2.2.2.2.1 r1.2.2.2.2.2.2.2.2.1 r1.2.2.2.2.2.2.2.2.2 a71 a72 p9 p8 (by omega) (by omega) (qa1_1) (qa1_2) (qa1_4) (qa1_5) (qa1_6) (qa1_7) (by exact hsw1) (by exact hsw2) (by exact dz_exw o3 (by omega) rfl) (by omega)
theorem t79_X12_mixes_g2 (fu : Nat) (hfu : 1000000000000 ≤ fu) (c2_groups : Int32) (c2_pots : Int32) (c2_ranks : Int32) (c2_draws : Int32) (a48 : Nat → Int32) (a49 : Nat → Int32) (a52 : Nat → Int32) (a53 : Nat → Int32) (v1 : Int32) (c2_parts : Int32) (c2_rowsInAll : Int64) (a56 : Nat → Int32) (a57 : Nat → Int32) (a58 : Nat → Int32) (a59 : Nat → Int32) (a61 : Nat → Int32) (a62 : Nat → Int32) (a63 : Nat → Int32) (a69 : Nat → Int32) (a70 : Nat → Int32) (a71 : Nat → Int32) (a72 : Nat → Int32) (p0 : c2_groups.toInt ≤ 2) (p1 : 2 ≤ c2_groups.toInt) (p2 : c2_pots.toInt ≤ 4) (p3 : 0 ≤ c2_pots.toInt) (p4 : c2_ranks.toInt ≤ 2) (p5 : 2 ≤ c2_ranks.toInt) (p6 : c2_draws.toInt ≤ 16) (p7 : 1 ≤ c2_draws.toInt) (p8 : 0 ≤ v1.toInt) (p9 : v1.toInt ≤ 5) (hr_a48 : dz_rg a48 100 0 3) (hr_a49 : dz_rg a49 13824 0 1023) (hr_a52 : dz_rg a52 4 0 3) (hr_a53 : dz_rg a53 4 0 3) (hr_a56 : dz_rg a56 4 0 3) (hr_a57 : dz_rg a57 4 0 3) (hr_a59 : dz_rg a59 14425 0 16777215) (hr_a61 : dz_rg a61 13824 0 13823) (hr_a62 : dz_rg a62 16 0 16777215) (o0 : dz_pm a52 c2_pots.toInt.toNat) (o1 : dz_pm a53 2) (o2 : dz_rw 2 2 a48) (o3 : ∃ c : Nat, (c : Int) < c2_draws.toInt ∧ (a49 c).toInt = 0) : dz_T (f79_X12_mixes fu c2_groups c2_pots c2_ranks c2_draws a48 a49 a52 a53 v1 c2_parts c2_rowsInAll a56 a57 a58 a59 a61 a62 a63 a69 a70 a71 a72) (fun r => dz_rg r.2.2.1 4 0 3 ∧ dz_rg r.2.2.2.1 4 0 3 ∧ dz_rg r.2.2.2.2.2.1 14425 0 16777215 ∧ dz_rg r.2.2.2.2.2.2.1 13824 0 13823 ∧ dz_rg r.2.2.2.2.2.2.2.1 16 0 16777215 ∧ dz_pt r.2.2.2.2.2.2.2.2.1 [1, 3]) :=
  t79_X12_mixes_E_g2 fu hfu c2_groups c2_pots c2_ranks c2_draws a48 a49 a52 a53 v1 c2_parts c2_rowsInAll a56 a57 a58 a59 a61 a62 a63 a69 a70 a71 a72 p0 p1 p2 p3 p4 p5 p6 p7 p8 p9 hr_a48 hr_a49 hr_a52 hr_a53 hr_a56 hr_a57 hr_a59 hr_a61 hr_a62 o0 o1 o2 o3 fu hfu
set_option maxHeartbeats 4000000 in
set_option maxRecDepth 10000 in
theorem t80_X12_mix_g2 (fu : Nat) (hfu : 1000000000000 ≤ fu) (c2_groups : Int32) (c2_pots : Int32) (c2_ranks : Int32) (c2_draws : Int32) (c2_lawful : Int32) (a48 : Nat → Int32) (a49 : Nat → Int32) (a52 : Nat → Int32) (a53 : Nat → Int32) (v1 : Int32) (v2 : Int32) (c2_thrown : Int32) (c2_parts : Int32) (c2_rowsInAll : Int64) (a56 : Nat → Int32) (a57 : Nat → Int32) (a58 : Nat → Int32) (a59 : Nat → Int32) (a61 : Nat → Int32) (a62 : Nat → Int32) (a63 : Nat → Int32) (a69 : Nat → Int32) (a70 : Nat → Int32) (a71 : Nat → Int32) (a72 : Nat → Int32) (p0 : c2_groups.toInt ≤ 2) (p1 : 2 ≤ c2_groups.toInt) (p2 : c2_pots.toInt ≤ 4) (p3 : 0 ≤ c2_pots.toInt) (p4 : c2_ranks.toInt ≤ 2) (p5 : 2 ≤ c2_ranks.toInt) (p6 : c2_draws.toInt ≤ 16) (p7 : 1 ≤ c2_draws.toInt) (p8 : c2_lawful.toInt ≤ 16) (p9 : 0 ≤ c2_lawful.toInt) (p10 : c2_lawful.toInt ≤ c2_draws.toInt) (hr_a48 : dz_rg a48 100 0 3) (hr_a49 : dz_rg a49 13824 0 1023) (hr_a52 : dz_rg a52 4 0 3) (hr_a53 : dz_rg a53 4 0 3) (hr_a56 : dz_rg a56 4 0 3) (hr_a57 : dz_rg a57 4 0 3) (hr_a59 : dz_rg a59 14425 0 16777215) (hr_a61 : dz_rg a61 13824 0 13823) (hr_a62 : dz_rg a62 16 0 16777215) (o0 : dz_pm a52 c2_pots.toInt.toNat) (o1 : dz_pm a53 2) (o2 : dz_rw 2 2 a48) (o3 : dz_lf c2_lawful a49 c2_draws.toInt.toNat) : dz_T (f80_X12_mix fu c2_groups c2_pots c2_ranks c2_draws c2_lawful a48 a49 a52 a53 v1 v2 c2_thrown c2_parts c2_rowsInAll a56 a57 a58 a59 a61 a62 a63 a69 a70 a71 a72) (fun r => dz_rg r.2.2.2.2.1 4 0 3 ∧ dz_rg r.2.2.2.2.2.1 4 0 3 ∧ dz_rg r.2.2.2.2.2.2.2.1 14425 0 16777215 ∧ dz_rg r.2.2.2.2.2.2.2.2.1 13824 0 13823 ∧ dz_rg r.2.2.2.2.2.2.2.2.2.1 16 0 16777215) := by
  unfold f80_X12_mix s80_X12_mix_0
  refine dz_Tbe (show f1_X12_isIn fu v1 (0 : Int32) (5 : Int32) = (if (v1 < (0 : Int32)) then (some (0 : Int32)) else (if ((5 : Int32) < v1) then (some (0 : Int32)) else (some (1 : Int32)))) from rfl) ?_
  have e1 := dz_l0
  refine dz_Tltb (fun h2 => ?_) (fun h2 => ?_)
  · skip
    refine dz_Tsb ?_
    refine dz_Teq (fun h3 => ?_) (fun h3 => ?_)
    · skip
      have e4 := dz_lm1
      refine dz_Ts ?_
      dsimp only
      exact ⟨(hr_a56), (hr_a57), (hr_a59), (hr_a61), (hr_a62)⟩
    · skip
      exfalso; omega
  · skip
    have e5 := dz_l5
    refine dz_Tltb (fun h6 => ?_) (fun h6 => ?_)
    · skip
      refine dz_Tsb ?_
      refine dz_Teq (fun h7 => ?_) (fun h7 => ?_)
      · skip
        have e8 := dz_lm1
        refine dz_Ts ?_
        dsimp only
        exact ⟨(hr_a56), (hr_a57), (hr_a59), (hr_a61), (hr_a62)⟩
      · skip
        exfalso; omega
    · skip
      refine dz_Tsb ?_
      have e9 := dz_l1
      refine dz_Teq (fun h10 => ?_) (fun h10 => ?_)
      · skip
        exfalso; omega
      · skip
        refine dz_Tlt (fun h11 => ?_) (fun h11 => ?_)
        · skip
          have e12 := dz_lm1
          refine dz_Ts ?_
          dsimp only
          exact ⟨(hr_a56), (hr_a57), (hr_a59), (hr_a61), (hr_a62)⟩
        · skip
          refine dz_Tle (fun h13 => ?_) (fun h13 => ?_)
          · skip
            have e14 := dz_lm1
            refine dz_Ts ?_
            dsimp only
            exact ⟨(hr_a56), (hr_a57), (hr_a59), (hr_a61), (hr_a62)⟩
          · skip
            refine dz_Teq (fun h15 => ?_) (fun h15 => ?_)
            · skip
              have e16 := dz_lm1
              refine dz_Ts ?_
              dsimp only
              exact ⟨(hr_a56), (hr_a57), (hr_a59), (hr_a61), (hr_a62)⟩
            · skip
              refine dz_Tb (t79_X12_mixes_g2 fu hfu _ _ _ _ _ _ _ _ _ _ _ _ _ _ _ _ _ _ _ _ _ _ p0 p1 p2 p3 p4 p5 p6 p7 (by first | assumption | omega) (by first | assumption | omega) (hr_a48) (hr_a49) (hr_a52) (hr_a53) (hr_a56) (hr_a57) (hr_a59) (hr_a61) (hr_a62) o0 o1 o2 (dz_lfw o3 (by omega))) (fun r2 q => ?_)
              obtain ⟨qa2_2, qa2_3, qa2_5, qa2_6, qa2_7, qa2_8⟩ := q
              refine dz_Tin (by omega) (by omega) ?_
              refine dz_Ts ?_
              dsimp only
              exact ⟨(qa2_2), (qa2_3), (qa2_5), (qa2_6), (qa2_7)⟩
abbrev p78_X12_mixesOne_g3 (fu : Nat) (c2_groups : Int32) (c2_pots : Int32) (c2_ranks : Int32) (a49 : Nat → Int32) (a69 : Nat → Int32) (a70 : Nat → Int32) (a71 : Nat → Int32) (k : Nat) : Prop :=
  (∀ (v1 : Int32) (v2 : Int32) (a72 : Nat → Int32), v1.toInt ≤ 1295 → 0 ≤ v1.toInt → v2.toInt ≤ 4 → 0 ≤ v2.toInt → v2.toInt ≤ c2_pots.toInt → 0 + 0 + (4 - v2.toInt) * 384 + 8 ≤ ((k : Nat) : Int) → dz_T ((F78_X12_mixesOne fu c2_groups c2_pots c2_ranks a49 a69 a70 a71 k).1 v1 v2 a72) (fun r => True)) ∧ (∀ (v1 : Int32) (v2 : Int32) (v3 : Int32) (a72 : Nat → Int32), 1 ≤ c2_pots.toInt → v1.toInt ≤ 1295 → 0 ≤ v1.toInt → v2.toInt ≤ 3 → 0 ≤ v2.toInt → v3.toInt ≤ 3 → 0 ≤ v3.toInt → v2.toInt + 1 ≤ c2_pots.toInt → 0 + 0 + ((4 - v2.toInt) - 1) * 384 + 0 + (3 - v3.toInt) * 88 + 16 ≤ ((k : Nat) : Int) → dz_T ((F78_X12_mixesOne fu c2_groups c2_pots c2_ranks a49 a69 a70 a71 k).2.1 v1 v2 v3 a72) (fun r => True)) ∧ (∀ (v1 : Int32) (v2 : Int32) (v3 : Int32) (v4 : Int32) (a72 : Nat → Int32), 1 ≤ c2_pots.toInt → v1.toInt ≤ 1295 → 0 ≤ v1.toInt → v2.toInt ≤ 3 → 0 ≤ v2.toInt → v3.toInt ≤ 2 → 0 ≤ v3.toInt → v4.toInt ≤ 3 → 1 ≤ v4.toInt → v2.toInt + 1 ≤ c2_pots.toInt → v3.toInt + 1 ≤ v4.toInt → 0 + 0 + ((4 - v2.toInt) - 1) * 384 + 0 + ((3 - v3.toInt) - 1) * 88 + 0 + (3 - v4.toInt) * 16 + 24 ≤ ((k : Nat) : Int) → dz_T ((F78_X12_mixesOne fu c2_groups c2_pots c2_ranks a49 a69 a70 a71 k).2.2.1 v1 v2 v3 v4 a72) (fun r => True))
set_option maxHeartbeats 4000000 in
set_option maxRecDepth 10000 in
theorem t78_X12_mixesOne_h1_g3 (fu : Nat) (hfu : 1000000000000 ≤ fu) (c2_groups : Int32) (c2_pots : Int32) (c2_ranks : Int32) (a49 : Nat → Int32) (a69 : Nat → Int32) (a70 : Nat → Int32) (a71 : Nat → Int32) (p0 : c2_groups.toInt ≤ 3) (p1 : 3 ≤ c2_groups.toInt) (p2 : c2_pots.toInt ≤ 4) (p3 : 0 ≤ c2_pots.toInt) (p4 : c2_ranks.toInt ≤ 6) (p5 : 6 ≤ c2_ranks.toInt) (hr_a49 : dz_rg a49 13824 0 1023) (o0 : dz_sq [1, 6, 36, 216] a69 (-1) c2_pots.toInt.toNat) (o1 : dz_td 3 6 a70) (k : Nat) (ih : ∀ j9, j9 < k → p78_X12_mixesOne_g3 fu c2_groups c2_pots c2_ranks a49 a69 a70 a71 j9) : ∀ (v1 : Int32) (v2 : Int32) (a72 : Nat → Int32), v1.toInt ≤ 1295 → 0 ≤ v1.toInt → v2.toInt ≤ 4 → 0 ≤ v2.toInt → v2.toInt ≤ c2_pots.toInt → 0 + 0 + (4 - v2.toInt) * 384 + 8 ≤ ((k : Nat) : Int) → dz_T ((F78_X12_mixesOne fu c2_groups c2_pots c2_ranks a49 a69 a70 a71 k).1 v1 v2 a72) (fun r => True) := by
  intro v1 v2 a72 i0 i1 i2 i3 i4 hm
  obtain ⟨k0, rfl⟩ : ∃ x, k = x + 1 := ⟨k - 1, by omega⟩
  show dz_T (s78_X12_mixesOne_1 fu c2_groups c2_pots c2_ranks a49 a69 a70 a71 (F78_X12_mixesOne fu c2_groups c2_pots c2_ranks a49 a69 a70 a71 k0).2.1  v1 v2 a72) _
  unfold s78_X12_mixesOne_1
  refine dz_Tle (fun h1 => ?_) (fun h1 => ?_)
  · skip
    exact dz_Ts trivial
  · skip
    have e2 := dz_l0
    exact (ih k0 (by omega)).2.1 v1 v2 (0 : Int32) a72 (by first | assumption | omega) i0 i1 (by first | assumption | omega) i3 (by omega) (by omega) (by first | assumption | omega) (by omega)
set_option maxHeartbeats 4000000 in
set_option maxRecDepth 10000 in
theorem t78_X12_mixesOne_h2_g3 (fu : Nat) (hfu : 1000000000000 ≤ fu) (c2_groups : Int32) (c2_pots : Int32) (c2_ranks : Int32) (a49 : Nat → Int32) (a69 : Nat → Int32) (a70 : Nat → Int32) (a71 : Nat → Int32) (p0 : c2_groups.toInt ≤ 3) (p1 : 3 ≤ c2_groups.toInt) (p2 : c2_pots.toInt ≤ 4) (p3 : 0 ≤ c2_pots.toInt) (p4 : c2_ranks.toInt ≤ 6) (p5 : 6 ≤ c2_ranks.toInt) (hr_a49 : dz_rg a49 13824 0 1023) (o0 : dz_sq [1, 6, 36, 216] a69 (-1) c2_pots.toInt.toNat) (o1 : dz_td 3 6 a70) (k : Nat) (ih : ∀ j9, j9 < k → p78_X12_mixesOne_g3 fu c2_groups c2_pots c2_ranks a49 a69 a70 a71 j9) : ∀ (v1 : Int32) (v2 : Int32) (v3 : Int32) (a72 : Nat → Int32), 1 ≤ c2_pots.toInt → v1.toInt ≤ 1295 → 0 ≤ v1.toInt → v2.toInt ≤ 3 → 0 ≤ v2.toInt → v3.toInt ≤ 3 → 0 ≤ v3.toInt → v2.toInt + 1 ≤ c2_pots.toInt → 0 + 0 + ((4 - v2.toInt) - 1) * 384 + 0 + (3 - v3.toInt) * 88 + 16 ≤ ((k : Nat) : Int) → dz_T ((F78_X12_mixesOne fu c2_groups c2_pots c2_ranks a49 a69 a70 a71 k).2.1 v1 v2 v3 a72) (fun r => True) := by
  intro v1 v2 v3 a72 i0 i1 i2 i3 i4 i5 i6 i7 hm
  obtain ⟨k0, rfl⟩ : ∃ x, k = x + 1 := ⟨k - 1, by omega⟩
  show dz_T (s78_X12_mixesOne_2 fu c2_groups c2_pots c2_ranks a49 a69 a70 a71 (F78_X12_mixesOne fu c2_groups c2_pots c2_ranks a49 a69 a70 a71 k0).1 (F78_X12_mixesOne fu c2_groups c2_pots c2_ranks a49 a69 a70 a71 k0).2.2.1  v1 v2 v3 a72) _
  unfold s78_X12_mixesOne_2
  refine dz_Tle (fun h1 => ?_) (fun h1 => ?_)
  · skip
    have e2 := dz_l1
    have e3 := dz_add (a := v2) (b := (1 : Int32)) (by omega) (by omega)
    exact (ih k0 (by omega)).1 v1 (v2 + (1 : Int32)) a72 i1 i2 (by omega) (by omega) (by omega) (by omega)
  · skip
    have e4 := dz_l1
    have e5 := dz_add (a := v3) (b := (1 : Int32)) (by omega) (by omega)
    exact (ih k0 (by omega)).2.2 v1 v2 v3 (v3 + (1 : Int32)) a72 i0 i1 i2 i3 i4 (by first | assumption | omega) i6 (by omega) (by omega) i7 (by omega) (by omega)
set_option maxHeartbeats 4000000 in
set_option maxRecDepth 10000 in
theorem t78_X12_mixesOne_h3_g3 (fu : Nat) (hfu : 1000000000000 ≤ fu) (c2_groups : Int32) (c2_pots : Int32) (c2_ranks : Int32) (a49 : Nat → Int32) (a69 : Nat → Int32) (a70 : Nat → Int32) (a71 : Nat → Int32) (p0 : c2_groups.toInt ≤ 3) (p1 : 3 ≤ c2_groups.toInt) (p2 : c2_pots.toInt ≤ 4) (p3 : 0 ≤ c2_pots.toInt) (p4 : c2_ranks.toInt ≤ 6) (p5 : 6 ≤ c2_ranks.toInt) (hr_a49 : dz_rg a49 13824 0 1023) (o0 : dz_sq [1, 6, 36, 216] a69 (-1) c2_pots.toInt.toNat) (o1 : dz_td 3 6 a70) (k : Nat) (ih : ∀ j9, j9 < k → p78_X12_mixesOne_g3 fu c2_groups c2_pots c2_ranks a49 a69 a70 a71 j9) : ∀ (v1 : Int32) (v2 : Int32) (v3 : Int32) (v4 : Int32) (a72 : Nat → Int32), 1 ≤ c2_pots.toInt → v1.toInt ≤ 1295 → 0 ≤ v1.toInt → v2.toInt ≤ 3 → 0 ≤ v2.toInt → v3.toInt ≤ 2 → 0 ≤ v3.toInt → v4.toInt ≤ 3 → 1 ≤ v4.toInt → v2.toInt + 1 ≤ c2_pots.toInt → v3.toInt + 1 ≤ v4.toInt → 0 + 0 + ((4 - v2.toInt) - 1) * 384 + 0 + ((3 - v3.toInt) - 1) * 88 + 0 + (3 - v4.toInt) * 16 + 24 ≤ ((k : Nat) : Int) → dz_T ((F78_X12_mixesOne fu c2_groups c2_pots c2_ranks a49 a69 a70 a71 k).2.2.1 v1 v2 v3 v4 a72) (fun r => True) := by
  intro v1 v2 v3 v4 a72 i0 i1 i2 i3 i4 i5 i6 i7 i8 i9 i10 hm
  obtain ⟨k0, rfl⟩ : ∃ x, k = x + 1 := ⟨k - 1, by omega⟩
  show dz_T (s78_X12_mixesOne_3 fu c2_groups c2_pots c2_ranks a49 a69 a70 a71 (F78_X12_mixesOne fu c2_groups c2_pots c2_ranks a49 a69 a70 a71 k0).2.1 (F78_X12_mixesOne fu c2_groups c2_pots c2_ranks a49 a69 a70 a71 k0).2.2.2  v1 v2 v3 v4 a72) _
  unfold s78_X12_mixesOne_3
  refine dz_Tle (fun h1 => ?_) (fun h1 => ?_)
  · skip
    have e2 := dz_l1
    have e3 := dz_add (a := v3) (b := (1 : Int32)) (by omega) (by omega)
    exact (ih k0 (by omega)).2.1 v1 v2 (v3 + (1 : Int32)) a72 i0 i1 i2 i3 i4 (by omega) (by omega) i9 (by omega)
  · skip
    refine dz_Tb (t75_X12_swapped_g3 fu hfu _ _ _ _ _ _ _ p4 p5 i2 i1 i4 i3 i6 i5 (by first | assumption | omega) (by first | assumption | omega) (by have hsq := dz_sqat o0 (p := v2) (by omega) (by omega); simp at hsq; first | exact hsq | omega) (o1)) (fun r1 q => ?_)
    obtain ⟨q1_0, q1_1⟩ := q
    refine dz_Tin (by omega) (by omega) ?_
    have e4 := dz_rgat (hr_a49) (i := r1) (by omega) (by omega)
    have e5 := dz_l0
    refine dz_Teq (fun h6 => ?_) (fun h6 => ?_)
    · skip
      obtain ⟨k1, rfl⟩ : ∃ x, k0 = x + 1 := ⟨k0 - 1, by omega⟩
      show dz_T (s78_X12_mixesOne_4 fu c2_groups c2_pots c2_ranks a49 a69 a70 a71 (F78_X12_mixesOne fu c2_groups c2_pots c2_ranks a49 a69 a70 a71 k1).2.2.1 v1 v2 v3 v4 r1 a72) _
      unfold s78_X12_mixesOne_4
      refine dz_Tin (by omega) (by omega) ?_
      refine dz_Tin (by omega) (by omega) ?_
      refine dz_Tin (by omega) (by omega) ?_
      have e7 := dz_l1
      have e8 := dz_add (a := v4) (b := (1 : Int32)) (by omega) (by omega)
      exact (ih k1 (by omega)).2.2 v1 v2 v3 (v4 + (1 : Int32)) (upd a72 r1.toNatClampNeg ((a72 r1.toNatClampNeg) + (a71 v1.toNatClampNeg))) i0 i1 i2 i3 i4 i5 i6 (by omega) (by omega) i9 (by omega) (by omega)
    · skip
      obtain ⟨k2, rfl⟩ : ∃ x, k0 = x + 1 := ⟨k0 - 1, by omega⟩
      show dz_T (s78_X12_mixesOne_4 fu c2_groups c2_pots c2_ranks a49 a69 a70 a71 (F78_X12_mixesOne fu c2_groups c2_pots c2_ranks a49 a69 a70 a71 k2).2.2.1 v1 v2 v3 v4 v1 a72) _
      unfold s78_X12_mixesOne_4
      refine dz_Tin (by omega) (by omega) ?_
      refine dz_Tin (by omega) (by omega) ?_
      refine dz_Tin (by omega) (by omega) ?_
      have e9 := dz_l1
      have e10 := dz_add (a := v4) (b := (1 : Int32)) (by omega) (by omega)
      exact (ih k2 (by omega)).2.2 v1 v2 v3 (v4 + (1 : Int32)) (upd a72 v1.toNatClampNeg ((a72 v1.toNatClampNeg) + (a71 v1.toNatClampNeg))) i0 i1 i2 i3 i4 i5 i6 (by omega) (by omega) i9 (by omega) (by omega)
theorem t78_X12_mixesOne_I_g3 (fu : Nat) (hfu : 1000000000000 ≤ fu) (c2_groups : Int32) (c2_pots : Int32) (c2_ranks : Int32) (a49 : Nat → Int32) (a69 : Nat → Int32) (a70 : Nat → Int32) (a71 : Nat → Int32) (p0 : c2_groups.toInt ≤ 3) (p1 : 3 ≤ c2_groups.toInt) (p2 : c2_pots.toInt ≤ 4) (p3 : 0 ≤ c2_pots.toInt) (p4 : c2_ranks.toInt ≤ 6) (p5 : 6 ≤ c2_ranks.toInt) (hr_a49 : dz_rg a49 13824 0 1023) (o0 : dz_sq [1, 6, 36, 216] a69 (-1) c2_pots.toInt.toNat) (o1 : dz_td 3 6 a70) (k : Nat) : p78_X12_mixesOne_g3 fu c2_groups c2_pots c2_ranks a49 a69 a70 a71 k := by
  induction k using Nat.strongRecOn with
  | _ k ih => exact ⟨t78_X12_mixesOne_h1_g3 fu hfu c2_groups c2_pots c2_ranks a49 a69 a70 a71 p0 p1 p2 p3 p4 p5 hr_a49 o0 o1 k ih, t78_X12_mixesOne_h2_g3 fu hfu c2_groups c2_pots c2_ranks a49 a69 a70 a71 p0 p1 p2 p3 p4 p5 hr_a49 o0 o1 k ih, t78_X12_mixesOne_h3_g3 fu hfu c2_groups c2_pots c2_ranks a49 a69 a70 a71 p0 p1 p2 p3 p4 p5 hr_a49 o0 o1 k ih⟩
set_option maxHeartbeats 4000000 in
set_option maxRecDepth 10000 in
theorem t78_X12_mixesOne_E_g3 (fu : Nat) (hfu : 1000000000000 ≤ fu) (c2_groups : Int32) (c2_pots : Int32) (c2_ranks : Int32) (a49 : Nat → Int32) (a69 : Nat → Int32) (a70 : Nat → Int32) (a71 : Nat → Int32) (v1 : Int32) (a72 : Nat → Int32) (p0 : c2_groups.toInt ≤ 3) (p1 : 3 ≤ c2_groups.toInt) (p2 : c2_pots.toInt ≤ 4) (p3 : 0 ≤ c2_pots.toInt) (p4 : c2_ranks.toInt ≤ 6) (p5 : 6 ≤ c2_ranks.toInt) (p6 : 0 ≤ v1.toInt) (p7 : v1.toInt ≤ 1295) (hr_a49 : dz_rg a49 13824 0 1023) (o0 : dz_sq [1, 6, 36, 216] a69 (-1) c2_pots.toInt.toNat) (o1 : dz_td 3 6 a70) (kv : Nat) (hkv : 1000000000000 ≤ kv) : dz_T (s78_X12_mixesOne_0 fu c2_groups c2_pots c2_ranks a49 a69 a70 a71 (F78_X12_mixesOne fu c2_groups c2_pots c2_ranks a49 a69 a70 a71 kv).1  v1 a72) (fun r => True) := by
  unfold s78_X12_mixesOne_0
  have e1 := dz_l0
  exact (t78_X12_mixesOne_I_g3 fu hfu c2_groups c2_pots c2_ranks a49 a69 a70 a71 p0 p1 p2 p3 p4 p5 hr_a49 o0 o1 kv).1 v1 (0 : Int32) a72 p7 p6 (by omega) (by omega) (by omega) (by omega)
theorem t78_X12_mixesOne_g3 (fu : Nat) (hfu : 1000000000000 ≤ fu) (c2_groups : Int32) (c2_pots : Int32) (c2_ranks : Int32) (a49 : Nat → Int32) (a69 : Nat → Int32) (a70 : Nat → Int32) (a71 : Nat → Int32) (v1 : Int32) (a72 : Nat → Int32) (p0 : c2_groups.toInt ≤ 3) (p1 : 3 ≤ c2_groups.toInt) (p2 : c2_pots.toInt ≤ 4) (p3 : 0 ≤ c2_pots.toInt) (p4 : c2_ranks.toInt ≤ 6) (p5 : 6 ≤ c2_ranks.toInt) (p6 : 0 ≤ v1.toInt) (p7 : v1.toInt ≤ 1295) (hr_a49 : dz_rg a49 13824 0 1023) (o0 : dz_sq [1, 6, 36, 216] a69 (-1) c2_pots.toInt.toNat) (o1 : dz_td 3 6 a70) : dz_T (f78_X12_mixesOne fu c2_groups c2_pots c2_ranks a49 a69 a70 a71 v1 a72) (fun r => True) :=
  t78_X12_mixesOne_E_g3 fu hfu c2_groups c2_pots c2_ranks a49 a69 a70 a71 v1 a72 p0 p1 p2 p3 p4 p5 p6 p7 hr_a49 o0 o1 fu hfu
