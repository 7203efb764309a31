abbrev p49_X12_layMasks_g4 (fu : Nat) (c2_groups : Int32) (c2_pots : Int32) (c2_ranks : Int32) (c2_draws : Int32) (a48 : Nat → Int32) (a49 : Nat → Int32) (a56 : Nat → Int32) (k : Nat) : Prop :=
  (∀ (v1 : Int32) (v2 : Int32) (c2_parts : Int32) (a58 : Nat → Int32) (a59 : Nat → Int32) (a61 : Nat → Int32) (a62 : Nat → Int32) (a63 : Nat → Int32), v1.toInt ≤ 331776 → 1 ≤ v1.toInt → v2.toInt ≤ 4 → 0 ≤ v2.toInt → v2.toInt + 1 ≤ v1.toInt → v2.toInt ≤ c2_pots.toInt + 1 → dz_rg a59 14425 0 16777215 → dz_rg a61 13824 0 13823 → dz_rg a62 16 0 16777215 → dz_lv 24 a58 v2.toInt.toNat → v1.toInt = ((24 ^ v2.toInt.toNat : Nat) : Int) → ((v2.toInt = 0 ∧ v1.toInt = 1) ∨ (v2.toInt = 1 ∧ v1.toInt = 24) ∨ (v2.toInt = 2 ∧ v1.toInt = 576) ∨ (v2.toInt = 3 ∧ v1.toInt = 13824) ∨ (v2.toInt = 4 ∧ v1.toInt = 331776)) → 0 + 2536963 + (4 - v2.toInt) * 26 + 13 ≤ ((k : Nat) : Int) → dz_T ((F49_X12_layMasks fu c2_groups c2_pots c2_ranks c2_draws a48 a49 a56 k).1 v1 v2 c2_parts a58 a59 a61 a62 a63) (fun r => dz_rg r.2.2.1 14425 0 16777215 ∧ dz_rg r.2.2.2.1 13824 0 13823 ∧ dz_rg r.2.2.2.2.1 16 0 16777215 ∧ dz_pt r.2.2.2.2.2 [1, 5, 25, 125] ∧ (r.1.toInt = 625) ∧ (dz_lv 24 r.2.1 (c2_pots.toInt.toNat + 1)) ∧ (dz_MK 24 c2_pots.toInt.toNat r.2.2.1 0 0) ∧ (dz_mz 24 (r.2.2.1 0) ∨ c2_pots.toInt = 0 ∨ dz_na a49 c2_draws.toInt.toNat) ∧ (dz_hv 4 24 r.2.2.2.2.1) ∧ (dz_pwt 4 4 r.2.2.2.2.2))) ∧ (∀ (v2 : Int32) (c2_parts : Int32) (a58 : Nat → Int32) (a59 : Nat → Int32) (a61 : Nat → Int32) (a62 : Nat → Int32) (a63 : Nat → Int32), v2.toInt ≤ 14425 → 0 ≤ v2.toInt → dz_rg a59 14425 0 16777215 → dz_rg a61 13824 0 13823 → dz_rg a62 16 0 16777215 → dz_lv 24 a58 (c2_pots.toInt.toNat + 1) → dz_zr a59 v2.toInt.toNat → 0 + 2161874 + (14425 - v2.toInt) * 26 + 13 ≤ ((k : Nat) : Int) → dz_T ((F49_X12_layMasks fu c2_groups c2_pots c2_ranks c2_draws a48 a49 a56 k).2.1 v2 c2_parts a58 a59 a61 a62 a63) (fun r => dz_rg r.2.2.1 14425 0 16777215 ∧ dz_rg r.2.2.2.1 13824 0 13823 ∧ dz_rg r.2.2.2.2.1 16 0 16777215 ∧ dz_pt r.2.2.2.2.2 [1, 5, 25, 125] ∧ (r.1.toInt = 625) ∧ (dz_lv 24 r.2.1 (c2_pots.toInt.toNat + 1)) ∧ (dz_MK 24 c2_pots.toInt.toNat r.2.2.1 0 0) ∧ (dz_mz 24 (r.2.2.1 0) ∨ c2_pots.toInt = 0 ∨ dz_na a49 c2_draws.toInt.toNat) ∧ (dz_hv 4 24 r.2.2.2.2.1) ∧ (dz_pwt 4 4 r.2.2.2.2.2))) ∧ (∀ (v2 : Int32) (c2_parts : Int32) (a58 : Nat → Int32) (a59 : Nat → Int32) (a61 : Nat → Int32) (a62 : Nat → Int32) (a63 : Nat → Int32), v2.toInt ≤ 13824 → 0 ≤ v2.toInt → v2.toInt ≤ c2_draws.toInt → dz_rg a59 14425 0 16777215 → dz_rg a61 13824 0 13823 → dz_rg a62 16 0 16777215 → dz_lv 24 a58 (c2_pots.toInt.toNat + 1) → dz_MK 24 c2_pots.toInt.toNat a59 0 0 → dz_mz 24 (a59 0) ∨ c2_pots.toInt = 0 ∨ dz_na a49 v2.toInt.toNat → 0 + 5161 + (13824 - v2.toInt) * 156 + 13 ≤ ((k : Nat) : Int) → dz_T ((F49_X12_layMasks fu c2_groups c2_pots c2_ranks c2_draws a48 a49 a56 k).2.2.1 v2 c2_parts a58 a59 a61 a62 a63) (fun r => dz_rg r.2.2.1 14425 0 16777215 ∧ dz_rg r.2.2.2.1 13824 0 13823 ∧ dz_rg r.2.2.2.2.1 16 0 16777215 ∧ dz_pt r.2.2.2.2.2 [1, 5, 25, 125] ∧ (r.1.toInt = 625) ∧ (dz_lv 24 r.2.1 (c2_pots.toInt.toNat + 1)) ∧ (dz_MK 24 c2_pots.toInt.toNat r.2.2.1 0 0) ∧ (dz_mz 24 (r.2.2.1 0) ∨ c2_pots.toInt = 0 ∨ dz_na a49 c2_draws.toInt.toNat) ∧ (dz_hv 4 24 r.2.2.2.2.1) ∧ (dz_pwt 4 4 r.2.2.2.2.2))) ∧ (∀ (v2 : Int32) (c2_parts : Int32) (a58 : Nat → Int32) (a59 : Nat → Int32) (a61 : Nat → Int32) (a62 : Nat → Int32) (a63 : Nat → Int32), v2.toInt ≤ 16 → 0 ≤ v2.toInt → dz_rg a59 14425 0 16777215 → dz_rg a61 13824 0 13823 → dz_rg a62 16 0 16777215 → dz_lv 24 a58 (c2_pots.toInt.toNat + 1) → dz_MK 24 c2_pots.toInt.toNat a59 0 0 → dz_mz 24 (a59 0) ∨ c2_pots.toInt = 0 ∨ dz_na a49 c2_draws.toInt.toNat → dz_zr a62 v2.toInt.toNat → 0 + 4706 + (16 - v2.toInt) * 26 + 13 ≤ ((k : Nat) : Int) → dz_T ((F49_X12_layMasks fu c2_groups c2_pots c2_ranks c2_draws a48 a49 a56 k).2.2.2.1 v2 c2_parts a58 a59 a61 a62 a63) (fun r => dz_rg r.2.2.1 14425 0 16777215 ∧ dz_rg r.2.2.2.1 13824 0 13823 ∧ dz_rg r.2.2.2.2.1 16 0 16777215 ∧ dz_pt r.2.2.2.2.2 [1, 5, 25, 125] ∧ (r.1.toInt = 625) ∧ (dz_lv 24 r.2.1 (c2_pots.toInt.toNat + 1)) ∧ (dz_MK 24 c2_pots.toInt.toNat r.2.2.1 0 0) ∧ (dz_mz 24 (r.2.2.1 0) ∨ c2_pots.toInt = 0 ∨ dz_na a49 c2_draws.toInt.toNat) ∧ (dz_hv 4 24 r.2.2.2.2.1) ∧ (dz_pwt 4 4 r.2.2.2.2.2))) ∧ (∀ (v2 : Int32) (v3 : Int32) (v4 : Int32) (c2_parts : Int32) (a58 : Nat → Int32) (a59 : Nat → Int32) (a61 : Nat → Int32) (a62 : Nat → Int32) (a63 : Nat → Int32), v2.toInt ≤ 13823 → 0 ≤ v2.toInt → v3.toInt ≤ 13823 → 0 ≤ v3.toInt → v4.toInt ≤ 3 → 0 ≤ v4.toInt → v2.toInt + 1 ≤ c2_draws.toInt → v4.toInt ≤ c2_pots.toInt → dz_rg a59 14425 0 16777215 → dz_rg a61 13824 0 13823 → dz_rg a62 16 0 16777215 → dz_lv 24 a58 (c2_pots.toInt.toNat + 1) → dz_MK 24 c2_pots.toInt.toNat a59 v4.toInt.toNat v3.toInt.toNat → ((v4.toInt = 0 ∧ v3.toInt < 1) ∨ (v4.toInt = 1 ∧ v3.toInt < 24) ∨ (v4.toInt = 2 ∧ v3.toInt < 576) ∨ (v4.toInt = 3 ∧ v3.toInt < 13824)) → dz_mz 24 (a59 0) ∨ c2_pots.toInt = 0 ∨ v4.toInt = 0 → 0 + 5161 + ((13824 - v2.toInt) - 1) * 156 + 0 + (3 - v4.toInt) * 26 + 26 ≤ ((k : Nat) : Int) → dz_T ((F49_X12_layMasks fu c2_groups c2_pots c2_ranks c2_draws a48 a49 a56 k).2.2.2.2.1 v2 v3 v4 c2_parts a58 a59 a61 a62 a63) (fun r => dz_rg r.2.2.1 14425 0 16777215 ∧ dz_rg r.2.2.2.1 13824 0 13823 ∧ dz_rg r.2.2.2.2.1 16 0 16777215 ∧ dz_pt r.2.2.2.2.2 [1, 5, 25, 125] ∧ (r.1.toInt = 625) ∧ (dz_lv 24 r.2.1 (c2_pots.toInt.toNat + 1)) ∧ (dz_MK 24 c2_pots.toInt.toNat r.2.2.1 0 0) ∧ (dz_mz 24 (r.2.2.1 0) ∨ c2_pots.toInt = 0 ∨ dz_na a49 c2_draws.toInt.toNat) ∧ (dz_hv 4 24 r.2.2.2.2.1) ∧ (dz_pwt 4 4 r.2.2.2.2.2))) ∧ (∀ (v2 : Int32) (c2_parts : Int32) (a58 : Nat → Int32) (a59 : Nat → Int32) (a61 : Nat → Int32) (a62 : Nat → Int32) (a63 : Nat → Int32), v2.toInt ≤ 24 → 0 ≤ v2.toInt → dz_rg a59 14425 0 16777215 → dz_rg a61 13824 0 13823 → dz_rg a62 16 0 16777215 → dz_lv 24 a58 (c2_pots.toInt.toNat + 1) → dz_MK 24 c2_pots.toInt.toNat a59 0 0 → dz_mz 24 (a59 0) ∨ c2_pots.toInt = 0 ∨ dz_na a49 c2_draws.toInt.toNat → dz_hq 4 v2.toInt.toNat 0 a62 → 0 + 143 + (24 - v2.toInt) * 182 + 13 ≤ ((k : Nat) : Int) → dz_T ((F49_X12_layMasks fu c2_groups c2_pots c2_ranks c2_draws a48 a49 a56 k).2.2.2.2.2.2.1 v2 c2_parts a58 a59 a61 a62 a63) (fun r => dz_rg r.2.2.1 14425 0 16777215 ∧ dz_rg r.2.2.2.1 13824 0 13823 ∧ dz_rg r.2.2.2.2.1 16 0 16777215 ∧ dz_pt r.2.2.2.2.2 [1, 5, 25, 125] ∧ (r.1.toInt = 625) ∧ (dz_lv 24 r.2.1 (c2_pots.toInt.toNat + 1)) ∧ (dz_MK 24 c2_pots.toInt.toNat r.2.2.1 0 0) ∧ (dz_mz 24 (r.2.2.1 0) ∨ c2_pots.toInt = 0 ∨ dz_na a49 c2_draws.toInt.toNat) ∧ (dz_hv 4 24 r.2.2.2.2.1) ∧ (dz_pwt 4 4 r.2.2.2.2.2))) ∧ (∀ (v2 : Int32) (c2_parts : Int32) (a58 : Nat → Int32) (a59 : Nat → Int32) (a61 : Nat → Int32) (a62 : Nat → Int32) (a63 : Nat → Int32), v2.toInt ≤ 4 → 0 ≤ v2.toInt → c2_parts.toInt ≤ 625 → 1 ≤ c2_parts.toInt → v2.toInt + 1 ≤ c2_parts.toInt → dz_rg a59 14425 0 16777215 → dz_rg a61 13824 0 13823 → dz_rg a62 16 0 16777215 → dz_lv 24 a58 (c2_pots.toInt.toNat + 1) → dz_MK 24 c2_pots.toInt.toNat a59 0 0 → dz_mz 24 (a59 0) ∨ c2_pots.toInt = 0 ∨ dz_na a49 c2_draws.toInt.toNat → dz_hv 4 24 a62 → ((v2.toInt = 0 ∧ c2_parts.toInt = 1) ∨ (v2.toInt = 1 ∧ c2_parts.toInt = 5) ∨ (v2.toInt = 2 ∧ c2_parts.toInt = 25) ∨ (v2.toInt = 3 ∧ c2_parts.toInt = 125) ∨ (v2.toInt = 4 ∧ c2_parts.toInt = 625)) → dz_pwt 4 v2.toInt.toNat a63 → 0 + 0 + (4 - v2.toInt) * 26 + 13 ≤ ((k : Nat) : Int) → dz_T ((F49_X12_layMasks fu c2_groups c2_pots c2_ranks c2_draws a48 a49 a56 k).2.2.2.2.2.2.2.1 v2 c2_parts a58 a59 a61 a62 a63) (fun r => dz_rg r.2.2.1 14425 0 16777215 ∧ dz_rg r.2.2.2.1 13824 0 13823 ∧ dz_rg r.2.2.2.2.1 16 0 16777215 ∧ dz_pt r.2.2.2.2.2 [1, 5, 25, 125] ∧ (r.1.toInt = 625) ∧ (dz_lv 24 r.2.1 (c2_pots.toInt.toNat + 1)) ∧ (dz_MK 24 c2_pots.toInt.toNat r.2.2.1 0 0) ∧ (dz_mz 24 (r.2.2.1 0) ∨ c2_pots.toInt = 0 ∨ dz_na a49 c2_draws.toInt.toNat) ∧ (dz_hv 4 24 r.2.2.2.2.1) ∧ (dz_pwt 4 4 r.2.2.2.2.2))) ∧ (∀ (v2 : Int32) (v3 : Int32) (c2_parts : Int32) (a58 : Nat → Int32) (a59 : Nat → Int32) (a61 : Nat → Int32) (a62 : Nat → Int32) (a63 : Nat → Int32), v2.toInt ≤ 23 → 0 ≤ v2.toInt → v3.toInt ≤ 4 → 0 ≤ v3.toInt → dz_rg a59 14425 0 16777215 → dz_rg a61 13824 0 13823 → dz_rg a62 16 0 16777215 → dz_lv 24 a58 (c2_pots.toInt.toNat + 1) → dz_MK 24 c2_pots.toInt.toNat a59 0 0 → dz_mz 24 (a59 0) ∨ c2_pots.toInt = 0 ∨ dz_na a49 c2_draws.toInt.toNat → dz_hq 4 v2.toInt.toNat v3.toInt.toNat a62 → 0 + 143 + ((24 - v2.toInt) - 1) * 182 + 0 + (4 - v3.toInt) * 26 + 26 ≤ ((k : Nat) : Int) → dz_T ((F49_X12_layMasks fu c2_groups c2_pots c2_ranks c2_draws a48 a49 a56 k).2.2.2.2.2.2.2.2 v2 v3 c2_parts a58 a59 a61 a62 a63) (fun r => dz_rg r.2.2.1 14425 0 16777215 ∧ dz_rg r.2.2.2.1 13824 0 13823 ∧ dz_rg r.2.2.2.2.1 16 0 16777215 ∧ dz_pt r.2.2.2.2.2 [1, 5, 25, 125] ∧ (r.1.toInt = 625) ∧ (dz_lv 24 r.2.1 (c2_pots.toInt.toNat + 1)) ∧ (dz_MK 24 c2_pots.toInt.toNat r.2.2.1 0 0) ∧ (dz_mz 24 (r.2.2.1 0) ∨ c2_pots.toInt = 0 ∨ dz_na a49 c2_draws.toInt.toNat) ∧ (dz_hv 4 24 r.2.2.2.2.1) ∧ (dz_pwt 4 4 r.2.2.2.2.2)))
set_option maxHeartbeats 4000000 in
set_option maxRecDepth 10000 in
theorem t49_X12_layMasks_h1_g4 (fu : Nat) (hfu : 1000000000000 ≤ fu) (c2_groups : Int32) (c2_pots : Int32) (c2_ranks : Int32) (c2_draws : Int32) (a48 : Nat → Int32) (a49 : Nat → Int32) (a56 : Nat → Int32) (p0 : c2_groups.toInt ≤ 4) (p1 : 4 ≤ c2_groups.toInt) (p2 : c2_pots.toInt ≤ 3) (p3 : 0 ≤ c2_pots.toInt) (p4 : c2_ranks.toInt ≤ 24) (p5 : 24 ≤ c2_ranks.toInt) (p6 : c2_draws.toInt ≤ 13824) (p7 : 1 ≤ c2_draws.toInt) (hr_a48 : dz_rg a48 100 0 3) (hr_a49 : dz_rg a49 13824 0 1023) (hr_a56 : dz_rg a56 4 0 3) (o0 : dz_rw 4 24 a48) (o1 : dz_pq a56 c2_pots.toInt.toNat) (k : Nat) (ih : ∀ j9, j9 < k → p49_X12_layMasks_g4 fu c2_groups c2_pots c2_ranks c2_draws a48 a49 a56 j9) : ∀ (v1 : Int32) (v2 : Int32) (c2_parts : Int32) (a58 : Nat → Int32) (a59 : Nat → Int32) (a61 : Nat → Int32) (a62 : Nat → Int32) (a63 : Nat → Int32), v1.toInt ≤ 331776 → 1 ≤ v1.toInt → v2.toInt ≤ 4 → 0 ≤ v2.toInt → v2.toInt + 1 ≤ v1.toInt → v2.toInt ≤ c2_pots.toInt + 1 → dz_rg a59 14425 0 16777215 → dz_rg a61 13824 0 13823 → dz_rg a62 16 0 16777215 → dz_lv 24 a58 v2.toInt.toNat → v1.toInt = ((24 ^ v2.toInt.toNat : Nat) : Int) → ((v2.toInt = 0 ∧ v1.toInt = 1) ∨ (v2.toInt = 1 ∧ v1.toInt = 24) ∨ (v2.toInt = 2 ∧ v1.toInt = 576) ∨ (v2.toInt = 3 ∧ v1.toInt = 13824) ∨ (v2.toInt = 4 ∧ v1.toInt = 331776)) → 0 + 2536963 + (4 - v2.toInt) * 26 + 13 ≤ ((k : Nat) : Int) → dz_T ((F49_X12_layMasks fu c2_groups c2_pots c2_ranks c2_draws a48 a49 a56 k).1 v1 v2 c2_parts a58 a59 a61 a62 a63) (fun r => dz_rg r.2.2.1 14425 0 16777215 ∧ dz_rg r.2.2.2.1 13824 0 13823 ∧ dz_rg r.2.2.2.2.1 16 0 16777215 ∧ dz_pt r.2.2.2.2.2 [1, 5, 25, 125] ∧ (r.1.toInt = 625) ∧ (dz_lv 24 r.2.1 (c2_pots.toInt.toNat + 1)) ∧ (dz_MK 24 c2_pots.toInt.toNat r.2.2.1 0 0) ∧ (dz_mz 24 (r.2.2.1 0) ∨ c2_pots.toInt = 0 ∨ dz_na a49 c2_draws.toInt.toNat) ∧ (dz_hv 4 24 r.2.2.2.2.1) ∧ (dz_pwt 4 4 r.2.2.2.2.2)) := by
  intro v1 v2 c2_parts a58 a59 a61 a62 a63 i0 i1 i2 i3 i4 i5 hr_a59 hr_a61 hr_a62 x0 x1 x2 hm
  obtain ⟨k0, rfl⟩ : ∃ x, k = x + 1 := ⟨k - 1, by omega⟩
  show dz_T (s49_X12_layMasks_1 fu c2_groups c2_pots c2_ranks c2_draws a48 a49 a56 (F49_X12_layMasks fu c2_groups c2_pots c2_ranks c2_draws a48 a49 a56 k0).1 (F49_X12_layMasks fu c2_groups c2_pots c2_ranks c2_draws a48 a49 a56 k0).2.1  v1 v2 c2_parts a58 a59 a61 a62 a63) _
  unfold s49_X12_layMasks_1
  have hlv := dz_lvd4 x0 (i := v2) (by omega) (by omega) (by omega)
  have hs := dz_add (a := a58 v2.toNatClampNeg) (b := v1) (by omega) (by omega)
  rcases (show v2.toInt = 0 ∨ v2.toInt = 1 ∨ v2.toInt = 2 ∨ v2.toInt = 3 ∨ v2.toInt = 4 by omega) with hs | hs | hs | hs | hs
  · skip
    refine dz_Tlt (fun h1 => ?_) (fun h1 => ?_)
    · skip
      exfalso; omega
    · skip
      refine dz_Tin (by omega) (by omega) ?_
      have e2 := dz_l1
      have e3 := dz_add (a := v2) (b := (1 : Int32)) (by omega) (by omega)
      refine dz_Tin (by omega) (by omega) ?_
      have e4 := dz_mulr (a := v1) (b := c2_ranks) 24 (by omega) (by omega) (by omega)
      exact (ih k0 (by omega)).1 (v1 * c2_ranks) (v2 + (1 : Int32)) c2_parts (upd a58 (v2 + (1 : Int32)).toNatClampNeg ((a58 v2.toNatClampNeg) + v1)) a59 a61 a62 a63 (by omega) (by omega) (by omega) (by omega) (by omega) (by omega) (hr_a59) (hr_a61) (hr_a62) (by first | exact dz_lv0 (by omega) (by omega) (by omega) | exact dz_lvs x0 (by omega) (by omega) x1 (by omega)) (by first | decide | exact dz_pws x1 (by omega) (by omega) (r := c2_ranks) (by omega) (by omega)) (by omega) (by omega)
  · skip
    refine dz_Tlt (fun h5 => ?_) (fun h5 => ?_)
    · skip
      have e6 := dz_l0
      exact (ih k0 (by omega)).2.1 (0 : Int32) c2_parts a58 a59 a61 a62 a63 (by omega) (by omega) (hr_a59) (hr_a61) (hr_a62) (by first | exact x0 | exact dz_lvm x0 (by omega)) (by first | exact dz_zr0 (by omega) | exact dz_zrs x1 (by omega) (by omega) (by first | omega | decide)) (by omega)
    · skip
      refine dz_Tin (by omega) (by omega) ?_
      have e7 := dz_l1
      have e8 := dz_add (a := v2) (b := (1 : Int32)) (by omega) (by omega)
      refine dz_Tin (by omega) (by omega) ?_
      have e9 := dz_mulr (a := v1) (b := c2_ranks) 24 (by omega) (by omega) (by omega)
      exact (ih k0 (by omega)).1 (v1 * c2_ranks) (v2 + (1 : Int32)) c2_parts (upd a58 (v2 + (1 : Int32)).toNatClampNeg ((a58 v2.toNatClampNeg) + v1)) a59 a61 a62 a63 (by omega) (by omega) (by omega) (by omega) (by omega) (by omega) (hr_a59) (hr_a61) (hr_a62) (by first | exact dz_lv0 (by omega) (by omega) (by omega) | exact dz_lvs x0 (by omega) (by omega) x1 (by omega)) (by first | decide | exact dz_pws x1 (by omega) (by omega) (r := c2_ranks) (by omega) (by omega)) (by omega) (by omega)
  · skip
    refine dz_Tlt (fun h10 => ?_) (fun h10 => ?_)
    · skip
      have e11 := dz_l0
      exact (ih k0 (by omega)).2.1 (0 : Int32) c2_parts a58 a59 a61 a62 a63 (by omega) (by omega) (hr_a59) (hr_a61) (hr_a62) (by first | exact x0 | exact dz_lvm x0 (by omega)) (by first | exact dz_zr0 (by omega) | exact dz_zrs x1 (by omega) (by omega) (by first | omega | decide)) (by omega)
    · skip
      refine dz_Tin (by omega) (by omega) ?_
      have e12 := dz_l1
      have e13 := dz_add (a := v2) (b := (1 : Int32)) (by omega) (by omega)
      refine dz_Tin (by omega) (by omega) ?_
      have e14 := dz_mulr (a := v1) (b := c2_ranks) 24 (by omega) (by omega) (by omega)
      exact (ih k0 (by omega)).1 (v1 * c2_ranks) (v2 + (1 : Int32)) c2_parts (upd a58 (v2 + (1 : Int32)).toNatClampNeg ((a58 v2.toNatClampNeg) + v1)) a59 a61 a62 a63 (by omega) (by omega) (by omega) (by omega) (by omega) (by omega) (hr_a59) (hr_a61) (hr_a62) (by first | exact dz_lv0 (by omega) (by omega) (by omega) | exact dz_lvs x0 (by omega) (by omega) x1 (by omega)) (by first | decide | exact dz_pws x1 (by omega) (by omega) (r := c2_ranks) (by omega) (by omega)) (by omega) (by omega)
  · skip
    refine dz_Tlt (fun h15 => ?_) (fun h15 => ?_)
    · skip
      have e16 := dz_l0
      exact (ih k0 (by omega)).2.1 (0 : Int32) c2_parts a58 a59 a61 a62 a63 (by omega) (by omega) (hr_a59) (hr_a61) (hr_a62) (by first | exact x0 | exact dz_lvm x0 (by omega)) (by first | exact dz_zr0 (by omega) | exact dz_zrs x1 (by omega) (by omega) (by first | omega | decide)) (by omega)
    · skip
      refine dz_Tin (by omega) (by omega) ?_
      have e17 := dz_l1
      have e18 := dz_add (a := v2) (b := (1 : Int32)) (by omega) (by omega)
      refine dz_Tin (by omega) (by omega) ?_
      have e19 := dz_mulr (a := v1) (b := c2_ranks) 24 (by omega) (by omega) (by omega)
      exact (ih k0 (by omega)).1 (v1 * c2_ranks) (v2 + (1 : Int32)) c2_parts (upd a58 (v2 + (1 : Int32)).toNatClampNeg ((a58 v2.toNatClampNeg) + v1)) a59 a61 a62 a63 (by omega) (by omega) (by omega) (by omega) (by omega) (by omega) (hr_a59) (hr_a61) (hr_a62) (by first | exact dz_lv0 (by omega) (by omega) (by omega) | exact dz_lvs x0 (by omega) (by omega) x1 (by omega)) (by first | decide | exact dz_pws x1 (by omega) (by omega) (r := c2_ranks) (by omega) (by omega)) (by omega) (by omega)
  · skip
    refine dz_Tlt (fun h20 => ?_) (fun h20 => ?_)
    · skip
      have e21 := dz_l0
      exact (ih k0 (by omega)).2.1 (0 : Int32) c2_parts a58 a59 a61 a62 a63 (by omega) (by omega) (hr_a59) (hr_a61) (hr_a62) (by first | exact x0 | exact dz_lvm x0 (by omega)) (by first | exact dz_zr0 (by omega) | exact dz_zrs x1 (by omega) (by omega) (by first | omega | decide)) (by omega)
    · skip
      exfalso; omega
set_option maxHeartbeats 4000000 in
set_option maxRecDepth 10000 in
theorem t49_X12_layMasks_h2_g4 (fu : Nat) (hfu : 1000000000000 ≤ fu) (c2_groups : Int32) (c2_pots : Int32) (c2_ranks : Int32) (c2_draws : Int32) (a48 : Nat → Int32) (a49 : Nat → Int32) (a56 : Nat → Int32) (p0 : c2_groups.toInt ≤ 4) (p1 : 4 ≤ c2_groups.toInt) (p2 : c2_pots.toInt ≤ 3) (p3 : 0 ≤ c2_pots.toInt) (p4 : c2_ranks.toInt ≤ 24) (p5 : 24 ≤ c2_ranks.toInt) (p6 : c2_draws.toInt ≤ 13824) (p7 : 1 ≤ c2_draws.toInt) (hr_a48 : dz_rg a48 100 0 3) (hr_a49 : dz_rg a49 13824 0 1023) (hr_a56 : dz_rg a56 4 0 3) (o0 : dz_rw 4 24 a48) (o1 : dz_pq a56 c2_pots.toInt.toNat) (k : Nat) (ih : ∀ j9, j9 < k → p49_X12_layMasks_g4 fu c2_groups c2_pots c2_ranks c2_draws a48 a49 a56 j9) : ∀ (v2 : Int32) (c2_parts : Int32) (a58 : Nat → Int32) (a59 : Nat → Int32) (a61 : Nat → Int32) (a62 : Nat → Int32) (a63 : Nat → Int32), v2.toInt ≤ 14425 → 0 ≤ v2.toInt → dz_rg a59 14425 0 16777215 → dz_rg a61 13824 0 13823 → dz_rg a62 16 0 16777215 → dz_lv 24 a58 (c2_pots.toInt.toNat + 1) → dz_zr a59 v2.toInt.toNat → 0 + 2161874 + (14425 - v2.toInt) * 26 + 13 ≤ ((k : Nat) : Int) → dz_T ((F49_X12_layMasks fu c2_groups c2_pots c2_ranks c2_draws a48 a49 a56 k).2.1 v2 c2_parts a58 a59 a61 a62 a63) (fun r => dz_rg r.2.2.1 14425 0 16777215 ∧ dz_rg r.2.2.2.1 13824 0 13823 ∧ dz_rg r.2.2.2.2.1 16 0 16777215 ∧ dz_pt r.2.2.2.2.2 [1, 5, 25, 125] ∧ (r.1.toInt = 625) ∧ (dz_lv 24 r.2.1 (c2_pots.toInt.toNat + 1)) ∧ (dz_MK 24 c2_pots.toInt.toNat r.2.2.1 0 0) ∧ (dz_mz 24 (r.2.2.1 0) ∨ c2_pots.toInt = 0 ∨ dz_na a49 c2_draws.toInt.toNat) ∧ (dz_hv 4 24 r.2.2.2.2.1) ∧ (dz_pwt 4 4 r.2.2.2.2.2)) := by
  intro v2 c2_parts a58 a59 a61 a62 a63 i0 i1 hr_a59 hr_a61 hr_a62 x0 x1 hm
  obtain ⟨k0, rfl⟩ : ∃ x, k = x + 1 := ⟨k - 1, by omega⟩
  show dz_T (s49_X12_layMasks_2 fu c2_groups c2_pots c2_ranks c2_draws a48 a49 a56 (F49_X12_layMasks fu c2_groups c2_pots c2_ranks c2_draws a48 a49 a56 k0).2.1 (F49_X12_layMasks fu c2_groups c2_pots c2_ranks c2_draws a48 a49 a56 k0).2.2.1  v2 c2_parts a58 a59 a61 a62 a63) _
  unfold s49_X12_layMasks_2
  have hl1 := dz_l1
  have hp1 := dz_add (a := c2_pots) (b := 1) (by have := dz_l1; omega) (by have := dz_l1; omega)
  have hlv := dz_lvd4 x0 (i := c2_pots + 1) (by omega) (by omega) (by omega)
  have e1 := dz_l1
  have e2 := dz_add (a := c2_pots) (b := (1 : Int32)) (by omega) (by omega)
  refine dz_Tin (by omega) (by omega) ?_
  refine dz_Tle (fun h3 => ?_) (fun h3 => ?_)
  · skip
    have e4 := dz_l0
    exact (ih k0 (by omega)).2.2.1 (0 : Int32) c2_parts a58 a59 a61 a62 a63 (by omega) (by omega) (by omega) (hr_a59) (hr_a61) (hr_a62) (x0) (by first | exact x1 | exact dz_MKz (i := c2_pots + 1) x1 x0 (by omega) (by omega) (by omega) | exact dz_MKp x1 (by omega)) (by first | exact Or.inr (Or.inr (dz_na0 (by omega))) | exact dz_nas x2 (by omega) (by omega) (by omega) | exact x2.imp id (fun w => w.imp id (fun u => dz_nam u (by omega))) | exact x3.imp id (fun w => Or.inl (by omega))) (by omega)
  · skip
    refine dz_Tin (by omega) (by omega) ?_
    have e5 := dz_add (a := v2) (b := (1 : Int32)) (by omega) (by omega)
    have e6 := dz_l0
    exact (ih k0 (by omega)).2.1 (v2 + (1 : Int32)) c2_parts a58 (upd a59 v2.toNatClampNeg (0 : Int32)) a61 a62 a63 (by omega) (by omega) (dz_rgu (hr_a59) (by omega) (by omega)) (hr_a61) (hr_a62) (by first | exact x0 | exact dz_lvm x0 (by omega)) (by first | exact dz_zr0 (by omega) | exact dz_zrs x1 (by omega) (by omega) (by first | omega | decide)) (by omega)
set_option maxHeartbeats 4000000 in
set_option maxRecDepth 10000 in
theorem t49_X12_layMasks_h3_g4 (fu : Nat) (hfu : 1000000000000 ≤ fu) (c2_groups : Int32) (c2_pots : Int32) (c2_ranks : Int32) (c2_draws : Int32) (a48 : Nat → Int32) (a49 : Nat → Int32) (a56 : Nat → Int32) (p0 : c2_groups.toInt ≤ 4) (p1 : 4 ≤ c2_groups.toInt) (p2 : c2_pots.toInt ≤ 3) (p3 : 0 ≤ c2_pots.toInt) (p4 : c2_ranks.toInt ≤ 24) (p5 : 24 ≤ c2_ranks.toInt) (p6 : c2_draws.toInt ≤ 13824) (p7 : 1 ≤ c2_draws.toInt) (hr_a48 : dz_rg a48 100 0 3) (hr_a49 : dz_rg a49 13824 0 1023) (hr_a56 : dz_rg a56 4 0 3) (o0 : dz_rw 4 24 a48) (o1 : dz_pq a56 c2_pots.toInt.toNat) (k : Nat) (ih : ∀ j9, j9 < k → p49_X12_layMasks_g4 fu c2_groups c2_pots c2_ranks c2_draws a48 a49 a56 j9) : ∀ (v2 : Int32) (c2_parts : Int32) (a58 : Nat → Int32) (a59 : Nat → Int32) (a61 : Nat → Int32) (a62 : Nat → Int32) (a63 : Nat → Int32), v2.toInt ≤ 13824 → 0 ≤ v2.toInt → v2.toInt ≤ c2_draws.toInt → dz_rg a59 14425 0 16777215 → dz_rg a61 13824 0 13823 → dz_rg a62 16 0 16777215 → dz_lv 24 a58 (c2_pots.toInt.toNat + 1) → dz_MK 24 c2_pots.toInt.toNat a59 0 0 → dz_mz 24 (a59 0) ∨ c2_pots.toInt = 0 ∨ dz_na a49 v2.toInt.toNat → 0 + 5161 + (13824 - v2.toInt) * 156 + 13 ≤ ((k : Nat) : Int) → dz_T ((F49_X12_layMasks fu c2_groups c2_pots c2_ranks c2_draws a48 a49 a56 k).2.2.1 v2 c2_parts a58 a59 a61 a62 a63) (fun r => dz_rg r.2.2.1 14425 0 16777215 ∧ dz_rg r.2.2.2.1 13824 0 13823 ∧ dz_rg r.2.2.2.2.1 16 0 16777215 ∧ dz_pt r.2.2.2.2.2 [1, 5, 25, 125] ∧ (r.1.toInt = 625) ∧ (dz_lv 24 r.2.1 (c2_pots.toInt.toNat + 1)) ∧ (dz_MK 24 c2_pots.toInt.toNat r.2.2.1 0 0) ∧ (dz_mz 24 (r.2.2.1 0) ∨ c2_pots.toInt = 0 ∨ dz_na a49 c2_draws.toInt.toNat) ∧ (dz_hv 4 24 r.2.2.2.2.1) ∧ (dz_pwt 4 4 r.2.2.2.2.2)) := by
  intro v2 c2_parts a58 a59 a61 a62 a63 i0 i1 i2 hr_a59 hr_a61 hr_a62 x0 x1 x2 hm
  obtain ⟨k0, rfl⟩ : ∃ x, k = x + 1 := ⟨k - 1, by omega⟩
  show dz_T (s49_X12_layMasks_3 fu c2_groups c2_pots c2_ranks c2_draws a48 a49 a56 (F49_X12_layMasks fu c2_groups c2_pots c2_ranks c2_draws a48 a49 a56 k0).2.2.2.1 (F49_X12_layMasks fu c2_groups c2_pots c2_ranks c2_draws a48 a49 a56 k0).2.2.2.2.1 (F49_X12_layMasks fu c2_groups c2_pots c2_ranks c2_draws a48 a49 a56 k0).2.2.2.2.2.1  v2 c2_parts a58 a59 a61 a62 a63) _
  unfold s49_X12_layMasks_3
  refine dz_Tle (fun h1 => ?_) (fun h1 => ?_)
  · skip
    have e2 := dz_l0
    exact (ih k0 (by omega)).2.2.2.1 (0 : Int32) c2_parts a58 a59 a61 a62 a63 (by omega) (by omega) (hr_a59) (hr_a61) (hr_a62) (x0) (x1) (by first | exact x2 | exact x2.imp id (fun w => w.imp id (fun u => dz_nam u (by omega)))) (by first | exact dz_zr0 (by omega) | exact dz_zrs x3 (by omega) (by omega) (by first | omega | decide)) (by omega)
  · skip
    refine dz_Tin (by omega) (by omega) ?_
    have e3 := dz_rgat (hr_a49) (i := v2) (by omega) (by omega)
    have e4 := dz_l0
    refine dz_Teq (fun h5 => ?_) (fun h5 => ?_)
    · skip
      exact (ih k0 (by omega)).2.2.2.2.1 v2 (0 : Int32) (0 : Int32) c2_parts a58 a59 a61 a62 a63 (by first | assumption | omega) i1 (by omega) (by omega) (by omega) (by omega) (by first | assumption | omega) (by omega) (hr_a59) (hr_a61) (hr_a62) (x0) (by first | exact dz_MKp x1 (by omega) | exact dz_MKs x1 (by first | (rw [show v4.toInt.toNat = 0 by omega]; show v3.toInt.toNat < 1; omega) | (rw [show v4.toInt.toNat = 1 by omega]; show v3.toInt.toNat < 24; omega) | (rw [show v4.toInt.toNat = 2 by omega]; show v3.toInt.toNat < 576; omega) | (rw [show v4.toInt.toNat = 3 by omega]; show v3.toInt.toNat < 13824; omega)) (by omega) (by omega) (by omega) (by omega) (by omega) (by omega) (by omega)) (by omega) (by first | exact Or.inr (Or.inr (by omega)) | exact Or.inl (dz_upmz (by omega) (by omega) (by omega) (x3.imp id (fun w => by omega)))) (by omega)
    · skip
      obtain ⟨k1, rfl⟩ : ∃ x, k0 = x + 1 := ⟨k0 - 1, by omega⟩
      show dz_T (s49_X12_layMasks_6 fu c2_groups c2_pots c2_ranks c2_draws a48 a49 a56 (F49_X12_layMasks fu c2_groups c2_pots c2_ranks c2_draws a48 a49 a56 k1).2.2.1 v2 c2_parts a58 a59 a61 a62 a63) _
      unfold s49_X12_layMasks_6
      have e6 := dz_l1
      have e7 := dz_add (a := v2) (b := (1 : Int32)) (by omega) (by omega)
      exact (ih k1 (by omega)).2.2.1 (v2 + (1 : Int32)) c2_parts a58 a59 a61 a62 a63 (by omega) (by omega) (by omega) (hr_a59) (hr_a61) (hr_a62) (x0) (by first | exact x1 | exact dz_MKz (i := c2_pots + 1) x1 x0 (by omega) (by omega) (by omega) | exact dz_MKp x1 (by omega)) (by first | exact Or.inr (Or.inr (dz_na0 (by omega))) | exact dz_nas x2 (by omega) (by omega) (by omega) | exact x2.imp id (fun w => w.imp id (fun u => dz_nam u (by omega))) | exact x3.imp id (fun w => Or.inl (by omega))) (by omega)
set_option maxHeartbeats 4000000 in
set_option maxRecDepth 10000 in
theorem t49_X12_layMasks_h4_g4 (fu : Nat) (hfu : 1000000000000 ≤ fu) (c2_groups : Int32) (c2_pots : Int32) (c2_ranks : Int32) (c2_draws : Int32) (a48 : Nat → Int32) (a49 : Nat → Int32) (a56 : Nat → Int32) (p0 : c2_groups.toInt ≤ 4) (p1 : 4 ≤ c2_groups.toInt) (p2 : c2_pots.toInt ≤ 3) (p3 : 0 ≤ c2_pots.toInt) (p4 : c2_ranks.toInt ≤ 24) (p5 : 24 ≤ c2_ranks.toInt) (p6 : c2_draws.toInt ≤ 13824) (p7 : 1 ≤ c2_draws.toInt) (hr_a48 : dz_rg a48 100 0 3) (hr_a49 : dz_rg a49 13824 0 1023) (hr_a56 : dz_rg a56 4 0 3) (o0 : dz_rw 4 24 a48) (o1 : dz_pq a56 c2_pots.toInt.toNat) (k : Nat) (ih : ∀ j9, j9 < k → p49_X12_layMasks_g4 fu c2_groups c2_pots c2_ranks c2_draws a48 a49 a56 j9) : ∀ (v2 : Int32) (c2_parts : Int32) (a58 : Nat → Int32) (a59 : Nat → Int32) (a61 : Nat → Int32) (a62 : Nat → Int32) (a63 : Nat → Int32), v2.toInt ≤ 16 → 0 ≤ v2.toInt → dz_rg a59 14425 0 16777215 → dz_rg a61 13824 0 13823 → dz_rg a62 16 0 16777215 → dz_lv 24 a58 (c2_pots.toInt.toNat + 1) → dz_MK 24 c2_pots.toInt.toNat a59 0 0 → dz_mz 24 (a59 0) ∨ c2_pots.toInt = 0 ∨ dz_na a49 c2_draws.toInt.toNat → dz_zr a62 v2.toInt.toNat → 0 + 4706 + (16 - v2.toInt) * 26 + 13 ≤ ((k : Nat) : Int) → dz_T ((F49_X12_layMasks fu c2_groups c2_pots c2_ranks c2_draws a48 a49 a56 k).2.2.2.1 v2 c2_parts a58 a59 a61 a62 a63) (fun r => dz_rg r.2.2.1 14425 0 16777215 ∧ dz_rg r.2.2.2.1 13824 0 13823 ∧ dz_rg r.2.2.2.2.1 16 0 16777215 ∧ dz_pt r.2.2.2.2.2 [1, 5, 25, 125] ∧ (r.1.toInt = 625) ∧ (dz_lv 24 r.2.1 (c2_pots.toInt.toNat + 1)) ∧ (dz_MK 24 c2_pots.toInt.toNat r.2.2.1 0 0) ∧ (dz_mz 24 (r.2.2.1 0) ∨ c2_pots.toInt = 0 ∨ dz_na a49 c2_draws.toInt.toNat) ∧ (dz_hv 4 24 r.2.2.2.2.1) ∧ (dz_pwt 4 4 r.2.2.2.2.2)) := by
  intro v2 c2_parts a58 a59 a61 a62 a63 i0 i1 hr_a59 hr_a61 hr_a62 x0 x1 x2 x3 hm
  obtain ⟨k0, rfl⟩ : ∃ x, k = x + 1 := ⟨k - 1, by omega⟩
  show dz_T (s49_X12_layMasks_4 fu c2_groups c2_pots c2_ranks c2_draws a48 a49 a56 (F49_X12_layMasks fu c2_groups c2_pots c2_ranks c2_draws a48 a49 a56 k0).2.2.2.1 (F49_X12_layMasks fu c2_groups c2_pots c2_ranks c2_draws a48 a49 a56 k0).2.2.2.2.2.2.1  v2 c2_parts a58 a59 a61 a62 a63) _
  unfold s49_X12_layMasks_4
  have e1 := dz_l16
  refine dz_Tle (fun h2 => ?_) (fun h2 => ?_)
  · skip
    have e3 := dz_l0
    exact (ih k0 (by omega)).2.2.2.2.2.1 (0 : Int32) c2_parts a58 a59 a61 a62 a63 (by omega) (by omega) (hr_a59) (hr_a61) (hr_a62) (x0) (x1) (x2) (by first | exact dz_hq0 x3 (by omega) (by omega) (by omega) (by omega) | exact dz_hqn x3 (by omega) (by omega) (by omega)) (by omega)
  · skip
    refine dz_Tin (by omega) (by omega) ?_
    have e4 := dz_l1
    have e5 := dz_add (a := v2) (b := (1 : Int32)) (by omega) (by omega)
    have e6 := dz_l0
    exact (ih k0 (by omega)).2.2.2.1 (v2 + (1 : Int32)) c2_parts a58 a59 a61 (upd a62 v2.toNatClampNeg (0 : Int32)) a63 (by omega) (by omega) (hr_a59) (hr_a61) (dz_rgu (hr_a62) (by omega) (by omega)) (x0) (x1) (by first | exact x2 | exact x2.imp id (fun w => w.imp id (fun u => dz_nam u (by omega)))) (by first | exact dz_zr0 (by omega) | exact dz_zrs x3 (by omega) (by omega) (by first | omega | decide)) (by omega)
set_option maxHeartbeats 4000000 in
set_option maxRecDepth 10000 in
theorem t49_X12_layMasks_h5_g4 (fu : Nat) (hfu : 1000000000000 ≤ fu) (c2_groups : Int32) (c2_pots : Int32) (c2_ranks : Int32) (c2_draws : Int32) (a48 : Nat → Int32) (a49 : Nat → Int32) (a56 : Nat → Int32) (p0 : c2_groups.toInt ≤ 4) (p1 : 4 ≤ c2_groups.toInt) (p2 : c2_pots.toInt ≤ 3) (p3 : 0 ≤ c2_pots.toInt) (p4 : c2_ranks.toInt ≤ 24) (p5 : 24 ≤ c2_ranks.toInt) (p6 : c2_draws.toInt ≤ 13824) (p7 : 1 ≤ c2_draws.toInt) (hr_a48 : dz_rg a48 100 0 3) (hr_a49 : dz_rg a49 13824 0 1023) (hr_a56 : dz_rg a56 4 0 3) (o0 : dz_rw 4 24 a48) (o1 : dz_pq a56 c2_pots.toInt.toNat) (k : Nat) (ih : ∀ j9, j9 < k → p49_X12_layMasks_g4 fu c2_groups c2_pots c2_ranks c2_draws a48 a49 a56 j9) : ∀ (v2 : Int32) (v3 : Int32) (v4 : Int32) (c2_parts : Int32) (a58 : Nat → Int32) (a59 : Nat → Int32) (a61 : Nat → Int32) (a62 : Nat → Int32) (a63 : Nat → Int32), v2.toInt ≤ 13823 → 0 ≤ v2.toInt → v3.toInt ≤ 13823 → 0 ≤ v3.toInt → v4.toInt ≤ 3 → 0 ≤ v4.toInt → v2.toInt + 1 ≤ c2_draws.toInt → v4.toInt ≤ c2_pots.toInt → dz_rg a59 14425 0 16777215 → dz_rg a61 13824 0 13823 → dz_rg a62 16 0 16777215 → dz_lv 24 a58 (c2_pots.toInt.toNat + 1) → dz_MK 24 c2_pots.toInt.toNat a59 v4.toInt.toNat v3.toInt.toNat → ((v4.toInt = 0 ∧ v3.toInt < 1) ∨ (v4.toInt = 1 ∧ v3.toInt < 24) ∨ (v4.toInt = 2 ∧ v3.toInt < 576) ∨ (v4.toInt = 3 ∧ v3.toInt < 13824)) → dz_mz 24 (a59 0) ∨ c2_pots.toInt = 0 ∨ v4.toInt = 0 → 0 + 5161 + ((13824 - v2.toInt) - 1) * 156 + 0 + (3 - v4.toInt) * 26 + 26 ≤ ((k : Nat) : Int) → dz_T ((F49_X12_layMasks fu c2_groups c2_pots c2_ranks c2_draws a48 a49 a56 k).2.2.2.2.1 v2 v3 v4 c2_parts a58 a59 a61 a62 a63) (fun r => dz_rg r.2.2.1 14425 0 16777215 ∧ dz_rg r.2.2.2.1 13824 0 13823 ∧ dz_rg r.2.2.2.2.1 16 0 16777215 ∧ dz_pt r.2.2.2.2.2 [1, 5, 25, 125] ∧ (r.1.toInt = 625) ∧ (dz_lv 24 r.2.1 (c2_pots.toInt.toNat + 1)) ∧ (dz_MK 24 c2_pots.toInt.toNat r.2.2.1 0 0) ∧ (dz_mz 24 (r.2.2.1 0) ∨ c2_pots.toInt = 0 ∨ dz_na a49 c2_draws.toInt.toNat) ∧ (dz_hv 4 24 r.2.2.2.2.1) ∧ (dz_pwt 4 4 r.2.2.2.2.2)) := by
  intro v2 v3 v4 c2_parts a58 a59 a61 a62 a63 i0 i1 i2 i3 i4 i5 i6 i7 hr_a59 hr_a61 hr_a62 x0 x1 x2 x3 hm
  obtain ⟨k0, rfl⟩ : ∃ x, k = x + 1 := ⟨k - 1, by omega⟩
  show dz_T (s49_X12_layMasks_5 fu c2_groups c2_pots c2_ranks c2_draws a48 a49 a56 (F49_X12_layMasks fu c2_groups c2_pots c2_ranks c2_draws a48 a49 a56 k0).2.2.2.2.1 (F49_X12_layMasks fu c2_groups c2_pots c2_ranks c2_draws a48 a49 a56 k0).2.2.2.2.2.1  v2 v3 v4 c2_parts a58 a59 a61 a62 a63) _
  unfold s49_X12_layMasks_5
  have hlv := dz_lvd4 x0 (i := v4) (by omega) (by omega) (by omega)
  have hpq := dz_pqat o1 (i := v4)
  have hs := dz_add (a := a58 v4.toNatClampNeg) (b := v3) (by omega) (by omega)
  have hge := dz_lvg x0 (i := v4) (by omega) (by omega)
  rcases (show v4.toInt = 0 ∨ v4.toInt = 1 ∨ v4.toInt = 2 ∨ v4.toInt = 3 by omega) with hs | hs | hs | hs
  · skip
    refine dz_Tle (fun h1 => ?_) (fun h1 => ?_)
    · skip
      refine dz_Tin (by omega) (by omega) ?_
      obtain ⟨k1, rfl⟩ : ∃ x, k0 = x + 1 := ⟨k0 - 1, by omega⟩
      show dz_T (s49_X12_layMasks_6 fu c2_groups c2_pots c2_ranks c2_draws a48 a49 a56 (F49_X12_layMasks fu c2_groups c2_pots c2_ranks c2_draws a48 a49 a56 k1).2.2.1 v2 c2_parts a58 a59 (upd a61 v2.toNatClampNeg v3) a62 a63) _
      unfold s49_X12_layMasks_6
      have e2 := dz_l1
      have e3 := dz_add (a := v2) (b := (1 : Int32)) (by omega) (by omega)
      exact (ih k1 (by omega)).2.2.1 (v2 + (1 : Int32)) c2_parts a58 a59 (upd a61 v2.toNatClampNeg v3) a62 a63 (by omega) (by omega) (by omega) (hr_a59) (dz_rgu (hr_a61) (by omega) (by omega)) (hr_a62) (x0) (by first | exact x1 | exact dz_MKz (i := c2_pots + 1) x1 x0 (by omega) (by omega) (by omega) | exact dz_MKp x1 (by omega)) (by first | exact Or.inr (Or.inr (dz_na0 (by omega))) | exact dz_nas x2 (by omega) (by omega) (by omega) | exact x2.imp id (fun w => w.imp id (fun u => dz_nam u (by omega))) | exact x3.imp id (fun w => Or.inl (by omega))) (by omega)
    · skip
      refine dz_Tin (by omega) (by omega) ?_
      have e4 := dz_rgat (hr_a56) (i := v4) (by omega) (by omega)
      refine dz_Tb (t18_X12_rankIn_g4 fu hfu _ _ _ _ p2 p3 p4 p5 i1 i0 (by omega) (by omega)) (fun r1 q => ?_)
      obtain ⟨q1_0, q1_1, qo1_0⟩ := q
      refine dz_Tin (by omega) (by omega) ?_
      have e5 := dz_rng (a58 v4.toNatClampNeg)
      refine dz_Tin (by omega) (by omega) ?_
      refine dz_Tin (by omega) (by omega) ?_
      have e6 := dz_mulr (a := v3) (b := c2_ranks) 24 (by omega) (by omega) (by omega)
      have e7 := dz_add (a := (v3 * c2_ranks)) (b := r1) (by omega) (by omega)
      have e8 := dz_l1
      have e9 := dz_add (a := v4) (b := (1 : Int32)) (by omega) (by omega)
      have e10 := dz_rgat (hr_a59) (i := ((a58 v4.toNatClampNeg) + v3)) (by omega) (by omega)
      have e11 := dz_l31
      have e12 := dz_andr (a := r1) (b := (31 : Int32)) (by omega)
      have e13 := dz_andl (a := r1) (b := (31 : Int32)) (by omega)
      have e14 := dz_shl1 (b := r1) 0 23 (by omega) (by omega) (by omega)
      have e15 := dz_orb (a := (a59 ((a58 v4.toNatClampNeg) + v3).toNatClampNeg)) (b := ((1 : Int32) <<< (r1 &&& (31 : Int32)))) 24 (by omega) (by omega) (by omega) (by omega) (by omega)
      exact (ih k0 (by omega)).2.2.2.2.1 v2 ((v3 * c2_ranks) + r1) (v4 + (1 : Int32)) c2_parts a58 (upd a59 ((a58 v4.toNatClampNeg) + v3).toNatClampNeg ((a59 ((a58 v4.toNatClampNeg) + v3).toNatClampNeg) ||| ((1 : Int32) <<< (r1 &&& (31 : Int32))))) a61 a62 a63 i0 i1 (by omega) (by omega) (by omega) (by omega) i6 (by omega) (dz_rgu (hr_a59) (by omega) (by omega)) (hr_a61) (hr_a62) (x0) (by first | exact dz_MKp x1 (by omega) | exact dz_MKs x1 (by first | (rw [show v4.toInt.toNat = 0 by omega]; show v3.toInt.toNat < 1; omega) | (rw [show v4.toInt.toNat = 1 by omega]; show v3.toInt.toNat < 24; omega) | (rw [show v4.toInt.toNat = 2 by omega]; show v3.toInt.toNat < 576; omega) | (rw [show v4.toInt.toNat = 3 by omega]; show v3.toInt.toNat < 13824; omega)) (by omega) (by omega) (by omega) (by omega) (by omega) (by omega) (by omega)) (by omega) (by first | exact Or.inr (Or.inr (by omega)) | exact Or.inl (dz_upmz (by omega) (by omega) (by omega) (x3.imp id (fun w => by omega)))) (by omega)
  · skip
    refine dz_Tle (fun h16 => ?_) (fun h16 => ?_)
    · skip
      refine dz_Tin (by omega) (by omega) ?_
      obtain ⟨k2, rfl⟩ : ∃ x, k0 = x + 1 := ⟨k0 - 1, by omega⟩
      show dz_T (s49_X12_layMasks_6 fu c2_groups c2_pots c2_ranks c2_draws a48 a49 a56 (F49_X12_layMasks fu c2_groups c2_pots c2_ranks c2_draws a48 a49 a56 k2).2.2.1 v2 c2_parts a58 a59 (upd a61 v2.toNatClampNeg v3) a62 a63) _
      unfold s49_X12_layMasks_6
      have e17 := dz_l1
      have e18 := dz_add (a := v2) (b := (1 : Int32)) (by omega) (by omega)
      exact (ih k2 (by omega)).2.2.1 (v2 + (1 : Int32)) c2_parts a58 a59 (upd a61 v2.toNatClampNeg v3) a62 a63 (by omega) (by omega) (by omega) (hr_a59) (dz_rgu (hr_a61) (by omega) (by omega)) (hr_a62) (x0) (by first | exact x1 | exact dz_MKz (i := c2_pots + 1) x1 x0 (by omega) (by omega) (by omega) | exact dz_MKp x1 (by omega)) (by first | exact Or.inr (Or.inr (dz_na0 (by omega))) | exact dz_nas x2 (by omega) (by omega) (by omega) | exact x2.imp id (fun w => w.imp id (fun u => dz_nam u (by omega))) | exact x3.imp id (fun w => Or.inl (by omega))) (by omega)
    · skip
      refine dz_Tin (by omega) (by omega) ?_
      have e19 := dz_rgat (hr_a56) (i := v4) (by omega) (by omega)
      refine dz_Tb (t18_X12_rankIn_g4 fu hfu _ _ _ _ p2 p3 p4 p5 i1 i0 (by omega) (by omega)) (fun r2 q => ?_)
      obtain ⟨q2_0, q2_1, qo2_0⟩ := q
      refine dz_Tin (by omega) (by omega) ?_
      have e20 := dz_rng (a58 v4.toNatClampNeg)
      refine dz_Tin (by omega) (by omega) ?_
      refine dz_Tin (by omega) (by omega) ?_
      have e21 := dz_mulr (a := v3) (b := c2_ranks) 24 (by omega) (by omega) (by omega)
      have e22 := dz_add (a := (v3 * c2_ranks)) (b := r2) (by omega) (by omega)
      have e23 := dz_l1
      have e24 := dz_add (a := v4) (b := (1 : Int32)) (by omega) (by omega)
      have e25 := dz_rgat (hr_a59) (i := ((a58 v4.toNatClampNeg) + v3)) (by omega) (by omega)
      have e26 := dz_l31
      have e27 := dz_andr (a := r2) (b := (31 : Int32)) (by omega)
      have e28 := dz_andl (a := r2) (b := (31 : Int32)) (by omega)
      have e29 := dz_shl1 (b := r2) 0 23 (by omega) (by omega) (by omega)
      have e30 := dz_orb (a := (a59 ((a58 v4.toNatClampNeg) + v3).toNatClampNeg)) (b := ((1 : Int32) <<< (r2 &&& (31 : Int32)))) 24 (by omega) (by omega) (by omega) (by omega) (by omega)
      exact (ih k0 (by omega)).2.2.2.2.1 v2 ((v3 * c2_ranks) + r2) (v4 + (1 : Int32)) c2_parts a58 (upd a59 ((a58 v4.toNatClampNeg) + v3).toNatClampNeg ((a59 ((a58 v4.toNatClampNeg) + v3).toNatClampNeg) ||| ((1 : Int32) <<< (r2 &&& (31 : Int32))))) a61 a62 a63 i0 i1 (by omega) (by omega) (by omega) (by omega) i6 (by omega) (dz_rgu (hr_a59) (by omega) (by omega)) (hr_a61) (hr_a62) (x0) (by first | exact dz_MKp x1 (by omega) | exact dz_MKs x1 (by first | (rw [show v4.toInt.toNat = 0 by omega]; show v3.toInt.toNat < 1; omega) | (rw [show v4.toInt.toNat = 1 by omega]; show v3.toInt.toNat < 24; omega) | (rw [show v4.toInt.toNat = 2 by omega]; show v3.toInt.toNat < 576; omega) | (rw [show v4.toInt.toNat = 3 by omega]; show v3.toInt.toNat < 13824; omega)) (by omega) (by omega) (by omega) (by omega) (by omega) (by omega) (by omega)) (by omega) (by first | exact Or.inr (Or.inr (by omega)) | exact Or.inl (dz_upmz (by omega) (by omega) (by omega) (x3.imp id (fun w => by omega)))) (by omega)
  · skip
    refine dz_Tle (fun h31 => ?_) (fun h31 => ?_)
    · skip
      refine dz_Tin (by omega) (by omega) ?_
      obtain ⟨k3, rfl⟩ : ∃ x, k0 = x + 1 := ⟨k0 - 1, by omega⟩
      show dz_T (s49_X12_layMasks_6 fu c2_groups c2_pots c2_ranks c2_draws a48 a49 a56 (F49_X12_layMasks fu c2_groups c2_pots c2_ranks c2_draws a48 a49 a56 k3).2.2.1 v2 c2_parts a58 a59 (upd a61 v2.toNatClampNeg v3) a62 a63) _
      unfold s49_X12_layMasks_6
      have e32 := dz_l1
      have e33 := dz_add (a := v2) (b := (1 : Int32)) (by omega) (by omega)
      exact (ih k3 (by omega)).2.2.1 (v2 + (1 : Int32)) c2_parts a58 a59 (upd a61 v2.toNatClampNeg v3) a62 a63 (by omega) (by omega) (by omega) (hr_a59) (dz_rgu (hr_a61) (by omega) (by omega)) (hr_a62) (x0) (by first | exact x1 | exact dz_MKz (i := c2_pots + 1) x1 x0 (by omega) (by omega) (by omega) | exact dz_MKp x1 (by omega)) (by first | exact Or.inr (Or.inr (dz_na0 (by omega))) | exact dz_nas x2 (by omega) (by omega) (by omega) | exact x2.imp id (fun w => w.imp id (fun u => dz_nam u (by omega))) | exact x3.imp id (fun w => Or.inl (by omega))) (by omega)
    · skip
      refine dz_Tin (by omega) (by omega) ?_
      have e34 := dz_rgat (hr_a56) (i := v4) (by omega) (by omega)
      refine dz_Tb (t18_X12_rankIn_g4 fu hfu _ _ _ _ p2 p3 p4 p5 i1 i0 (by omega) (by omega)) (fun r3 q => ?_)
      obtain ⟨q3_0, q3_1, qo3_0⟩ := q
      refine dz_Tin (by omega) (by omega) ?_
      have e35 := dz_rng (a58 v4.toNatClampNeg)
      refine dz_Tin (by omega) (by omega) ?_
      refine dz_Tin (by omega) (by omega) ?_
      have e36 := dz_mulr (a := v3) (b := c2_ranks) 24 (by omega) (by omega) (by omega)
      have e37 := dz_add (a := (v3 * c2_ranks)) (b := r3) (by omega) (by omega)
      have e38 := dz_l1
      have e39 := dz_add (a := v4) (b := (1 : Int32)) (by omega) (by omega)
      have e40 := dz_rgat (hr_a59) (i := ((a58 v4.toNatClampNeg) + v3)) (by omega) (by omega)
      have e41 := dz_l31
      have e42 := dz_andr (a := r3) (b := (31 : Int32)) (by omega)
      have e43 := dz_andl (a := r3) (b := (31 : Int32)) (by omega)
      have e44 := dz_shl1 (b := r3) 0 23 (by omega) (by omega) (by omega)
      have e45 := dz_orb (a := (a59 ((a58 v4.toNatClampNeg) + v3).toNatClampNeg)) (b := ((1 : Int32) <<< (r3 &&& (31 : Int32)))) 24 (by omega) (by omega) (by omega) (by omega) (by omega)
      exact (ih k0 (by omega)).2.2.2.2.1 v2 ((v3 * c2_ranks) + r3) (v4 + (1 : Int32)) c2_parts a58 (upd a59 ((a58 v4.toNatClampNeg) + v3).toNatClampNeg ((a59 ((a58 v4.toNatClampNeg) + v3).toNatClampNeg) ||| ((1 : Int32) <<< (r3 &&& (31 : Int32))))) a61 a62 a63 i0 i1 (by omega) (by omega) (by omega) (by omega) i6 (by omega) (dz_rgu (hr_a59) (by omega) (by omega)) (hr_a61) (hr_a62) (x0) (by first | exact dz_MKp x1 (by omega) | exact dz_MKs x1 (by first | (rw [show v4.toInt.toNat = 0 by omega]; show v3.toInt.toNat < 1; omega) | (rw [show v4.toInt.toNat = 1 by omega]; show v3.toInt.toNat < 24; omega) | (rw [show v4.toInt.toNat = 2 by omega]; show v3.toInt.toNat < 576; omega) | (rw [show v4.toInt.toNat = 3 by omega]; show v3.toInt.toNat < 13824; omega)) (by omega) (by omega) (by omega) (by omega) (by omega) (by omega) (by omega)) (by omega) (by first | exact Or.inr (Or.inr (by omega)) | exact Or.inl (dz_upmz (by omega) (by omega) (by omega) (x3.imp id (fun w => by omega)))) (by omega)
  · skip
    refine dz_Tle (fun h46 => ?_) (fun h46 => ?_)
    · skip
      refine dz_Tin (by omega) (by omega) ?_
      obtain ⟨k4, rfl⟩ : ∃ x, k0 = x + 1 := ⟨k0 - 1, by omega⟩
      show dz_T (s49_X12_layMasks_6 fu c2_groups c2_pots c2_ranks c2_draws a48 a49 a56 (F49_X12_layMasks fu c2_groups c2_pots c2_ranks c2_draws a48 a49 a56 k4).2.2.1 v2 c2_parts a58 a59 (upd a61 v2.toNatClampNeg v3) a62 a63) _
      unfold s49_X12_layMasks_6
      have e47 := dz_l1
      have e48 := dz_add (a := v2) (b := (1 : Int32)) (by omega) (by omega)
      exact (ih k4 (by omega)).2.2.1 (v2 + (1 : Int32)) c2_parts a58 a59 (upd a61 v2.toNatClampNeg v3) a62 a63 (by omega) (by omega) (by omega) (hr_a59) (dz_rgu (hr_a61) (by omega) (by omega)) (hr_a62) (x0) (by first | exact x1 | exact dz_MKz (i := c2_pots + 1) x1 x0 (by omega) (by omega) (by omega) | exact dz_MKp x1 (by omega)) (by first | exact Or.inr (Or.inr (dz_na0 (by omega))) | exact dz_nas x2 (by omega) (by omega) (by omega) | exact x2.imp id (fun w => w.imp id (fun u => dz_nam u (by omega))) | exact x3.imp id (fun w => Or.inl (by omega))) (by omega)
    · skip
      exfalso; omega
set_option maxHeartbeats 4000000 in
set_option maxRecDepth 10000 in
theorem t49_X12_layMasks_h7_g4 (fu : Nat) (hfu : 1000000000000 ≤ fu) (c2_groups : Int32) (c2_pots : Int32) (c2_ranks : Int32) (c2_draws : Int32) (a48 : Nat → Int32) (a49 : Nat → Int32) (a56 : Nat → Int32) (p0 : c2_groups.toInt ≤ 4) (p1 : 4 ≤ c2_groups.toInt) (p2 : c2_pots.toInt ≤ 3) (p3 : 0 ≤ c2_pots.toInt) (p4 : c2_ranks.toInt ≤ 24) (p5 : 24 ≤ c2_ranks.toInt) (p6 : c2_draws.toInt ≤ 13824) (p7 : 1 ≤ c2_draws.toInt) (hr_a48 : dz_rg a48 100 0 3) (hr_a49 : dz_rg a49 13824 0 1023) (hr_a56 : dz_rg a56 4 0 3) (o0 : dz_rw 4 24 a48) (o1 : dz_pq a56 c2_pots.toInt.toNat) (k : Nat) (ih : ∀ j9, j9 < k → p49_X12_layMasks_g4 fu c2_groups c2_pots c2_ranks c2_draws a48 a49 a56 j9) : ∀ (v2 : Int32) (c2_parts : Int32) (a58 : Nat → Int32) (a59 : Nat → Int32) (a61 : Nat → Int32) (a62 : Nat → Int32) (a63 : Nat → Int32), v2.toInt ≤ 24 → 0 ≤ v2.toInt → dz_rg a59 14425 0 16777215 → dz_rg a61 13824 0 13823 → dz_rg a62 16 0 16777215 → dz_lv 24 a58 (c2_pots.toInt.toNat + 1) → dz_MK 24 c2_pots.toInt.toNat a59 0 0 → dz_mz 24 (a59 0) ∨ c2_pots.toInt = 0 ∨ dz_na a49 c2_draws.toInt.toNat → dz_hq 4 v2.toInt.toNat 0 a62 → 0 + 143 + (24 - v2.toInt) * 182 + 13 ≤ ((k : Nat) : Int) → dz_T ((F49_X12_layMasks fu c2_groups c2_pots c2_ranks c2_draws a48 a49 a56 k).2.2.2.2.2.2.1 v2 c2_parts a58 a59 a61 a62 a63) (fun r => dz_rg r.2.2.1 14425 0 16777215 ∧ dz_rg r.2.2.2.1 13824 0 13823 ∧ dz_rg r.2.2.2.2.1 16 0 16777215 ∧ dz_pt r.2.2.2.2.2 [1, 5, 25, 125] ∧ (r.1.toInt = 625) ∧ (dz_lv 24 r.2.1 (c2_pots.toInt.toNat + 1)) ∧ (dz_MK 24 c2_pots.toInt.toNat r.2.2.1 0 0) ∧ (dz_mz 24 (r.2.2.1 0) ∨ c2_pots.toInt = 0 ∨ dz_na a49 c2_draws.toInt.toNat) ∧ (dz_hv 4 24 r.2.2.2.2.1) ∧ (dz_pwt 4 4 r.2.2.2.2.2)) := by
  intro v2 c2_parts a58 a59 a61 a62 a63 i0 i1 hr_a59 hr_a61 hr_a62 x0 x1 x2 x3 hm
  obtain ⟨k0, rfl⟩ : ∃ x, k = x + 1 := ⟨k - 1, by omega⟩
  show dz_T (s49_X12_layMasks_7 fu c2_groups c2_pots c2_ranks c2_draws a48 a49 a56 (F49_X12_layMasks fu c2_groups c2_pots c2_ranks c2_draws a48 a49 a56 k0).2.2.2.2.2.2.2.1 (F49_X12_layMasks fu c2_groups c2_pots c2_ranks c2_draws a48 a49 a56 k0).2.2.2.2.2.2.2.2  v2 c2_parts a58 a59 a61 a62 a63) _
  unfold s49_X12_layMasks_7
  refine dz_Tle (fun h1 => ?_) (fun h1 => ?_)
  · skip
    have e2 := dz_l0
    have e3 := dz_l1
    exact (ih k0 (by omega)).2.2.2.2.2.2.1 (0 : Int32) (1 : Int32) a58 a59 a61 a62 a63 (by omega) (by omega) (by omega) (by omega) (by omega) (hr_a59) (hr_a61) (hr_a62) (x0) (x1) (x2) (by first | exact x3 | exact dz_hqv x3 (by omega) (by omega)) (by omega) (by first | exact dz_pwt0 (by omega) | exact dz_pwts x5 (by omega) (by omega) (by omega) (by first | (rw [show v2.toInt.toNat = 0 by omega]; show _ = ((1 : Nat) : Int); omega) | (rw [show v2.toInt.toNat = 1 by omega]; show _ = ((5 : Nat) : Int); omega) | (rw [show v2.toInt.toNat = 2 by omega]; show _ = ((25 : Nat) : Int); omega) | (rw [show v2.toInt.toNat = 3 by omega]; show _ = ((125 : Nat) : Int); omega))) (by omega)
  · skip
    have e4 := dz_l0
    exact (ih k0 (by omega)).2.2.2.2.2.2.2 v2 (0 : Int32) c2_parts a58 a59 a61 a62 a63 (by first | assumption | omega) i1 (by omega) (by omega) (hr_a59) (hr_a61) (hr_a62) (x0) (x1) (x2) (by first | exact dz_hqm x3 (by omega) (by omega) | exact dz_hqs (r := v2) (i := v3) (v := a48 (((4 : Int32) * v2) + v3).toNatClampNeg) x3 (by omega) (by omega) (by omega) (by omega) (by omega) (by omega) (by omega) (by omega) (by omega) (by omega) (by omega) (by omega) (by omega)) (by omega)
set_option maxHeartbeats 4000000 in
set_option maxRecDepth 10000 in
theorem t49_X12_layMasks_h8_g4 (fu : Nat) (hfu : 1000000000000 ≤ fu) (c2_groups : Int32) (c2_pots : Int32) (c2_ranks : Int32) (c2_draws : Int32) (a48 : Nat → Int32) (a49 : Nat → Int32) (a56 : Nat → Int32) (p0 : c2_groups.toInt ≤ 4) (p1 : 4 ≤ c2_groups.toInt) (p2 : c2_pots.toInt ≤ 3) (p3 : 0 ≤ c2_pots.toInt) (p4 : c2_ranks.toInt ≤ 24) (p5 : 24 ≤ c2_ranks.toInt) (p6 : c2_draws.toInt ≤ 13824) (p7 : 1 ≤ c2_draws.toInt) (hr_a48 : dz_rg a48 100 0 3) (hr_a49 : dz_rg a49 13824 0 1023) (hr_a56 : dz_rg a56 4 0 3) (o0 : dz_rw 4 24 a48) (o1 : dz_pq a56 c2_pots.toInt.toNat) (k : Nat) (ih : ∀ j9, j9 < k → p49_X12_layMasks_g4 fu c2_groups c2_pots c2_ranks c2_draws a48 a49 a56 j9) : ∀ (v2 : Int32) (c2_parts : Int32) (a58 : Nat → Int32) (a59 : Nat → Int32) (a61 : Nat → Int32) (a62 : Nat → Int32) (a63 : Nat → Int32), v2.toInt ≤ 4 → 0 ≤ v2.toInt → c2_parts.toInt ≤ 625 → 1 ≤ c2_parts.toInt → v2.toInt + 1 ≤ c2_parts.toInt → dz_rg a59 14425 0 16777215 → dz_rg a61 13824 0 13823 → dz_rg a62 16 0 16777215 → dz_lv 24 a58 (c2_pots.toInt.toNat + 1) → dz_MK 24 c2_pots.toInt.toNat a59 0 0 → dz_mz 24 (a59 0) ∨ c2_pots.toInt = 0 ∨ dz_na a49 c2_draws.toInt.toNat → dz_hv 4 24 a62 → ((v2.toInt = 0 ∧ c2_parts.toInt = 1) ∨ (v2.toInt = 1 ∧ c2_parts.toInt = 5) ∨ (v2.toInt = 2 ∧ c2_parts.toInt = 25) ∨ (v2.toInt = 3 ∧ c2_parts.toInt = 125) ∨ (v2.toInt = 4 ∧ c2_parts.toInt = 625)) → dz_pwt 4 v2.toInt.toNat a63 → 0 + 0 + (4 - v2.toInt) * 26 + 13 ≤ ((k : Nat) : Int) → dz_T ((F49_X12_layMasks fu c2_groups c2_pots c2_ranks c2_draws a48 a49 a56 k).2.2.2.2.2.2.2.1 v2 c2_parts a58 a59 a61 a62 a63) (fun r => dz_rg r.2.2.1 14425 0 16777215 ∧ dz_rg r.2.2.2.1 13824 0 13823 ∧ dz_rg r.2.2.2.2.1 16 0 16777215 ∧ dz_pt r.2.2.2.2.2 [1, 5, 25, 125] ∧ (r.1.toInt = 625) ∧ (dz_lv 24 r.2.1 (c2_pots.toInt.toNat + 1)) ∧ (dz_MK 24 c2_pots.toInt.toNat r.2.2.1 0 0) ∧ (dz_mz 24 (r.2.2.1 0) ∨ c2_pots.toInt = 0 ∨ dz_na a49 c2_draws.toInt.toNat) ∧ (dz_hv 4 24 r.2.2.2.2.1) ∧ (dz_pwt 4 4 r.2.2.2.2.2)) := by
  intro v2 c2_parts a58 a59 a61 a62 a63 i0 i1 i2 i3 i4 hr_a59 hr_a61 hr_a62 x0 x1 x2 x3 x4 x5 hm
  obtain ⟨k0, rfl⟩ : ∃ x, k = x + 1 := ⟨k - 1, by omega⟩
  show dz_T (s49_X12_layMasks_8 fu c2_groups c2_pots c2_ranks c2_draws a48 a49 a56 (F49_X12_layMasks fu c2_groups c2_pots c2_ranks c2_draws a48 a49 a56 k0).2.2.2.2.2.2.2.1  v2 c2_parts a58 a59 a61 a62 a63) _
  unfold s49_X12_layMasks_8
  rcases (show v2.toInt = 0 ∨ v2.toInt = 1 ∨ v2.toInt = 2 ∨ v2.toInt = 3 ∨ v2.toInt = 4 by omega) with hs | hs | hs | hs | hs
  · skip
    refine dz_Tle (fun h1 => ?_) (fun h1 => ?_)
    · skip
      exfalso; omega
    · skip
      refine dz_Tin (by omega) (by omega) ?_
      have e2 := dz_l1
      have e3 := dz_add (a := v2) (b := (1 : Int32)) (by omega) (by omega)
      have e4 := dz_add (a := c2_groups) (b := (1 : Int32)) (by omega) (by omega)
      have e5 := dz_mulr (a := c2_parts) (b := (c2_groups + (1 : Int32))) 5 (by omega) (by omega) (by omega)
      exact (ih k0 (by omega)).2.2.2.2.2.2.1 (v2 + (1 : Int32)) (c2_parts * (c2_groups + (1 : Int32))) a58 a59 a61 a62 (upd a63 v2.toNatClampNeg c2_parts) (by omega) (by omega) (by omega) (by omega) (by omega) (hr_a59) (hr_a61) (hr_a62) (x0) (x1) (x2) (by first | exact x3 | exact dz_hqv x3 (by omega) (by omega)) (by omega) (by first | exact dz_pwt0 (by omega) | exact dz_pwts x5 (by omega) (by omega) (by omega) (by first | (rw [show v2.toInt.toNat = 0 by omega]; show _ = ((1 : Nat) : Int); omega) | (rw [show v2.toInt.toNat = 1 by omega]; show _ = ((5 : Nat) : Int); omega) | (rw [show v2.toInt.toNat = 2 by omega]; show _ = ((25 : Nat) : Int); omega) | (rw [show v2.toInt.toNat = 3 by omega]; show _ = ((125 : Nat) : Int); omega))) (by omega)
  · skip
    refine dz_Tle (fun h6 => ?_) (fun h6 => ?_)
    · skip
      exfalso; omega
    · skip
      refine dz_Tin (by omega) (by omega) ?_
      have e7 := dz_l1
      have e8 := dz_add (a := v2) (b := (1 : Int32)) (by omega) (by omega)
      have e9 := dz_add (a := c2_groups) (b := (1 : Int32)) (by omega) (by omega)
      have e10 := dz_mulr (a := c2_parts) (b := (c2_groups + (1 : Int32))) 5 (by omega) (by omega) (by omega)
      exact (ih k0 (by omega)).2.2.2.2.2.2.1 (v2 + (1 : Int32)) (c2_parts * (c2_groups + (1 : Int32))) a58 a59 a61 a62 (upd a63 v2.toNatClampNeg c2_parts) (by omega) (by omega) (by omega) (by omega) (by omega) (hr_a59) (hr_a61) (hr_a62) (x0) (x1) (x2) (by first | exact x3 | exact dz_hqv x3 (by omega) (by omega)) (by omega) (by first | exact dz_pwt0 (by omega) | exact dz_pwts x5 (by omega) (by omega) (by omega) (by first | (rw [show v2.toInt.toNat = 0 by omega]; show _ = ((1 : Nat) : Int); omega) | (rw [show v2.toInt.toNat = 1 by omega]; show _ = ((5 : Nat) : Int); omega) | (rw [show v2.toInt.toNat = 2 by omega]; show _ = ((25 : Nat) : Int); omega) | (rw [show v2.toInt.toNat = 3 by omega]; show _ = ((125 : Nat) : Int); omega))) (by omega)
  · skip
    refine dz_Tle (fun h11 => ?_) (fun h11 => ?_)
    · skip
      exfalso; omega
    · skip
      refine dz_Tin (by omega) (by omega) ?_
      have e12 := dz_l1
      have e13 := dz_add (a := v2) (b := (1 : Int32)) (by omega) (by omega)
      have e14 := dz_add (a := c2_groups) (b := (1 : Int32)) (by omega) (by omega)
      have e15 := dz_mulr (a := c2_parts) (b := (c2_groups + (1 : Int32))) 5 (by omega) (by omega) (by omega)
      exact (ih k0 (by omega)).2.2.2.2.2.2.1 (v2 + (1 : Int32)) (c2_parts * (c2_groups + (1 : Int32))) a58 a59 a61 a62 (upd a63 v2.toNatClampNeg c2_parts) (by omega) (by omega) (by omega) (by omega) (by omega) (hr_a59) (hr_a61) (hr_a62) (x0) (x1) (x2) (by first | exact x3 | exact dz_hqv x3 (by omega) (by omega)) (by omega) (by first | exact dz_pwt0 (by omega) | exact dz_pwts x5 (by omega) (by omega) (by omega) (by first | (rw [show v2.toInt.toNat = 0 by omega]; show _ = ((1 : Nat) : Int); omega) | (rw [show v2.toInt.toNat = 1 by omega]; show _ = ((5 : Nat) : Int); omega) | (rw [show v2.toInt.toNat = 2 by omega]; show _ = ((25 : Nat) : Int); omega) | (rw [show v2.toInt.toNat = 3 by omega]; show _ = ((125 : Nat) : Int); omega))) (by omega)
  · skip
    refine dz_Tle (fun h16 => ?_) (fun h16 => ?_)
    · skip
      exfalso; omega
    · skip
      refine dz_Tin (by omega) (by omega) ?_
      have e17 := dz_l1
      have e18 := dz_add (a := v2) (b := (1 : Int32)) (by omega) (by omega)
      have e19 := dz_add (a := c2_groups) (b := (1 : Int32)) (by omega) (by omega)
      have e20 := dz_mulr (a := c2_parts) (b := (c2_groups + (1 : Int32))) 5 (by omega) (by omega) (by omega)
      exact (ih k0 (by omega)).2.2.2.2.2.2.1 (v2 + (1 : Int32)) (c2_parts * (c2_groups + (1 : Int32))) a58 a59 a61 a62 (upd a63 v2.toNatClampNeg c2_parts) (by omega) (by omega) (by omega) (by omega) (by omega) (hr_a59) (hr_a61) (hr_a62) (x0) (x1) (x2) (by first | exact x3 | exact dz_hqv x3 (by omega) (by omega)) (by omega) (by first | exact dz_pwt0 (by omega) | exact dz_pwts x5 (by omega) (by omega) (by omega) (by first | (rw [show v2.toInt.toNat = 0 by omega]; show _ = ((1 : Nat) : Int); omega) | (rw [show v2.toInt.toNat = 1 by omega]; show _ = ((5 : Nat) : Int); omega) | (rw [show v2.toInt.toNat = 2 by omega]; show _ = ((25 : Nat) : Int); omega) | (rw [show v2.toInt.toNat = 3 by omega]; show _ = ((125 : Nat) : Int); omega))) (by omega)
  · skip
    refine dz_Tle (fun h21 => ?_) (fun h21 => ?_)
    · skip
      refine dz_Ts ?_
      dsimp only
      exact ⟨(hr_a59), (hr_a61), (hr_a62), (dz_pwtp4 x5 (by omega)), (by omega), (x0), (x1), (x2), (x3), (dz_pwtm x5 (by omega))⟩
    · skip
      exfalso; omega
set_option maxHeartbeats 4000000 in
set_option maxRecDepth 10000 in
theorem t49_X12_layMasks_h9_g4 (fu : Nat) (hfu : 1000000000000 ≤ fu) (c2_groups : Int32) (c2_pots : Int32) (c2_ranks : Int32) (c2_draws : Int32) (a48 : Nat → Int32) (a49 : Nat → Int32) (a56 : Nat → Int32) (p0 : c2_groups.toInt ≤ 4) (p1 : 4 ≤ c2_groups.toInt) (p2 : c2_pots.toInt ≤ 3) (p3 : 0 ≤ c2_pots.toInt) (p4 : c2_ranks.toInt ≤ 24) (p5 : 24 ≤ c2_ranks.toInt) (p6 : c2_draws.toInt ≤ 13824) (p7 : 1 ≤ c2_draws.toInt) (hr_a48 : dz_rg a48 100 0 3) (hr_a49 : dz_rg a49 13824 0 1023) (hr_a56 : dz_rg a56 4 0 3) (o0 : dz_rw 4 24 a48) (o1 : dz_pq a56 c2_pots.toInt.toNat) (k : Nat) (ih : ∀ j9, j9 < k → p49_X12_layMasks_g4 fu c2_groups c2_pots c2_ranks c2_draws a48 a49 a56 j9) : ∀ (v2 : Int32) (v3 : Int32) (c2_parts : Int32) (a58 : Nat → Int32) (a59 : Nat → Int32) (a61 : Nat → Int32) (a62 : Nat → Int32) (a63 : Nat → Int32), v2.toInt ≤ 23 → 0 ≤ v2.toInt → v3.toInt ≤ 4 → 0 ≤ v3.toInt → dz_rg a59 14425 0 16777215 → dz_rg a61 13824 0 13823 → dz_rg a62 16 0 16777215 → dz_lv 24 a58 (c2_pots.toInt.toNat + 1) → dz_MK 24 c2_pots.toInt.toNat a59 0 0 → dz_mz 24 (a59 0) ∨ c2_pots.toInt = 0 ∨ dz_na a49 c2_draws.toInt.toNat → dz_hq 4 v2.toInt.toNat v3.toInt.toNat a62 → 0 + 143 + ((24 - v2.toInt) - 1) * 182 + 0 + (4 - v3.toInt) * 26 + 26 ≤ ((k : Nat) : Int) → dz_T ((F49_X12_layMasks fu c2_groups c2_pots c2_ranks c2_draws a48 a49 a56 k).2.2.2.2.2.2.2.2 v2 v3 c2_parts a58 a59 a61 a62 a63) (fun r => dz_rg r.2.2.1 14425 0 16777215 ∧ dz_rg r.2.2.2.1 13824 0 13823 ∧ dz_rg r.2.2.2.2.1 16 0 16777215 ∧ dz_pt r.2.2.2.2.2 [1, 5, 25, 125] ∧ (r.1.toInt = 625) ∧ (dz_lv 24 r.2.1 (c2_pots.toInt.toNat + 1)) ∧ (dz_MK 24 c2_pots.toInt.toNat r.2.2.1 0 0) ∧ (dz_mz 24 (r.2.2.1 0) ∨ c2_pots.toInt = 0 ∨ dz_na a49 c2_draws.toInt.toNat) ∧ (dz_hv 4 24 r.2.2.2.2.1) ∧ (dz_pwt 4 4 r.2.2.2.2.2)) := by
  intro v2 v3 c2_parts a58 a59 a61 a62 a63 i0 i1 i2 i3 hr_a59 hr_a61 hr_a62 x0 x1 x2 x3 hm
  obtain ⟨k0, rfl⟩ : ∃ x, k = x + 1 := ⟨k - 1, by omega⟩
  show dz_T (s49_X12_layMasks_9 fu c2_groups c2_pots c2_ranks c2_draws a48 a49 a56 (F49_X12_layMasks fu c2_groups c2_pots c2_ranks c2_draws a48 a49 a56 k0).2.2.2.2.2.2.1 (F49_X12_layMasks fu c2_groups c2_pots c2_ranks c2_draws a48 a49 a56 k0).2.2.2.2.2.2.2.2  v2 v3 c2_parts a58 a59 a61 a62 a63) _
  unfold s49_X12_layMasks_9
  have hrow := dz_rwat (r := v2) (i := v3) (by decide) (by decide) o0 (by omega)
  refine dz_Tle (fun h1 => ?_) (fun h1 => ?_)
  · skip
    have e2 := dz_l1
    have e3 := dz_add (a := v2) (b := (1 : Int32)) (by omega) (by omega)
    exact (ih k0 (by omega)).2.2.2.2.2.1 (v2 + (1 : Int32)) c2_parts a58 a59 a61 a62 a63 (by omega) (by omega) (hr_a59) (hr_a61) (hr_a62) (x0) (x1) (x2) (by first | exact dz_hq0 x3 (by omega) (by omega) (by omega) (by omega) | exact dz_hqn x3 (by omega) (by omega) (by omega)) (by omega)
  · skip
    have e4 := dz_l4
    have e5 := dz_mull (a := (4 : Int32)) (b := v2) 4 (by omega) (by omega) (by omega)
    have e6 := dz_add (a := ((4 : Int32) * v2)) (b := v3) (by omega) (by omega)
    refine dz_Tin (by omega) (by omega) ?_
    have e7 := dz_mull (a := (4 : Int32)) (b := v3) 4 (by omega) (by omega) (by omega)
    have e8 := dz_rgat (hr_a48) (i := (((4 : Int32) * v2) + v3)) (by omega) (by omega)
    have e9 := dz_add (a := ((4 : Int32) * v3)) (b := (a48 (((4 : Int32) * v2) + v3).toNatClampNeg)) (by omega) (by omega)
    refine dz_Tin (by omega) (by omega) ?_
    refine dz_Tin (by omega) (by omega) ?_
    have e10 := dz_l1
    have e11 := dz_add (a := v3) (b := (1 : Int32)) (by omega) (by omega)
    have e12 := dz_rgat (hr_a62) (i := (((4 : Int32) * v3) + (a48 (((4 : Int32) * v2) + v3).toNatClampNeg))) (by omega) (by omega)
    have e13 := dz_l31
    have e14 := dz_andr (a := v2) (b := (31 : Int32)) (by omega)
    have e15 := dz_andl (a := v2) (b := (31 : Int32)) (by omega)
    have e16 := dz_shl1 (b := v2) 0 23 (by omega) (by omega) (by omega)
    have e17 := dz_orb (a := (a62 (((4 : Int32) * v3) + (a48 (((4 : Int32) * v2) + v3).toNatClampNeg)).toNatClampNeg)) (b := ((1 : Int32) <<< (v2 &&& (31 : Int32)))) 24 (by omega) (by omega) (by omega) (by omega) (by omega)
    exact (ih k0 (by omega)).2.2.2.2.2.2.2 v2 (v3 + (1 : Int32)) c2_parts a58 a59 a61 (upd a62 (((4 : Int32) * v3) + (a48 (((4 : Int32) * v2) + v3).toNatClampNeg)).toNatClampNeg ((a62 (((4 : Int32) * v3) + (a48 (((4 : Int32) * v2) + v3).toNatClampNeg)).toNatClampNeg) ||| ((1 : Int32) <<< (v2 &&& (31 : Int32))))) a63 i0 i1 (by omega) (by omega) (hr_a59) (hr_a61) (dz_rgu (hr_a62) (by omega) (by omega)) (x0) (x1) (x2) (by first | exact dz_hqm x3 (by omega) (by omega) | exact dz_hqs (r := v2) (i := v3) (v := a48 (((4 : Int32) * v2) + v3).toNatClampNeg) x3 (by omega) (by omega) (by omega) (by omega) (by omega) (by omega) (by omega) (by omega) (by omega) (by omega) (by omega) (by omega) (by omega)) (by omega)
theorem t49_X12_layMasks_I_g4 (fu : Nat) (hfu : 1000000000000 ≤ fu) (c2_groups : Int32) (c2_pots : Int32) (c2_ranks : Int32) (c2_draws : Int32) (a48 : Nat → Int32) (a49 : Nat → Int32) (a56 : Nat → Int32) (p0 : c2_groups.toInt ≤ 4) (p1 : 4 ≤ c2_groups.toInt) (p2 : c2_pots.toInt ≤ 3) (p3 : 0 ≤ c2_pots.toInt) (p4 : c2_ranks.toInt ≤ 24) (p5 : 24 ≤ c2_ranks.toInt) (p6 : c2_draws.toInt ≤ 13824) (p7 : 1 ≤ c2_draws.toInt) (hr_a48 : dz_rg a48 100 0 3) (hr_a49 : dz_rg a49 13824 0 1023) (hr_a56 : dz_rg a56 4 0 3) (o0 : dz_rw 4 24 a48) (o1 : dz_pq a56 c2_pots.toInt.toNat) (k : Nat) : p49_X12_layMasks_g4 fu c2_groups c2_pots c2_ranks c2_draws a48 a49 a56 k := by
  induction k using Nat.strongRecOn with
  | _ k ih => exact ⟨t49_X12_layMasks_h1_g4 fu hfu c2_groups c2_pots c2_ranks c2_draws a48 a49 a56 p0 p1 p2 p3 p4 p5 p6 p7 hr_a48 hr_a49 hr_a56 o0 o1 k ih, t49_X12_layMasks_h2_g4 fu hfu c2_groups c2_pots c2_ranks c2_draws a48 a49 a56 p0 p1 p2 p3 p4 p5 p6 p7 hr_a48 hr_a49 hr_a56 o0 o1 k ih, t49_X12_layMasks_h3_g4 fu hfu c2_groups c2_pots c2_ranks c2_draws a48 a49 a56 p0 p1 p2 p3 p4 p5 p6 p7 hr_a48 hr_a49 hr_a56 o0 o1 k ih, t49_X12_layMasks_h4_g4 fu hfu c2_groups c2_pots c2_ranks c2_draws a48 a49 a56 p0 p1 p2 p3 p4 p5 p6 p7 hr_a48 hr_a49 hr_a56 o0 o1 k ih, t49_X12_layMasks_h5_g4 fu hfu c2_groups c2_pots c2_ranks c2_draws a48 a49 a56 p0 p1 p2 p3 p4 p5 p6 p7 hr_a48 hr_a49 hr_a56 o0 o1 k ih, t49_X12_layMasks_h7_g4 fu hfu c2_groups c2_pots c2_ranks c2_draws a48 a49 a56 p0 p1 p2 p3 p4 p5 p6 p7 hr_a48 hr_a49 hr_a56 o0 o1 k ih, t49_X12_layMasks_h8_g4 fu hfu c2_groups c2_pots c2_ranks c2_draws a48 a49 a56 p0 p1 p2 p3 p4 p5 p6 p7 hr_a48 hr_a49 hr_a56 o0 o1 k ih, t49_X12_layMasks_h9_g4 fu hfu c2_groups c2_pots c2_ranks c2_draws a48 a49 a56 p0 p1 p2 p3 p4 p5 p6 p7 hr_a48 hr_a49 hr_a56 o0 o1 k ih⟩
set_option maxHeartbeats 4000000 in
set_option maxRecDepth 10000 in
theorem t49_X12_layMasks_E_g4 (fu : Nat) (hfu : 1000000000000 ≤ fu) (c2_groups : Int32) (c2_pots : Int32) (c2_ranks : Int32) (c2_draws : Int32) (a48 : Nat → Int32) (a49 : Nat → Int32) (a56 : Nat → Int32) (c2_parts : Int32) (a58 : Nat → Int32) (a59 : Nat → Int32) (a61 : Nat → Int32) (a62 : Nat → Int32) (a63 : Nat → Int32) (p0 : c2_groups.toInt ≤ 4) (p1 : 4 ≤ c2_groups.toInt) (p2 : c2_pots.toInt ≤ 3) (p3 : 0 ≤ c2_pots.toInt) (p4 : c2_ranks.toInt ≤ 24) (p5 : 24 ≤ c2_ranks.toInt) (p6 : c2_draws.toInt ≤ 13824) (p7 : 1 ≤ c2_draws.toInt) (hr_a48 : dz_rg a48 100 0 3) (hr_a49 : dz_rg a49 13824 0 1023) (hr_a56 : dz_rg a56 4 0 3) (hr_a59 : dz_rg a59 14425 0 16777215) (hr_a61 : dz_rg a61 13824 0 13823) (hr_a62 : dz_rg a62 16 0 16777215) (o0 : dz_rw 4 24 a48) (o1 : dz_pq a56 c2_pots.toInt.toNat) (kv : Nat) (hkv : 1000000000000 ≤ kv) : dz_T (s49_X12_layMasks_0 fu c2_groups c2_pots c2_ranks c2_draws a48 a49 a56 (F49_X12_layMasks fu c2_groups c2_pots c2_ranks c2_draws a48 a49 a56 kv).1  c2_parts a58 a59 a61 a62 a63) (fun r => dz_rg r.2.2.1 14425 0 16777215 ∧ dz_rg r.2.2.2.1 13824 0 13823 ∧ dz_rg r.2.2.2.2.1 16 0 16777215 ∧ dz_pt r.2.2.2.2.2 [1, 5, 25, 125] ∧ (r.1.toInt = 625) ∧ (dz_lv 24 r.2.1 (c2_pots.toInt.toNat + 1)) ∧ (dz_MK 24 c2_pots.toInt.toNat r.2.2.1 0 0) ∧ (dz_mz 24 (r.2.2.1 0) ∨ c2_pots.toInt = 0 ∨ dz_na a49 c2_draws.toInt.toNat) ∧ (dz_hv 4 24 r.2.2.2.2.1) ∧ (dz_pwt 4 4 r.2.2.2.2.2)) := by
  unfold s49_X12_layMasks_0
  have e1 := dz_l0
  refine dz_Tin (by omega) (by omega) ?_
  have e2 := dz_l1
  exact (t49_X12_layMasks_I_g4 fu hfu c2_groups c2_pots c2_ranks c2_draws a48 a49 a56 p0 p1 p2 p3 p4 p5 p6 p7 hr_a48 hr_a49 hr_a56 o0 o1 kv).1 (1 : Int32) (0 : Int32) c2_parts (upd a58 (0 : Int32).toNatClampNeg (0 : Int32)) a59 a61 a62 a63 (by omega) (by omega) (by omega) (by omega) (by omega) (by omega) (hr_a59) (hr_a61) (hr_a62) (by first | exact dz_lv0 (by omega) (by omega) (by omega) | exact dz_lvs x0 (by omega) (by omega) x1 (by omega)) (by first | decide | exact dz_pws x1 (by omega) (by omega) (r := c2_ranks) (by omega) (by omega)) (by omega) (by omega)
theorem t49_X12_layMasks_g4 (fu : Nat) (hfu : 1000000000000 ≤ fu) (c2_groups : Int32) (c2_pots : Int32) (c2_ranks : Int32) (c2_draws : Int32) (a48 : Nat → Int32) (a49 : Nat → Int32) (a56 : Nat → Int32) (c2_parts : Int32) (a58 : Nat → Int32) (a59 : Nat → Int32) (a61 : Nat → Int32) (a62 : Nat → Int32) (a63 : Nat → Int32) (p0 : c2_groups.toInt ≤ 4) (p1 : 4 ≤ c2_groups.toInt) (p2 : c2_pots.toInt ≤ 3) (p3 : 0 ≤ c2_pots.toInt) (p4 : c2_ranks.toInt ≤ 24) (p5 : 24 ≤ c2_ranks.toInt) (p6 : c2_draws.toInt ≤ 13824) (p7 : 1 ≤ c2_draws.toInt) (hr_a48 : dz_rg a48 100 0 3) (hr_a49 : dz_rg a49 13824 0 1023) (hr_a56 : dz_rg a56 4 0 3) (hr_a59 : dz_rg a59 14425 0 16777215) (hr_a61 : dz_rg a61 13824 0 13823) (hr_a62 : dz_rg a62 16 0 16777215) (o0 : dz_rw 4 24 a48) (o1 : dz_pq a56 c2_pots.toInt.toNat) : dz_T (f49_X12_layMasks fu c2_groups c2_pots c2_ranks c2_draws a48 a49 a56 c2_parts a58 a59 a61 a62 a63) (fun r => dz_rg r.2.2.1 14425 0 16777215 ∧ dz_rg r.2.2.2.1 13824 0 13823 ∧ dz_rg r.2.2.2.2.1 16 0 16777215 ∧ dz_pt r.2.2.2.2.2 [1, 5, 25, 125] ∧ (r.1.toInt = 625) ∧ (dz_lv 24 r.2.1 (c2_pots.toInt.toNat + 1)) ∧ (dz_MK 24 c2_pots.toInt.toNat r.2.2.1 0 0) ∧ (dz_mz 24 (r.2.2.1 0) ∨ c2_pots.toInt = 0 ∨ dz_na a49 c2_draws.toInt.toNat) ∧ (dz_hv 4 24 r.2.2.2.2.1) ∧ (dz_pwt 4 4 r.2.2.2.2.2)) :=
  t49_X12_layMasks_E_g4 fu hfu c2_groups c2_pots c2_ranks c2_draws a48 a49 a56 c2_parts a58 a59 a61 a62 a63 p0 p1 p2 p3 p4 p5 p6 p7 hr_a48 hr_a49 hr_a56 hr_a59 hr_a61 hr_a62 o0 o1 fu hfu
