abbrev p20_X12_layDraws_g2 (fu : Nat) (c2_groups : Int32) (c2_pots : Int32) (c2_bars : Int32) (c2_ranks : Int32) (a42 : Nat → Int32) (a43 : Nat → Int32) (a48 : Nat → Int32) (k : Nat) : Prop :=
  (∀ (v1 : Int32) (c2_draws : Int32) (c2_lawful : Int32) (a49 : Nat → Int32) (a50 : Nat → Int32), v1.toInt ≤ 4 → 0 ≤ v1.toInt → c2_draws.toInt ≤ 16 → 1 ≤ c2_draws.toInt → v1.toInt ≤ c2_pots.toInt → v1.toInt ≤ c2_draws.toInt + 2 → c2_draws.toInt ≤ c2_pots.toInt + 15 → c2_draws.toInt ≤ v1.toInt + 15 → dz_rg a49 13824 0 1023 → dz_rg a50 165888 0 3 → ((v1.toInt = 0 ∧ c2_draws.toInt = 1) ∨ (v1.toInt = 1 ∧ c2_draws.toInt = 2) ∨ (v1.toInt = 2 ∧ c2_draws.toInt = 4) ∨ (v1.toInt = 3 ∧ c2_draws.toInt = 8) ∨ (v1.toInt = 4 ∧ c2_draws.toInt = 16)) → 0 + 15532 + (4 - v1.toInt) * 22 + 11 ≤ ((k : Nat) : Int) → dz_T ((F20_X12_layDraws fu c2_groups c2_pots c2_bars c2_ranks a42 a43 a48 k).1 v1 c2_draws c2_lawful a49 a50) (fun r => r.1.toInt ≤ 16 ∧ 1 ≤ r.1.toInt ∧ r.2.1.toInt ≤ 16 ∧ 0 ≤ r.2.1.toInt ∧ r.2.1.toInt ≤ r.1.toInt ∧ dz_rg r.2.2.1 13824 0 1023 ∧ dz_rg r.2.2.2 165888 0 3 ∧ (((c2_pots.toInt = 0 ∧ r.1.toInt = 1) ∨ (c2_pots.toInt = 1 ∧ r.1.toInt = 2) ∨ (c2_pots.toInt = 2 ∧ r.1.toInt = 4) ∨ (c2_pots.toInt = 3 ∧ r.1.toInt = 8) ∨ (c2_pots.toInt = 4 ∧ r.1.toInt = 16))) ∧ (dz_gq 2 2 c2_pots.toInt.toNat r.2.2.2 (12 * r.1.toInt).toNat) ∧ (dz_lf r.2.1 r.2.2.1 r.1.toInt.toNat))) ∧ (∀ (v1 : Int32) (c2_draws : Int32) (c2_lawful : Int32) (a49 : Nat → Int32) (a50 : Nat → Int32), v1.toInt ≤ 16 → 0 ≤ v1.toInt → c2_draws.toInt ≤ 16 → 1 ≤ c2_draws.toInt → c2_lawful.toInt ≤ 16 → 0 ≤ c2_lawful.toInt → c2_lawful.toInt ≤ c2_draws.toInt → c2_lawful.toInt ≤ v1.toInt → v1.toInt ≤ c2_draws.toInt → dz_rg a49 13824 0 1023 → dz_rg a50 165888 0 3 → dz_gq 2 2 c2_pots.toInt.toNat a50 (12 * v1.toInt).toNat → dz_lf c2_lawful a49 v1.toInt.toNat → ((c2_pots.toInt = 0 ∧ c2_draws.toInt = 1) ∨ (c2_pots.toInt = 1 ∧ c2_draws.toInt = 2) ∨ (c2_pots.toInt = 2 ∧ c2_draws.toInt = 4) ∨ (c2_pots.toInt = 3 ∧ c2_draws.toInt = 8) ∨ (c2_pots.toInt = 4 ∧ c2_draws.toInt = 16)) → 0 + 0 + (16 - v1.toInt) * 913 + 11 ≤ ((k : Nat) : Int) → dz_T ((F20_X12_layDraws fu c2_groups c2_pots c2_bars c2_ranks a42 a43 a48 k).2.1 v1 c2_draws c2_lawful a49 a50) (fun r => r.1.toInt ≤ 16 ∧ 1 ≤ r.1.toInt ∧ r.2.1.toInt ≤ 16 ∧ 0 ≤ r.2.1.toInt ∧ r.2.1.toInt ≤ r.1.toInt ∧ dz_rg r.2.2.1 13824 0 1023 ∧ dz_rg r.2.2.2 165888 0 3 ∧ (((c2_pots.toInt = 0 ∧ r.1.toInt = 1) ∨ (c2_pots.toInt = 1 ∧ r.1.toInt = 2) ∨ (c2_pots.toInt = 2 ∧ r.1.toInt = 4) ∨ (c2_pots.toInt = 3 ∧ r.1.toInt = 8) ∨ (c2_pots.toInt = 4 ∧ r.1.toInt = 16))) ∧ (dz_gq 2 2 c2_pots.toInt.toNat r.2.2.2 (12 * r.1.toInt).toNat) ∧ (dz_lf r.2.1 r.2.2.1 r.1.toInt.toNat))) ∧ (∀ (v1 : Int32) (v2 : Int32) (c2_draws : Int32) (c2_lawful : Int32) (a49 : Nat → Int32) (a50 : Nat → Int32), v1.toInt ≤ 15 → 0 ≤ v1.toInt → v2.toInt ≤ 4 → 0 ≤ v2.toInt → c2_draws.toInt ≤ 16 → 1 ≤ c2_draws.toInt → c2_lawful.toInt ≤ 15 → 0 ≤ c2_lawful.toInt → c2_lawful.toInt + 1 ≤ c2_draws.toInt → v1.toInt + 1 ≤ c2_draws.toInt → c2_lawful.toInt ≤ v1.toInt → v2.toInt ≤ c2_pots.toInt → dz_rg a49 13824 0 1023 → dz_rg a50 165888 0 3 → dz_gq 2 2 c2_pots.toInt.toNat a50 (12 * v1.toInt + 2 * v2.toInt).toNat → dz_lf c2_lawful a49 v1.toInt.toNat → ((c2_pots.toInt = 0 ∧ c2_draws.toInt = 1) ∨ (c2_pots.toInt = 1 ∧ c2_draws.toInt = 2) ∨ (c2_pots.toInt = 2 ∧ c2_draws.toInt = 4) ∨ (c2_pots.toInt = 3 ∧ c2_draws.toInt = 8) ∨ (c2_pots.toInt = 4 ∧ c2_draws.toInt = 16)) → 0 + 0 + ((16 - v1.toInt) - 1) * 913 + 264 + (4 - v2.toInt) * 121 + 22 ≤ ((k : Nat) : Int) → dz_T ((F20_X12_layDraws fu c2_groups c2_pots c2_bars c2_ranks a42 a43 a48 k).2.2.1 v1 v2 c2_draws c2_lawful a49 a50) (fun r => r.1.toInt ≤ 16 ∧ 1 ≤ r.1.toInt ∧ r.2.1.toInt ≤ 16 ∧ 0 ≤ r.2.1.toInt ∧ r.2.1.toInt ≤ r.1.toInt ∧ dz_rg r.2.2.1 13824 0 1023 ∧ dz_rg r.2.2.2 165888 0 3 ∧ (((c2_pots.toInt = 0 ∧ r.1.toInt = 1) ∨ (c2_pots.toInt = 1 ∧ r.1.toInt = 2) ∨ (c2_pots.toInt = 2 ∧ r.1.toInt = 4) ∨ (c2_pots.toInt = 3 ∧ r.1.toInt = 8) ∨ (c2_pots.toInt = 4 ∧ r.1.toInt = 16))) ∧ (dz_gq 2 2 c2_pots.toInt.toNat r.2.2.2 (12 * r.1.toInt).toNat) ∧ (dz_lf r.2.1 r.2.2.1 r.1.toInt.toNat))) ∧ (∀ (v1 : Int32) (v2 : Int32) (c2_draws : Int32) (c2_lawful : Int32) (a49 : Nat → Int32) (a50 : Nat → Int32), v1.toInt ≤ 15 → 0 ≤ v1.toInt → v2.toInt ≤ 10 → 0 ≤ v2.toInt → c2_draws.toInt ≤ 16 → 1 ≤ c2_draws.toInt → c2_lawful.toInt ≤ 15 → 0 ≤ c2_lawful.toInt → c2_lawful.toInt + 1 ≤ c2_draws.toInt → v1.toInt + 1 ≤ c2_draws.toInt → c2_lawful.toInt ≤ v1.toInt → v2.toInt ≤ c2_bars.toInt → dz_rg a49 13824 0 1023 → dz_rg a50 165888 0 3 → dz_gq 2 2 c2_pots.toInt.toNat a50 (12 * v1.toInt + 12).toNat → dz_lf c2_lawful a49 v1.toInt.toNat → ((c2_pots.toInt = 0 ∧ c2_draws.toInt = 1) ∨ (c2_pots.toInt = 1 ∧ c2_draws.toInt = 2) ∨ (c2_pots.toInt = 2 ∧ c2_draws.toInt = 4) ∨ (c2_pots.toInt = 3 ∧ c2_draws.toInt = 8) ∨ (c2_pots.toInt = 4 ∧ c2_draws.toInt = 16)) → 0 + 0 + ((16 - v1.toInt) - 1) * 913 + 0 + (10 - v2.toInt) * 22 + 22 ≤ ((k : Nat) : Int) → dz_T ((F20_X12_layDraws fu c2_groups c2_pots c2_bars c2_ranks a42 a43 a48 k).2.2.2.1 v1 v2 c2_draws c2_lawful a49 a50) (fun r => r.1.toInt ≤ 16 ∧ 1 ≤ r.1.toInt ∧ r.2.1.toInt ≤ 16 ∧ 0 ≤ r.2.1.toInt ∧ r.2.1.toInt ≤ r.1.toInt ∧ dz_rg r.2.2.1 13824 0 1023 ∧ dz_rg r.2.2.2 165888 0 3 ∧ (((c2_pots.toInt = 0 ∧ r.1.toInt = 1) ∨ (c2_pots.toInt = 1 ∧ r.1.toInt = 2) ∨ (c2_pots.toInt = 2 ∧ r.1.toInt = 4) ∨ (c2_pots.toInt = 3 ∧ r.1.toInt = 8) ∨ (c2_pots.toInt = 4 ∧ r.1.toInt = 16))) ∧ (dz_gq 2 2 c2_pots.toInt.toNat r.2.2.2 (12 * r.1.toInt).toNat) ∧ (dz_lf r.2.1 r.2.2.1 r.1.toInt.toNat))) ∧ (∀ (v1 : Int32) (v2 : Int32) (v3 : Int32) (v4 : Int32) (c2_draws : Int32) (c2_lawful : Int32) (a49 : Nat → Int32) (a50 : Nat → Int32), 1 ≤ c2_pots.toInt → v1.toInt ≤ 15 → 0 ≤ v1.toInt → v2.toInt ≤ 3 → 0 ≤ v2.toInt → v3.toInt ≤ 1 → 0 ≤ v3.toInt → v4.toInt ≤ 2 → 0 ≤ v4.toInt → c2_draws.toInt ≤ 16 → 1 ≤ c2_draws.toInt → c2_lawful.toInt ≤ 15 → 0 ≤ c2_lawful.toInt → c2_lawful.toInt + 1 ≤ c2_draws.toInt → v1.toInt + 1 ≤ c2_draws.toInt → v2.toInt + 1 ≤ c2_pots.toInt → c2_lawful.toInt ≤ v1.toInt → dz_rg a49 13824 0 1023 → dz_rg a50 165888 0 3 → dz_gq 2 2 c2_pots.toInt.toNat a50 (12 * v1.toInt + 2 * v2.toInt + v4.toInt).toNat → dz_lf c2_lawful a49 v1.toInt.toNat → ((c2_pots.toInt = 0 ∧ c2_draws.toInt = 1) ∨ (c2_pots.toInt = 1 ∧ c2_draws.toInt = 2) ∨ (c2_pots.toInt = 2 ∧ c2_draws.toInt = 4) ∨ (c2_pots.toInt = 3 ∧ c2_draws.toInt = 8) ∨ (c2_pots.toInt = 4 ∧ c2_draws.toInt = 16)) → v3.toInt = ((v1.toInt.toNat / 2 ^ (c2_pots.toInt.toNat - 1 - v2.toInt.toNat) % 2 : Nat) : Int) → 0 + 0 + ((16 - v1.toInt) - 1) * 913 + 264 + ((4 - v2.toInt) - 1) * 121 + 0 + (2 - v4.toInt) * 22 + 33 ≤ ((k : Nat) : Int) → dz_T ((F20_X12_layDraws fu c2_groups c2_pots c2_bars c2_ranks a42 a43 a48 k).2.2.2.2.1 v1 v2 v3 v4 c2_draws c2_lawful a49 a50) (fun r => r.1.toInt ≤ 16 ∧ 1 ≤ r.1.toInt ∧ r.2.1.toInt ≤ 16 ∧ 0 ≤ r.2.1.toInt ∧ r.2.1.toInt ≤ r.1.toInt ∧ dz_rg r.2.2.1 13824 0 1023 ∧ dz_rg r.2.2.2 165888 0 3 ∧ (((c2_pots.toInt = 0 ∧ r.1.toInt = 1) ∨ (c2_pots.toInt = 1 ∧ r.1.toInt = 2) ∨ (c2_pots.toInt = 2 ∧ r.1.toInt = 4) ∨ (c2_pots.toInt = 3 ∧ r.1.toInt = 8) ∨ (c2_pots.toInt = 4 ∧ r.1.toInt = 16))) ∧ (dz_gq 2 2 c2_pots.toInt.toNat r.2.2.2 (12 * r.1.toInt).toNat) ∧ (dz_lf r.2.1 r.2.2.1 r.1.toInt.toNat)))
set_option maxHeartbeats 4000000 in
set_option maxRecDepth 10000 in
theorem t20_X12_layDraws_h1_g2 (fu : Nat) (hfu : 1000000000000 ≤ fu) (c2_groups : Int32) (c2_pots : Int32) (c2_bars : Int32) (c2_ranks : Int32) (a42 : Nat → Int32) (a43 : Nat → Int32) (a48 : Nat → Int32) (p0 : c2_groups.toInt ≤ 2) (p1 : 2 ≤ c2_groups.toInt) (p2 : c2_pots.toInt ≤ 4) (p3 : 0 ≤ c2_pots.toInt) (p4 : c2_bars.toInt ≤ 10) (p5 : 0 ≤ c2_bars.toInt) (p6 : c2_ranks.toInt ≤ 2) (p7 : 2 ≤ c2_ranks.toInt) (hr_a43 : dz_rg a43 30 0 11) (hr_a48 : dz_rg a48 100 0 3) (o0 : dz_rw 2 2 a48) (o1 : dz_bq a43 c2_bars.toInt.toNat) (k : Nat) (ih : ∀ j9, j9 < k → p20_X12_layDraws_g2 fu c2_groups c2_pots c2_bars c2_ranks a42 a43 a48 j9) : ∀ (v1 : Int32) (c2_draws : Int32) (c2_lawful : Int32) (a49 : Nat → Int32) (a50 : Nat → Int32), v1.toInt ≤ 4 → 0 ≤ v1.toInt → c2_draws.toInt ≤ 16 → 1 ≤ c2_draws.toInt → v1.toInt ≤ c2_pots.toInt → v1.toInt ≤ c2_draws.toInt + 2 → c2_draws.toInt ≤ c2_pots.toInt + 15 → c2_draws.toInt ≤ v1.toInt + 15 → dz_rg a49 13824 0 1023 → dz_rg a50 165888 0 3 → ((v1.toInt = 0 ∧ c2_draws.toInt = 1) ∨ (v1.toInt = 1 ∧ c2_draws.toInt = 2) ∨ (v1.toInt = 2 ∧ c2_draws.toInt = 4) ∨ (v1.toInt = 3 ∧ c2_draws.toInt = 8) ∨ (v1.toInt = 4 ∧ c2_draws.toInt = 16)) → 0 + 15532 + (4 - v1.toInt) * 22 + 11 ≤ ((k : Nat) : Int) → dz_T ((F20_X12_layDraws fu c2_groups c2_pots c2_bars c2_ranks a42 a43 a48 k).1 v1 c2_draws c2_lawful a49 a50) (fun r => r.1.toInt ≤ 16 ∧ 1 ≤ r.1.toInt ∧ r.2.1.toInt ≤ 16 ∧ 0 ≤ r.2.1.toInt ∧ r.2.1.toInt ≤ r.1.toInt ∧ dz_rg r.2.2.1 13824 0 1023 ∧ dz_rg r.2.2.2 165888 0 3 ∧ (((c2_pots.toInt = 0 ∧ r.1.toInt = 1) ∨ (c2_pots.toInt = 1 ∧ r.1.toInt = 2) ∨ (c2_pots.toInt = 2 ∧ r.1.toInt = 4) ∨ (c2_pots.toInt = 3 ∧ r.1.toInt = 8) ∨ (c2_pots.toInt = 4 ∧ r.1.toInt = 16))) ∧ (dz_gq 2 2 c2_pots.toInt.toNat r.2.2.2 (12 * r.1.toInt).toNat) ∧ (dz_lf r.2.1 r.2.2.1 r.1.toInt.toNat)) := by
  intro v1 c2_draws c2_lawful a49 a50 i0 i1 i2 i3 i4 i5 i6 i7 hr_a49 hr_a50 x0 hm
  obtain ⟨k0, rfl⟩ : ∃ x, k = x + 1 := ⟨k - 1, by omega⟩
  show dz_T (s20_X12_layDraws_1 fu c2_groups c2_pots c2_bars c2_ranks a42 a43 a48 (F20_X12_layDraws fu c2_groups c2_pots c2_bars c2_ranks a42 a43 a48 k0).1 (F20_X12_layDraws fu c2_groups c2_pots c2_bars c2_ranks a42 a43 a48 k0).2.1  v1 c2_draws c2_lawful a49 a50) _
  unfold s20_X12_layDraws_1
  refine dz_Tle (fun h1 => ?_) (fun h1 => ?_)
  · skip
    have e2 := dz_l0
    exact (ih k0 (by omega)).2.1 (0 : Int32) c2_draws (0 : Int32) a49 a50 (by omega) (by omega) i2 i3 (by omega) (by omega) (by omega) (by omega) (by omega) (hr_a49) (hr_a50) (by first | exact x0 | exact dz_gq0 (by omega) | exact dz_gqm x0 (by omega) | exact dz_gqE (v1 := v1) (by decide) x0 (by omega) (by omega) (by omega) (by omega) | exact dz_gqS (v1 := v1) (v2 := v2) (v4 := v4) (by decide) x0 (by omega) (by omega) (by omega) (by omega) (by omega) (by omega) (by omega) (by omega) (by omega) (dz_gqw (by decide) (by decide) o0 (Nat.mod_lt _ (by decide)) x3 (by omega) (by omega))) (by first | exact dz_lf0 (by omega) | exact x1 | exact dz_lfm x1 (by omega) (by omega) | exact dz_lf1 (i := v1) (by omega) (by omega) (by omega) | exact dz_lfu x1 (by omega) (by omega)) (by omega) (by omega)
  · skip
    have e3 := dz_l1
    have e4 := dz_add (a := v1) (b := (1 : Int32)) (by omega) (by omega)
    have e5 := dz_mulr (a := c2_draws) (b := c2_ranks) 2 (by omega) (by omega) (by omega)
    exact (ih k0 (by omega)).1 (v1 + (1 : Int32)) (c2_draws * c2_ranks) c2_lawful a49 a50 (by omega) (by omega) (by omega) (by omega) (by omega) (by omega) (by omega) (by omega) (hr_a49) (hr_a50) (by omega) (by omega)
set_option maxHeartbeats 4000000 in
set_option maxRecDepth 10000 in
theorem t20_X12_layDraws_h2_g2 (fu : Nat) (hfu : 1000000000000 ≤ fu) (c2_groups : Int32) (c2_pots : Int32) (c2_bars : Int32) (c2_ranks : Int32) (a42 : Nat → Int32) (a43 : Nat → Int32) (a48 : Nat → Int32) (p0 : c2_groups.toInt ≤ 2) (p1 : 2 ≤ c2_groups.toInt) (p2 : c2_pots.toInt ≤ 4) (p3 : 0 ≤ c2_pots.toInt) (p4 : c2_bars.toInt ≤ 10) (p5 : 0 ≤ c2_bars.toInt) (p6 : c2_ranks.toInt ≤ 2) (p7 : 2 ≤ c2_ranks.toInt) (hr_a43 : dz_rg a43 30 0 11) (hr_a48 : dz_rg a48 100 0 3) (o0 : dz_rw 2 2 a48) (o1 : dz_bq a43 c2_bars.toInt.toNat) (k : Nat) (ih : ∀ j9, j9 < k → p20_X12_layDraws_g2 fu c2_groups c2_pots c2_bars c2_ranks a42 a43 a48 j9) : ∀ (v1 : Int32) (c2_draws : Int32) (c2_lawful : Int32) (a49 : Nat → Int32) (a50 : Nat → Int32), v1.toInt ≤ 16 → 0 ≤ v1.toInt → c2_draws.toInt ≤ 16 → 1 ≤ c2_draws.toInt → c2_lawful.toInt ≤ 16 → 0 ≤ c2_lawful.toInt → c2_lawful.toInt ≤ c2_draws.toInt → c2_lawful.toInt ≤ v1.toInt → v1.toInt ≤ c2_draws.toInt → dz_rg a49 13824 0 1023 → dz_rg a50 165888 0 3 → dz_gq 2 2 c2_pots.toInt.toNat a50 (12 * v1.toInt).toNat → dz_lf c2_lawful a49 v1.toInt.toNat → ((c2_pots.toInt = 0 ∧ c2_draws.toInt = 1) ∨ (c2_pots.toInt = 1 ∧ c2_draws.toInt = 2) ∨ (c2_pots.toInt = 2 ∧ c2_draws.toInt = 4) ∨ (c2_pots.toInt = 3 ∧ c2_draws.toInt = 8) ∨ (c2_pots.toInt = 4 ∧ c2_draws.toInt = 16)) → 0 + 0 + (16 - v1.toInt) * 913 + 11 ≤ ((k : Nat) : Int) → dz_T ((F20_X12_layDraws fu c2_groups c2_pots c2_bars c2_ranks a42 a43 a48 k).2.1 v1 c2_draws c2_lawful a49 a50) (fun r => r.1.toInt ≤ 16 ∧ 1 ≤ r.1.toInt ∧ r.2.1.toInt ≤ 16 ∧ 0 ≤ r.2.1.toInt ∧ r.2.1.toInt ≤ r.1.toInt ∧ dz_rg r.2.2.1 13824 0 1023 ∧ dz_rg r.2.2.2 165888 0 3 ∧ (((c2_pots.toInt = 0 ∧ r.1.toInt = 1) ∨ (c2_pots.toInt = 1 ∧ r.1.toInt = 2) ∨ (c2_pots.toInt = 2 ∧ r.1.toInt = 4) ∨ (c2_pots.toInt = 3 ∧ r.1.toInt = 8) ∨ (c2_pots.toInt = 4 ∧ r.1.toInt = 16))) ∧ (dz_gq 2 2 c2_pots.toInt.toNat r.2.2.2 (12 * r.1.toInt).toNat) ∧ (dz_lf r.2.1 r.2.2.1 r.1.toInt.toNat)) := by
  intro v1 c2_draws c2_lawful a49 a50 i0 i1 i2 i3 i4 i5 i6 i7 i8 hr_a49 hr_a50 x0 x1 x2 hm
  obtain ⟨k0, rfl⟩ : ∃ x, k = x + 1 := ⟨k - 1, by omega⟩
  show dz_T (s20_X12_layDraws_2 fu c2_groups c2_pots c2_bars c2_ranks a42 a43 a48 (F20_X12_layDraws fu c2_groups c2_pots c2_bars c2_ranks a42 a43 a48 k0).2.2.1  v1 c2_draws c2_lawful a49 a50) _
  unfold s20_X12_layDraws_2
  refine dz_Tle (fun h1 => ?_) (fun h1 => ?_)
  · skip
    refine dz_Ts ?_
    dsimp only
    exact ⟨i2, i3, i4, i5, i6, (hr_a49), (hr_a50), (by omega), (dz_gqm x0 (by omega)), (dz_lfm x1 (by omega) (by omega))⟩
  · skip
    have e2 := dz_l0
    exact (ih k0 (by omega)).2.2.1 v1 (0 : Int32) c2_draws c2_lawful a49 a50 (by first | assumption | omega) i1 (by omega) (by omega) i2 i3 (by first | assumption | omega) i5 (by first | assumption | omega) (by first | assumption | omega) i7 (by omega) (hr_a49) (hr_a50) (by first | exact x0 | exact dz_gq0 (by omega) | exact dz_gqm x0 (by omega) | exact dz_gqE (v1 := v1) (by decide) x0 (by omega) (by omega) (by omega) (by omega) | exact dz_gqS (v1 := v1) (v2 := v2) (v4 := v4) (by decide) x0 (by omega) (by omega) (by omega) (by omega) (by omega) (by omega) (by omega) (by omega) (by omega) (dz_gqw (by decide) (by decide) o0 (Nat.mod_lt _ (by decide)) x3 (by omega) (by omega))) (by first | exact dz_lf0 (by omega) | exact x1 | exact dz_lfm x1 (by omega) (by omega) | exact dz_lf1 (i := v1) (by omega) (by omega) (by omega) | exact dz_lfu x1 (by omega) (by omega)) (by omega) (by omega)
set_option maxHeartbeats 4000000 in
set_option maxRecDepth 10000 in
theorem t20_X12_layDraws_h3_g2 (fu : Nat) (hfu : 1000000000000 ≤ fu) (c2_groups : Int32) (c2_pots : Int32) (c2_bars : Int32) (c2_ranks : Int32) (a42 : Nat → Int32) (a43 : Nat → Int32) (a48 : Nat → Int32) (p0 : c2_groups.toInt ≤ 2) (p1 : 2 ≤ c2_groups.toInt) (p2 : c2_pots.toInt ≤ 4) (p3 : 0 ≤ c2_pots.toInt) (p4 : c2_bars.toInt ≤ 10) (p5 : 0 ≤ c2_bars.toInt) (p6 : c2_ranks.toInt ≤ 2) (p7 : 2 ≤ c2_ranks.toInt) (hr_a43 : dz_rg a43 30 0 11) (hr_a48 : dz_rg a48 100 0 3) (o0 : dz_rw 2 2 a48) (o1 : dz_bq a43 c2_bars.toInt.toNat) (k : Nat) (ih : ∀ j9, j9 < k → p20_X12_layDraws_g2 fu c2_groups c2_pots c2_bars c2_ranks a42 a43 a48 j9) : ∀ (v1 : Int32) (v2 : Int32) (c2_draws : Int32) (c2_lawful : Int32) (a49 : Nat → Int32) (a50 : Nat → Int32), v1.toInt ≤ 15 → 0 ≤ v1.toInt → v2.toInt ≤ 4 → 0 ≤ v2.toInt → c2_draws.toInt ≤ 16 → 1 ≤ c2_draws.toInt → c2_lawful.toInt ≤ 15 → 0 ≤ c2_lawful.toInt → c2_lawful.toInt + 1 ≤ c2_draws.toInt → v1.toInt + 1 ≤ c2_draws.toInt → c2_lawful.toInt ≤ v1.toInt → v2.toInt ≤ c2_pots.toInt → dz_rg a49 13824 0 1023 → dz_rg a50 165888 0 3 → dz_gq 2 2 c2_pots.toInt.toNat a50 (12 * v1.toInt + 2 * v2.toInt).toNat → dz_lf c2_lawful a49 v1.toInt.toNat → ((c2_pots.toInt = 0 ∧ c2_draws.toInt = 1) ∨ (c2_pots.toInt = 1 ∧ c2_draws.toInt = 2) ∨ (c2_pots.toInt = 2 ∧ c2_draws.toInt = 4) ∨ (c2_pots.toInt = 3 ∧ c2_draws.toInt = 8) ∨ (c2_pots.toInt = 4 ∧ c2_draws.toInt = 16)) → 0 + 0 + ((16 - v1.toInt) - 1) * 913 + 264 + (4 - v2.toInt) * 121 + 22 ≤ ((k : Nat) : Int) → dz_T ((F20_X12_layDraws fu c2_groups c2_pots c2_bars c2_ranks a42 a43 a48 k).2.2.1 v1 v2 c2_draws c2_lawful a49 a50) (fun r => r.1.toInt ≤ 16 ∧ 1 ≤ r.1.toInt ∧ r.2.1.toInt ≤ 16 ∧ 0 ≤ r.2.1.toInt ∧ r.2.1.toInt ≤ r.1.toInt ∧ dz_rg r.2.2.1 13824 0 1023 ∧ dz_rg r.2.2.2 165888 0 3 ∧ (((c2_pots.toInt = 0 ∧ r.1.toInt = 1) ∨ (c2_pots.toInt = 1 ∧ r.1.toInt = 2) ∨ (c2_pots.toInt = 2 ∧ r.1.toInt = 4) ∨ (c2_pots.toInt = 3 ∧ r.1.toInt = 8) ∨ (c2_pots.toInt = 4 ∧ r.1.toInt = 16))) ∧ (dz_gq 2 2 c2_pots.toInt.toNat r.2.2.2 (12 * r.1.toInt).toNat) ∧ (dz_lf r.2.1 r.2.2.1 r.1.toInt.toNat)) := by
  intro v1 v2 c2_draws c2_lawful a49 a50 i0 i1 i2 i3 i4 i5 i6 i7 i8 i9 i10 i11 hr_a49 hr_a50 x0 x1 x2 hm
  obtain ⟨k0, rfl⟩ : ∃ x, k = x + 1 := ⟨k - 1, by omega⟩
  show dz_T (s20_X12_layDraws_3 fu c2_groups c2_pots c2_bars c2_ranks a42 a43 a48 (F20_X12_layDraws fu c2_groups c2_pots c2_bars c2_ranks a42 a43 a48 k0).2.2.2.1 (F20_X12_layDraws fu c2_groups c2_pots c2_bars c2_ranks a42 a43 a48 k0).2.2.2.2.1  v1 v2 c2_draws c2_lawful a49 a50) _
  unfold s20_X12_layDraws_3
  refine dz_Tle (fun h1 => ?_) (fun h1 => ?_)
  · skip
    refine dz_Tin (by omega) (by omega) ?_
    have e2 := dz_l0
    exact (ih k0 (by omega)).2.2.2.1 v1 (0 : Int32) c2_draws c2_lawful (upd a49 v1.toNatClampNeg (0 : Int32)) a50 i0 i1 (by omega) (by omega) i4 i5 i6 i7 i8 i9 i10 (by omega) (dz_rgu (hr_a49) (by omega) (by omega)) (hr_a50) (by first | exact x0 | exact dz_gq0 (by omega) | exact dz_gqm x0 (by omega) | exact dz_gqE (v1 := v1) (by decide) x0 (by omega) (by omega) (by omega) (by omega) | exact dz_gqS (v1 := v1) (v2 := v2) (v4 := v4) (by decide) x0 (by omega) (by omega) (by omega) (by omega) (by omega) (by omega) (by omega) (by omega) (by omega) (dz_gqw (by decide) (by decide) o0 (Nat.mod_lt _ (by decide)) x3 (by omega) (by omega))) (by first | exact dz_lf0 (by omega) | exact x1 | exact dz_lfm x1 (by omega) (by omega) | exact dz_lf1 (i := v1) (by omega) (by omega) (by omega) | exact dz_lfu x1 (by omega) (by omega)) (by omega) (by omega)
  · skip
    refine dz_Tb (t18_X12_rankIn_g2 fu hfu _ _ _ _ p2 p3 p6 p7 i1 (by first | assumption | omega) i3 (by first | assumption | omega)) (fun r1 q => ?_)
    obtain ⟨q1_0, q1_1, qo1_0⟩ := q
    have e3 := dz_l0
    exact (ih k0 (by omega)).2.2.2.2 v1 v2 r1 (0 : Int32) c2_draws c2_lawful a49 a50 (by first | assumption | omega) i0 i1 (by first | assumption | omega) i3 (by first | assumption | omega) q1_0 (by omega) (by omega) i4 i5 i6 i7 i8 i9 (by first | assumption | omega) i10 (hr_a49) (hr_a50) (by first | exact x0 | exact dz_gq0 (by omega) | exact dz_gqm x0 (by omega) | exact dz_gqE (v1 := v1) (by decide) x0 (by omega) (by omega) (by omega) (by omega) | exact dz_gqS (v1 := v1) (v2 := v2) (v4 := v4) (by decide) x0 (by omega) (by omega) (by omega) (by omega) (by omega) (by omega) (by omega) (by omega) (by omega) (dz_gqw (by decide) (by decide) o0 (Nat.mod_lt _ (by decide)) x3 (by omega) (by omega))) (by first | exact dz_lf0 (by omega) | exact x1 | exact dz_lfm x1 (by omega) (by omega) | exact dz_lf1 (i := v1) (by omega) (by omega) (by omega) | exact dz_lfu x1 (by omega) (by omega)) (by omega) (by first | exact x3 | assumption) (by omega)
set_option maxHeartbeats 4000000 in
set_option maxRecDepth 10000 in
theorem t20_X12_layDraws_h4_g2 (fu : Nat) (hfu : 1000000000000 ≤ fu) (c2_groups : Int32) (c2_pots : Int32) (c2_bars : Int32) (c2_ranks : Int32) (a42 : Nat → Int32) (a43 : Nat → Int32) (a48 : Nat → Int32) (p0 : c2_groups.toInt ≤ 2) (p1 : 2 ≤ c2_groups.toInt) (p2 : c2_pots.toInt ≤ 4) (p3 : 0 ≤ c2_pots.toInt) (p4 : c2_bars.toInt ≤ 10) (p5 : 0 ≤ c2_bars.toInt) (p6 : c2_ranks.toInt ≤ 2) (p7 : 2 ≤ c2_ranks.toInt) (hr_a43 : dz_rg a43 30 0 11) (hr_a48 : dz_rg a48 100 0 3) (o0 : dz_rw 2 2 a48) (o1 : dz_bq a43 c2_bars.toInt.toNat) (k : Nat) (ih : ∀ j9, j9 < k → p20_X12_layDraws_g2 fu c2_groups c2_pots c2_bars c2_ranks a42 a43 a48 j9) : ∀ (v1 : Int32) (v2 : Int32) (c2_draws : Int32) (c2_lawful : Int32) (a49 : Nat → Int32) (a50 : Nat → Int32), v1.toInt ≤ 15 → 0 ≤ v1.toInt → v2.toInt ≤ 10 → 0 ≤ v2.toInt → c2_draws.toInt ≤ 16 → 1 ≤ c2_draws.toInt → c2_lawful.toInt ≤ 15 → 0 ≤ c2_lawful.toInt → c2_lawful.toInt + 1 ≤ c2_draws.toInt → v1.toInt + 1 ≤ c2_draws.toInt → c2_lawful.toInt ≤ v1.toInt → v2.toInt ≤ c2_bars.toInt → dz_rg a49 13824 0 1023 → dz_rg a50 165888 0 3 → dz_gq 2 2 c2_pots.toInt.toNat a50 (12 * v1.toInt + 12).toNat → dz_lf c2_lawful a49 v1.toInt.toNat → ((c2_pots.toInt = 0 ∧ c2_draws.toInt = 1) ∨ (c2_pots.toInt = 1 ∧ c2_draws.toInt = 2) ∨ (c2_pots.toInt = 2 ∧ c2_draws.toInt = 4) ∨ (c2_pots.toInt = 3 ∧ c2_draws.toInt = 8) ∨ (c2_pots.toInt = 4 ∧ c2_draws.toInt = 16)) → 0 + 0 + ((16 - v1.toInt) - 1) * 913 + 0 + (10 - v2.toInt) * 22 + 22 ≤ ((k : Nat) : Int) → dz_T ((F20_X12_layDraws fu c2_groups c2_pots c2_bars c2_ranks a42 a43 a48 k).2.2.2.1 v1 v2 c2_draws c2_lawful a49 a50) (fun r => r.1.toInt ≤ 16 ∧ 1 ≤ r.1.toInt ∧ r.2.1.toInt ≤ 16 ∧ 0 ≤ r.2.1.toInt ∧ r.2.1.toInt ≤ r.1.toInt ∧ dz_rg r.2.2.1 13824 0 1023 ∧ dz_rg r.2.2.2 165888 0 3 ∧ (((c2_pots.toInt = 0 ∧ r.1.toInt = 1) ∨ (c2_pots.toInt = 1 ∧ r.1.toInt = 2) ∨ (c2_pots.toInt = 2 ∧ r.1.toInt = 4) ∨ (c2_pots.toInt = 3 ∧ r.1.toInt = 8) ∨ (c2_pots.toInt = 4 ∧ r.1.toInt = 16))) ∧ (dz_gq 2 2 c2_pots.toInt.toNat r.2.2.2 (12 * r.1.toInt).toNat) ∧ (dz_lf r.2.1 r.2.2.1 r.1.toInt.toNat)) := by
  intro v1 v2 c2_draws c2_lawful a49 a50 i0 i1 i2 i3 i4 i5 i6 i7 i8 i9 i10 i11 hr_a49 hr_a50 x0 x1 x2 hm
  obtain ⟨k0, rfl⟩ : ∃ x, k = x + 1 := ⟨k - 1, by omega⟩
  show dz_T (s20_X12_layDraws_4 fu c2_groups c2_pots c2_bars c2_ranks a42 a43 a48 (F20_X12_layDraws fu c2_groups c2_pots c2_bars c2_ranks a42 a43 a48 k0).2.2.2.2.2.1 (F20_X12_layDraws fu c2_groups c2_pots c2_bars c2_ranks a42 a43 a48 k0).2.2.2.2.2.2  v1 v2 c2_draws c2_lawful a49 a50) _
  unfold s20_X12_layDraws_4
  refine dz_Tle (fun h1 => ?_) (fun h1 => ?_)
  · skip
    refine dz_Tin (by omega) (by omega) ?_
    have e2 := dz_rgat (hr_a49) (i := v1) (by omega) (by omega)
    have e3 := dz_l0
    refine dz_Teq (fun h4 => ?_) (fun h4 => ?_)
    · skip
      obtain ⟨k1, rfl⟩ : ∃ x, k0 = x + 1 := ⟨k0 - 1, by omega⟩
      show dz_T (s20_X12_layDraws_6 fu c2_groups c2_pots c2_bars c2_ranks a42 a43 a48 (F20_X12_layDraws fu c2_groups c2_pots c2_bars c2_ranks a42 a43 a48 k1).2.1 v1 (1 : Int32) c2_lawful c2_draws c2_lawful a49 a50) _
      unfold s20_X12_layDraws_6
      have e5 := dz_l1
      have e6 := dz_add (a := v1) (b := (1 : Int32)) (by omega) (by omega)
      have e7 := dz_add (a := c2_lawful) (b := (1 : Int32)) (by omega) (by omega)
      exact (ih k1 (by omega)).2.1 (v1 + (1 : Int32)) c2_draws (c2_lawful + (1 : Int32)) a49 a50 (by omega) (by omega) i4 i5 (by omega) (by omega) (by omega) (by omega) (by omega) (hr_a49) (hr_a50) (by first | exact x0 | exact dz_gq0 (by omega) | exact dz_gqm x0 (by omega) | exact dz_gqE (v1 := v1) (by decide) x0 (by omega) (by omega) (by omega) (by omega) | exact dz_gqS (v1 := v1) (v2 := v2) (v4 := v4) (by decide) x0 (by omega) (by omega) (by omega) (by omega) (by omega) (by omega) (by omega) (by omega) (by omega) (dz_gqw (by decide) (by decide) o0 (Nat.mod_lt _ (by decide)) x3 (by omega) (by omega))) (by first | exact dz_lf0 (by omega) | exact x1 | exact dz_lfm x1 (by omega) (by omega) | exact dz_lf1 (i := v1) (by omega) (by omega) (by omega) | exact dz_lfu x1 (by omega) (by omega)) (by omega) (by omega)
    · skip
      obtain ⟨k2, rfl⟩ : ∃ x, k0 = x + 1 := ⟨k0 - 1, by omega⟩
      show dz_T (s20_X12_layDraws_6 fu c2_groups c2_pots c2_bars c2_ranks a42 a43 a48 (F20_X12_layDraws fu c2_groups c2_pots c2_bars c2_ranks a42 a43 a48 k2).2.1 v1 (0 : Int32) c2_lawful c2_draws c2_lawful a49 a50) _
      unfold s20_X12_layDraws_6
      have e8 := dz_l1
      have e9 := dz_add (a := v1) (b := (1 : Int32)) (by omega) (by omega)
      have e10 := dz_add (a := c2_lawful) (b := (0 : Int32)) (by omega) (by omega)
      exact (ih k2 (by omega)).2.1 (v1 + (1 : Int32)) c2_draws (c2_lawful + (0 : Int32)) a49 a50 (by omega) (by omega) i4 i5 (by omega) (by omega) (by omega) (by omega) (by omega) (hr_a49) (hr_a50) (by first | exact x0 | exact dz_gq0 (by omega) | exact dz_gqm x0 (by omega) | exact dz_gqE (v1 := v1) (by decide) x0 (by omega) (by omega) (by omega) (by omega) | exact dz_gqS (v1 := v1) (v2 := v2) (v4 := v4) (by decide) x0 (by omega) (by omega) (by omega) (by omega) (by omega) (by omega) (by omega) (by omega) (by omega) (dz_gqw (by decide) (by decide) o0 (Nat.mod_lt _ (by decide)) x3 (by omega) (by omega))) (by first | exact dz_lf0 (by omega) | exact x1 | exact dz_lfm x1 (by omega) (by omega) | exact dz_lf1 (i := v1) (by omega) (by omega) (by omega) | exact dz_lfu x1 (by omega) (by omega)) (by omega) (by omega)
  · skip
    have e11 := dz_l12
    have e12 := dz_mull (a := (12 : Int32)) (b := v1) 12 (by omega) (by omega) (by omega)
    refine dz_Tb (t19_X12_isBroken_g2 fu hfu _ _ _ _ _ _ _ p0 p1 p2 p3 i3 (by first | assumption | omega) (by omega) (by omega) (hr_a43) (hr_a50) (dz_bqm o1 (by omega))) (fun r1 q => ?_)
    obtain ⟨q1_0, q1_1⟩ := q
    have e13 := dz_l0
    refine dz_Teq (fun h14 => ?_) (fun h14 => ?_)
    · skip
      obtain ⟨k3, rfl⟩ : ∃ x, k0 = x + 1 := ⟨k0 - 1, by omega⟩
      show dz_T (s20_X12_layDraws_7 fu c2_groups c2_pots c2_bars c2_ranks a42 a43 a48 (F20_X12_layDraws fu c2_groups c2_pots c2_bars c2_ranks a42 a43 a48 k3).2.2.2.1 v1 v2 c2_draws c2_lawful a49 a50) _
      unfold s20_X12_layDraws_7
      have e15 := dz_l1
      have e16 := dz_add (a := v2) (b := (1 : Int32)) (by omega) (by omega)
      exact (ih k3 (by omega)).2.2.2.1 v1 (v2 + (1 : Int32)) c2_draws c2_lawful a49 a50 i0 i1 (by omega) (by omega) i4 i5 i6 i7 i8 i9 i10 (by omega) (hr_a49) (hr_a50) (by first | exact x0 | exact dz_gq0 (by omega) | exact dz_gqm x0 (by omega) | exact dz_gqE (v1 := v1) (by decide) x0 (by omega) (by omega) (by omega) (by omega) | exact dz_gqS (v1 := v1) (v2 := v2) (v4 := v4) (by decide) x0 (by omega) (by omega) (by omega) (by omega) (by omega) (by omega) (by omega) (by omega) (by omega) (dz_gqw (by decide) (by decide) o0 (Nat.mod_lt _ (by decide)) x3 (by omega) (by omega))) (by first | exact dz_lf0 (by omega) | exact x1 | exact dz_lfm x1 (by omega) (by omega) | exact dz_lf1 (i := v1) (by omega) (by omega) (by omega) | exact dz_lfu x1 (by omega) (by omega)) (by omega) (by omega)
    · skip
      refine dz_Tin (by omega) (by omega) ?_
      refine dz_Tin (by omega) (by omega) ?_
      obtain ⟨k4, rfl⟩ : ∃ x, k0 = x + 1 := ⟨k0 - 1, by omega⟩
      show dz_T (s20_X12_layDraws_7 fu c2_groups c2_pots c2_bars c2_ranks a42 a43 a48 (F20_X12_layDraws fu c2_groups c2_pots c2_bars c2_ranks a42 a43 a48 k4).2.2.2.1 v1 v2 c2_draws c2_lawful (upd a49 v1.toNatClampNeg ((a49 v1.toNatClampNeg) ||| ((1 : Int32) <<< (v2 &&& (31 : Int32))))) a50) _
      unfold s20_X12_layDraws_7
      have e17 := dz_l1
      have e18 := dz_add (a := v2) (b := (1 : Int32)) (by omega) (by omega)
      have e19 := dz_rgat (hr_a49) (i := v1) (by omega) (by omega)
      have e20 := dz_l31
      have e21 := dz_andr (a := v2) (b := (31 : Int32)) (by omega)
      have e22 := dz_andl (a := v2) (b := (31 : Int32)) (by omega)
      have e23 := dz_shl1 (b := v2) 0 9 (by omega) (by omega) (by omega)
      have e24 := dz_orb (a := (a49 v1.toNatClampNeg)) (b := ((1 : Int32) <<< (v2 &&& (31 : Int32)))) 10 (by omega) (by omega) (by omega) (by omega) (by omega)
      exact (ih k4 (by omega)).2.2.2.1 v1 (v2 + (1 : Int32)) c2_draws c2_lawful (upd a49 v1.toNatClampNeg ((a49 v1.toNatClampNeg) ||| ((1 : Int32) <<< (v2 &&& (31 : Int32))))) a50 i0 i1 (by omega) (by omega) i4 i5 i6 i7 i8 i9 i10 (by omega) (dz_rgu (hr_a49) (by omega) (by omega)) (hr_a50) (by first | exact x0 | exact dz_gq0 (by omega) | exact dz_gqm x0 (by omega) | exact dz_gqE (v1 := v1) (by decide) x0 (by omega) (by omega) (by omega) (by omega) | exact dz_gqS (v1 := v1) (v2 := v2) (v4 := v4) (by decide) x0 (by omega) (by omega) (by omega) (by omega) (by omega) (by omega) (by omega) (by omega) (by omega) (dz_gqw (by decide) (by decide) o0 (Nat.mod_lt _ (by decide)) x3 (by omega) (by omega))) (by first | exact dz_lf0 (by omega) | exact x1 | exact dz_lfm x1 (by omega) (by omega) | exact dz_lf1 (i := v1) (by omega) (by omega) (by omega) | exact dz_lfu x1 (by omega) (by omega)) (by omega) (by omega)
set_option maxHeartbeats 4000000 in
set_option maxRecDepth 10000 in
theorem t20_X12_layDraws_h5_g2 (fu : Nat) (hfu : 1000000000000 ≤ fu) (c2_groups : Int32) (c2_pots : Int32) (c2_bars : Int32) (c2_ranks : Int32) (a42 : Nat → Int32) (a43 : Nat → Int32) (a48 : Nat → Int32) (p0 : c2_groups.toInt ≤ 2) (p1 : 2 ≤ c2_groups.toInt) (p2 : c2_pots.toInt ≤ 4) (p3 : 0 ≤ c2_pots.toInt) (p4 : c2_bars.toInt ≤ 10) (p5 : 0 ≤ c2_bars.toInt) (p6 : c2_ranks.toInt ≤ 2) (p7 : 2 ≤ c2_ranks.toInt) (hr_a43 : dz_rg a43 30 0 11) (hr_a48 : dz_rg a48 100 0 3) (o0 : dz_rw 2 2 a48) (o1 : dz_bq a43 c2_bars.toInt.toNat) (k : Nat) (ih : ∀ j9, j9 < k → p20_X12_layDraws_g2 fu c2_groups c2_pots c2_bars c2_ranks a42 a43 a48 j9) : ∀ (v1 : Int32) (v2 : Int32) (v3 : Int32) (v4 : Int32) (c2_draws : Int32) (c2_lawful : Int32) (a49 : Nat → Int32) (a50 : Nat → Int32), 1 ≤ c2_pots.toInt → v1.toInt ≤ 15 → 0 ≤ v1.toInt → v2.toInt ≤ 3 → 0 ≤ v2.toInt → v3.toInt ≤ 1 → 0 ≤ v3.toInt → v4.toInt ≤ 2 → 0 ≤ v4.toInt → c2_draws.toInt ≤ 16 → 1 ≤ c2_draws.toInt → c2_lawful.toInt ≤ 15 → 0 ≤ c2_lawful.toInt → c2_lawful.toInt + 1 ≤ c2_draws.toInt → v1.toInt + 1 ≤ c2_draws.toInt → v2.toInt + 1 ≤ c2_pots.toInt → c2_lawful.toInt ≤ v1.toInt → dz_rg a49 13824 0 1023 → dz_rg a50 165888 0 3 → dz_gq 2 2 c2_pots.toInt.toNat a50 (12 * v1.toInt + 2 * v2.toInt + v4.toInt).toNat → dz_lf c2_lawful a49 v1.toInt.toNat → ((c2_pots.toInt = 0 ∧ c2_draws.toInt = 1) ∨ (c2_pots.toInt = 1 ∧ c2_draws.toInt = 2) ∨ (c2_pots.toInt = 2 ∧ c2_draws.toInt = 4) ∨ (c2_pots.toInt = 3 ∧ c2_draws.toInt = 8) ∨ (c2_pots.toInt = 4 ∧ c2_draws.toInt = 16)) → v3.toInt = ((v1.toInt.toNat / 2 ^ (c2_pots.toInt.toNat - 1 - v2.toInt.toNat) % 2 : Nat) : Int) → 0 + 0 + ((16 - v1.toInt) - 1) * 913 + 264 + ((4 - v2.toInt) - 1) * 121 + 0 + (2 - v4.toInt) * 22 + 33 ≤ ((k : Nat) : Int) → dz_T ((F20_X12_layDraws fu c2_groups c2_pots c2_bars c2_ranks a42 a43 a48 k).2.2.2.2.1 v1 v2 v3 v4 c2_draws c2_lawful a49 a50) (fun r => r.1.toInt ≤ 16 ∧ 1 ≤ r.1.toInt ∧ r.2.1.toInt ≤ 16 ∧ 0 ≤ r.2.1.toInt ∧ r.2.1.toInt ≤ r.1.toInt ∧ dz_rg r.2.2.1 13824 0 1023 ∧ dz_rg r.2.2.2 165888 0 3 ∧ (((c2_pots.toInt = 0 ∧ r.1.toInt = 1) ∨ (c2_pots.toInt = 1 ∧ r.1.toInt = 2) ∨ (c2_pots.toInt = 2 ∧ r.1.toInt = 4) ∨ (c2_pots.toInt = 3 ∧ r.1.toInt = 8) ∨ (c2_pots.toInt = 4 ∧ r.1.toInt = 16))) ∧ (dz_gq 2 2 c2_pots.toInt.toNat r.2.2.2 (12 * r.1.toInt).toNat) ∧ (dz_lf r.2.1 r.2.2.1 r.1.toInt.toNat)) := by
  intro v1 v2 v3 v4 c2_draws c2_lawful a49 a50 i0 i1 i2 i3 i4 i5 i6 i7 i8 i9 i10 i11 i12 i13 i14 i15 i16 hr_a49 hr_a50 x0 x1 x2 x3 hm
  obtain ⟨k0, rfl⟩ : ∃ x, k = x + 1 := ⟨k - 1, by omega⟩
  show dz_T (s20_X12_layDraws_5 fu c2_groups c2_pots c2_bars c2_ranks a42 a43 a48 (F20_X12_layDraws fu c2_groups c2_pots c2_bars c2_ranks a42 a43 a48 k0).2.2.1 (F20_X12_layDraws fu c2_groups c2_pots c2_bars c2_ranks a42 a43 a48 k0).2.2.2.2.1  v1 v2 v3 v4 c2_draws c2_lawful a49 a50) _
  unfold s20_X12_layDraws_5
  refine dz_Tle (fun h1 => ?_) (fun h1 => ?_)
  · skip
    have e2 := dz_l1
    have e3 := dz_add (a := v2) (b := (1 : Int32)) (by omega) (by omega)
    exact (ih k0 (by omega)).2.2.1 v1 (v2 + (1 : Int32)) c2_draws c2_lawful a49 a50 i1 i2 (by omega) (by omega) i9 i10 i11 i12 i13 i14 i16 (by omega) (hr_a49) (hr_a50) (by first | exact x0 | exact dz_gq0 (by omega) | exact dz_gqm x0 (by omega) | exact dz_gqE (v1 := v1) (by decide) x0 (by omega) (by omega) (by omega) (by omega) | exact dz_gqS (v1 := v1) (v2 := v2) (v4 := v4) (by decide) x0 (by omega) (by omega) (by omega) (by omega) (by omega) (by omega) (by omega) (by omega) (by omega) (dz_gqw (by decide) (by decide) o0 (Nat.mod_lt _ (by decide)) x3 (by omega) (by omega))) (by first | exact dz_lf0 (by omega) | exact x1 | exact dz_lfm x1 (by omega) (by omega) | exact dz_lf1 (i := v1) (by omega) (by omega) (by omega) | exact dz_lfu x1 (by omega) (by omega)) (by omega) (by omega)
  · skip
    have e4 := dz_l4
    have e5 := dz_mull (a := (4 : Int32)) (b := v3) 4 (by omega) (by omega) (by omega)
    have e6 := dz_add (a := ((4 : Int32) * v3)) (b := v4) (by omega) (by omega)
    refine dz_Tin (by omega) (by omega) ?_
    have e7 := dz_l12
    have e8 := dz_mull (a := (12 : Int32)) (b := v1) 12 (by omega) (by omega) (by omega)
    have e9 := dz_mulr (a := v2) (b := c2_groups) 2 (by omega) (by omega) (by omega)
    have e10 := dz_add (a := ((12 : Int32) * v1)) (b := (v2 * c2_groups)) (by omega) (by omega)
    have e11 := dz_add (a := (((12 : Int32) * v1) + (v2 * c2_groups))) (b := v4) (by omega) (by omega)
    refine dz_Tin (by omega) (by omega) ?_
    have e12 := dz_l1
    have e13 := dz_add (a := v4) (b := (1 : Int32)) (by omega) (by omega)
    have e14 := dz_rgat (hr_a48) (i := (((4 : Int32) * v3) + v4)) (by omega) (by omega)
    have e15 := dz_nby (a := (a48 (((4 : Int32) * v3) + v4).toNatClampNeg)) (by omega) (by omega)
    exact (ih k0 (by omega)).2.2.2.2 v1 v2 v3 (v4 + (1 : Int32)) c2_draws c2_lawful a49 (upd a50 ((((12 : Int32) * v1) + (v2 * c2_groups)) + v4).toNatClampNeg (vp_nar .byte (a48 (((4 : Int32) * v3) + v4).toNatClampNeg).toInt8.toInt32)) i0 i1 i2 i3 i4 i5 i6 (by omega) (by omega) i9 i10 i11 i12 i13 i14 i15 i16 (hr_a49) (dz_rgu (hr_a50) (by omega) (by omega)) (by first | exact x0 | exact dz_gq0 (by omega) | exact dz_gqm x0 (by omega) | exact dz_gqE (v1 := v1) (by decide) x0 (by omega) (by omega) (by omega) (by omega) | exact dz_gqS (v1 := v1) (v2 := v2) (v4 := v4) (by decide) x0 (by omega) (by omega) (by omega) (by omega) (by omega) (by omega) (by omega) (by omega) (by omega) (dz_gqw (by decide) (by decide) o0 (Nat.mod_lt _ (by decide)) x3 (by omega) (by omega))) (by first | exact dz_lf0 (by omega) | exact x1 | exact dz_lfm x1 (by omega) (by omega) | exact dz_lf1 (i := v1) (by omega) (by omega) (by omega) | exact dz_lfu x1 (by omega) (by omega)) (by omega) (by first | exact x3 | assumption) (by omega)
theorem t20_X12_layDraws_I_g2 (fu : Nat) (hfu : 1000000000000 ≤ fu) (c2_groups : Int32) (c2_pots : Int32) (c2_bars : Int32) (c2_ranks : Int32) (a42 : Nat → Int32) (a43 : Nat → Int32) (a48 : Nat → Int32) (p0 : c2_groups.toInt ≤ 2) (p1 : 2 ≤ c2_groups.toInt) (p2 : c2_pots.toInt ≤ 4) (p3 : 0 ≤ c2_pots.toInt) (p4 : c2_bars.toInt ≤ 10) (p5 : 0 ≤ c2_bars.toInt) (p6 : c2_ranks.toInt ≤ 2) (p7 : 2 ≤ c2_ranks.toInt) (hr_a43 : dz_rg a43 30 0 11) (hr_a48 : dz_rg a48 100 0 3) (o0 : dz_rw 2 2 a48) (o1 : dz_bq a43 c2_bars.toInt.toNat) (k : Nat) : p20_X12_layDraws_g2 fu c2_groups c2_pots c2_bars c2_ranks a42 a43 a48 k := by
  induction k using Nat.strongRecOn with
  | _ k ih => exact ⟨t20_X12_layDraws_h1_g2 fu hfu c2_groups c2_pots c2_bars c2_ranks a42 a43 a48 p0 p1 p2 p3 p4 p5 p6 p7 hr_a43 hr_a48 o0 o1 k ih, t20_X12_layDraws_h2_g2 fu hfu c2_groups c2_pots c2_bars c2_ranks a42 a43 a48 p0 p1 p2 p3 p4 p5 p6 p7 hr_a43 hr_a48 o0 o1 k ih, t20_X12_layDraws_h3_g2 fu hfu c2_groups c2_pots c2_bars c2_ranks a42 a43 a48 p0 p1 p2 p3 p4 p5 p6 p7 hr_a43 hr_a48 o0 o1 k ih, t20_X12_layDraws_h4_g2 fu hfu c2_groups c2_pots c2_bars c2_ranks a42 a43 a48 p0 p1 p2 p3 p4 p5 p6 p7 hr_a43 hr_a48 o0 o1 k ih, t20_X12_layDraws_h5_g2 fu hfu c2_groups c2_pots c2_bars c2_ranks a42 a43 a48 p0 p1 p2 p3 p4 p5 p6 p7 hr_a43 hr_a48 o0 o1 k ih⟩
set_option maxHeartbeats 4000000 in
set_option maxRecDepth 10000 in
theorem t20_X12_layDraws_E_g2 (fu : Nat) (hfu : 1000000000000 ≤ fu) (c2_groups : Int32) (c2_pots : Int32) (c2_bars : Int32) (c2_ranks : Int32) (a42 : Nat → Int32) (a43 : Nat → Int32) (a48 : Nat → Int32) (c2_draws : Int32) (c2_lawful : Int32) (a49 : Nat → Int32) (a50 : Nat → Int32) (p0 : c2_groups.toInt ≤ 2) (p1 : 2 ≤ c2_groups.toInt) (p2 : c2_pots.toInt ≤ 4) (p3 : 0 ≤ c2_pots.toInt) (p4 : c2_bars.toInt ≤ 10) (p5 : 0 ≤ c2_bars.toInt) (p6 : c2_ranks.toInt ≤ 2) (p7 : 2 ≤ c2_ranks.toInt) (hr_a43 : dz_rg a43 30 0 11) (hr_a48 : dz_rg a48 100 0 3) (hr_a49 : dz_rg a49 13824 0 1023) (hr_a50 : dz_rg a50 165888 0 3) (o0 : dz_rw 2 2 a48) (o1 : dz_bq a43 c2_bars.toInt.toNat) (kv : Nat) (hkv : 1000000000000 ≤ kv) : dz_T (s20_X12_layDraws_0 fu c2_groups c2_pots c2_bars c2_ranks a42 a43 a48 (F20_X12_layDraws fu c2_groups c2_pots c2_bars c2_ranks a42 a43 a48 kv).1  c2_draws c2_lawful a49 a50) (fun r => r.1.toInt ≤ 16 ∧ 1 ≤ r.1.toInt ∧ r.2.1.toInt ≤ 16 ∧ 0 ≤ r.2.1.toInt ∧ r.2.1.toInt ≤ r.1.toInt ∧ dz_rg r.2.2.1 13824 0 1023 ∧ dz_rg r.2.2.2 165888 0 3 ∧ (((c2_pots.toInt = 0 ∧ r.1.toInt = 1) ∨ (c2_pots.toInt = 1 ∧ r.1.toInt = 2) ∨ (c2_pots.toInt = 2 ∧ r.1.toInt = 4) ∨ (c2_pots.toInt = 3 ∧ r.1.toInt = 8) ∨ (c2_pots.toInt = 4 ∧ r.1.toInt = 16))) ∧ (dz_gq 2 2 c2_pots.toInt.toNat r.2.2.2 (12 * r.1.toInt).toNat) ∧ (dz_lf r.2.1 r.2.2.1 r.1.toInt.toNat)) := by
  unfold s20_X12_layDraws_0
  have e1 := dz_l0
  have e2 := dz_l1
  exact (t20_X12_layDraws_I_g2 fu hfu c2_groups c2_pots c2_bars c2_ranks a42 a43 a48 p0 p1 p2 p3 p4 p5 p6 p7 hr_a43 hr_a48 o0 o1 kv).1 (0 : Int32) (1 : Int32) c2_lawful a49 a50 (by omega) (by omega) (by omega) (by omega) (by omega) (by omega) (by omega) (by omega) (hr_a49) (hr_a50) (by omega) (by omega)
theorem t20_X12_layDraws_g2 (fu : Nat) (hfu : 1000000000000 ≤ fu) (c2_groups : Int32) (c2_pots : Int32) (c2_bars : Int32) (c2_ranks : Int32) (a42 : Nat → Int32) (a43 : Nat → Int32) (a48 : Nat → Int32) (c2_draws : Int32) (c2_lawful : Int32) (a49 : Nat → Int32) (a50 : Nat → Int32) (p0 : c2_groups.toInt ≤ 2) (p1 : 2 ≤ c2_groups.toInt) (p2 : c2_pots.toInt ≤ 4) (p3 : 0 ≤ c2_pots.toInt) (p4 : c2_bars.toInt ≤ 10) (p5 : 0 ≤ c2_bars.toInt) (p6 : c2_ranks.toInt ≤ 2) (p7 : 2 ≤ c2_ranks.toInt) (hr_a43 : dz_rg a43 30 0 11) (hr_a48 : dz_rg a48 100 0 3) (hr_a49 : dz_rg a49 13824 0 1023) (hr_a50 : dz_rg a50 165888 0 3) (o0 : dz_rw 2 2 a48) (o1 : dz_bq a43 c2_bars.toInt.toNat) : dz_T (f20_X12_layDraws fu c2_groups c2_pots c2_bars c2_ranks a42 a43 a48 c2_draws c2_lawful a49 a50) (fun r => r.1.toInt ≤ 16 ∧ 1 ≤ r.1.toInt ∧ r.2.1.toInt ≤ 16 ∧ 0 ≤ r.2.1.toInt ∧ r.2.1.toInt ≤ r.1.toInt ∧ dz_rg r.2.2.1 13824 0 1023 ∧ dz_rg r.2.2.2 165888 0 3 ∧ (((c2_pots.toInt = 0 ∧ r.1.toInt = 1) ∨ (c2_pots.toInt = 1 ∧ r.1.toInt = 2) ∨ (c2_pots.toInt = 2 ∧ r.1.toInt = 4) ∨ (c2_pots.toInt = 3 ∧ r.1.toInt = 8) ∨ (c2_pots.toInt = 4 ∧ r.1.toInt = 16))) ∧ (dz_gq 2 2 c2_pots.toInt.toNat r.2.2.2 (12 * r.1.toInt).toNat) ∧ (dz_lf r.2.1 r.2.2.1 r.1.toInt.toNat)) :=
  t20_X12_layDraws_E_g2 fu hfu c2_groups c2_pots c2_bars c2_ranks a42 a43 a48 c2_draws c2_lawful a49 a50 p0 p1 p2 p3 p4 p5 p6 p7 hr_a43 hr_a48 hr_a49 hr_a50 o0 o1 fu hfu
abbrev p19_X12_isBroken_g3 (fu : Nat) (c2_groups : Int32) (c2_pots : Int32) (a42 : Nat → Int32) (a43 : Nat → Int32) (a50 : Nat → Int32) (k : Nat) : Prop :=
  (∀ (v2 : Int32) (v3 : Int32) (v4 : Int32) (v5 : Int32), v2.toInt ≤ 165876 → 0 ≤ v2.toInt → v3.toInt ≤ 11 → 0 ≤ v3.toInt → v4.toInt ≤ 5 → 0 ≤ v4.toInt → v5.toInt ≤ 3 → 0 ≤ v5.toInt → 0 + 0 + (3 - v5.toInt) * 240 + 8 ≤ ((k : Nat) : Int) → dz_T ((F19_X12_isBroken fu c2_groups c2_pots a42 a43 a50 k).1 v2 v3 v4 v5) (fun r => r.toInt ≤ 1 ∧ 0 ≤ r.toInt)) ∧ (∀ (v2 : Int32) (v3 : Int32) (v4 : Int32) (v5 : Int32) (v6 : Int32) (v7 : Int32), v2.toInt ≤ 165876 → 0 ≤ v2.toInt → v3.toInt ≤ 11 → 0 ≤ v3.toInt → v4.toInt ≤ 5 → 0 ≤ v4.toInt → v5.toInt ≤ 2 → 0 ≤ v5.toInt → v6.toInt ≤ 12 → 0 ≤ v6.toInt → v7.toInt ≤ 12 → 0 ≤ v7.toInt → v6.toInt ≤ v7.toInt → 0 + 0 + ((3 - v5.toInt) - 1) * 240 + 0 + (12 - v7.toInt) * 16 + 16 ≤ ((k : Nat) : Int) → dz_T ((F19_X12_isBroken fu c2_groups c2_pots a42 a43 a50 k).2.1 v2 v3 v4 v5 v6 v7) (fun r => r.toInt ≤ 1 ∧ 0 ≤ r.toInt))
set_option maxHeartbeats 4000000 in
set_option maxRecDepth 10000 in
theorem t19_X12_isBroken_h1_g3 (fu : Nat) (hfu : 1000000000000 ≤ fu) (c2_groups : Int32) (c2_pots : Int32) (a42 : Nat → Int32) (a43 : Nat → Int32) (a50 : Nat → Int32) (p0 : c2_groups.toInt ≤ 3) (p1 : 3 ≤ c2_groups.toInt) (p2 : c2_pots.toInt ≤ 4) (p3 : 0 ≤ c2_pots.toInt) (hr_a43 : dz_rg a43 30 0 11) (hr_a50 : dz_rg a50 165888 0 3) (k : Nat) (ih : ∀ j9, j9 < k → p19_X12_isBroken_g3 fu c2_groups c2_pots a42 a43 a50 j9) : ∀ (v2 : Int32) (v3 : Int32) (v4 : Int32) (v5 : Int32), v2.toInt ≤ 165876 → 0 ≤ v2.toInt → v3.toInt ≤ 11 → 0 ≤ v3.toInt → v4.toInt ≤ 5 → 0 ≤ v4.toInt → v5.toInt ≤ 3 → 0 ≤ v5.toInt → 0 + 0 + (3 - v5.toInt) * 240 + 8 ≤ ((k : Nat) : Int) → dz_T ((F19_X12_isBroken fu c2_groups c2_pots a42 a43 a50 k).1 v2 v3 v4 v5) (fun r => r.toInt ≤ 1 ∧ 0 ≤ r.toInt) := by
  intro v2 v3 v4 v5 i0 i1 i2 i3 i4 i5 i6 i7 hm
  obtain ⟨k0, rfl⟩ : ∃ x, k = x + 1 := ⟨k - 1, by omega⟩
  show dz_T (s19_X12_isBroken_1 fu c2_groups c2_pots a42 a43 a50 (F19_X12_isBroken fu c2_groups c2_pots a42 a43 a50 k0).2.1  v2 v3 v4 v5) _
  unfold s19_X12_isBroken_1
  refine dz_Tle (fun h1 => ?_) (fun h1 => ?_)
  · skip
    have e2 := dz_l0
    exact dz_Ts ⟨(by omega), (by omega)⟩
  · skip
    have e3 := dz_l0
    exact (ih k0 (by omega)).2 v2 v3 v4 v5 (0 : Int32) (0 : Int32) i0 i1 i2 i3 i4 i5 (by first | assumption | omega) i7 (by omega) (by omega) (by omega) (by omega) (by omega) (by omega)
set_option maxHeartbeats 4000000 in
set_option maxRecDepth 10000 in
theorem t19_X12_isBroken_h2_g3 (fu : Nat) (hfu : 1000000000000 ≤ fu) (c2_groups : Int32) (c2_pots : Int32) (a42 : Nat → Int32) (a43 : Nat → Int32) (a50 : Nat → Int32) (p0 : c2_groups.toInt ≤ 3) (p1 : 3 ≤ c2_groups.toInt) (p2 : c2_pots.toInt ≤ 4) (p3 : 0 ≤ c2_pots.toInt) (hr_a43 : dz_rg a43 30 0 11) (hr_a50 : dz_rg a50 165888 0 3) (k : Nat) (ih : ∀ j9, j9 < k → p19_X12_isBroken_g3 fu c2_groups c2_pots a42 a43 a50 j9) : ∀ (v2 : Int32) (v3 : Int32) (v4 : Int32) (v5 : Int32) (v6 : Int32) (v7 : Int32), v2.toInt ≤ 165876 → 0 ≤ v2.toInt → v3.toInt ≤ 11 → 0 ≤ v3.toInt → v4.toInt ≤ 5 → 0 ≤ v4.toInt → v5.toInt ≤ 2 → 0 ≤ v5.toInt → v6.toInt ≤ 12 → 0 ≤ v6.toInt → v7.toInt ≤ 12 → 0 ≤ v7.toInt → v6.toInt ≤ v7.toInt → 0 + 0 + ((3 - v5.toInt) - 1) * 240 + 0 + (12 - v7.toInt) * 16 + 16 ≤ ((k : Nat) : Int) → dz_T ((F19_X12_isBroken fu c2_groups c2_pots a42 a43 a50 k).2.1 v2 v3 v4 v5 v6 v7) (fun r => r.toInt ≤ 1 ∧ 0 ≤ r.toInt) := by
  intro v2 v3 v4 v5 v6 v7 i0 i1 i2 i3 i4 i5 i6 i7 i8 i9 i10 i11 i12 hm
  obtain ⟨k0, rfl⟩ : ∃ x, k = x + 1 := ⟨k - 1, by omega⟩
  show dz_T (s19_X12_isBroken_2 fu c2_groups c2_pots a42 a43 a50 (F19_X12_isBroken fu c2_groups c2_pots a42 a43 a50 k0).1 (F19_X12_isBroken fu c2_groups c2_pots a42 a43 a50 k0).2.2.1 (F19_X12_isBroken fu c2_groups c2_pots a42 a43 a50 k0).2.2.2  v2 v3 v4 v5 v6 v7) _
  unfold s19_X12_isBroken_2
  refine dz_Tb (t9_X12_teams_g3 fu hfu _ _ p0 p1 p2 p3) (fun r1 q => ?_)
  obtain ⟨q1_0, q1_1, qo1_0⟩ := q
  refine dz_Tle (fun h1 => ?_) (fun h1 => ?_)
  · skip
    refine dz_Tle (fun h2 => ?_) (fun h2 => ?_)
    · skip
      have e3 := dz_l1
      have e4 := dz_add (a := v5) (b := (1 : Int32)) (by omega) (by omega)
      exact (ih k0 (by omega)).1 v2 v3 v4 (v5 + (1 : Int32)) i0 i1 i2 i3 i4 i5 (by omega) (by omega) (by omega)
    · skip
      have e5 := dz_l1
      exact dz_Ts ⟨(by omega), (by omega)⟩
  · skip
    refine dz_Tin (by omega) (by omega) ?_
    have e6 := dz_l31
    have e7 := dz_andr (a := v7) (b := (31 : Int32)) (by omega)
    have e8 := dz_andl (a := v7) (b := (31 : Int32)) (by omega)
    have e9 := dz_l1
    have e10 := dz_andr (a := ((a42 v4.toNatClampNeg) >>> (v7 &&& (31 : Int32)))) (b := (1 : Int32)) (by omega)
    refine dz_Teq (fun h11 => ?_) (fun h11 => ?_)
    · skip
      have e12 := dz_add (a := v2) (b := v7) (by omega) (by omega)
      refine dz_Tin (by omega) (by omega) ?_
      have e13 := dz_rgat (hr_a50) (i := (v2 + v7)) (by omega) (by omega)
      refine dz_Teq (fun h14 => ?_) (fun h14 => ?_)
      · skip
        obtain ⟨k1, rfl⟩ : ∃ x, k0 = x + 1 := ⟨k0 - 1, by omega⟩
        show dz_T (s19_X12_isBroken_4 fu c2_groups c2_pots a42 a43 a50 (F19_X12_isBroken fu c2_groups c2_pots a42 a43 a50 k1).2.1 v2 v3 v4 v5 v7 (1 : Int32) v6) _
        unfold s19_X12_isBroken_4
        have e15 := dz_add (a := v6) (b := (1 : Int32)) (by omega) (by omega)
        have e16 := dz_add (a := v7) (b := (1 : Int32)) (by omega) (by omega)
        exact (ih k1 (by omega)).2 v2 v3 v4 v5 (v6 + (1 : Int32)) (v7 + (1 : Int32)) i0 i1 i2 i3 i4 i5 i6 i7 (by omega) (by omega) (by omega) (by omega) (by omega) (by omega)
      · skip
        obtain ⟨k2, rfl⟩ : ∃ x, k0 = x + 1 := ⟨k0 - 1, by omega⟩
        show dz_T (s19_X12_isBroken_3 fu c2_groups c2_pots a42 a43 a50 (F19_X12_isBroken fu c2_groups c2_pots a42 a43 a50 k2).2.2.2 v2 v3 v4 v5 v7 v6) _
        unfold s19_X12_isBroken_3
        obtain ⟨k3, rfl⟩ : ∃ x, k2 = x + 1 := ⟨k2 - 1, by omega⟩
        show dz_T (s19_X12_isBroken_4 fu c2_groups c2_pots a42 a43 a50 (F19_X12_isBroken fu c2_groups c2_pots a42 a43 a50 k3).2.1 v2 v3 v4 v5 v7 (0 : Int32) v6) _
        unfold s19_X12_isBroken_4
        have e17 := dz_l0
        have e18 := dz_add (a := v6) (b := (0 : Int32)) (by omega) (by omega)
        have e19 := dz_add (a := v7) (b := (1 : Int32)) (by omega) (by omega)
        exact (ih k3 (by omega)).2 v2 v3 v4 v5 (v6 + (0 : Int32)) (v7 + (1 : Int32)) i0 i1 i2 i3 i4 i5 i6 i7 (by omega) (by omega) (by omega) (by omega) (by omega) (by omega)
    · skip
      obtain ⟨k4, rfl⟩ : ∃ x, k0 = x + 1 := ⟨k0 - 1, by omega⟩
      show dz_T (s19_X12_isBroken_3 fu c2_groups c2_pots a42 a43 a50 (F19_X12_isBroken fu c2_groups c2_pots a42 a43 a50 k4).2.2.2 v2 v3 v4 v5 v7 v6) _
      unfold s19_X12_isBroken_3
      obtain ⟨k5, rfl⟩ : ∃ x, k4 = x + 1 := ⟨k4 - 1, by omega⟩
      show dz_T (s19_X12_isBroken_4 fu c2_groups c2_pots a42 a43 a50 (F19_X12_isBroken fu c2_groups c2_pots a42 a43 a50 k5).2.1 v2 v3 v4 v5 v7 (0 : Int32) v6) _
      unfold s19_X12_isBroken_4
      have e20 := dz_l0
      have e21 := dz_add (a := v6) (b := (0 : Int32)) (by omega) (by omega)
      have e22 := dz_add (a := v7) (b := (1 : Int32)) (by omega) (by omega)
      exact (ih k5 (by omega)).2 v2 v3 v4 v5 (v6 + (0 : Int32)) (v7 + (1 : Int32)) i0 i1 i2 i3 i4 i5 i6 i7 (by omega) (by omega) (by omega) (by omega) (by omega) (by omega)
theorem t19_X12_isBroken_I_g3 (fu : Nat) (hfu : 1000000000000 ≤ fu) (c2_groups : Int32) (c2_pots : Int32) (a42 : Nat → Int32) (a43 : Nat → Int32) (a50 : Nat → Int32) (p0 : c2_groups.toInt ≤ 3) (p1 : 3 ≤ c2_groups.toInt) (p2 : c2_pots.toInt ≤ 4) (p3 : 0 ≤ c2_pots.toInt) (hr_a43 : dz_rg a43 30 0 11) (hr_a50 : dz_rg a50 165888 0 3) (k : Nat) : p19_X12_isBroken_g3 fu c2_groups c2_pots a42 a43 a50 k := by
  induction k using Nat.strongRecOn with
  | _ k ih => exact ⟨t19_X12_isBroken_h1_g3 fu hfu c2_groups c2_pots a42 a43 a50 p0 p1 p2 p3 hr_a43 hr_a50 k ih, t19_X12_isBroken_h2_g3 fu hfu c2_groups c2_pots a42 a43 a50 p0 p1 p2 p3 hr_a43 hr_a50 k ih⟩
set_option maxHeartbeats 4000000 in
set_option maxRecDepth 10000 in
theorem t19_X12_isBroken_E_g3 (fu : Nat) (hfu : 1000000000000 ≤ fu) (c2_groups : Int32) (c2_pots : Int32) (a42 : Nat → Int32) (a43 : Nat → Int32) (a50 : Nat → Int32) (v1 : Int32) (v2 : Int32) (p0 : c2_groups.toInt ≤ 3) (p1 : 3 ≤ c2_groups.toInt) (p2 : c2_pots.toInt ≤ 4) (p3 : 0 ≤ c2_pots.toInt) (p4 : 0 ≤ v1.toInt) (p5 : v1.toInt ≤ 9) (p6 : 0 ≤ v2.toInt) (p7 : v2.toInt ≤ 165876) (hr_a43 : dz_rg a43 30 0 11) (hr_a50 : dz_rg a50 165888 0 3) (o0 : dz_bq a43 (v1.toInt.toNat + 1)) (kv : Nat) (hkv : 1000000000000 ≤ kv) : dz_T (s19_X12_isBroken_0 fu c2_groups c2_pots a42 a43 a50 (F19_X12_isBroken fu c2_groups c2_pots a42 a43 a50 kv).1  v1 v2) (fun r => r.toInt ≤ 1 ∧ 0 ≤ r.toInt) := by
  unfold s19_X12_isBroken_0
  have hbr := dz_bqat (b := v1) o0 (by omega) (by omega) (by omega)
  have e1 := dz_l3
  have e2 := dz_mull (a := (3 : Int32)) (b := v1) 3 (by omega) (by omega) (by omega)
  have e3 := dz_l1
  have e4 := dz_add (a := ((3 : Int32) * v1)) (b := (1 : Int32)) (by omega) (by omega)
  refine dz_Tin (by omega) (by omega) ?_
  have e5 := dz_l2
  have e6 := dz_add (a := ((3 : Int32) * v1)) (b := (2 : Int32)) (by omega) (by omega)
  refine dz_Tin (by omega) (by omega) ?_
  refine dz_Tin (by omega) (by omega) ?_
  have e7 := dz_rgat (hr_a43) (i := ((3 : Int32) * v1)) (by omega) (by omega)
  refine dz_Teq (fun h8 => ?_) (fun h8 => ?_)
  · skip
    have e9 := dz_rgat (hr_a43) (i := (((3 : Int32) * v1) + (1 : Int32))) (by omega) (by omega)
    have e10 := dz_add (a := v2) (b := (a43 (((3 : Int32) * v1) + (1 : Int32)).toNatClampNeg)) (by omega) (by omega)
    refine dz_Tin (by omega) (by omega) ?_
    have e11 := dz_rgat (hr_a43) (i := (((3 : Int32) * v1) + (2 : Int32))) (by omega) (by omega)
    have e12 := dz_add (a := v2) (b := (a43 (((3 : Int32) * v1) + (2 : Int32)).toNatClampNeg)) (by omega) (by omega)
    refine dz_Tin (by omega) (by omega) ?_
    have e13 := dz_rgat (hr_a50) (i := (v2 + (a43 (((3 : Int32) * v1) + (1 : Int32)).toNatClampNeg))) (by omega) (by omega)
    have e14 := dz_rgat (hr_a50) (i := (v2 + (a43 (((3 : Int32) * v1) + (2 : Int32)).toNatClampNeg))) (by omega) (by omega)
    refine dz_Teq (fun h15 => ?_) (fun h15 => ?_)
    · skip
      exact dz_Ts ⟨(by omega), (by omega)⟩
    · skip
      have e16 := dz_l0
      exact dz_Ts ⟨(by omega), (by omega)⟩
  · skip
    refine dz_Tin (by omega) (by omega) ?_
    refine dz_Teq (fun h17 => ?_) (fun h17 => ?_)
    · skip
      have e18 := dz_rgat (hr_a43) (i := (((3 : Int32) * v1) + (1 : Int32))) (by omega) (by omega)
      have e19 := dz_add (a := v2) (b := (a43 (((3 : Int32) * v1) + (1 : Int32)).toNatClampNeg)) (by omega) (by omega)
      refine dz_Tin (by omega) (by omega) ?_
      have e20 := dz_rgat (hr_a50) (i := (v2 + (a43 (((3 : Int32) * v1) + (1 : Int32)).toNatClampNeg))) (by omega) (by omega)
      have e21 := dz_rgat (hr_a43) (i := (((3 : Int32) * v1) + (2 : Int32))) (by omega) (by omega)
      refine dz_Teq (fun h22 => ?_) (fun h22 => ?_)
      · skip
        exact dz_Ts ⟨(by omega), (by omega)⟩
      · skip
        have e23 := dz_l0
        exact dz_Ts ⟨(by omega), (by omega)⟩
    · skip
      refine dz_Tin (by omega) (by omega) ?_
      refine dz_Teq (fun h24 => ?_) (fun h24 => ?_)
      · skip
        have e25 := dz_rgat (hr_a43) (i := (((3 : Int32) * v1) + (1 : Int32))) (by omega) (by omega)
        have e26 := dz_add (a := v2) (b := (a43 (((3 : Int32) * v1) + (1 : Int32)).toNatClampNeg)) (by omega) (by omega)
        refine dz_Tin (by omega) (by omega) ?_
        have e27 := dz_rgat (hr_a50) (i := (v2 + (a43 (((3 : Int32) * v1) + (1 : Int32)).toNatClampNeg))) (by omega) (by omega)
        have e28 := dz_rgat (hr_a43) (i := (((3 : Int32) * v1) + (2 : Int32))) (by omega) (by omega)
        refine dz_Teq (fun h29 => ?_) (fun h29 => ?_)
        · skip
          have e30 := dz_l0
          exact dz_Ts ⟨(by omega), (by omega)⟩
        · skip
          exact dz_Ts ⟨(by omega), (by omega)⟩
      · skip
        have e31 := dz_rgat (hr_a43) (i := (((3 : Int32) * v1) + (1 : Int32))) (by omega) (by omega)
        have e32 := dz_rgat (hr_a43) (i := (((3 : Int32) * v1) + (2 : Int32))) (by omega) (by omega)
        have e33 := dz_l0
        exact (t19_X12_isBroken_I_g3 fu hfu c2_groups c2_pots a42 a43 a50 p0 p1 p2 p3 hr_a43 hr_a50 kv).1 v2 (a43 (((3 : Int32) * v1) + (1 : Int32)).toNatClampNeg) (a43 (((3 : Int32) * v1) + (2 : Int32)).toNatClampNeg) (0 : Int32) p7 p6 (by omega) (by omega) (by omega) (by omega) (by omega) (by omega) (by omega)
theorem t19_X12_isBroken_g3 (fu : Nat) (hfu : 1000000000000 ≤ fu) (c2_groups : Int32) (c2_pots : Int32) (a42 : Nat → Int32) (a43 : Nat → Int32) (a50 : Nat → Int32) (v1 : Int32) (v2 : Int32) (p0 : c2_groups.toInt ≤ 3) (p1 : 3 ≤ c2_groups.toInt) (p2 : c2_pots.toInt ≤ 4) (p3 : 0 ≤ c2_pots.toInt) (p4 : 0 ≤ v1.toInt) (p5 : v1.toInt ≤ 9) (p6 : 0 ≤ v2.toInt) (p7 : v2.toInt ≤ 165876) (hr_a43 : dz_rg a43 30 0 11) (hr_a50 : dz_rg a50 165888 0 3) (o0 : dz_bq a43 (v1.toInt.toNat + 1)) : dz_T (f19_X12_isBroken fu c2_groups c2_pots a42 a43 a50 v1 v2) (fun r => r.toInt ≤ 1 ∧ 0 ≤ r.toInt) :=
  t19_X12_isBroken_E_g3 fu hfu c2_groups c2_pots a42 a43 a50 v1 v2 p0 p1 p2 p3 p4 p5 p6 p7 hr_a43 hr_a50 o0 fu hfu
theorem t18_X12_rankIn_g3 (fu : Nat) (hfu : 1000000000000 ≤ fu) (c2_pots : Int32) (c2_ranks : Int32) (v1 : Int32) (v2 : Int32) (p0 : c2_pots.toInt ≤ 4) (p1 : 0 ≤ c2_pots.toInt) (p2 : c2_ranks.toInt ≤ 6) (p3 : 6 ≤ c2_ranks.toInt) (p4 : 0 ≤ v1.toInt) (p5 : v1.toInt ≤ 13823) (p6 : 0 ≤ v2.toInt) (p7 : v2.toInt + 1 ≤ c2_pots.toInt) : dz_T (f18_X12_rankIn fu c2_pots c2_ranks v1 v2) (fun r => 0 ≤ r.toInt ∧ r.toInt + 1 ≤ c2_ranks.toInt ∧ (r.toInt = ((v1.toInt.toNat / 6 ^ (c2_pots.toInt.toNat - 1 - v2.toInt.toNat) % 6 : Nat) : Int))) := by
  refine dz_Tw (t18_X12_rankIn_v fu hfu c2_pots c2_ranks v1 v2 c2_pots.toInt.toNat 6 (by omega) (by omega) (by omega) (by omega) (by omega) (by omega) (by omega)) (fun r h => ?_)
  have hq := Nat.mod_lt (v1.toInt.toNat / 6 ^ (c2_pots.toInt.toNat - 1 - v2.toInt.toNat)) (show 0 < 6 by omega)
  exact ⟨by omega, by omega, h⟩
