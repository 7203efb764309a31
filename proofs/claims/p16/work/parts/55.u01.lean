abbrev p83_X12_run_g3 (fu : Nat) (c2_groups : Int32) (c2_pots : Int32) (c2_ranks : Int32) (c2_draws : Int32) (c2_lawful : Int32) (a48 : Nat → Int32) (a49 : Nat → Int32) (k : Nat) : Prop :=
  (∀ (v1 : Int32) (v2 : Int32) (v3 : Int32) (c2_thrown : Int32) (c2_parts : Int32) (a56 : Nat → Int32) (a57 : Nat → Int32) (a58 : Nat → Int32) (a59 : Nat → Int32) (a61 : Nat → Int32) (a62 : Nat → Int32) (a63 : Nat → Int32), 1 ≤ c2_lawful.toInt → 0 ≤ v1.toInt → v2.toInt ≤ 11 → 0 ≤ v2.toInt → v3.toInt ≤ 4 → 0 ≤ v3.toInt → c2_thrown.toInt ≤ 0 → 0 ≤ c2_thrown.toInt → dz_rg a56 4 0 3 → dz_rg a57 4 0 3 → dz_rg a59 14425 0 16777215 → dz_rg a61 13824 0 13823 → dz_rg a62 16 0 16777215 → dz_id a56 v3.toInt.toNat → dz_id a57 v3.toInt.toNat → 0 + 2810 + (4 - v3.toInt) * 20 + 10 ≤ ((k : Nat) : Int) → dz_T ((F83_X12_run fu c2_groups c2_pots c2_ranks c2_draws c2_lawful a48 a49 k).1 v1 v2 v3 c2_thrown c2_parts a56 a57 a58 a59 a61 a62 a63) (fun r => r.1.toInt ≤ 3 ∧ (-1) ≤ r.1.toInt ∧ r.1.toInt ≤ c2_lawful.toInt + 2 ∧ r.1.toInt ≤ c2_pots.toInt + 2 ∧ dz_rg r.2.2.2.1 4 0 3 ∧ dz_rg r.2.2.2.2.1 4 0 3 ∧ dz_rg r.2.2.2.2.2.2.1 14425 0 16777215 ∧ dz_rg r.2.2.2.2.2.2.2.1 13824 0 13823 ∧ dz_rg r.2.2.2.2.2.2.2.2.1 16 0 16777215)) ∧ (∀ (v2 : Int32) (v3 : Int64) (v5 : Int32) (v6 : Int32) (c2_thrown : Int32) (c2_parts : Int32) (a56 : Nat → Int32) (a57 : Nat → Int32) (a58 : Nat → Int32) (a59 : Nat → Int32) (a61 : Nat → Int32) (a62 : Nat → Int32) (a63 : Nat → Int32), 1 ≤ c2_lawful.toInt → v2.toInt ≤ 11 → 0 ≤ v2.toInt → v5.toInt ≤ 1295 → 0 ≤ v5.toInt → v6.toInt ≤ 4 → 0 ≤ v6.toInt → c2_thrown.toInt ≤ 0 → 0 ≤ c2_thrown.toInt → c2_parts.toInt ≤ 64 → 64 ≤ c2_parts.toInt → v6.toInt ≤ c2_pots.toInt → dz_rg a56 4 0 3 → dz_rg a57 4 0 3 → dz_rg a59 14425 0 16777215 → dz_rg a61 13824 0 13823 → dz_rg a62 16 0 16777215 → dz_pt a63 [1, 4, 16] → dz_hv 3 6 a62 → dz_lv 6 a58 (c2_pots.toInt.toNat + 1) → dz_MK 6 c2_pots.toInt.toNat a59 0 0 → dz_pm a57 3 → dz_xl 6 v5 v6 → c2_pots.toInt ≤ v6.toInt ∨ dz_mz 6 (a59 ((a58 v6.toNatClampNeg) + v5).toNatClampNeg) → 0 + 0 + (4 - v6.toInt) * 560 + 10 ≤ ((k : Nat) : Int) → dz_T ((F83_X12_run fu c2_groups c2_pots c2_ranks c2_draws c2_lawful a48 a49 k).2.1 v2 v3 v5 v6 c2_thrown c2_parts a56 a57 a58 a59 a61 a62 a63) (fun r => r.1.toInt ≤ 3 ∧ (-1) ≤ r.1.toInt ∧ r.1.toInt ≤ c2_lawful.toInt + 2 ∧ r.1.toInt ≤ c2_pots.toInt + 2 ∧ dz_rg r.2.2.2.1 4 0 3 ∧ dz_rg r.2.2.2.2.1 4 0 3 ∧ dz_rg r.2.2.2.2.2.2.1 14425 0 16777215 ∧ dz_rg r.2.2.2.2.2.2.2.1 13824 0 13823 ∧ dz_rg r.2.2.2.2.2.2.2.2.1 16 0 16777215)) ∧ (∀ (v2 : Int32) (v3 : Int64) (v5 : Int32) (v6 : Int32) (v7 : Int32) (v8 : Int32) (c2_thrown : Int32) (c2_parts : Int32) (a56 : Nat → Int32) (a57 : Nat → Int32) (a58 : Nat → Int32) (a59 : Nat → Int32) (a61 : Nat → Int32) (a62 : Nat → Int32) (a63 : Nat → Int32), 1 ≤ c2_pots.toInt → 1 ≤ c2_lawful.toInt → v2.toInt ≤ 11 → 0 ≤ v2.toInt → v5.toInt ≤ 1295 → 0 ≤ v5.toInt → v6.toInt ≤ 3 → 0 ≤ v6.toInt → v7.toInt ≤ 63 → 0 ≤ v7.toInt → v8.toInt ≤ 3 → 0 ≤ v8.toInt → c2_thrown.toInt ≤ 0 → 0 ≤ c2_thrown.toInt → c2_parts.toInt ≤ 64 → 64 ≤ c2_parts.toInt → v6.toInt + 1 ≤ c2_pots.toInt → v8.toInt ≤ v7.toInt + 2 → dz_rg a56 4 0 3 → dz_rg a57 4 0 3 → dz_rg a59 14425 0 16777215 → dz_rg a61 13824 0 13823 → dz_rg a62 16 0 16777215 → dz_pt a63 [1, 4, 16] → dz_hv 3 6 a62 → dz_lv 6 a58 (c2_pots.toInt.toNat + 1) → dz_MK 6 c2_pots.toInt.toNat a59 0 0 → dz_pm a57 3 → dz_xl 6 v5 v6 → dz_me 3 6 (a59 ((a58 v6.toNatClampNeg) + v5).toNatClampNeg) v7.toInt.toNat → ((dz_fc 3 v7.toInt.toNat 3 : Nat) : Int) = v8.toInt → 0 + 0 + ((4 - v6.toInt) - 1) * 560 + 0 + (v8.toInt - 0) * 130 + 20 ≤ ((k : Nat) : Int) → dz_T ((F83_X12_run fu c2_groups c2_pots c2_ranks c2_draws c2_lawful a48 a49 k).2.2.1 v2 v3 v5 v6 v7 v8 c2_thrown c2_parts a56 a57 a58 a59 a61 a62 a63) (fun r => r.1.toInt ≤ 3 ∧ (-1) ≤ r.1.toInt ∧ r.1.toInt ≤ c2_lawful.toInt + 2 ∧ r.1.toInt ≤ c2_pots.toInt + 2 ∧ dz_rg r.2.2.2.1 4 0 3 ∧ dz_rg r.2.2.2.2.1 4 0 3 ∧ dz_rg r.2.2.2.2.2.2.1 14425 0 16777215 ∧ dz_rg r.2.2.2.2.2.2.2.1 13824 0 13823 ∧ dz_rg r.2.2.2.2.2.2.2.2.1 16 0 16777215)) ∧ (∀ (v2 : Int32) (v3 : Int64) (v5 : Int32) (v6 : Int32) (v7 : Int32) (v8 : Int32) (v9 : Int32) (v10 : Int32) (c2_thrown : Int32) (c2_parts : Int32) (a56 : Nat → Int32) (a57 : Nat → Int32) (a58 : Nat → Int32) (a59 : Nat → Int32) (a61 : Nat → Int32) (a62 : Nat → Int32) (a63 : Nat → Int32), 1 ≤ c2_pots.toInt → 1 ≤ c2_lawful.toInt → v2.toInt ≤ 11 → 0 ≤ v2.toInt → v5.toInt ≤ 1295 → 0 ≤ v5.toInt → v6.toInt ≤ 3 → 0 ≤ v6.toInt → v7.toInt ≤ 63 → 0 ≤ v7.toInt → v8.toInt ≤ 3 → 1 ≤ v8.toInt → v9.toInt ≤ 3 → 0 ≤ v9.toInt → v10.toInt ≤ 3 → 0 ≤ v10.toInt → c2_thrown.toInt ≤ 0 → 0 ≤ c2_thrown.toInt → c2_parts.toInt ≤ 64 → 64 ≤ c2_parts.toInt → v6.toInt + 1 ≤ c2_pots.toInt → v8.toInt ≤ v7.toInt + 2 → dz_rg a56 4 0 3 → dz_rg a57 4 0 3 → dz_rg a59 14425 0 16777215 → dz_rg a61 13824 0 13823 → dz_rg a62 16 0 16777215 → dz_pt a63 [1, 4, 16] → dz_hv 3 6 a62 → dz_lv 6 a58 (c2_pots.toInt.toNat + 1) → dz_MK 6 c2_pots.toInt.toNat a59 0 0 → dz_pm a57 3 → dz_xl 6 v5 v6 → dz_me 3 6 (a59 ((a58 v6.toNatClampNeg) + v5).toNatClampNeg) v7.toInt.toNat → ((dz_fc 3 v7.toInt.toNat 3 : Nat) : Int) = v8.toInt → dz_sk 3 v7.toInt.toNat v9 v10 → 0 + 0 + ((4 - v6.toInt) - 1) * 560 + 0 + ((v8.toInt - 0) - 1) * 130 + 0 + (3 - v10.toInt) * 20 + 30 ≤ ((k : Nat) : Int) → dz_T ((F83_X12_run fu c2_groups c2_pots c2_ranks c2_draws c2_lawful a48 a49 k).2.2.2.1 v2 v3 v5 v6 v7 v8 v9 v10 c2_thrown c2_parts a56 a57 a58 a59 a61 a62 a63) (fun r => r.1.toInt ≤ 3 ∧ (-1) ≤ r.1.toInt ∧ r.1.toInt ≤ c2_lawful.toInt + 2 ∧ r.1.toInt ≤ c2_pots.toInt + 2 ∧ dz_rg r.2.2.2.1 4 0 3 ∧ dz_rg r.2.2.2.2.1 4 0 3 ∧ dz_rg r.2.2.2.2.2.2.1 14425 0 16777215 ∧ dz_rg r.2.2.2.2.2.2.2.1 13824 0 13823 ∧ dz_rg r.2.2.2.2.2.2.2.2.1 16 0 16777215))
set_option maxHeartbeats 4000000 in
set_option maxRecDepth 10000 in
theorem t83_X12_run_h1_g3 (fu : Nat) (hfu : 1000000000000 ≤ fu) (c2_groups : Int32) (c2_pots : Int32) (c2_ranks : Int32) (c2_draws : Int32) (c2_lawful : Int32) (a48 : Nat → Int32) (a49 : Nat → Int32) (p0 : c2_groups.toInt ≤ 3) (p1 : 3 ≤ c2_groups.toInt) (p2 : c2_pots.toInt ≤ 4) (p3 : 0 ≤ c2_pots.toInt) (p4 : c2_ranks.toInt ≤ 6) (p5 : 6 ≤ c2_ranks.toInt) (p6 : c2_draws.toInt ≤ 1296) (p7 : 1 ≤ c2_draws.toInt) (p8 : c2_lawful.toInt ≤ 1296) (p9 : 0 ≤ c2_lawful.toInt) (p10 : c2_lawful.toInt ≤ c2_draws.toInt) (hr_a48 : dz_rg a48 100 0 3) (hr_a49 : dz_rg a49 13824 0 1023) (o0 : dz_rw 3 6 a48) (o1 : dz_lf c2_lawful a49 c2_draws.toInt.toNat) (k : Nat) (ih : ∀ j9, j9 < k → p83_X12_run_g3 fu c2_groups c2_pots c2_ranks c2_draws c2_lawful a48 a49 j9) : ∀ (v1 : Int32) (v2 : Int32) (v3 : Int32) (c2_thrown : Int32) (c2_parts : Int32) (a56 : Nat → Int32) (a57 : Nat → Int32) (a58 : Nat → Int32) (a59 : Nat → Int32) (a61 : Nat → Int32) (a62 : Nat → Int32) (a63 : Nat → Int32), 1 ≤ c2_lawful.toInt → 0 ≤ v1.toInt → v2.toInt ≤ 11 → 0 ≤ v2.toInt → v3.toInt ≤ 4 → 0 ≤ v3.toInt → c2_thrown.toInt ≤ 0 → 0 ≤ c2_thrown.toInt → dz_rg a56 4 0 3 → dz_rg a57 4 0 3 → dz_rg a59 14425 0 16777215 → dz_rg a61 13824 0 13823 → dz_rg a62 16 0 16777215 → dz_id a56 v3.toInt.toNat → dz_id a57 v3.toInt.toNat → 0 + 2810 + (4 - v3.toInt) * 20 + 10 ≤ ((k : Nat) : Int) → dz_T ((F83_X12_run fu c2_groups c2_pots c2_ranks c2_draws c2_lawful a48 a49 k).1 v1 v2 v3 c2_thrown c2_parts a56 a57 a58 a59 a61 a62 a63) (fun r => r.1.toInt ≤ 3 ∧ (-1) ≤ r.1.toInt ∧ r.1.toInt ≤ c2_lawful.toInt + 2 ∧ r.1.toInt ≤ c2_pots.toInt + 2 ∧ dz_rg r.2.2.2.1 4 0 3 ∧ dz_rg r.2.2.2.2.1 4 0 3 ∧ dz_rg r.2.2.2.2.2.2.1 14425 0 16777215 ∧ dz_rg r.2.2.2.2.2.2.2.1 13824 0 13823 ∧ dz_rg r.2.2.2.2.2.2.2.2.1 16 0 16777215) := by
  intro v1 v2 v3 c2_thrown c2_parts a56 a57 a58 a59 a61 a62 a63 i0 i1 i2 i3 i4 i5 i6 i7 hr_a56 hr_a57 hr_a59 hr_a61 hr_a62 x0 x1 hm
  obtain ⟨k0, rfl⟩ : ∃ x, k = x + 1 := ⟨k - 1, by omega⟩
  show dz_T (s83_X12_run_1 fu c2_groups c2_pots c2_ranks c2_draws c2_lawful a48 a49 (F83_X12_run fu c2_groups c2_pots c2_ranks c2_draws c2_lawful a48 a49 k0).1 (F83_X12_run fu c2_groups c2_pots c2_ranks c2_draws c2_lawful a48 a49 k0).2.1  v1 v2 v3 c2_thrown c2_parts a56 a57 a58 a59 a61 a62 a63) _
  unfold s83_X12_run_1
  have e1 := dz_l4
  refine dz_Tle (fun h2 => ?_) (fun h2 => ?_)
  · skip
    refine dz_Tb (t49_X12_layMasks_g3 fu hfu _ _ _ _ _ _ _ _ _ _ _ _ _ p0 p1 p2 p3 p4 p5 p6 p7 (hr_a48) (hr_a49) (hr_a56) (hr_a59) (hr_a61) (hr_a62) (o0) (dz_pqpm (dz_idp x0 (by omega) (by omega)) (by omega) rfl)) (fun r1 q => ?_)
    obtain ⟨qa1_2, qa1_3, qa1_4, qa1_5, qo1_0, qo1_1, qo1_2, qo1_3, qo1_4, qo1_5⟩ := q
    have e3 := dz_l0
    exact (ih k0 (by omega)).2.1 v2 v1.toInt64 (0 : Int32) (0 : Int32) c2_thrown r1.1 a56 a57 r1.2.1 r1.2.2.1 r1.2.2.2.1 r1.2.2.2.2.1 r1.2.2.2.2.2 i0 i2 i3 (by omega) (by omega) (by omega) (by omega) i6 i7 (by first | assumption | omega) (by first | assumption | omega) (by omega) (hr_a56) (hr_a57) (qa1_2) (qa1_3) (qa1_4) (qa1_5) (by exact qo1_4) (by exact qo1_1) (by exact qo1_2) (by exact dz_idp x1 (by omega) (by omega)) (by exact dz_xl0 (by omega) (by omega)) (by exact (dz_nolf qo1_3 o1 (by omega)).imp (fun w => by omega) (fun w => dz_m00 qo1_1 w (by omega) (by omega))) (by omega)
  · skip
    refine dz_Tin (by omega) (by omega) ?_
    refine dz_Tin (by omega) (by omega) ?_
    have e4 := dz_l1
    have e5 := dz_add (a := v3) (b := (1 : Int32)) (by omega) (by omega)
    exact (ih k0 (by omega)).1 v1 v2 (v3 + (1 : Int32)) c2_thrown c2_parts (upd a56 v3.toNatClampNeg v3) (upd a57 v3.toNatClampNeg v3) a58 a59 a61 a62 a63 i0 i1 i2 i3 (by omega) (by omega) i6 i7 (dz_rgu (hr_a56) (by omega) (by omega)) (dz_rgu (hr_a57) (by omega) (by omega)) (hr_a59) (hr_a61) (hr_a62) (by exact dz_ids x0 (by omega) (by omega)) (by exact dz_ids x1 (by omega) (by omega)) (by omega)
set_option maxHeartbeats 4000000 in
set_option maxRecDepth 10000 in
theorem t83_X12_run_h2_g3 (fu : Nat) (hfu : 1000000000000 ≤ fu) (c2_groups : Int32) (c2_pots : Int32) (c2_ranks : Int32) (c2_draws : Int32) (c2_lawful : Int32) (a48 : Nat → Int32) (a49 : Nat → Int32) (p0 : c2_groups.toInt ≤ 3) (p1 : 3 ≤ c2_groups.toInt) (p2 : c2_pots.toInt ≤ 4) (p3 : 0 ≤ c2_pots.toInt) (p4 : c2_ranks.toInt ≤ 6) (p5 : 6 ≤ c2_ranks.toInt) (p6 : c2_draws.toInt ≤ 1296) (p7 : 1 ≤ c2_draws.toInt) (p8 : c2_lawful.toInt ≤ 1296) (p9 : 0 ≤ c2_lawful.toInt) (p10 : c2_lawful.toInt ≤ c2_draws.toInt) (hr_a48 : dz_rg a48 100 0 3) (hr_a49 : dz_rg a49 13824 0 1023) (o0 : dz_rw 3 6 a48) (o1 : dz_lf c2_lawful a49 c2_draws.toInt.toNat) (k : Nat) (ih : ∀ j9, j9 < k → p83_X12_run_g3 fu c2_groups c2_pots c2_ranks c2_draws c2_lawful a48 a49 j9) : ∀ (v2 : Int32) (v3 : Int64) (v5 : Int32) (v6 : Int32) (c2_thrown : Int32) (c2_parts : Int32) (a56 : Nat → Int32) (a57 : Nat → Int32) (a58 : Nat → Int32) (a59 : Nat → Int32) (a61 : Nat → Int32) (a62 : Nat → Int32) (a63 : Nat → Int32), 1 ≤ c2_lawful.toInt → v2.toInt ≤ 11 → 0 ≤ v2.toInt → v5.toInt ≤ 1295 → 0 ≤ v5.toInt → v6.toInt ≤ 4 → 0 ≤ v6.toInt → c2_thrown.toInt ≤ 0 → 0 ≤ c2_thrown.toInt → c2_parts.toInt ≤ 64 → 64 ≤ c2_parts.toInt → v6.toInt ≤ c2_pots.toInt → dz_rg a56 4 0 3 → dz_rg a57 4 0 3 → dz_rg a59 14425 0 16777215 → dz_rg a61 13824 0 13823 → dz_rg a62 16 0 16777215 → dz_pt a63 [1, 4, 16] → dz_hv 3 6 a62 → dz_lv 6 a58 (c2_pots.toInt.toNat + 1) → dz_MK 6 c2_pots.toInt.toNat a59 0 0 → dz_pm a57 3 → dz_xl 6 v5 v6 → c2_pots.toInt ≤ v6.toInt ∨ dz_mz 6 (a59 ((a58 v6.toNatClampNeg) + v5).toNatClampNeg) → 0 + 0 + (4 - v6.toInt) * 560 + 10 ≤ ((k : Nat) : Int) → dz_T ((F83_X12_run fu c2_groups c2_pots c2_ranks c2_draws c2_lawful a48 a49 k).2.1 v2 v3 v5 v6 c2_thrown c2_parts a56 a57 a58 a59 a61 a62 a63) (fun r => r.1.toInt ≤ 3 ∧ (-1) ≤ r.1.toInt ∧ r.1.toInt ≤ c2_lawful.toInt + 2 ∧ r.1.toInt ≤ c2_pots.toInt + 2 ∧ dz_rg r.2.2.2.1 4 0 3 ∧ dz_rg r.2.2.2.2.1 4 0 3 ∧ dz_rg r.2.2.2.2.2.2.1 14425 0 16777215 ∧ dz_rg r.2.2.2.2.2.2.2.1 13824 0 13823 ∧ dz_rg r.2.2.2.2.2.2.2.2.1 16 0 16777215) := by
  intro v2 v3 v5 v6 c2_thrown c2_parts a56 a57 a58 a59 a61 a62 a63 i0 i1 i2 i3 i4 i5 i6 i7 i8 i9 i10 i11 hr_a56 hr_a57 hr_a59 hr_a61 hr_a62 hr_a63 x0 x1 x2 x3 x4 x5 hm
  obtain ⟨k0, rfl⟩ : ∃ x, k = x + 1 := ⟨k - 1, by omega⟩
  show dz_T (s83_X12_run_2 fu c2_groups c2_pots c2_ranks c2_draws c2_lawful a48 a49 (F83_X12_run fu c2_groups c2_pots c2_ranks c2_draws c2_lawful a48 a49 k0).2.2.1  v2 v3 v5 v6 c2_thrown c2_parts a56 a57 a58 a59 a61 a62 a63) _
  unfold s83_X12_run_2
  refine dz_Tle (fun h1 => ?_) (fun h1 => ?_)
  · skip
    have e2 := dz_lm1
    refine dz_Ts ?_
    dsimp only
    exact ⟨(by omega), (by omega), (by omega), (by omega), (hr_a56), (hr_a57), (hr_a59), (hr_a61), (hr_a62)⟩
  · skip
    have e3 := dz_l1
    have e4 := dz_sub (a := c2_parts) (b := (1 : Int32)) (by omega) (by omega)
    exact (ih k0 (by omega)).2.2.1 v2 v3 v5 v6 (c2_parts - (1 : Int32)) c2_groups c2_thrown c2_parts a56 a57 a58 a59 a61 a62 a63 (by first | assumption | omega) i0 i1 i2 i3 i4 (by first | assumption | omega) i6 (by omega) (by omega) p0 (by first | assumption | omega) i7 i8 i9 i10 (by first | assumption | omega) (by omega) (hr_a56) (hr_a57) (hr_a59) (hr_a61) (hr_a62) (hr_a63) (by exact x0) (by exact x1) (by exact x2) (by exact x3) (by exact x4) (by exact dz_me0 (by decide) (x5.resolve_left (by omega)) (by show _ = 63; omega)) (by rw [dz_fc0 (by decide) (by show _ = 63; omega) (Nat.le_refl _)]; omega) (by omega)
set_option maxHeartbeats 4000000 in
set_option maxRecDepth 10000 in
theorem t83_X12_run_h3_g3 (fu : Nat) (hfu : 1000000000000 ≤ fu) (c2_groups : Int32) (c2_pots : Int32) (c2_ranks : Int32) (c2_draws : Int32) (c2_lawful : Int32) (a48 : Nat → Int32) (a49 : Nat → Int32) (p0 : c2_groups.toInt ≤ 3) (p1 : 3 ≤ c2_groups.toInt) (p2 : c2_pots.toInt ≤ 4) (p3 : 0 ≤ c2_pots.toInt) (p4 : c2_ranks.toInt ≤ 6) (p5 : 6 ≤ c2_ranks.toInt) (p6 : c2_draws.toInt ≤ 1296) (p7 : 1 ≤ c2_draws.toInt) (p8 : c2_lawful.toInt ≤ 1296) (p9 : 0 ≤ c2_lawful.toInt) (p10 : c2_lawful.toInt ≤ c2_draws.toInt) (hr_a48 : dz_rg a48 100 0 3) (hr_a49 : dz_rg a49 13824 0 1023) (o0 : dz_rw 3 6 a48) (o1 : dz_lf c2_lawful a49 c2_draws.toInt.toNat) (k : Nat) (ih : ∀ j9, j9 < k → p83_X12_run_g3 fu c2_groups c2_pots c2_ranks c2_draws c2_lawful a48 a49 j9) : ∀ (v2 : Int32) (v3 : Int64) (v5 : Int32) (v6 : Int32) (v7 : Int32) (v8 : Int32) (c2_thrown : Int32) (c2_parts : Int32) (a56 : Nat → Int32) (a57 : Nat → Int32) (a58 : Nat → Int32) (a59 : Nat → Int32) (a61 : Nat → Int32) (a62 : Nat → Int32) (a63 : Nat → Int32), 1 ≤ c2_pots.toInt → 1 ≤ c2_lawful.toInt → v2.toInt ≤ 11 → 0 ≤ v2.toInt → v5.toInt ≤ 1295 → 0 ≤ v5.toInt → v6.toInt ≤ 3 → 0 ≤ v6.toInt → v7.toInt ≤ 63 → 0 ≤ v7.toInt → v8.toInt ≤ 3 → 0 ≤ v8.toInt → c2_thrown.toInt ≤ 0 → 0 ≤ c2_thrown.toInt → c2_parts.toInt ≤ 64 → 64 ≤ c2_parts.toInt → v6.toInt + 1 ≤ c2_pots.toInt → v8.toInt ≤ v7.toInt + 2 → dz_rg a56 4 0 3 → dz_rg a57 4 0 3 → dz_rg a59 14425 0 16777215 → dz_rg a61 13824 0 13823 → dz_rg a62 16 0 16777215 → dz_pt a63 [1, 4, 16] → dz_hv 3 6 a62 → dz_lv 6 a58 (c2_pots.toInt.toNat + 1) → dz_MK 6 c2_pots.toInt.toNat a59 0 0 → dz_pm a57 3 → dz_xl 6 v5 v6 → dz_me 3 6 (a59 ((a58 v6.toNatClampNeg) + v5).toNatClampNeg) v7.toInt.toNat → ((dz_fc 3 v7.toInt.toNat 3 : Nat) : Int) = v8.toInt → 0 + 0 + ((4 - v6.toInt) - 1) * 560 + 0 + (v8.toInt - 0) * 130 + 20 ≤ ((k : Nat) : Int) → dz_T ((F83_X12_run fu c2_groups c2_pots c2_ranks c2_draws c2_lawful a48 a49 k).2.2.1 v2 v3 v5 v6 v7 v8 c2_thrown c2_parts a56 a57 a58 a59 a61 a62 a63) (fun r => r.1.toInt ≤ 3 ∧ (-1) ≤ r.1.toInt ∧ r.1.toInt ≤ c2_lawful.toInt + 2 ∧ r.1.toInt ≤ c2_pots.toInt + 2 ∧ dz_rg r.2.2.2.1 4 0 3 ∧ dz_rg r.2.2.2.2.1 4 0 3 ∧ dz_rg r.2.2.2.2.2.2.1 14425 0 16777215 ∧ dz_rg r.2.2.2.2.2.2.2.1 13824 0 13823 ∧ dz_rg r.2.2.2.2.2.2.2.2.1 16 0 16777215) := by
  intro v2 v3 v5 v6 v7 v8 c2_thrown c2_parts a56 a57 a58 a59 a61 a62 a63 i0 i1 i2 i3 i4 i5 i6 i7 i8 i9 i10 i11 i12 i13 i14 i15 i16 i17 hr_a56 hr_a57 hr_a59 hr_a61 hr_a62 hr_a63 x0 x1 x2 x3 x4 x5 x6 hm
  obtain ⟨k0, rfl⟩ : ∃ x, k = x + 1 := ⟨k - 1, by omega⟩
  show dz_T (s83_X12_run_3 fu c2_groups c2_pots c2_ranks c2_draws c2_lawful a48 a49 (F83_X12_run fu c2_groups c2_pots c2_ranks c2_draws c2_lawful a48 a49 k0).2.1 (F83_X12_run fu c2_groups c2_pots c2_ranks c2_draws c2_lawful a48 a49 k0).2.2.2.1  v2 v3 v5 v6 v7 v8 c2_thrown c2_parts a56 a57 a58 a59 a61 a62 a63) _
  unfold s83_X12_run_3
  have hlx := dz_lvx x1 x4 5 1555 (by decide) (by decide) (by omega) (by omega) (by omega)
  have e1 := dz_l0
  refine dz_Tle (fun h2 => ?_) (fun h2 => ?_)
  · skip
    refine dz_Tz (by omega) ?_
    have e3 := dz_divn (a := v2) (b := c2_groups) 3 (by omega) (by omega) (by omega)
    refine dz_Teq (fun h4 => ?_) (fun h4 => ?_)
    · skip
      refine dz_Tz (by omega) ?_
      have e5 := dz_remn (a := v2) (b := c2_groups) 3 (by omega) (by omega) (by omega)
      refine dz_Tb (t50_X12_digit_g3 fu hfu _ _ _ _ p0 p1 i9 i8 (by omega) (by omega) (hr_a63)) (fun r1 q => ?_)
      obtain ⟨q1_0, q1_1, q1_2, qo1_0⟩ := q
      have hdg := qo1_0
      refine dz_Ts ?_
      dsimp only
      exact ⟨q1_0, (by first | assumption | omega), (by first | assumption | omega), (by first | assumption | omega), (hr_a56), (hr_a57), (hr_a59), (hr_a61), (hr_a62)⟩
    · skip
      refine dz_Tb (t55_X12_rankOf_g3 fu hfu _ _ _ _ _ p0 p1 p4 p5 i9 i8 (hr_a62) (hr_a63) (x0) (dz_mf x5)) (fun r2 q => ?_)
      obtain ⟨q2_0, q2_1, qo2_0, qo2_1⟩ := q
      have hl1 := dz_l1
      have hk1 := dz_add (a := v6) (b := 1) (by omega) (by omega)
      have hm1 := dz_mulr (a := v5) (b := c2_ranks) 6 (by omega) (by omega) (by omega)
      have hm2 := dz_add (a := v5 * c2_ranks) (b := r2) (by omega) (by omega)
      have hx2 : dz_xl 6 ((v5 * c2_ranks) + r2) (v6 + 1) := dz_xls x4 (by omega) (by omega) (r := r2) (by omega) (by omega) (by omega)
      have hb2 := dz_xlb hx2 4 1296 (by decide) (by decide) (by omega)
      have hbt : dz_bit (a59 ((a58 v6.toNatClampNeg) + v5).toNatClampNeg) (r2).toInt.toNat := dz_runR (by decide) (by decide) x5 x6 (by omega) (by omega) qo2_1
      have hm3 : c2_pots.toInt ≤ (v6 + 1).toInt ∨ dz_mz 6 (a59 ((a58 (v6 + 1).toNatClampNeg) + ((v5 * c2_ranks) + r2)).toNatClampNeg) := dz_orn (fun hn => dz_MKn (k := v6) (x := v5) (r := r2) (i := (a58 v6.toNatClampNeg) + v5) x2 x1 (by omega) (by omega) (by omega) (by omega) (dz_xln x4) (by omega) (by omega) (by omega) hbt ⟨v6 + 1, by omega, by have := dz_lvx x1 hx2 5 1555 (by decide) (by decide) (by omega) (by omega) (by omega); omega⟩)
      have e6 := dz_mulr (a := v5) (b := c2_ranks) 6 (by omega) (by omega) (by omega)
      have e7 := dz_add (a := (v5 * c2_ranks)) (b := r2) (by omega) (by omega)
      have e8 := dz_l1
      have e9 := dz_add (a := v6) (b := (1 : Int32)) (by omega) (by omega)
      exact (ih k0 (by omega)).2.1 v2 v3 ((v5 * c2_ranks) + r2) (v6 + (1 : Int32)) c2_thrown c2_parts a56 a57 a58 a59 a61 a62 a63 i1 i2 i3 (by omega) (by omega) (by omega) (by omega) i12 i13 i14 i15 (by omega) (hr_a56) (hr_a57) (hr_a59) (hr_a61) (hr_a62) (hr_a63) (by exact x0) (by exact x1) (by exact x2) (by exact x3) (by exact hx2) (by exact hm3) (by omega)
  · skip
    refine dz_Tb (dz_cnx fu _) (fun r3 hcn => ?_)
    have hrm := dz_rmk (x := r3) (v := v8) hcn.1 hcn.2 (by omega)
    refine dz_Tg (dz_nz64 (by omega)) ?_
    generalize (dz_reml (r3 / 65536) v8.toInt64).toInt32 = z1 at *
    exact (ih k0 (by omega)).2.2.2 v2 r3 v5 v6 v7 v8 z1 (0 : Int32) c2_thrown c2_parts a56 a57 a58 a59 a61 a62 a63 i0 i1 i2 i3 i4 i5 i6 i7 i8 i9 i10 (by first | assumption | omega) (by omega) (by omega) (by omega) (by omega) i12 i13 i14 i15 i16 i17 (hr_a56) (hr_a57) (hr_a59) (hr_a61) (hr_a62) (hr_a63) (by exact x0) (by exact x1) (by exact x2) (by exact x3) (by exact x4) (by exact x5) (by exact x6) (by exact dz_sk0 x6 (by omega) (by omega) (by omega)) (by omega)
set_option maxHeartbeats 4000000 in
set_option maxRecDepth 10000 in
theorem t83_X12_run_h4_g3 (fu : Nat) (hfu : 1000000000000 ≤ fu) (c2_groups : Int32) (c2_pots : Int32) (c2_ranks : Int32) (c2_draws : Int32) (c2_lawful : Int32) (a48 : Nat → Int32) (a49 : Nat → Int32) (p0 : c2_groups.toInt ≤ 3) (p1 : 3 ≤ c2_groups.toInt) (p2 : c2_pots.toInt ≤ 4) (p3 : 0 ≤ c2_pots.toInt) (p4 : c2_ranks.toInt ≤ 6) (p5 : 6 ≤ c2_ranks.toInt) (p6 : c2_draws.toInt ≤ 1296) (p7 : 1 ≤ c2_draws.toInt) (p8 : c2_lawful.toInt ≤ 1296) (p9 : 0 ≤ c2_lawful.toInt) (p10 : c2_lawful.toInt ≤ c2_draws.toInt) (hr_a48 : dz_rg a48 100 0 3) (hr_a49 : dz_rg a49 13824 0 1023) (o0 : dz_rw 3 6 a48) (o1 : dz_lf c2_lawful a49 c2_draws.toInt.toNat) (k : Nat) (ih : ∀ j9, j9 < k → p83_X12_run_g3 fu c2_groups c2_pots c2_ranks c2_draws c2_lawful a48 a49 j9) : ∀ (v2 : Int32) (v3 : Int64) (v5 : Int32) (v6 : Int32) (v7 : Int32) (v8 : Int32) (v9 : Int32) (v10 : Int32) (c2_thrown : Int32) (c2_parts : Int32) (a56 : Nat → Int32) (a57 : Nat → Int32) (a58 : Nat → Int32) (a59 : Nat → Int32) (a61 : Nat → Int32) (a62 : Nat → Int32) (a63 : Nat → Int32), 1 ≤ c2_pots.toInt → 1 ≤ c2_lawful.toInt → v2.toInt ≤ 11 → 0 ≤ v2.toInt → v5.toInt ≤ 1295 → 0 ≤ v5.toInt → v6.toInt ≤ 3 → 0 ≤ v6.toInt → v7.toInt ≤ 63 → 0 ≤ v7.toInt → v8.toInt ≤ 3 → 1 ≤ v8.toInt → v9.toInt ≤ 3 → 0 ≤ v9.toInt → v10.toInt ≤ 3 → 0 ≤ v10.toInt → c2_thrown.toInt ≤ 0 → 0 ≤ c2_thrown.toInt → c2_parts.toInt ≤ 64 → 64 ≤ c2_parts.toInt → v6.toInt + 1 ≤ c2_pots.toInt → v8.toInt ≤ v7.toInt + 2 → dz_rg a56 4 0 3 → dz_rg a57 4 0 3 → dz_rg a59 14425 0 16777215 → dz_rg a61 13824 0 13823 → dz_rg a62 16 0 16777215 → dz_pt a63 [1, 4, 16] → dz_hv 3 6 a62 → dz_lv 6 a58 (c2_pots.toInt.toNat + 1) → dz_MK 6 c2_pots.toInt.toNat a59 0 0 → dz_pm a57 3 → dz_xl 6 v5 v6 → dz_me 3 6 (a59 ((a58 v6.toNatClampNeg) + v5).toNatClampNeg) v7.toInt.toNat → ((dz_fc 3 v7.toInt.toNat 3 : Nat) : Int) = v8.toInt → dz_sk 3 v7.toInt.toNat v9 v10 → 0 + 0 + ((4 - v6.toInt) - 1) * 560 + 0 + ((v8.toInt - 0) - 1) * 130 + 0 + (3 - v10.toInt) * 20 + 30 ≤ ((k : Nat) : Int) → dz_T ((F83_X12_run fu c2_groups c2_pots c2_ranks c2_draws c2_lawful a48 a49 k).2.2.2.1 v2 v3 v5 v6 v7 v8 v9 v10 c2_thrown c2_parts a56 a57 a58 a59 a61 a62 a63) (fun r => r.1.toInt ≤ 3 ∧ (-1) ≤ r.1.toInt ∧ r.1.toInt ≤ c2_lawful.toInt + 2 ∧ r.1.toInt ≤ c2_pots.toInt + 2 ∧ dz_rg r.2.2.2.1 4 0 3 ∧ dz_rg r.2.2.2.2.1 4 0 3 ∧ dz_rg r.2.2.2.2.2.2.1 14425 0 16777215 ∧ dz_rg r.2.2.2.2.2.2.2.1 13824 0 13823 ∧ dz_rg r.2.2.2.2.2.2.2.2.1 16 0 16777215) := by
  intro v2 v3 v5 v6 v7 v8 v9 v10 c2_thrown c2_parts a56 a57 a58 a59 a61 a62 a63 i0 i1 i2 i3 i4 i5 i6 i7 i8 i9 i10 i11 i12 i13 i14 i15 i16 i17 i18 i19 i20 i21 hr_a56 hr_a57 hr_a59 hr_a61 hr_a62 hr_a63 x0 x1 x2 x3 x4 x5 x6 x7 hm
  obtain ⟨k0, rfl⟩ : ∃ x, k = x + 1 := ⟨k - 1, by omega⟩
  show dz_T (s83_X12_run_4 fu c2_groups c2_pots c2_ranks c2_draws c2_lawful a48 a49 (F83_X12_run fu c2_groups c2_pots c2_ranks c2_draws c2_lawful a48 a49 k0).2.2.1 (F83_X12_run fu c2_groups c2_pots c2_ranks c2_draws c2_lawful a48 a49 k0).2.2.2.2.1  v2 v3 v5 v6 v7 v8 v9 v10 c2_thrown c2_parts a56 a57 a58 a59 a61 a62 a63) _
  unfold s83_X12_run_4
  have hlx := dz_lvx x1 x4 5 1555 (by decide) (by decide) (by omega) (by omega) (by omega)
  have hsk := dz_skl x7
  refine dz_Tb (t50_X12_digit_g3 fu hfu _ _ _ _ p0 p1 i9 i8 i15 (by first | assumption | omega) (hr_a63)) (fun r1 q => ?_)
  obtain ⟨q1_0, q1_1, q1_2, qo1_0⟩ := q
  have hdg := qo1_0
  refine dz_Tlt (fun h1 => ?_) (fun h1 => ?_)
  · skip
    obtain ⟨k1, rfl⟩ : ∃ x, k0 = x + 1 := ⟨k0 - 1, by omega⟩
    show dz_T (s83_X12_run_5 fu c2_groups c2_pots c2_ranks c2_draws c2_lawful a48 a49 (F83_X12_run fu c2_groups c2_pots c2_ranks c2_draws c2_lawful a48 a49 k1).2.2.2.2.2 v2 v3 v5 v6 v7 v8 v9 v10 c2_thrown c2_parts a56 a57 a58 a59 a61 a62 a63) _
    unfold s83_X12_run_5
    refine dz_Tb (t50_X12_digit_g3 fu hfu _ _ _ _ p0 p1 i9 i8 i15 (by first | assumption | omega) (hr_a63)) (fun r2 q => ?_)
    obtain ⟨q2_0, q2_1, q2_2, qo2_0⟩ := q
    have hdg := qo2_0
    refine dz_Tle (fun h2 => ?_) (fun h2 => ?_)
    · skip
      obtain ⟨k2, rfl⟩ : ∃ x, k1 = x + 1 := ⟨k1 - 1, by omega⟩
      show dz_T (s83_X12_run_6 fu c2_groups c2_pots c2_ranks c2_draws c2_lawful a48 a49 (F83_X12_run fu c2_groups c2_pots c2_ranks c2_draws c2_lawful a48 a49 k2).2.2.2.1 v2 v3 v5 v6 v7 v8 v10 (1 : Int32) v9 c2_thrown c2_parts a56 a57 a58 a59 a61 a62 a63) _
      unfold s83_X12_run_6
      have e3 := dz_l1
      have e4 := dz_sub (a := v9) (b := (1 : Int32)) (by omega) (by omega)
      have e5 := dz_add (a := v10) (b := (1 : Int32)) (by omega) (by omega)
      exact (ih k2 (by omega)).2.2.2 v2 v3 v5 v6 v7 v8 (v9 - (1 : Int32)) (v10 + (1 : Int32)) c2_thrown c2_parts a56 a57 a58 a59 a61 a62 a63 i0 i1 i2 i3 i4 i5 i6 i7 i8 i9 i10 i11 (by omega) (by omega) (by omega) (by omega) i16 i17 i18 i19 i20 i21 (hr_a56) (hr_a57) (hr_a59) (hr_a61) (hr_a62) (hr_a63) (by exact x0) (by exact x1) (by exact x2) (by exact x3) (by exact x4) (by exact x5) (by exact x6) (by exact dz_sks x7 hdg (by omega) (by omega)) (by omega)
    · skip
      obtain ⟨k3, rfl⟩ : ∃ x, k1 = x + 1 := ⟨k1 - 1, by omega⟩
      show dz_T (s83_X12_run_6 fu c2_groups c2_pots c2_ranks c2_draws c2_lawful a48 a49 (F83_X12_run fu c2_groups c2_pots c2_ranks c2_draws c2_lawful a48 a49 k3).2.2.2.1 v2 v3 v5 v6 v7 v8 v10 (0 : Int32) v9 c2_thrown c2_parts a56 a57 a58 a59 a61 a62 a63) _
      unfold s83_X12_run_6
      have e6 := dz_l0
      have e7 := dz_sub (a := v9) (b := (0 : Int32)) (by omega) (by omega)
      have e8 := dz_l1
      have e9 := dz_add (a := v10) (b := (1 : Int32)) (by omega) (by omega)
      exact (ih k3 (by omega)).2.2.2 v2 v3 v5 v6 v7 v8 (v9 - (0 : Int32)) (v10 + (1 : Int32)) c2_thrown c2_parts a56 a57 a58 a59 a61 a62 a63 i0 i1 i2 i3 i4 i5 i6 i7 i8 i9 i10 i11 (by omega) (by omega) (by omega) (by omega) i16 i17 i18 i19 i20 i21 (hr_a56) (hr_a57) (hr_a59) (hr_a61) (hr_a62) (hr_a63) (by exact x0) (by exact x1) (by exact x2) (by exact x3) (by exact x4) (by exact x5) (by exact x6) (by exact dz_sks x7 hdg (by omega) (by omega)) (by omega)
  · skip
    have e10 := dz_l0
    refine dz_Tle (fun h11 => ?_) (fun h11 => ?_)
    · skip
      refine dz_Tin (by omega) (by omega) ?_
      have e12 := dz_rng (a58 v6.toNatClampNeg)
      refine dz_Tin (by omega) (by omega) ?_
      have e13 := dz_rgat (hr_a59) (i := ((a58 v6.toNatClampNeg) + v5)) (by omega) (by omega)
      refine dz_Tb (t68_X12_putOne_g3 fu hfu _ _ _ _ _ _ _ p0 p1 i9 i8 i15 (by first | assumption | omega) (by omega) (by omega) (hr_a57) (hr_a62) (hr_a63) (x0) (x3) (x5) (dz_dgG hdg (by omega))) (fun r3 q => ?_)
      obtain ⟨q3_0, q3_1, qo3_0, qo3_1, qo3_2⟩ := q
      have hpo := qo3_0
      have e14 := dz_lm1
      have e15 := dz_add (a := v8) (b := (-(1 : Int32))) (by omega) (by omega)
      generalize (v8 + (-(1 : Int32))) = z4 at *
      exact (ih k0 (by omega)).2.2.1 v2 v3 v5 v6 r3 z4 c2_thrown c2_parts a56 a57 a58 a59 a61 a62 a63 i0 i1 i2 i3 i4 i5 i6 i7 q3_0 (by first | assumption | omega) (by omega) (by omega) i16 i17 i18 i19 i20 (by omega) (hr_a56) (hr_a57) (hr_a59) (hr_a61) (hr_a62) (hr_a63) (by exact x0) (by exact x1) (by exact x2) (by exact x3) (by exact x4) (by exact hpo.1) (by exact dz_fcs hpo (dz_dgG hdg (by omega)) (by omega) x6 (by omega)) (by omega)
    · skip
      obtain ⟨k5, rfl⟩ : ∃ x, k0 = x + 1 := ⟨k0 - 1, by omega⟩
      show dz_T (s83_X12_run_5 fu c2_groups c2_pots c2_ranks c2_draws c2_lawful a48 a49 (F83_X12_run fu c2_groups c2_pots c2_ranks c2_draws c2_lawful a48 a49 k5).2.2.2.2.2 v2 v3 v5 v6 v7 v8 v9 v10 c2_thrown c2_parts a56 a57 a58 a59 a61 a62 a63) _
      unfold s83_X12_run_5
      refine dz_Tb (t50_X12_digit_g3 fu hfu _ _ _ _ p0 p1 i9 i8 i15 (by first | assumption | omega) (hr_a63)) (fun r4 q => ?_)
      obtain ⟨q4_0, q4_1, q4_2, qo4_0⟩ := q
      have hdg := qo4_0
      refine dz_Tle (fun h16 => ?_) (fun h16 => ?_)
      · skip
        obtain ⟨k6, rfl⟩ : ∃ x, k5 = x + 1 := ⟨k5 - 1, by omega⟩
        show dz_T (s83_X12_run_6 fu c2_groups c2_pots c2_ranks c2_draws c2_lawful a48 a49 (F83_X12_run fu c2_groups c2_pots c2_ranks c2_draws c2_lawful a48 a49 k6).2.2.2.1 v2 v3 v5 v6 v7 v8 v10 (1 : Int32) v9 c2_thrown c2_parts a56 a57 a58 a59 a61 a62 a63) _
        unfold s83_X12_run_6
        have e17 := dz_l1
        have e18 := dz_sub (a := v9) (b := (1 : Int32)) (by omega) (by omega)
        have e19 := dz_add (a := v10) (b := (1 : Int32)) (by omega) (by omega)
        exact (ih k6 (by omega)).2.2.2 v2 v3 v5 v6 v7 v8 (v9 - (1 : Int32)) (v10 + (1 : Int32)) c2_thrown c2_parts a56 a57 a58 a59 a61 a62 a63 i0 i1 i2 i3 i4 i5 i6 i7 i8 i9 i10 i11 (by omega) (by omega) (by omega) (by omega) i16 i17 i18 i19 i20 i21 (hr_a56) (hr_a57) (hr_a59) (hr_a61) (hr_a62) (hr_a63) (by exact x0) (by exact x1) (by exact x2) (by exact x3) (by exact x4) (by exact x5) (by exact x6) (by exact dz_sks x7 hdg (by omega) (by omega)) (by omega)
      · skip
        obtain ⟨k7, rfl⟩ : ∃ x, k5 = x + 1 := ⟨k5 - 1, by omega⟩
        show dz_T (s83_X12_run_6 fu c2_groups c2_pots c2_ranks c2_draws c2_lawful a48 a49 (F83_X12_run fu c2_groups c2_pots c2_ranks c2_draws c2_lawful a48 a49 k7).2.2.2.1 v2 v3 v5 v6 v7 v8 v10 (0 : Int32) v9 c2_thrown c2_parts a56 a57 a58 a59 a61 a62 a63) _
        unfold s83_X12_run_6
        have e20 := dz_sub (a := v9) (b := (0 : Int32)) (by omega) (by omega)
        have e21 := dz_l1
        have e22 := dz_add (a := v10) (b := (1 : Int32)) (by omega) (by omega)
        exact (ih k7 (by omega)).2.2.2 v2 v3 v5 v6 v7 v8 (v9 - (0 : Int32)) (v10 + (1 : Int32)) c2_thrown c2_parts a56 a57 a58 a59 a61 a62 a63 i0 i1 i2 i3 i4 i5 i6 i7 i8 i9 i10 i11 (by omega) (by omega) (by omega) (by omega) i16 i17 i18 i19 i20 i21 (hr_a56) (hr_a57) (hr_a59) (hr_a61) (hr_a62) (hr_a63) (by exact x0) (by exact x1) (by exact x2) (by exact x3) (by exact x4) (by exact x5) (by exact x6) (by exact dz_sks x7 hdg (by omega) (by omega)) (by omega)
theorem t83_X12_run_I_g3 (fu : Nat) (hfu : 1000000000000 ≤ fu) (c2_groups : Int32) (c2_pots : Int32) (c2_ranks : Int32) (c2_draws : Int32) (c2_lawful : Int32) (a48 : Nat → Int32) (a49 : Nat → Int32) (p0 : c2_groups.toInt ≤ 3) (p1 : 3 ≤ c2_groups.toInt) (p2 : c2_pots.toInt ≤ 4) (p3 : 0 ≤ c2_pots.toInt) (p4 : c2_ranks.toInt ≤ 6) (p5 : 6 ≤ c2_ranks.toInt) (p6 : c2_draws.toInt ≤ 1296) (p7 : 1 ≤ c2_draws.toInt) (p8 : c2_lawful.toInt ≤ 1296) (p9 : 0 ≤ c2_lawful.toInt) (p10 : c2_lawful.toInt ≤ c2_draws.toInt) (hr_a48 : dz_rg a48 100 0 3) (hr_a49 : dz_rg a49 13824 0 1023) (o0 : dz_rw 3 6 a48) (o1 : dz_lf c2_lawful a49 c2_draws.toInt.toNat) (k : Nat) : p83_X12_run_g3 fu c2_groups c2_pots c2_ranks c2_draws c2_lawful a48 a49 k := by
  induction k using Nat.strongRecOn with
  | _ k ih => exact ⟨t83_X12_run_h1_g3 fu hfu c2_groups c2_pots c2_ranks c2_draws c2_lawful a48 a49 p0 p1 p2 p3 p4 p5 p6 p7 p8 p9 p10 hr_a48 hr_a49 o0 o1 k ih, t83_X12_run_h2_g3 fu hfu c2_groups c2_pots c2_ranks c2_draws c2_lawful a48 a49 p0 p1 p2 p3 p4 p5 p6 p7 p8 p9 p10 hr_a48 hr_a49 o0 o1 k ih, t83_X12_run_h3_g3 fu hfu c2_groups c2_pots c2_ranks c2_draws c2_lawful a48 a49 p0 p1 p2 p3 p4 p5 p6 p7 p8 p9 p10 hr_a48 hr_a49 o0 o1 k ih, t83_X12_run_h4_g3 fu hfu c2_groups c2_pots c2_ranks c2_draws c2_lawful a48 a49 p0 p1 p2 p3 p4 p5 p6 p7 p8 p9 p10 hr_a48 hr_a49 o0 o1 k ih⟩
set_option maxHeartbeats 4000000 in
set_option maxRecDepth 10000 in
theorem t83_X12_run_E_g3 (fu : Nat) (hfu : 1000000000000 ≤ fu) (c2_groups : Int32) (c2_pots : Int32) (c2_ranks : Int32) (c2_draws : Int32) (c2_lawful : Int32) (a48 : Nat → Int32) (a49 : Nat → Int32) (v1 : Int32) (v2 : Int32) (c2_thrown : Int32) (c2_parts : Int32) (a56 : Nat → Int32) (a57 : Nat → Int32) (a58 : Nat → Int32) (a59 : Nat → Int32) (a61 : Nat → Int32) (a62 : Nat → Int32) (a63 : Nat → Int32) (p0 : c2_groups.toInt ≤ 3) (p1 : 3 ≤ c2_groups.toInt) (p2 : c2_pots.toInt ≤ 4) (p3 : 0 ≤ c2_pots.toInt) (p4 : c2_ranks.toInt ≤ 6) (p5 : 6 ≤ c2_ranks.toInt) (p6 : c2_draws.toInt ≤ 1296) (p7 : 1 ≤ c2_draws.toInt) (p8 : c2_lawful.toInt ≤ 1296) (p9 : 0 ≤ c2_lawful.toInt) (p10 : c2_lawful.toInt ≤ c2_draws.toInt) (hr_a48 : dz_rg a48 100 0 3) (hr_a49 : dz_rg a49 13824 0 1023) (hr_a56 : dz_rg a56 4 0 3) (hr_a57 : dz_rg a57 4 0 3) (hr_a59 : dz_rg a59 14425 0 16777215) (hr_a61 : dz_rg a61 13824 0 13823) (hr_a62 : dz_rg a62 16 0 16777215) (o0 : dz_rw 3 6 a48) (o1 : dz_lf c2_lawful a49 c2_draws.toInt.toNat) (kv : Nat) (hkv : 1000000000000 ≤ kv) : dz_T (s83_X12_run_0 fu c2_groups c2_pots c2_ranks c2_draws c2_lawful a48 a49 (F83_X12_run fu c2_groups c2_pots c2_ranks c2_draws c2_lawful a48 a49 kv).1  v1 v2 c2_thrown c2_parts a56 a57 a58 a59 a61 a62 a63) (fun r => r.1.toInt ≤ 3 ∧ (-1) ≤ r.1.toInt ∧ r.1.toInt ≤ c2_lawful.toInt + 2 ∧ r.1.toInt ≤ c2_pots.toInt + 2 ∧ dz_rg r.2.2.2.1 4 0 3 ∧ dz_rg r.2.2.2.2.1 4 0 3 ∧ dz_rg r.2.2.2.2.2.2.1 14425 0 16777215 ∧ dz_rg r.2.2.2.2.2.2.2.1 13824 0 13823 ∧ dz_rg r.2.2.2.2.2.2.2.2.1 16 0 16777215) := by
  unfold s83_X12_run_0
  have e1 := dz_l0
  refine dz_Tlt (fun h2 => ?_) (fun h2 => ?_)
  · skip
    have e3 := dz_lm1
    refine dz_Ts ?_
    dsimp only
    exact ⟨(by omega), (by omega), (by omega), (by omega), (hr_a56), (hr_a57), (hr_a59), (hr_a61), (hr_a62)⟩
  · skip
    refine dz_Tbe (show f31_X12_isTeam fu c2_groups c2_pots v2 = (if (v2 < (0 : Int32)) then (some (0 : Int32)) else (Option.bind (f9_X12_teams fu c2_groups c2_pots) (fun b2 => (if (b2 ≤ v2) then (some (0 : Int32)) else (some (1 : Int32)))))) from rfl) ?_
    refine dz_Tltb (fun h4 => ?_) (fun h4 => ?_)
    · skip
      refine dz_Tsb ?_
      refine dz_Teq (fun h5 => ?_) (fun h5 => ?_)
      · skip
        have e6 := dz_lm1
        refine dz_Ts ?_
        dsimp only
        exact ⟨(by omega), (by omega), (by omega), (by omega), (hr_a56), (hr_a57), (hr_a59), (hr_a61), (hr_a62)⟩
      · skip
        exfalso; omega
    · skip
      refine dz_Tba ?_
      refine dz_Tb (t9_X12_teams_g3 fu hfu _ _ p0 p1 p2 p3) (fun r3 q => ?_)
      obtain ⟨q3_0, q3_1, qo3_0⟩ := q
      refine dz_Tleb (fun h7 => ?_) (fun h7 => ?_)
      · skip
        refine dz_Tsb ?_
        refine dz_Teq (fun h8 => ?_) (fun h8 => ?_)
        · skip
          have e9 := dz_lm1
          refine dz_Ts ?_
          dsimp only
          exact ⟨(by omega), (by omega), (by omega), (by omega), (hr_a56), (hr_a57), (hr_a59), (hr_a61), (hr_a62)⟩
        · skip
          exfalso; omega
      · skip
        refine dz_Tsb ?_
        have e10 := dz_l1
        refine dz_Teq (fun h11 => ?_) (fun h11 => ?_)
        · skip
          exfalso; omega
        · skip
          refine dz_Teq (fun h12 => ?_) (fun h12 => ?_)
          · skip
            have e13 := dz_lm1
            refine dz_Ts ?_
            dsimp only
            exact ⟨(by omega), (by omega), (by omega), (by omega), (hr_a56), (hr_a57), (hr_a59), (hr_a61), (hr_a62)⟩
          · skip
            exact (t83_X12_run_I_g3 fu hfu c2_groups c2_pots c2_ranks c2_draws c2_lawful a48 a49 p0 p1 p2 p3 p4 p5 p6 p7 p8 p9 p10 hr_a48 hr_a49 o0 o1 kv).1 v1 v2 (0 : Int32) (0 : Int32) c2_parts a56 a57 a58 a59 a61 a62 a63 (by first | assumption | omega) (by first | assumption | omega) (by first | assumption | omega) (by first | assumption | omega) (by omega) (by omega) (by omega) (by omega) (hr_a56) (hr_a57) (hr_a59) (hr_a61) (hr_a62) (by exact dz_id0 (by omega)) (by exact dz_id0 (by omega)) (by omega)
theorem t83_X12_run_g3 (fu : Nat) (hfu : 1000000000000 ≤ fu) (c2_groups : Int32) (c2_pots : Int32) (c2_ranks : Int32) (c2_draws : Int32) (c2_lawful : Int32) (a48 : Nat → Int32) (a49 : Nat → Int32) (v1 : Int32) (v2 : Int32) (c2_thrown : Int32) (c2_parts : Int32) (a56 : Nat → Int32) (a57 : Nat → Int32) (a58 : Nat → Int32) (a59 : Nat → Int32) (a61 : Nat → Int32) (a62 : Nat → Int32) (a63 : Nat → Int32) (p0 : c2_groups.toInt ≤ 3) (p1 : 3 ≤ c2_groups.toInt) (p2 : c2_pots.toInt ≤ 4) (p3 : 0 ≤ c2_pots.toInt) (p4 : c2_ranks.toInt ≤ 6) (p5 : 6 ≤ c2_ranks.toInt) (p6 : c2_draws.toInt ≤ 1296) (p7 : 1 ≤ c2_draws.toInt) (p8 : c2_lawful.toInt ≤ 1296) (p9 : 0 ≤ c2_lawful.toInt) (p10 : c2_lawful.toInt ≤ c2_draws.toInt) (hr_a48 : dz_rg a48 100 0 3) (hr_a49 : dz_rg a49 13824 0 1023) (hr_a56 : dz_rg a56 4 0 3) (hr_a57 : dz_rg a57 4 0 3) (hr_a59 : dz_rg a59 14425 0 16777215) (hr_a61 : dz_rg a61 13824 0 13823) (hr_a62 : dz_rg a62 16 0 16777215) (o0 : dz_rw 3 6 a48) (o1 : dz_lf c2_lawful a49 c2_draws.toInt.toNat) : dz_T (f83_X12_run fu c2_groups c2_pots c2_ranks c2_draws c2_lawful a48 a49 v1 v2 c2_thrown c2_parts a56 a57 a58 a59 a61 a62 a63) (fun r => r.1.toInt ≤ 3 ∧ (-1) ≤ r.1.toInt ∧ r.1.toInt ≤ c2_lawful.toInt + 2 ∧ r.1.toInt ≤ c2_pots.toInt + 2 ∧ dz_rg r.2.2.2.1 4 0 3 ∧ dz_rg r.2.2.2.2.1 4 0 3 ∧ dz_rg r.2.2.2.2.2.2.1 14425 0 16777215 ∧ dz_rg r.2.2.2.2.2.2.2.1 13824 0 13823 ∧ dz_rg r.2.2.2.2.2.2.2.2.1 16 0 16777215) :=
  t83_X12_run_E_g3 fu hfu c2_groups c2_pots c2_ranks c2_draws c2_lawful a48 a49 v1 v2 c2_thrown c2_parts a56 a57 a58 a59 a61 a62 a63 p0 p1 p2 p3 p4 p5 p6 p7 p8 p9 p10 hr_a48 hr_a49 hr_a56 hr_a57 hr_a59 hr_a61 hr_a62 o0 o1 fu hfu
