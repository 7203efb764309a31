abbrev p81_X12_mixed_g2 (fu : Nat) (c2_groups : Int32) (c2_pots : Int32) (c2_ranks : Int32) (c2_draws : Int32) (c2_lawful : Int32) (a48 : Nat → Int32) (a49 : Nat → Int32) (a52 : Nat → Int32) (a53 : Nat → Int32) (k : Nat) : Prop :=
  (∀ (v3 : Int64) (v5 : Int32) (c2_thrown : Int32) (c2_parts : Int32) (c2_rowsInAll : Int64) (a56 : Nat → Int32) (a57 : Nat → Int32) (a58 : Nat → Int32) (a59 : Nat → Int32) (a61 : Nat → Int32) (a62 : Nat → Int32) (a63 : Nat → Int32) (a69 : Nat → Int32) (a70 : Nat → Int32) (a71 : Nat → Int32) (a72 : Nat → Int32), 1 ≤ c2_lawful.toInt → v5.toInt ≤ 16 → 0 ≤ v5.toInt → c2_thrown.toInt ≤ 0 → 0 ≤ c2_thrown.toInt → v5.toInt ≤ c2_draws.toInt → dz_rg a56 4 0 3 → dz_rg a57 4 0 3 → dz_rg a59 14425 0 16777215 → dz_rg a61 13824 0 13823 → dz_rg a62 16 0 16777215 → dz_pt a63 [1, 3] → 0 + 0 + (16 - v5.toInt) * 14 + 7 ≤ ((k : Nat) : Int) → dz_T ((F81_X12_mixed fu c2_groups c2_pots c2_ranks c2_draws c2_lawful a48 a49 a52 a53 k).1 v3 v5 c2_thrown c2_parts c2_rowsInAll a56 a57 a58 a59 a61 a62 a63 a69 a70 a71 a72) (fun r => dz_rg r.2.2.2.2.1 4 0 3 ∧ dz_rg r.2.2.2.2.2.1 4 0 3 ∧ dz_rg r.2.2.2.2.2.2.2.1 14425 0 16777215 ∧ dz_rg r.2.2.2.2.2.2.2.2.1 13824 0 13823 ∧ dz_rg r.2.2.2.2.2.2.2.2.2.1 16 0 16777215))
set_option maxHeartbeats 4000000 in
set_option maxRecDepth 10000 in
theorem t81_X12_mixed_h1_g2 (fu : Nat) (hfu : 1000000000000 ≤ fu) (c2_groups : Int32) (c2_pots : Int32) (c2_ranks : Int32) (c2_draws : Int32) (c2_lawful : Int32) (a48 : Nat → Int32) (a49 : Nat → Int32) (a52 : Nat → Int32) (a53 : Nat → Int32) (p0 : c2_groups.toInt ≤ 2) (p1 : 2 ≤ c2_groups.toInt) (p2 : c2_pots.toInt ≤ 4) (p3 : 0 ≤ c2_pots.toInt) (p4 : c2_ranks.toInt ≤ 2) (p5 : 2 ≤ c2_ranks.toInt) (p6 : c2_draws.toInt ≤ 16) (p7 : 1 ≤ c2_draws.toInt) (p8 : c2_lawful.toInt ≤ 16) (p9 : 0 ≤ c2_lawful.toInt) (p10 : c2_lawful.toInt ≤ c2_draws.toInt) (hr_a48 : dz_rg a48 100 0 3) (hr_a49 : dz_rg a49 13824 0 1023) (hr_a52 : dz_rg a52 4 0 3) (hr_a53 : dz_rg a53 4 0 3) (o0 : dz_pm a52 c2_pots.toInt.toNat) (o1 : dz_pm a53 2) (o2 : dz_rw 2 2 a48) (o3 : dz_lf c2_lawful a49 c2_draws.toInt.toNat) (k : Nat) (ih : ∀ j9, j9 < k → p81_X12_mixed_g2 fu c2_groups c2_pots c2_ranks c2_draws c2_lawful a48 a49 a52 a53 j9) : ∀ (v3 : Int64) (v5 : Int32) (c2_thrown : Int32) (c2_parts : Int32) (c2_rowsInAll : Int64) (a56 : Nat → Int32) (a57 : Nat → Int32) (a58 : Nat → Int32) (a59 : Nat → Int32) (a61 : Nat → Int32) (a62 : Nat → Int32) (a63 : Nat → Int32) (a69 : Nat → Int32) (a70 : Nat → Int32) (a71 : Nat → Int32) (a72 : Nat → Int32), 1 ≤ c2_lawful.toInt → v5.toInt ≤ 16 → 0 ≤ v5.toInt → c2_thrown.toInt ≤ 0 → 0 ≤ c2_thrown.toInt → v5.toInt ≤ c2_draws.toInt → dz_rg a56 4 0 3 → dz_rg a57 4 0 3 → dz_rg a59 14425 0 16777215 → dz_rg a61 13824 0 13823 → dz_rg a62 16 0 16777215 → dz_pt a63 [1, 3] → 0 + 0 + (16 - v5.toInt) * 14 + 7 ≤ ((k : Nat) : Int) → dz_T ((F81_X12_mixed fu c2_groups c2_pots c2_ranks c2_draws c2_lawful a48 a49 a52 a53 k).1 v3 v5 c2_thrown c2_parts c2_rowsInAll a56 a57 a58 a59 a61 a62 a63 a69 a70 a71 a72) (fun r => dz_rg r.2.2.2.2.1 4 0 3 ∧ dz_rg r.2.2.2.2.2.1 4 0 3 ∧ dz_rg r.2.2.2.2.2.2.2.1 14425 0 16777215 ∧ dz_rg r.2.2.2.2.2.2.2.2.1 13824 0 13823 ∧ dz_rg r.2.2.2.2.2.2.2.2.2.1 16 0 16777215) := by
  intro v3 v5 c2_thrown c2_parts c2_rowsInAll a56 a57 a58 a59 a61 a62 a63 a69 a70 a71 a72 i0 i1 i2 i3 i4 i5 hr_a56 hr_a57 hr_a59 hr_a61 hr_a62 hr_a63 hm
  obtain ⟨k0, rfl⟩ : ∃ x, k = x + 1 := ⟨k - 1, by omega⟩
  show dz_T (s81_X12_mixed_1 fu c2_groups c2_pots c2_ranks c2_draws c2_lawful a48 a49 a52 a53 (F81_X12_mixed fu c2_groups c2_pots c2_ranks c2_draws c2_lawful a48 a49 a52 a53 k0).2.1 (F81_X12_mixed fu c2_groups c2_pots c2_ranks c2_draws c2_lawful a48 a49 a52 a53 k0).2.2  v3 v5 c2_thrown c2_parts c2_rowsInAll a56 a57 a58 a59 a61 a62 a63 a69 a70 a71 a72) _
  unfold s81_X12_mixed_1
  refine dz_Tle (fun h1 => ?_) (fun h1 => ?_)
  · skip
    refine dz_Ts ?_
    dsimp only
    exact ⟨(hr_a56), (hr_a57), (hr_a59), (hr_a61), (hr_a62)⟩
  · skip
    refine dz_Tin (by omega) (by omega) ?_
    have e2 := dz_rgat (hr_a49) (i := v5) (by omega) (by omega)
    have e3 := dz_l0
    refine dz_Teq (fun h4 => ?_) (fun h4 => ?_)
    · skip
      refine dz_Tin (by omega) (by omega) ?_
      refine dz_Tle (fun h5 => ?_) (fun h5 => ?_)
      · skip
        obtain ⟨k1, rfl⟩ : ∃ x, k0 = x + 1 := ⟨k0 - 1, by omega⟩
        show dz_T (s81_X12_mixed_2 fu c2_groups c2_pots c2_ranks c2_draws c2_lawful a48 a49 a52 a53 (F81_X12_mixed fu c2_groups c2_pots c2_ranks c2_draws c2_lawful a48 a49 a52 a53 k1).2.2 v5 (((a71 v5.toNatClampNeg).toInt64 * c2_lawful.toInt64) - c2_rowsInAll) v3 c2_thrown c2_parts c2_rowsInAll a56 a57 a58 a59 a61 a62 a63 a69 a70 a71 a72) _
        unfold s81_X12_mixed_2
        obtain ⟨k2, rfl⟩ : ∃ x, k1 = x + 1 := ⟨k1 - 1, by omega⟩
        show dz_T (s81_X12_mixed_3 fu c2_groups c2_pots c2_ranks c2_draws c2_lawful a48 a49 a52 a53 (F81_X12_mixed fu c2_groups c2_pots c2_ranks c2_draws c2_lawful a48 a49 a52 a53 k2).1 (v3 + (((a71 v5.toNatClampNeg).toInt64 * c2_lawful.toInt64) - c2_rowsInAll)) v5 c2_thrown c2_parts c2_rowsInAll a56 a57 a58 a59 a61 a62 a63 a69 a70 a71 a72) _
        unfold s81_X12_mixed_3
        have e6 := dz_l1
        have e7 := dz_add (a := v5) (b := (1 : Int32)) (by omega) (by omega)
        exact (ih k2 (by omega)) (v3 + (((a71 v5.toNatClampNeg).toInt64 * c2_lawful.toInt64) - c2_rowsInAll)) (v5 + (1 : Int32)) c2_thrown c2_parts c2_rowsInAll a56 a57 a58 a59 a61 a62 a63 a69 a70 a71 a72 i0 (by omega) (by omega) i3 i4 (by omega) (hr_a56) (hr_a57) (hr_a59) (hr_a61) (hr_a62) (hr_a63) (by omega)
      · skip
        obtain ⟨k3, rfl⟩ : ∃ x, k0 = x + 1 := ⟨k0 - 1, by omega⟩
        show dz_T (s81_X12_mixed_2 fu c2_groups c2_pots c2_ranks c2_draws c2_lawful a48 a49 a52 a53 (F81_X12_mixed fu c2_groups c2_pots c2_ranks c2_draws c2_lawful a48 a49 a52 a53 k3).2.2 v5 ((-(((a71 v5.toNatClampNeg).toInt64 * c2_lawful.toInt64) - c2_rowsInAll)) : Int64) v3 c2_thrown c2_parts c2_rowsInAll a56 a57 a58 a59 a61 a62 a63 a69 a70 a71 a72) _
        unfold s81_X12_mixed_2
        obtain ⟨k4, rfl⟩ : ∃ x, k3 = x + 1 := ⟨k3 - 1, by omega⟩
        show dz_T (s81_X12_mixed_3 fu c2_groups c2_pots c2_ranks c2_draws c2_lawful a48 a49 a52 a53 (F81_X12_mixed fu c2_groups c2_pots c2_ranks c2_draws c2_lawful a48 a49 a52 a53 k4).1 (v3 + (-(((a71 v5.toNatClampNeg).toInt64 * c2_lawful.toInt64) - c2_rowsInAll))) v5 c2_thrown c2_parts c2_rowsInAll a56 a57 a58 a59 a61 a62 a63 a69 a70 a71 a72) _
        unfold s81_X12_mixed_3
        have e8 := dz_l1
        have e9 := dz_add (a := v5) (b := (1 : Int32)) (by omega) (by omega)
        exact (ih k4 (by omega)) (v3 + (-(((a71 v5.toNatClampNeg).toInt64 * c2_lawful.toInt64) - c2_rowsInAll))) (v5 + (1 : Int32)) c2_thrown c2_parts c2_rowsInAll a56 a57 a58 a59 a61 a62 a63 a69 a70 a71 a72 i0 (by omega) (by omega) i3 i4 (by omega) (hr_a56) (hr_a57) (hr_a59) (hr_a61) (hr_a62) (hr_a63) (by omega)
    · skip
      obtain ⟨k5, rfl⟩ : ∃ x, k0 = x + 1 := ⟨k0 - 1, by omega⟩
      show dz_T (s81_X12_mixed_3 fu c2_groups c2_pots c2_ranks c2_draws c2_lawful a48 a49 a52 a53 (F81_X12_mixed fu c2_groups c2_pots c2_ranks c2_draws c2_lawful a48 a49 a52 a53 k5).1 v3 v5 c2_thrown c2_parts c2_rowsInAll a56 a57 a58 a59 a61 a62 a63 a69 a70 a71 a72) _
      unfold s81_X12_mixed_3
      have e10 := dz_l1
      have e11 := dz_add (a := v5) (b := (1 : Int32)) (by omega) (by omega)
      exact (ih k5 (by omega)) v3 (v5 + (1 : Int32)) c2_thrown c2_parts c2_rowsInAll a56 a57 a58 a59 a61 a62 a63 a69 a70 a71 a72 i0 (by omega) (by omega) i3 i4 (by omega) (hr_a56) (hr_a57) (hr_a59) (hr_a61) (hr_a62) (hr_a63) (by omega)
theorem t81_X12_mixed_I_g2 (fu : Nat) (hfu : 1000000000000 ≤ fu) (c2_groups : Int32) (c2_pots : Int32) (c2_ranks : Int32) (c2_draws : Int32) (c2_lawful : Int32) (a48 : Nat → Int32) (a49 : Nat → Int32) (a52 : Nat → Int32) (a53 : Nat → Int32) (p0 : c2_groups.toInt ≤ 2) (p1 : 2 ≤ c2_groups.toInt) (p2 : c2_pots.toInt ≤ 4) (p3 : 0 ≤ c2_pots.toInt) (p4 : c2_ranks.toInt ≤ 2) (p5 : 2 ≤ c2_ranks.toInt) (p6 : c2_draws.toInt ≤ 16) (p7 : 1 ≤ c2_draws.toInt) (p8 : c2_lawful.toInt ≤ 16) (p9 : 0 ≤ c2_lawful.toInt) (p10 : c2_lawful.toInt ≤ c2_draws.toInt) (hr_a48 : dz_rg a48 100 0 3) (hr_a49 : dz_rg a49 13824 0 1023) (hr_a52 : dz_rg a52 4 0 3) (hr_a53 : dz_rg a53 4 0 3) (o0 : dz_pm a52 c2_pots.toInt.toNat) (o1 : dz_pm a53 2) (o2 : dz_rw 2 2 a48) (o3 : dz_lf c2_lawful a49 c2_draws.toInt.toNat) (k : Nat) : p81_X12_mixed_g2 fu c2_groups c2_pots c2_ranks c2_draws c2_lawful a48 a49 a52 a53 k := by
  induction k using Nat.strongRecOn with
  | _ k ih => exact t81_X12_mixed_h1_g2 fu hfu c2_groups c2_pots c2_ranks c2_draws c2_lawful a48 a49 a52 a53 p0 p1 p2 p3 p4 p5 p6 p7 p8 p9 p10 hr_a48 hr_a49 hr_a52 hr_a53 o0 o1 o2 o3 k ih
set_option maxHeartbeats 4000000 in
set_option maxRecDepth 10000 in
theorem t81_X12_mixed_E_g2 (fu : Nat) (hfu : 1000000000000 ≤ fu) (c2_groups : Int32) (c2_pots : Int32) (c2_ranks : Int32) (c2_draws : Int32) (c2_lawful : Int32) (a48 : Nat → Int32) (a49 : Nat → Int32) (a52 : Nat → Int32) (a53 : Nat → Int32) (v1 : Int32) (v2 : Int32) (c2_thrown : Int32) (c2_parts : Int32) (c2_rowsInAll : Int64) (a56 : Nat → Int32) (a57 : Nat → Int32) (a58 : Nat → Int32) (a59 : Nat → Int32) (a61 : Nat → Int32) (a62 : Nat → Int32) (a63 : Nat → Int32) (a69 : Nat → Int32) (a70 : Nat → Int32) (a71 : Nat → Int32) (a72 : Nat → Int32) (p0 : c2_groups.toInt ≤ 2) (p1 : 2 ≤ c2_groups.toInt) (p2 : c2_pots.toInt ≤ 4) (p3 : 0 ≤ c2_pots.toInt) (p4 : c2_ranks.toInt ≤ 2) (p5 : 2 ≤ c2_ranks.toInt) (p6 : c2_draws.toInt ≤ 16) (p7 : 1 ≤ c2_draws.toInt) (p8 : c2_lawful.toInt ≤ 16) (p9 : 0 ≤ c2_lawful.toInt) (p10 : c2_lawful.toInt ≤ c2_draws.toInt) (hr_a48 : dz_rg a48 100 0 3) (hr_a49 : dz_rg a49 13824 0 1023) (hr_a52 : dz_rg a52 4 0 3) (hr_a53 : dz_rg a53 4 0 3) (hr_a56 : dz_rg a56 4 0 3) (hr_a57 : dz_rg a57 4 0 3) (hr_a59 : dz_rg a59 14425 0 16777215) (hr_a61 : dz_rg a61 13824 0 13823) (hr_a62 : dz_rg a62 16 0 16777215) (o0 : dz_pm a52 c2_pots.toInt.toNat) (o1 : dz_pm a53 2) (o2 : dz_rw 2 2 a48) (o3 : dz_lf c2_lawful a49 c2_draws.toInt.toNat) (kv : Nat) (hkv : 1000000000000 ≤ kv) : dz_T (s81_X12_mixed_0 fu c2_groups c2_pots c2_ranks c2_draws c2_lawful a48 a49 a52 a53 (F81_X12_mixed fu c2_groups c2_pots c2_ranks c2_draws c2_lawful a48 a49 a52 a53 kv).1  v1 v2 c2_thrown c2_parts c2_rowsInAll a56 a57 a58 a59 a61 a62 a63 a69 a70 a71 a72) (fun r => dz_rg r.2.2.2.2.1 4 0 3 ∧ dz_rg r.2.2.2.2.2.1 4 0 3 ∧ dz_rg r.2.2.2.2.2.2.2.1 14425 0 16777215 ∧ dz_rg r.2.2.2.2.2.2.2.2.1 13824 0 13823 ∧ dz_rg r.2.2.2.2.2.2.2.2.2.1 16 0 16777215) := by
  unfold s81_X12_mixed_0
  refine dz_Tbe (show f1_X12_isIn fu v1 (0 : Int32) (5 : Int32) = (if (v1 < (0 : Int32)) then (some (0 : Int32)) else (if ((5 : Int32) < v1) then (some (0 : Int32)) else (some (1 : Int32)))) from rfl) ?_
  have e1 := dz_l0
  refine dz_Tltb (fun h2 => ?_) (fun h2 => ?_)
  · skip
    refine dz_Tsb ?_
    refine dz_Teq (fun h3 => ?_) (fun h3 => ?_)
    · skip
      refine dz_Ts ?_
      dsimp only
      exact ⟨(hr_a56), (hr_a57), (hr_a59), (hr_a61), (hr_a62)⟩
    · skip
      exfalso; omega
  · skip
    have e4 := dz_l5
    refine dz_Tltb (fun h5 => ?_) (fun h5 => ?_)
    · skip
      refine dz_Tsb ?_
      refine dz_Teq (fun h6 => ?_) (fun h6 => ?_)
      · skip
        refine dz_Ts ?_
        dsimp only
        exact ⟨(hr_a56), (hr_a57), (hr_a59), (hr_a61), (hr_a62)⟩
      · skip
        exfalso; omega
    · skip
      refine dz_Tsb ?_
      have e7 := dz_l1
      refine dz_Teq (fun h8 => ?_) (fun h8 => ?_)
      · skip
        exfalso; omega
      · skip
        refine dz_Tbe (show f1_X12_isIn fu v2 (0 : Int32) (1 : Int32) = (if (v2 < (0 : Int32)) then (some (0 : Int32)) else (if ((1 : Int32) < v2) then (some (0 : Int32)) else (some (1 : Int32)))) from rfl) ?_
        refine dz_Tltb (fun h9 => ?_) (fun h9 => ?_)
        · skip
          refine dz_Tsb ?_
          refine dz_Teq (fun h10 => ?_) (fun h10 => ?_)
          · skip
            refine dz_Ts ?_
            dsimp only
            exact ⟨(hr_a56), (hr_a57), (hr_a59), (hr_a61), (hr_a62)⟩
          · skip
            exfalso; omega
        · skip
          refine dz_Tltb (fun h11 => ?_) (fun h11 => ?_)
          · skip
            refine dz_Tsb ?_
            refine dz_Teq (fun h12 => ?_) (fun h12 => ?_)
            · skip
              refine dz_Ts ?_
              dsimp only
              exact ⟨(hr_a56), (hr_a57), (hr_a59), (hr_a61), (hr_a62)⟩
            · skip
              exfalso; omega
          · skip
            refine dz_Tsb ?_
            refine dz_Teq (fun h13 => ?_) (fun h13 => ?_)
            · skip
              exfalso; omega
            · skip
              refine dz_Teq (fun h14 => ?_) (fun h14 => ?_)
              · skip
                refine dz_Ts ?_
                dsimp only
                exact ⟨(hr_a56), (hr_a57), (hr_a59), (hr_a61), (hr_a62)⟩
              · skip
                refine dz_Tb (t79_X12_mixes_g2 fu hfu _ _ _ _ _ _ _ _ _ _ _ _ _ _ _ _ _ _ _ _ _ _ p0 p1 p2 p3 p4 p5 p6 p7 (by first | assumption | omega) (by first | assumption | omega) (hr_a48) (hr_a49) (hr_a52) (hr_a53) (hr_a56) (hr_a57) (hr_a59) (hr_a61) (hr_a62) o0 o1 o2 (dz_lfw o3 (by omega))) (fun r3 q => ?_)
                obtain ⟨qa3_2, qa3_3, qa3_5, qa3_6, qa3_7, qa3_8⟩ := q
                refine dz_Teq (fun h15 => ?_) (fun h15 => ?_)
                · skip
                  refine dz_Ts ?_
                  dsimp only
                  exact ⟨(qa3_2), (qa3_3), (qa3_5), (qa3_6), (qa3_7)⟩
                · skip
                  exact (t81_X12_mixed_I_g2 fu hfu c2_groups c2_pots c2_ranks c2_draws c2_lawful a48 a49 a52 a53 p0 p1 p2 p3 p4 p5 p6 p7 p8 p9 p10 hr_a48 hr_a49 hr_a52 hr_a53 o0 o1 o2 o3 kv) (0 : Int64) (0 : Int32) (0 : Int32) r3.1 r3.2.1 r3.2.2.1 r3.2.2.2.1 r3.2.2.2.2.1 r3.2.2.2.2.2.1 r3.2.2.2.2.2.2.1 r3.2.2.2.2.2.2.2.1 r3.2.2.2.2.2.2.2.2.1 r3.2.2.2.2.2.2.2.2.2.1 r3.2.2.2.2.2.2.2.2.2.2.1 r3.2.2.2.2.2.2.2.2.2.2.2.1 r3.2.2.2.2.2.2.2.2.2.2.2.2 (by first | assumption | omega) (by omega) (by omega) (by omega) (by omega) (by omega) (qa3_2) (qa3_3) (qa3_5) (qa3_6) (qa3_7) (qa3_8) (by omega)
theorem t81_X12_mixed_g2 (fu : Nat) (hfu : 1000000000000 ≤ fu) (c2_groups : Int32) (c2_pots : Int32) (c2_ranks : Int32) (c2_draws : Int32) (c2_lawful : Int32) (a48 : Nat → Int32) (a49 : Nat → Int32) (a52 : Nat → Int32) (a53 : Nat → Int32) (v1 : Int32) (v2 : Int32) (c2_thrown : Int32) (c2_parts : Int32) (c2_rowsInAll : Int64) (a56 : Nat → Int32) (a57 : Nat → Int32) (a58 : Nat → Int32) (a59 : Nat → Int32) (a61 : Nat → Int32) (a62 : Nat → Int32) (a63 : Nat → Int32) (a69 : Nat → Int32) (a70 : Nat → Int32) (a71 : Nat → Int32) (a72 : Nat → Int32) (p0 : c2_groups.toInt ≤ 2) (p1 : 2 ≤ c2_groups.toInt) (p2 : c2_pots.toInt ≤ 4) (p3 : 0 ≤ c2_pots.toInt) (p4 : c2_ranks.toInt ≤ 2) (p5 : 2 ≤ c2_ranks.toInt) (p6 : c2_draws.toInt ≤ 16) (p7 : 1 ≤ c2_draws.toInt) (p8 : c2_lawful.toInt ≤ 16) (p9 : 0 ≤ c2_lawful.toInt) (p10 : c2_lawful.toInt ≤ c2_draws.toInt) (hr_a48 : dz_rg a48 100 0 3) (hr_a49 : dz_rg a49 13824 0 1023) (hr_a52 : dz_rg a52 4 0 3) (hr_a53 : dz_rg a53 4 0 3) (hr_a56 : dz_rg a56 4 0 3) (hr_a57 : dz_rg a57 4 0 3) (hr_a59 : dz_rg a59 14425 0 16777215) (hr_a61 : dz_rg a61 13824 0 13823) (hr_a62 : dz_rg a62 16 0 16777215) (o0 : dz_pm a52 c2_pots.toInt.toNat) (o1 : dz_pm a53 2) (o2 : dz_rw 2 2 a48) (o3 : dz_lf c2_lawful a49 c2_draws.toInt.toNat) : dz_T (f81_X12_mixed fu c2_groups c2_pots c2_ranks c2_draws c2_lawful a48 a49 a52 a53 v1 v2 c2_thrown c2_parts c2_rowsInAll a56 a57 a58 a59 a61 a62 a63 a69 a70 a71 a72) (fun r => dz_rg r.2.2.2.2.1 4 0 3 ∧ dz_rg r.2.2.2.2.2.1 4 0 3 ∧ dz_rg r.2.2.2.2.2.2.2.1 14425 0 16777215 ∧ dz_rg r.2.2.2.2.2.2.2.2.1 13824 0 13823 ∧ dz_rg r.2.2.2.2.2.2.2.2.2.1 16 0 16777215) :=
  t81_X12_mixed_E_g2 fu hfu c2_groups c2_pots c2_ranks c2_draws c2_lawful a48 a49 a52 a53 v1 v2 c2_thrown c2_parts c2_rowsInAll a56 a57 a58 a59 a61 a62 a63 a69 a70 a71 a72 p0 p1 p2 p3 p4 p5 p6 p7 p8 p9 p10 hr_a48 hr_a49 hr_a52 hr_a53 hr_a56 hr_a57 hr_a59 hr_a61 hr_a62 o0 o1 o2 o3 fu hfu
abbrev p81_X12_mixed_g3 (fu : Nat) (c2_groups : Int32) (c2_pots : Int32) (c2_ranks : Int32) (c2_draws : Int32) (c2_lawful : Int32) (a48 : Nat → Int32) (a49 : Nat → Int32) (a52 : Nat → Int32) (a53 : Nat → Int32) (k : Nat) : Prop :=
  (∀ (v3 : Int64) (v5 : Int32) (c2_thrown : Int32) (c2_parts : Int32) (c2_rowsInAll : Int64) (a56 : Nat → Int32) (a57 : Nat → Int32) (a58 : Nat → Int32) (a59 : Nat → Int32) (a61 : Nat → Int32) (a62 : Nat → Int32) (a63 : Nat → Int32) (a69 : Nat → Int32) (a70 : Nat → Int32) (a71 : Nat → Int32) (a72 : Nat → Int32), 1 ≤ c2_lawful.toInt → v5.toInt ≤ 1296 → 0 ≤ v5.toInt → c2_thrown.toInt ≤ 0 → 0 ≤ c2_thrown.toInt → v5.toInt ≤ c2_draws.toInt → dz_rg a56 4 0 3 → dz_rg a57 4 0 3 → dz_rg a59 14425 0 16777215 → dz_rg a61 13824 0 13823 → dz_rg a62 16 0 16777215 → dz_pt a63 [1, 4, 16] → 0 + 0 + (1296 - v5.toInt) * 14 + 7 ≤ ((k : Nat) : Int) → dz_T ((F81_X12_mixed fu c2_groups c2_pots c2_ranks c2_draws c2_lawful a48 a49 a52 a53 k).1 v3 v5 c2_thrown c2_parts c2_rowsInAll a56 a57 a58 a59 a61 a62 a63 a69 a70 a71 a72) (fun r => dz_rg r.2.2.2.2.1 4 0 3 ∧ dz_rg r.2.2.2.2.2.1 4 0 3 ∧ dz_rg r.2.2.2.2.2.2.2.1 14425 0 16777215 ∧ dz_rg r.2.2.2.2.2.2.2.2.1 13824 0 13823 ∧ dz_rg r.2.2.2.2.2.2.2.2.2.1 16 0 16777215))
set_option maxHeartbeats 4000000 in
set_option maxRecDepth 10000 in
theorem t81_X12_mixed_h1_g3 (fu : Nat) (hfu : 1000000000000 ≤ fu) (c2_groups : Int32) (c2_pots : Int32) (c2_ranks : Int32) (c2_draws : Int32) (c2_lawful : Int32) (a48 : Nat → Int32) (a49 : Nat → Int32) (a52 : Nat → Int32) (a53 : Nat → Int32) (p0 : c2_groups.toInt ≤ 3) (p1 : 3 ≤ c2_groups.toInt) (p2 : c2_pots.toInt ≤ 4) (p3 : 0 ≤ c2_pots.toInt) (p4 : c2_ranks.toInt ≤ 6) (p5 : 6 ≤ c2_ranks.toInt) (p6 : c2_draws.toInt ≤ 1296) (p7 : 1 ≤ c2_draws.toInt) (p8 : c2_lawful.toInt ≤ 1296) (p9 : 0 ≤ c2_lawful.toInt) (p10 : c2_lawful.toInt ≤ c2_draws.toInt) (hr_a48 : dz_rg a48 100 0 3) (hr_a49 : dz_rg a49 13824 0 1023) (hr_a52 : dz_rg a52 4 0 3) (hr_a53 : dz_rg a53 4 0 3) (o0 : dz_pm a52 c2_pots.toInt.toNat) (o1 : dz_pm a53 3) (o2 : dz_rw 3 6 a48) (o3 : dz_lf c2_lawful a49 c2_draws.toInt.toNat) (k : Nat) (ih : ∀ j9, j9 < k → p81_X12_mixed_g3 fu c2_groups c2_pots c2_ranks c2_draws c2_lawful a48 a49 a52 a53 j9) : ∀ (v3 : Int64) (v5 : Int32) (c2_thrown : Int32) (c2_parts : Int32) (c2_rowsInAll : Int64) (a56 : Nat → Int32) (a57 : Nat → Int32) (a58 : Nat → Int32) (a59 : Nat → Int32) (a61 : Nat → Int32) (a62 : Nat → Int32) (a63 : Nat → Int32) (a69 : Nat → Int32) (a70 : Nat → Int32) (a71 : Nat → Int32) (a72 : Nat → Int32), 1 ≤ c2_lawful.toInt → v5.toInt ≤ 1296 → 0 ≤ v5.toInt → c2_thrown.toInt ≤ 0 → 0 ≤ c2_thrown.toInt → v5.toInt ≤ c2_draws.toInt → dz_rg a56 4 0 3 → dz_rg a57 4 0 3 → dz_rg a59 14425 0 16777215 → dz_rg a61 13824 0 13823 → dz_rg a62 16 0 16777215 → dz_pt a63 [1, 4, 16] → 0 + 0 + (1296 - v5.toInt) * 14 + 7 ≤ ((k : Nat) : Int) → dz_T ((F81_X12_mixed fu c2_groups c2_pots c2_ranks c2_draws c2_lawful a48 a49 a52 a53 k).1 v3 v5 c2_thrown c2_parts c2_rowsInAll a56 a57 a58 a59 a61 a62 a63 a69 a70 a71 a72) (fun r => dz_rg r.2.2.2.2.1 4 0 3 ∧ dz_rg r.2.2.2.2.2.1 4 0 3 ∧ dz_rg r.2.2.2.2.2.2.2.1 14425 0 16777215 ∧ dz_rg r.2.2.2.2.2.2.2.2.1 13824 0 13823 ∧ dz_rg r.2.2.2.2.2.2.2.2.2.1 16 0 16777215) := by
  intro v3 v5 c2_thrown c2_parts c2_rowsInAll a56 a57 a58 a59 a61 a62 a63 a69 a70 a71 a72 i0 i1 i2 i3 i4 i5 hr_a56 hr_a57 hr_a59 hr_a61 hr_a62 hr_a63 hm
  obtain ⟨k0, rfl⟩ : ∃ x, k = x + 1 := ⟨k - 1, by omega⟩
  show dz_T (s81_X12_mixed_1 fu c2_groups c2_pots c2_ranks c2_draws c2_lawful a48 a49 a52 a53 (F81_X12_mixed fu c2_groups c2_pots c2_ranks c2_draws c2_lawful a48 a49 a52 a53 k0).2.1 (F81_X12_mixed fu c2_groups c2_pots c2_ranks c2_draws c2_lawful a48 a49 a52 a53 k0).2.2  v3 v5 c2_thrown c2_parts c2_rowsInAll a56 a57 a58 a59 a61 a62 a63 a69 a70 a71 a72) _
  unfold s81_X12_mixed_1
  refine dz_Tle (fun h1 => ?_) (fun h1 => ?_)
  · skip
    refine dz_Ts ?_
    dsimp only
    exact ⟨(hr_a56), (hr_a57), (hr_a59), (hr_a61), (hr_a62)⟩
  · skip
    refine dz_Tin (by omega) (by omega) ?_
    have e2 := dz_rgat (hr_a49) (i := v5) (by omega) (by omega)
    have e3 := dz_l0
    refine dz_Teq (fun h4 => ?_) (fun h4 => ?_)
    · skip
      refine dz_Tin (by omega) (by omega) ?_
      refine dz_Tle (fun h5 => ?_) (fun h5 => ?_)
      · skip
        obtain ⟨k1, rfl⟩ : ∃ x, k0 = x + 1 := ⟨k0 - 1, by omega⟩
        show dz_T (s81_X12_mixed_2 fu c2_groups c2_pots c2_ranks c2_draws c2_lawful a48 a49 a52 a53 (F81_X12_mixed fu c2_groups c2_pots c2_ranks c2_draws c2_lawful a48 a49 a52 a53 k1).2.2 v5 (((a71 v5.toNatClampNeg).toInt64 * c2_lawful.toInt64) - c2_rowsInAll) v3 c2_thrown c2_parts c2_rowsInAll a56 a57 a58 a59 a61 a62 a63 a69 a70 a71 a72) _
        unfold s81_X12_mixed_2
        obtain ⟨k2, rfl⟩ : ∃ x, k1 = x + 1 := ⟨k1 - 1, by omega⟩
        show dz_T (s81_X12_mixed_3 fu c2_groups c2_pots c2_ranks c2_draws c2_lawful a48 a49 a52 a53 (F81_X12_mixed fu c2_groups c2_pots c2_ranks c2_draws c2_lawful a48 a49 a52 a53 k2).1 (v3 + (((a71 v5.toNatClampNeg).toInt64 * c2_lawful.toInt64) - c2_rowsInAll)) v5 c2_thrown c2_parts c2_rowsInAll a56 a57 a58 a59 a61 a62 a63 a69 a70 a71 a72) _
        unfold s81_X12_mixed_3
        have e6 := dz_l1
        have e7 := dz_add (a := v5) (b := (1 : Int32)) (by omega) (by omega)
        exact (ih k2 (by omega)) (v3 + (((a71 v5.toNatClampNeg).toInt64 * c2_lawful.toInt64) - c2_rowsInAll)) (v5 + (1 : Int32)) c2_thrown c2_parts c2_rowsInAll a56 a57 a58 a59 a61 a62 a63 a69 a70 a71 a72 i0 (by omega) (by omega) i3 i4 (by omega) (hr_a56) (hr_a57) (hr_a59) (hr_a61) (hr_a62) (hr_a63) (by omega)
      · skip
        obtain ⟨k3, rfl⟩ : ∃ x, k0 = x + 1 := ⟨k0 - 1, by omega⟩
        show dz_T (s81_X12_mixed_2 fu c2_groups c2_pots c2_ranks c2_draws c2_lawful a48 a49 a52 a53 (F81_X12_mixed fu c2_groups c2_pots c2_ranks c2_draws c2_lawful a48 a49 a52 a53 k3).2.2 v5 ((-(((a71 v5.toNatClampNeg).toInt64 * c2_lawful.toInt64) - c2_rowsInAll)) : Int64) v3 c2_thrown c2_parts c2_rowsInAll a56 a57 a58 a59 a61 a62 a63 a69 a70 a71 a72) _
        unfold s81_X12_mixed_2
        obtain ⟨k4, rfl⟩ : ∃ x, k3 = x + 1 := ⟨k3 - 1, by omega⟩
        show dz_T (s81_X12_mixed_3 fu c2_groups c2_pots c2_ranks c2_draws c2_lawful a48 a49 a52 a53 (F81_X12_mixed fu c2_groups c2_pots c2_ranks c2_draws c2_lawful a48 a49 a52 a53 k4).1 (v3 + (-(((a71 v5.toNatClampNeg).toInt64 * c2_lawful.toInt64) - c2_rowsInAll))) v5 c2_thrown c2_parts c2_rowsInAll a56 a57 a58 a59 a61 a62 a63 a69 a70 a71 a72) _
        unfold s81_X12_mixed_3
        have e8 := dz_l1
        have e9 := dz_add (a := v5) (b := (1 : Int32)) (by omega) (by omega)
        exact (ih k4 (by omega)) (v3 + (-(((a71 v5.toNatClampNeg).toInt64 * c2_lawful.toInt64) - c2_rowsInAll))) (v5 + (1 : Int32)) c2_thrown c2_parts c2_rowsInAll a56 a57 a58 a59 a61 a62 a63 a69 a70 a71 a72 i0 (by omega) (by omega) i3 i4 (by omega) (hr_a56) (hr_a57) (hr_a59) (hr_a61) (hr_a62) (hr_a63) (by omega)
    · skip
      obtain ⟨k5, rfl⟩ : ∃ x, k0 = x + 1 := ⟨k0 - 1, by omega⟩
      show dz_T (s81_X12_mixed_3 fu c2_groups c2_pots c2_ranks c2_draws c2_lawful a48 a49 a52 a53 (F81_X12_mixed fu c2_groups c2_pots c2_ranks c2_draws c2_lawful a48 a49 a52 a53 k5).1 v3 v5 c2_thrown c2_parts c2_rowsInAll a56 a57 a58 a59 a61 a62 a63 a69 a70 a71 a72) _
      unfold s81_X12_mixed_3
      have e10 := dz_l1
      have e11 := dz_add (a := v5) (b := (1 : Int32)) (by omega) (by omega)
      exact (ih k5 (by omega)) v3 (v5 + (1 : Int32)) c2_thrown c2_parts c2_rowsInAll a56 a57 a58 a59 a61 a62 a63 a69 a70 a71 a72 i0 (by omega) (by omega) i3 i4 (by omega) (hr_a56) (hr_a57) (hr_a59) (hr_a61) (hr_a62) (hr_a63) (by omega)
theorem t81_X12_mixed_I_g3 (fu : Nat) (hfu : 1000000000000 ≤ fu) (c2_groups : Int32) (c2_pots : Int32) (c2_ranks : Int32) (c2_draws : Int32) (c2_lawful : Int32) (a48 : Nat → Int32) (a49 : Nat → Int32) (a52 : Nat → Int32) (a53 : Nat → Int32) (p0 : c2_groups.toInt ≤ 3) (p1 : 3 ≤ c2_groups.toInt) (p2 : c2_pots.toInt ≤ 4) (p3 : 0 ≤ c2_pots.toInt) (p4 : c2_ranks.toInt ≤ 6) (p5 : 6 ≤ c2_ranks.toInt) (p6 : c2_draws.toInt ≤ 1296) (p7 : 1 ≤ c2_draws.toInt) (p8 : c2_lawful.toInt ≤ 1296) (p9 : 0 ≤ c2_lawful.toInt) (p10 : c2_lawful.toInt ≤ c2_draws.toInt) (hr_a48 : dz_rg a48 100 0 3) (hr_a49 : dz_rg a49 13824 0 1023) (hr_a52 : dz_rg a52 4 0 3) (hr_a53 : dz_rg a53 4 0 3) (o0 : dz_pm a52 c2_pots.toInt.toNat) (o1 : dz_pm a53 3) (o2 : dz_rw 3 6 a48) (o3 : dz_lf c2_lawful a49 c2_draws.toInt.toNat) (k : Nat) : p81_X12_mixed_g3 fu c2_groups c2_pots c2_ranks c2_draws c2_lawful a48 a49 a52 a53 k := by
  induction k using Nat.strongRecOn with
  | _ k ih => exact t81_X12_mixed_h1_g3 fu hfu c2_groups c2_pots c2_ranks c2_draws c2_lawful a48 a49 a52 a53 p0 p1 p2 p3 p4 p5 p6 p7 p8 p9 p10 hr_a48 hr_a49 hr_a52 hr_a53 o0 o1 o2 o3 k ih
set_option maxHeartbeats 4000000 in
set_option maxRecDepth 10000 in
theorem t81_X12_mixed_E_g3 (fu : Nat) (hfu : 1000000000000 ≤ fu) (c2_groups : Int32) (c2_pots : Int32) (c2_ranks : Int32) (c2_draws : Int32) (c2_lawful : Int32) (a48 : Nat → Int32) (a49 : Nat → Int32) (a52 : Nat → Int32) (a53 : Nat → Int32) (v1 : Int32) (v2 : Int32) (c2_thrown : Int32) (c2_parts : Int32) (c2_rowsInAll : Int64) (a56 : Nat → Int32) (a57 : Nat → Int32) (a58 : Nat → Int32) (a59 : Nat → Int32) (a61 : Nat → Int32) (a62 : Nat → Int32) (a63 : Nat → Int32) (a69 : Nat → Int32) (a70 : Nat → Int32) (a71 : Nat → Int32) (a72 : Nat → Int32) (p0 : c2_groups.toInt ≤ 3) (p1 : 3 ≤ c2_groups.toInt) (p2 : c2_pots.toInt ≤ 4) (p3 : 0 ≤ c2_pots.toInt) (p4 : c2_ranks.toInt ≤ 6) (p5 : 6 ≤ c2_ranks.toInt) (p6 : c2_draws.toInt ≤ 1296) (p7 : 1 ≤ c2_draws.toInt) (p8 : c2_lawful.toInt ≤ 1296) (p9 : 0 ≤ c2_lawful.toInt) (p10 : c2_lawful.toInt ≤ c2_draws.toInt) (hr_a48 : dz_rg a48 100 0 3) (hr_a49 : dz_rg a49 13824 0 1023) (hr_a52 : dz_rg a52 4 0 3) (hr_a53 : dz_rg a53 4 0 3) (hr_a56 : dz_rg a56 4 0 3) (hr_a57 : dz_rg a57 4 0 3) (hr_a59 : dz_rg a59 14425 0 16777215) (hr_a61 : dz_rg a61 13824 0 13823) (hr_a62 : dz_rg a62 16 0 16777215) (o0 : dz_pm a52 c2_pots.toInt.toNat) (o1 : dz_pm a53 3) (o2 : dz_rw 3 6 a48) (o3 : dz_lf c2_lawful a49 c2_draws.toInt.toNat) (kv : Nat) (hkv : 1000000000000 ≤ kv) : dz_T (s81_X12_mixed_0 fu c2_groups c2_pots c2_ranks c2_draws c2_lawful a48 a49 a52 a53 (F81_X12_mixed fu c2_groups c2_pots c2_ranks c2_draws c2_lawful a48 a49 a52 a53 kv).1  v1 v2 c2_thrown c2_parts c2_rowsInAll a56 a57 a58 a59 a61 a62 a63 a69 a70 a71 a72) (fun r => dz_rg r.2.2.2.2.1 4 0 3 ∧ dz_rg r.2.2.2.2.2.1 4 0 3 ∧ dz_rg r.2.2.2.2.2.2.2.1 14425 0 16777215 ∧ dz_rg r.2.2.2.2.2.2.2.2.1 13824 0 13823 ∧ dz_rg r.2.2.2.2.2.2.2.2.2.1 16 0 16777215) := by
  unfold s81_X12_mixed_0
  refine dz_Tbe (show f1_X12_isIn fu v1 (0 : Int32) (5 : Int32) = (if (v1 < (0 : Int32)) then (some (0 : Int32)) else (if ((5 : Int32) < v1) then (some (0 : Int32)) else (some (1 : Int32)))) from rfl) ?_
  have e1 := dz_l0
  refine dz_Tltb (fun h2 => ?_) (fun h2 => ?_)
  · skip
    refine dz_Tsb ?_
    refine dz_Teq (fun h3 => ?_) (fun h3 => ?_)
    · skip
      refine dz_Ts ?_
      dsimp only
      exact ⟨(hr_a56), (hr_a57), (hr_a59), (hr_a61), (hr_a62)⟩
    · skip
      exfalso; omega
  · skip
    have e4 := dz_l5
    refine dz_Tltb (fun h5 => ?_) (fun h5 => ?_)
    · skip
      refine dz_Tsb ?_
      refine dz_Teq (fun h6 => ?_) (fun h6 => ?_)
      · skip
        refine dz_Ts ?_
        dsimp only
        exact ⟨(hr_a56), (hr_a57), (hr_a59), (hr_a61), (hr_a62)⟩
      · skip
        exfalso; omega
    · skip
      refine dz_Tsb ?_
      have e7 := dz_l1
      refine dz_Teq (fun h8 => ?_) (fun h8 => ?_)
      · skip
        exfalso; omega
      · skip
        refine dz_Tbe (show f1_X12_isIn fu v2 (0 : Int32) (1 : Int32) = (if (v2 < (0 : Int32)) then (some (0 : Int32)) else (if ((1 : Int32) < v2) then (some (0 : Int32)) else (some (1 : Int32)))) from rfl) ?_
        refine dz_Tltb (fun h9 => ?_) (fun h9 => ?_)
        · skip
          refine dz_Tsb ?_
          refine dz_Teq (fun h10 => ?_) (fun h10 => ?_)
          · skip
            refine dz_Ts ?_
            dsimp only
            exact ⟨(hr_a56), (hr_a57), (hr_a59), (hr_a61), (hr_a62)⟩
          · skip
            exfalso; omega
        · skip
          refine dz_Tltb (fun h11 => ?_) (fun h11 => ?_)
          · skip
            refine dz_Tsb ?_
            refine dz_Teq (fun h12 => ?_) (fun h12 => ?_)
            · skip
              refine dz_Ts ?_
              dsimp only
              exact ⟨(hr_a56), (hr_a57), (hr_a59), (hr_a61), (hr_a62)⟩
            · skip
              exfalso; omega
          · skip
            refine dz_Tsb ?_
            refine dz_Teq (fun h13 => ?_) (fun h13 => ?_)
            · skip
              exfalso; omega
            · skip
              refine dz_Teq (fun h14 => ?_) (fun h14 => ?_)
              · skip
                refine dz_Ts ?_
                dsimp only
                exact ⟨(hr_a56), (hr_a57), (hr_a59), (hr_a61), (hr_a62)⟩
              · skip
                refine dz_Tb (t79_X12_mixes_g3 fu hfu _ _ _ _ _ _ _ _ _ _ _ _ _ _ _ _ _ _ _ _ _ _ p0 p1 p2 p3 p4 p5 p6 p7 (by first | assumption | omega) (by first | assumption | omega) (hr_a48) (hr_a49) (hr_a52) (hr_a53) (hr_a56) (hr_a57) (hr_a59) (hr_a61) (hr_a62) o0 o1 o2 (dz_lfw o3 (by omega))) (fun r3 q => ?_)
                obtain ⟨qa3_2, qa3_3, qa3_5, qa3_6, qa3_7, qa3_8⟩ := q
                refine dz_Teq (fun h15 => ?_) (fun h15 => ?_)
                · skip
                  refine dz_Ts ?_
                  dsimp only
                  exact ⟨(qa3_2), (qa3_3), (qa3_5), (qa3_6), (qa3_7)⟩
                · skip
                  exact (t81_X12_mixed_I_g3 fu hfu c2_groups c2_pots c2_ranks c2_draws c2_lawful a48 a49 a52 a53 p0 p1 p2 p3 p4 p5 p6 p7 p8 p9 p10 hr_a48 hr_a49 hr_a52 hr_a53 o0 o1 o2 o3 kv) (0 : Int64) (0 : Int32) (0 : Int32) r3.1 r3.2.1 r3.2.2.1 r3.2.2.2.1 r3.2.2.2.2.1 r3.2.2.2.2.2.1 r3.2.2.2.2.2.2.1 r3.2.2.2.2.2.2.2.1 r3.2.2.2.2.2.2.2.2.1 r3.2.2.2.2.2.2.2.2.2.1 r3.2.2.2.2.2.2.2.2.2.2.1 r3.2.2.2.2.2.2.2.2.2.2.2.1 r3.2.2.2.2.2.2.2.2.2.2.2.2 (by first | assumption | omega) (by omega) (by omega) (by omega) (by omega) (by omega) (qa3_2) (qa3_3) (qa3_5) (qa3_6) (qa3_7) (qa3_8) (by omega)
theorem t81_X12_mixed_g3 (fu : Nat) (hfu : 1000000000000 ≤ fu) (c2_groups : Int32) (c2_pots : Int32) (c2_ranks : Int32) (c2_draws : Int32) (c2_lawful : Int32) (a48 : Nat → Int32) (a49 : Nat → Int32) (a52 : Nat → Int32) (a53 : Nat → Int32) (v1 : Int32) (v2 : Int32) (c2_thrown : Int32) (c2_parts : Int32) (c2_rowsInAll : Int64) (a56 : Nat → Int32) (a57 : Nat → Int32) (a58 : Nat → Int32) (a59 : Nat → Int32) (a61 : Nat → Int32) (a62 : Nat → Int32) (a63 : Nat → Int32) (a69 : Nat → Int32) (a70 : Nat → Int32) (a71 : Nat → Int32) (a72 : Nat → Int32) (p0 : c2_groups.toInt ≤ 3) (p1 : 3 ≤ c2_groups.toInt) (p2 : c2_pots.toInt ≤ 4) (p3 : 0 ≤ c2_pots.toInt) (p4 : c2_ranks.toInt ≤ 6) (p5 : 6 ≤ c2_ranks.toInt) (p6 : c2_draws.toInt ≤ 1296) (p7 : 1 ≤ c2_draws.toInt) (p8 : c2_lawful.toInt ≤ 1296) (p9 : 0 ≤ c2_lawful.toInt) (p10 : c2_lawful.toInt ≤ c2_draws.toInt) (hr_a48 : dz_rg a48 100 0 3) (hr_a49 : dz_rg a49 13824 0 1023) (hr_a52 : dz_rg a52 4 0 3) (hr_a53 : dz_rg a53 4 0 3) (hr_a56 : dz_rg a56 4 0 3) (hr_a57 : dz_rg a57 4 0 3) (hr_a59 : dz_rg a59 14425 0 16777215) (hr_a61 : dz_rg a61 13824 0 13823) (hr_a62 : dz_rg a62 16 0 16777215) (o0 : dz_pm a52 c2_pots.toInt.toNat) (o1 : dz_pm a53 3) (o2 : dz_rw 3 6 a48) (o3 : dz_lf c2_lawful a49 c2_draws.toInt.toNat) : dz_T (f81_X12_mixed fu c2_groups c2_pots c2_ranks c2_draws c2_lawful a48 a49 a52 a53 v1 v2 c2_thrown c2_parts c2_rowsInAll a56 a57 a58 a59 a61 a62 a63 a69 a70 a71 a72) (fun r => dz_rg r.2.2.2.2.1 4 0 3 ∧ dz_rg r.2.2.2.2.2.1 4 0 3 ∧ dz_rg r.2.2.2.2.2.2.2.1 14425 0 16777215 ∧ dz_rg r.2.2.2.2.2.2.2.2.1 13824 0 13823 ∧ dz_rg r.2.2.2.2.2.2.2.2.2.1 16 0 16777215) :=
  t81_X12_mixed_E_g3 fu hfu c2_groups c2_pots c2_ranks c2_draws c2_lawful a48 a49 a52 a53 v1 v2 c2_thrown c2_parts c2_rowsInAll a56 a57 a58 a59 a61 a62 a63 a69 a70 a71 a72 p0 p1 p2 p3 p4 p5 p6 p7 p8 p9 p10 hr_a48 hr_a49 hr_a52 hr_a53 hr_a56 hr_a57 hr_a59 hr_a61 hr_a62 o0 o1 o2 o3 fu hfu
abbrev p81_X12_mixed_g4 (fu : Nat) (c2_groups : Int32) (c2_pots : Int32) (c2_ranks : Int32) (c2_draws : Int32) (c2_lawful : Int32) (a48 : Nat → Int32) (a49 : Nat → Int32) (a52 : Nat → Int32) (a53 : Nat → Int32) (k : Nat) : Prop :=
  (∀ (v3 : Int64) (v5 : Int32) (c2_thrown : Int32) (c2_parts : Int32) (c2_rowsInAll : Int64) (a56 : Nat → Int32) (a57 : Nat → Int32) (a58 : Nat → Int32) (a59 : Nat → Int32) (a61 : Nat → Int32) (a62 : Nat → Int32) (a63 : Nat → Int32) (a69 : Nat → Int32) (a70 : Nat → Int32) (a71 : Nat → Int32) (a72 : Nat → Int32), 1 ≤ c2_lawful.toInt → v5.toInt ≤ 13824 → 0 ≤ v5.toInt → c2_thrown.toInt ≤ 0 → 0 ≤ c2_thrown.toInt → v5.toInt ≤ c2_draws.toInt → dz_rg a56 4 0 3 → dz_rg a57 4 0 3 → dz_rg a59 14425 0 16777215 → dz_rg a61 13824 0 13823 → dz_rg a62 16 0 16777215 → dz_pt a63 [1, 5, 25, 125] → 0 + 0 + (13824 - v5.toInt) * 14 + 7 ≤ ((k : Nat) : Int) → dz_T ((F81_X12_mixed fu c2_groups c2_pots c2_ranks c2_draws c2_lawful a48 a49 a52 a53 k).1 v3 v5 c2_thrown c2_parts c2_rowsInAll a56 a57 a58 a59 a61 a62 a63 a69 a70 a71 a72) (fun r => dz_rg r.2.2.2.2.1 4 0 3 ∧ dz_rg r.2.2.2.2.2.1 4 0 3 ∧ dz_rg r.2.2.2.2.2.2.2.1 14425 0 16777215 ∧ dz_rg r.2.2.2.2.2.2.2.2.1 13824 0 13823 ∧ dz_rg r.2.2.2.2.2.2.2.2.2.1 16 0 16777215))
set_option maxHeartbeats 4000000 in
set_option maxRecDepth 10000 in
theorem t81_X12_mixed_h1_g4 (fu : Nat) (hfu : 1000000000000 ≤ fu) (c2_groups : Int32) (c2_pots : Int32) (c2_ranks : Int32) (c2_draws : Int32) (c2_lawful : Int32) (a48 : Nat → Int32) (a49 : Nat → Int32) (a52 : Nat → Int32) (a53 : Nat → Int32) (p0 : c2_groups.toInt ≤ 4) (p1 : 4 ≤ c2_groups.toInt) (p2 : c2_pots.toInt ≤ 3) (p3 : 0 ≤ c2_pots.toInt) (p4 : c2_ranks.toInt ≤ 24) (p5 : 24 ≤ c2_ranks.toInt) (p6 : c2_draws.toInt ≤ 13824) (p7 : 1 ≤ c2_draws.toInt) (p8 : c2_lawful.toInt ≤ 13824) (p9 : 0 ≤ c2_lawful.toInt) (p10 : c2_lawful.toInt ≤ c2_draws.toInt) (hr_a48 : dz_rg a48 100 0 3) (hr_a49 : dz_rg a49 13824 0 1023) (hr_a52 : dz_rg a52 4 0 3) (hr_a53 : dz_rg a53 4 0 3) (o0 : dz_pm a52 c2_pots.toInt.toNat) (o1 : dz_pm a53 4) (o2 : dz_rw 4 24 a48) (o3 : dz_lf c2_lawful a49 c2_draws.toInt.toNat) (k : Nat) (ih : ∀ j9, j9 < k → p81_X12_mixed_g4 fu c2_groups c2_pots c2_ranks c2_draws c2_lawful a48 a49 a52 a53 j9) : ∀ (v3 : Int64) (v5 : Int32) (c2_thrown : Int32) (c2_parts : Int32) (c2_rowsInAll : Int64) (a56 : Nat → Int32) (a57 : Nat → Int32) (a58 : Nat → Int32) (a59 : Nat → Int32) (a61 : Nat → Int32) (a62 : Nat → Int32) (a63 : Nat → Int32) (a69 : Nat → Int32) (a70 : Nat → Int32) (a71 : Nat → Int32) (a72 : Nat → Int32), 1 ≤ c2_lawful.toInt → v5.toInt ≤ 13824 → 0 ≤ v5.toInt → c2_thrown.toInt ≤ 0 → 0 ≤ c2_thrown.toInt → v5.toInt ≤ c2_draws.toInt → dz_rg a56 4 0 3 → dz_rg a57 4 0 3 → dz_rg a59 14425 0 16777215 → dz_rg a61 13824 0 13823 → dz_rg a62 16 0 16777215 → dz_pt a63 [1, 5, 25, 125] → 0 + 0 + (13824 - v5.toInt) * 14 + 7 ≤ ((k : Nat) : Int) → dz_T ((F81_X12_mixed fu c2_groups c2_pots c2_ranks c2_draws c2_lawful a48 a49 a52 a53 k).1 v3 v5 c2_thrown c2_parts c2_rowsInAll a56 a57 a58 a59 a61 a62 a63 a69 a70 a71 a72) (fun r => dz_rg r.2.2.2.2.1 4 0 3 ∧ dz_rg r.2.2.2.2.2.1 4 0 3 ∧ dz_rg r.2.2.2.2.2.2.2.1 14425 0 16777215 ∧ dz_rg r.2.2.2.2.2.2.2.2.1 13824 0 13823 ∧ dz_rg r.2.2.2.2.2.2.2.2.2.1 16 0 16777215) := by
  intro v3 v5 c2_thrown c2_parts c2_rowsInAll a56 a57 a58 a59 a61 a62 a63 a69 a70 a71 a72 i0 i1 i2 i3 i4 i5 hr_a56 hr_a57 hr_a59 hr_a61 hr_a62 hr_a63 hm
  obtain ⟨k0, rfl⟩ : ∃ x, k = x + 1 := ⟨k - 1, by omega⟩
  show dz_T (s81_X12_mixed_1 fu c2_groups c2_pots c2_ranks c2_draws c2_lawful a48 a49 a52 a53 (F81_X12_mixed fu c2_groups c2_pots c2_ranks c2_draws c2_lawful a48 a49 a52 a53 k0).2.1 (F81_X12_mixed fu c2_groups c2_pots c2_ranks c2_draws c2_lawful a48 a49 a52 a53 k0).2.2  v3 v5 c2_thrown c2_parts c2_rowsInAll a56 a57 a58 a59 a61 a62 a63 a69 a70 a71 a72) _
  unfold s81_X12_mixed_1
  refine dz_Tle (fun h1 => ?_) (fun h1 => ?_)
  · skip
    refine dz_Ts ?_
    dsimp only
    exact ⟨(hr_a56), (hr_a57), (hr_a59), (hr_a61), (hr_a62)⟩
  · skip
    refine dz_Tin (by omega) (by omega) ?_
    have e2 := dz_rgat (hr_a49) (i := v5) (by omega) (by omega)
    have e3 := dz_l0
    refine dz_Teq (fun h4 => ?_) (fun h4 => ?_)
    · skip
      refine dz_Tin (by omega) (by omega) ?_
      refine dz_Tle (fun h5 => ?_) (fun h5 => ?_)
      · skip
        obtain ⟨k1, rfl⟩ : ∃ x, k0 = x + 1 := ⟨k0 - 1, by omega⟩
        show dz_T (s81_X12_mixed_2 fu c2_groups c2_pots c2_ranks c2_draws c2_lawful a48 a49 a52 a53 (F81_X12_mixed fu c2_groups c2_pots c2_ranks c2_draws c2_lawful a48 a49 a52 a53 k1).2.2 v5 (((a71 v5.toNatClampNeg).toInt64 * c2_lawful.toInt64) - c2_rowsInAll) v3 c2_thrown c2_parts c2_rowsInAll a56 a57 a58 a59 a61 a62 a63 a69 a70 a71 a72) _
        unfold s81_X12_mixed_2
        obtain ⟨k2, rfl⟩ : ∃ x, k1 = x + 1 := ⟨k1 - 1, by omega⟩
        show dz_T (s81_X12_mixed_3 fu c2_groups c2_pots c2_ranks c2_draws c2_lawful a48 a49 a52 a53 (F81_X12_mixed fu c2_groups c2_pots c2_ranks c2_draws c2_lawful a48 a49 a52 a53 k2).1 (v3 + (((a71 v5.toNatClampNeg).toInt64 * c2_lawful.toInt64) - c2_rowsInAll)) v5 c2_thrown c2_parts c2_rowsInAll a56 a57 a58 a59 a61 a62 a63 a69 a70 a71 a72) _
        unfold s81_X12_mixed_3
        have e6 := dz_l1
        have e7 := dz_add (a := v5) (b := (1 : Int32)) (by omega) (by omega)
        exact (ih k2 (by omega)) (v3 + (((a71 v5.toNatClampNeg).toInt64 * c2_lawful.toInt64) - c2_rowsInAll)) (v5 + (1 : Int32)) c2_thrown c2_parts c2_rowsInAll a56 a57 a58 a59 a61 a62 a63 a69 a70 a71 a72 i0 (by omega) (by omega) i3 i4 (by omega) (hr_a56) (hr_a57) (hr_a59) (hr_a61) (hr_a62) (hr_a63) (by omega)
      · skip
        obtain ⟨k3, rfl⟩ : ∃ x, k0 = x + 1 := ⟨k0 - 1, by omega⟩
        show dz_T (s81_X12_mixed_2 fu c2_groups c2_pots c2_ranks c2_draws c2_lawful a48 a49 a52 a53 (F81_X12_mixed fu c2_groups c2_pots c2_ranks c2_draws c2_lawful a48 a49 a52 a53 k3).2.2 v5 ((-(((a71 v5.toNatClampNeg).toInt64 * c2_lawful.toInt64) - c2_rowsInAll)) : Int64) v3 c2_thrown c2_parts c2_rowsInAll a56 a57 a58 a59 a61 a62 a63 a69 a70 a71 a72) _
        unfold s81_X12_mixed_2
        obtain ⟨k4, rfl⟩ : ∃ x, k3 = x + 1 := ⟨k3 - 1, by omega⟩
        show dz_T (s81_X12_mixed_3 fu c2_groups c2_pots c2_ranks c2_draws c2_lawful a48 a49 a52 a53 (F81_X12_mixed fu c2_groups c2_pots c2_ranks c2_draws c2_lawful a48 a49 a52 a53 k4).1 (v3 + (-(((a71 v5.toNatClampNeg).toInt64 * c2_lawful.toInt64) - c2_rowsInAll))) v5 c2_thrown c2_parts c2_rowsInAll a56 a57 a58 a59 a61 a62 a63 a69 a70 a71 a72) _
        unfold s81_X12_mixed_3
        have e8 := dz_l1
        have e9 := dz_add (a := v5) (b := (1 : Int32)) (by omega) (by omega)
        exact (ih k4 (by omega)) (v3 + (-(((a71 v5.toNatClampNeg).toInt64 * c2_lawful.toInt64) - c2_rowsInAll))) (v5 + (1 : Int32)) c2_thrown c2_parts c2_rowsInAll a56 a57 a58 a59 a61 a62 a63 a69 a70 a71 a72 i0 (by omega) (by omega) i3 i4 (by omega) (hr_a56) (hr_a57) (hr_a59) (hr_a61) (hr_a62) (hr_a63) (by omega)
    · skip
      obtain ⟨k5, rfl⟩ : ∃ x, k0 = x + 1 := ⟨k0 - 1, by omega⟩
      show dz_T (s81_X12_mixed_3 fu c2_groups c2_pots c2_ranks c2_draws c2_lawful a48 a49 a52 a53 (F81_X12_mixed fu c2_groups c2_pots c2_ranks c2_draws c2_lawful a48 a49 a52 a53 k5).1 v3 v5 c2_thrown c2_parts c2_rowsInAll a56 a57 a58 a59 a61 a62 a63 a69 a70 a71 a72) _
      unfold s81_X12_mixed_3
      have e10 := dz_l1
      have e11 := dz_add (a := v5) (b := (1 : Int32)) (by omega) (by omega)
      exact (ih k5 (by omega)) v3 (v5 + (1 : Int32)) c2_thrown c2_parts c2_rowsInAll a56 a57 a58 a59 a61 a62 a63 a69 a70 a71 a72 i0 (by omega) (by omega) i3 i4 (by omega) (hr_a56) (hr_a57) (hr_a59) (hr_a61) (hr_a62) (hr_a63) (by omega)
theorem t81_X12_mixed_I_g4 (fu : Nat) (hfu : 1000000000000 ≤ fu) (c2_groups : Int32) (c2_pots : Int32) (c2_ranks : Int32) (c2_draws : Int32) (c2_lawful : Int32) (a48 : Nat → Int32) (a49 : Nat → Int32) (a52 : Nat → Int32) (a53 : Nat → Int32) (p0 : c2_groups.toInt ≤ 4) (p1 : 4 ≤ c2_groups.toInt) (p2 : c2_pots.toInt ≤ 3) (p3 : 0 ≤ c2_pots.toInt) (p4 : c2_ranks.toInt ≤ 24) (p5 : 24 ≤ c2_ranks.toInt) (p6 : c2_draws.toInt ≤ 13824) (p7 : 1 ≤ c2_draws.toInt) (p8 : c2_lawful.toInt ≤ 13824) (p9 : 0 ≤ c2_lawful.toInt) (p10 : c2_lawful.toInt ≤ c2_draws.toInt) (hr_a48 : dz_rg a48 100 0 3) (hr_a49 : dz_rg a49 13824 0 1023) (hr_a52 : dz_rg a52 4 0 3) (hr_a53 : dz_rg a53 4 0 3) (o0 : dz_pm a52 c2_pots.toInt.toNat) (o1 : dz_pm a53 4) (o2 : dz_rw 4 24 a48) (o3 : dz_lf c2_lawful a49 c2_draws.toInt.toNat) (k : Nat) : p81_X12_mixed_g4 fu c2_groups c2_pots c2_ranks c2_draws c2_lawful a48 a49 a52 a53 k := by
  induction k using Nat.strongRecOn with
  | _ k ih => exact t81_X12_mixed_h1_g4 fu hfu c2_groups c2_pots c2_ranks c2_draws c2_lawful a48 a49 a52 a53 p0 p1 p2 p3 p4 p5 p6 p7 p8 p9 p10 hr_a48 hr_a49 hr_a52 hr_a53 o0 o1 o2 o3 k ih
set_option maxHeartbeats 4000000 in
set_option maxRecDepth 10000 in
theorem t81_X12_mixed_E_g4 (fu : Nat) (hfu : 1000000000000 ≤ fu) (c2_groups : Int32) (c2_pots : Int32) (c2_ranks : Int32) (c2_draws : Int32) (c2_lawful : Int32) (a48 : Nat → Int32) (a49 : Nat → Int32) (a52 : Nat → Int32) (a53 : Nat → Int32) (v1 : Int32) (v2 : Int32) (c2_thrown : Int32) (c2_parts : Int32) (c2_rowsInAll : Int64) (a56 : Nat → Int32) (a57 : Nat → Int32) (a58 : Nat → Int32) (a59 : Nat → Int32) (a61 : Nat → Int32) (a62 : Nat → Int32) (a63 : Nat → Int32) (a69 : Nat → Int32) (a70 : Nat → Int32) (a71 : Nat → Int32) (a72 : Nat → Int32) (p0 : c2_groups.toInt ≤ 4) (p1 : 4 ≤ c2_groups.toInt) (p2 : c2_pots.toInt ≤ 3) (p3 : 0 ≤ c2_pots.toInt) (p4 : c2_ranks.toInt ≤ 24) (p5 : 24 ≤ c2_ranks.toInt) (p6 : c2_draws.toInt ≤ 13824) (p7 : 1 ≤ c2_draws.toInt) (p8 : c2_lawful.toInt ≤ 13824) (p9 : 0 ≤ c2_lawful.toInt) (p10 : c2_lawful.toInt ≤ c2_draws.toInt) (hr_a48 : dz_rg a48 100 0 3) (hr_a49 : dz_rg a49 13824 0 1023) (hr_a52 : dz_rg a52 4 0 3) (hr_a53 : dz_rg a53 4 0 3) (hr_a56 : dz_rg a56 4 0 3) (hr_a57 : dz_rg a57 4 0 3) (hr_a59 : dz_rg a59 14425 0 16777215) (hr_a61 : dz_rg a61 13824 0 13823) (hr_a62 : dz_rg a62 16 0 16777215) (o0 : dz_pm a52 c2_pots.toInt.toNat) (o1 : dz_pm a53 4) (o2 : dz_rw 4 24 a48) (o3 : dz_lf c2_lawful a49 c2_draws.toInt.toNat) (kv : Nat) (hkv : 1000000000000 ≤ kv) : dz_T (s81_X12_mixed_0 fu c2_groups c2_pots c2_ranks c2_draws c2_lawful a48 a49 a52 a53 (F81_X12_mixed fu c2_groups c2_pots c2_ranks c2_draws c2_lawful a48 a49 a52 a53 kv).1  v1 v2 c2_thrown c2_parts c2_rowsInAll a56 a57 a58 a59 a61 a62 a63 a69 a70 a71 a72) (fun r => dz_rg r.2.2.2.2.1 4 0 3 ∧ dz_rg r.2.2.2.2.2.1 4 0 3 ∧ dz_rg r.2.2.2.2.2.2.2.1 14425 0 16777215 ∧ dz_rg r.2.2.2.2.2.2.2.2.1 13824 0 13823 ∧ dz_rg r.2.2.2.2.2.2.2.2.2.1 16 0 16777215) := by
  unfold s81_X12_mixed_0
  refine dz_Tbe (show f1_X12_isIn fu v1 (0 : Int32) (5 : Int32) = (if (v1 < (0 : Int32)) then (some (0 : Int32)) else (if ((5 : Int32) < v1) then (some (0 : Int32)) else (some (1 : Int32)))) from rfl) ?_
  have e1 := dz_l0
  refine dz_Tltb (fun h2 => ?_) (fun h2 => ?_)
  · skip
    refine dz_Tsb ?_
    refine dz_Teq (fun h3 => ?_) (fun h3 => ?_)
    · skip
      refine dz_Ts ?_
      dsimp only
      exact ⟨(hr_a56), (hr_a57), (hr_a59), (hr_a61), (hr_a62)⟩
    · skip
      exfalso; omega
  · skip
    have e4 := dz_l5
    refine dz_Tltb (fun h5 => ?_) (fun h5 => ?_)
    · skip
      refine dz_Tsb ?_
      refine dz_Teq (fun h6 => ?_) (fun h6 => ?_)
      · skip
        refine dz_Ts ?_
        dsimp only
        exact ⟨(hr_a56), (hr_a57), (hr_a59), (hr_a61), (hr_a62)⟩
      · skip
        exfalso; omega
    · skip
      refine dz_Tsb ?_
      have e7 := dz_l1
      refine dz_Teq (fun h8 => ?_) (fun h8 => ?_)
      · skip
        exfalso; omega
      · skip
        refine dz_Tbe (show f1_X12_isIn fu v2 (0 : Int32) (1 : Int32) = (if (v2 < (0 : Int32)) then (some (0 : Int32)) else (if ((1 : Int32) < v2) then (some (0 : Int32)) else (some (1 : Int32)))) from rfl) ?_
        refine dz_Tltb (fun h9 => ?_) (fun h9 => ?_)
        · skip
          refine dz_Tsb ?_
          refine dz_Teq (fun h10 => ?_) (fun h10 => ?_)
          · skip
            refine dz_Ts ?_
            dsimp only
            exact ⟨(hr_a56), (hr_a57), (hr_a59), (hr_a61), (hr_a62)⟩
          · skip
            exfalso; omega
        · skip
          refine dz_Tltb (fun h11 => ?_) (fun h11 => ?_)
          · skip
            refine dz_Tsb ?_
            refine dz_Teq (fun h12 => ?_) (fun h12 => ?_)
            · skip
              refine dz_Ts ?_
              dsimp only
              exact ⟨(hr_a56), (hr_a57), (hr_a59), (hr_a61), (hr_a62)⟩
            · skip
              exfalso; omega
          · skip
            refine dz_Tsb ?_
            refine dz_Teq (fun h13 => ?_) (fun h13 => ?_)
            · skip
              exfalso; omega
            · skip
              refine dz_Teq (fun h14 => ?_) (fun h14 => ?_)
              · skip
                refine dz_Ts ?_
                dsimp only
                exact ⟨(hr_a56), (hr_a57), (hr_a59), (hr_a61), (hr_a62)⟩
              · skip
                refine dz_Tb (t79_X12_mixes_g4 fu hfu _ _ _ _ _ _ _ _ _ _ _ _ _ _ _ _ _ _ _ _ _ _ p0 p1 p2 p3 p4 p5 p6 p7 (by first | assumption | omega) (by first | assumption | omega) (hr_a48) (hr_a49) (hr_a52) (hr_a53) (hr_a56) (hr_a57) (hr_a59) (hr_a61) (hr_a62) o0 o1 o2 (dz_lfw o3 (by omega))) (fun r3 q => ?_)
                obtain ⟨qa3_2, qa3_3, qa3_5, qa3_6, qa3_7, qa3_8⟩ := q
                refine dz_Teq (fun h15 => ?_) (fun h15 => ?_)
                · skip
                  refine dz_Ts ?_
                  dsimp only
                  exact ⟨(qa3_2), (qa3_3), (qa3_5), (qa3_6), (qa3_7)⟩
                · skip
                  exact (t81_X12_mixed_I_g4 fu hfu c2_groups c2_pots c2_ranks c2_draws c2_lawful a48 a49 a52 a53 p0 p1 p2 p3 p4 p5 p6 p7 p8 p9 p10 hr_a48 hr_a49 hr_a52 hr_a53 o0 o1 o2 o3 kv) (0 : Int64) (0 : Int32) (0 : Int32) r3.1 r3.2.1 r3.2.2.1 r3.2.2.2.1 r3.2.2.2.2.1 r3.2.2.2.2.2.1 r3.2.2.2.2.2.2.1 r3.2.2.2.2.2.2.2.1 r3.2.2.2.2.2.2.2.2.1 r3.2.2.2.2.2.2.2.2.2.1 r3.2.2.2.2.2.2.2.2.2.2.1 r3.2.2.2.2.2.2.2.2.2.2.2.1 r3.2.2.2.2.2.2.2.2.2.2.2.2 (by first | assumption | omega) (by omega) (by omega) (by omega) (by omega) (by omega) (qa3_2) (qa3_3) (qa3_5) (qa3_6) (qa3_7) (qa3_8) (by omega)
theorem t81_X12_mixed_g4 (fu : Nat) (hfu : 1000000000000 ≤ fu) (c2_groups : Int32) (c2_pots : Int32) (c2_ranks : Int32) (c2_draws : Int32) (c2_lawful : Int32) (a48 : Nat → Int32) (a49 : Nat → Int32) (a52 : Nat → Int32) (a53 : Nat → Int32) (v1 : Int32) (v2 : Int32) (c2_thrown : Int32) (c2_parts : Int32) (c2_rowsInAll : Int64) (a56 : Nat → Int32) (a57 : Nat → Int32) (a58 : Nat → Int32) (a59 : Nat → Int32) (a61 : Nat → Int32) (a62 : Nat → Int32) (a63 : Nat → Int32) (a69 : Nat → Int32) (a70 : Nat → Int32) (a71 : Nat → Int32) (a72 : Nat → Int32) (p0 : c2_groups.toInt ≤ 4) (p1 : 4 ≤ c2_groups.toInt) (p2 : c2_pots.toInt ≤ 3) (p3 : 0 ≤ c2_pots.toInt) (p4 : c2_ranks.toInt ≤ 24) (p5 : 24 ≤ c2_ranks.toInt) (p6 : c2_draws.toInt ≤ 13824) (p7 : 1 ≤ c2_draws.toInt) (p8 : c2_lawful.toInt ≤ 13824) (p9 : 0 ≤ c2_lawful.toInt) (p10 : c2_lawful.toInt ≤ c2_draws.toInt) (hr_a48 : dz_rg a48 100 0 3) (hr_a49 : dz_rg a49 13824 0 1023) (hr_a52 : dz_rg a52 4 0 3) (hr_a53 : dz_rg a53 4 0 3) (hr_a56 : dz_rg a56 4 0 3) (hr_a57 : dz_rg a57 4 0 3) (hr_a59 : dz_rg a59 14425 0 16777215) (hr_a61 : dz_rg a61 13824 0 13823) (hr_a62 : dz_rg a62 16 0 16777215) (o0 : dz_pm a52 c2_pots.toInt.toNat) (o1 : dz_pm a53 4) (o2 : dz_rw 4 24 a48) (o3 : dz_lf c2_lawful a49 c2_draws.toInt.toNat) : dz_T (f81_X12_mixed fu c2_groups c2_pots c2_ranks c2_draws c2_lawful a48 a49 a52 a53 v1 v2 c2_thrown c2_parts c2_rowsInAll a56 a57 a58 a59 a61 a62 a63 a69 a70 a71 a72) (fun r => dz_rg r.2.2.2.2.1 4 0 3 ∧ dz_rg r.2.2.2.2.2.1 4 0 3 ∧ dz_rg r.2.2.2.2.2.2.2.1 14425 0 16777215 ∧ dz_rg r.2.2.2.2.2.2.2.2.1 13824 0 13823 ∧ dz_rg r.2.2.2.2.2.2.2.2.2.1 16 0 16777215) :=
  t81_X12_mixed_E_g4 fu hfu c2_groups c2_pots c2_ranks c2_draws c2_lawful a48 a49 a52 a53 v1 v2 c2_thrown c2_parts c2_rowsInAll a56 a57 a58 a59 a61 a62 a63 a69 a70 a71 a72 p0 p1 p2 p3 p4 p5 p6 p7 p8 p9 p10 hr_a48 hr_a49 hr_a52 hr_a53 hr_a56 hr_a57 hr_a59 hr_a61 hr_a62 o0 o1 o2 o3 fu hfu
