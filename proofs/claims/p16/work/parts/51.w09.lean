set_option maxHeartbeats 4000000 in
set_option maxRecDepth 10000 in
theorem t62_X12_pair_s (fu : Nat) (hfu : 1000000000000 ≤ fu) (κ : Nat) (hκ : κ < 14) (c2_groups : Int32) (c2_pots : Int32) (c2_ranks : Int32) (c2_draws : Int32) (c2_lawful : Int32) (c2_out : Int32) (a48 : Nat → Int32) (a49 : Nat → Int32) (a50 : Nat → Int32) (a52 : Nat → Int32) (a53 : Nat → Int32) (a54 : Nat → Int32) (a55 : Nat → Int32) (v1 : Int32) (v2 : Int32) (v3 : Int32) (c2_thrown : Int32) (c2_parts : Int32) (c2_laid : Int32) (a56 : Nat → Int32) (a57 : Nat → Int32) (a58 : Nat → Int32) (a59 : Nat → Int32) (a60 : Nat → Int64) (a61 : Nat → Int32) (a62 : Nat → Int32) (a63 : Nat → Int32) (a64 : Nat → Int64) (a65 : Nat → Int64) (p0 : c2_groups.toInt ≤ 4) (p1 : 2 ≤ c2_groups.toInt) (p2 : c2_pots.toInt ≤ 4) (p3 : 0 ≤ c2_pots.toInt) (p4 : c2_ranks.toInt ≤ 24) (p5 : 2 ≤ c2_ranks.toInt) (p6 : c2_draws.toInt ≤ 13824) (p7 : 1 ≤ c2_draws.toInt) (p8 : c2_lawful.toInt ≤ 13824) (p9 : 0 ≤ c2_lawful.toInt) (p10 : c2_out.toInt ≤ 12) (p11 : 0 ≤ c2_out.toInt) (p12 : c2_lawful.toInt ≤ c2_draws.toInt) (hr_a48 : dz_rg a48 100 0 3) (hr_a49 : dz_rg a49 13824 0 1023) (hr_a50 : dz_rg a50 165888 0 3) (hr_a52 : dz_rg a52 4 0 3) (hr_a53 : dz_rg a53 4 0 3) (hr_a54 : dz_rg a54 12 0 11) (hr_a55 : dz_rg a55 12 0 3) (hr_a56 : dz_rg a56 4 0 3) (hr_a57 : dz_rg a57 4 0 3) (hr_a59 : dz_rg a59 14425 0 16777215) (hr_a61 : dz_rg a61 13824 0 13823) (hr_a62 : dz_rg a62 16 0 16777215) (o0 : dz_pm a52 (dz_kp κ)) (o1 : dz_pm a53 (dz_kg κ)) (o2 : dz_rw (dz_kg κ) (dz_kr κ) a48) (o3 : ∀ t : Int, dz_pp (dz_kg κ) (dz_kr κ) a54 a55 t c2_out.toInt.toNat) (o4 : c2_out.toInt ≤ ((dz_km κ : Nat) : Int)) (o5 : c2_groups.toInt = ((dz_kg κ : Nat) : Int)) (o6 : c2_pots.toInt = ((dz_kp κ : Nat) : Int)) (o7 : c2_ranks.toInt = ((dz_kr κ : Nat) : Int)) (o8 : c2_draws.toInt = ((dz_kt κ : Nat) : Int)) : dz_T (f62_X12_pair fu c2_groups c2_pots c2_ranks c2_draws c2_lawful c2_out a48 a49 a50 a52 a53 a54 a55 v1 v2 v3 c2_thrown c2_parts c2_laid a56 a57 a58 a59 a60 a61 a62 a63 a64 a65) (fun r => dz_rg r.2.2.2.2.1 4 0 3 ∧ dz_rg r.2.2.2.2.2.1 4 0 3 ∧ dz_rg r.2.2.2.2.2.2.2.1 14425 0 16777215 ∧ dz_rg r.2.2.2.2.2.2.2.2.2.1 13824 0 13823 ∧ dz_rg r.2.2.2.2.2.2.2.2.2.2.1 16 0 16777215) := by
  unfold f62_X12_pair s62_X12_pair_0
  refine dz_Tbe (show f31_X12_isTeam fu c2_groups c2_pots v1 = (if (v1 < (0 : Int32)) then (some (0 : Int32)) else (Option.bind (f9_X12_teams fu c2_groups c2_pots) (fun b2 => (if (b2 ≤ v1) then (some (0 : Int32)) else (some (1 : Int32)))))) from rfl) ?_
  have e1 := dz_l0
  refine dz_Tltb (fun h2 => ?_) (fun h2 => ?_)
  · skip
    refine dz_Tsb ?_
    refine dz_Teq (fun h3 => ?_) (fun h3 => ?_)
    · skip
      refine dz_Ts ?_
      dsimp only
      exact ⟨(hr_a56), (hr_a57), (hr_a59), (hr_a61), (hr_a62)⟩
    · skip
      exfalso; omega
  · skip
    refine dz_Tba ?_
    refine dz_Tb (t9_X12_teams_s fu hfu κ hκ _ _ p0 p1 p2 p3 o5 o6) (fun r3 q => ?_)
    obtain ⟨q3_0, q3_1, q3_2, qo3_0⟩ := q
    refine dz_Tleb (fun h4 => ?_) (fun h4 => ?_)
    · skip
      refine dz_Tsb ?_
      refine dz_Teq (fun h5 => ?_) (fun h5 => ?_)
      · skip
        refine dz_Ts ?_
        dsimp only
        exact ⟨(hr_a56), (hr_a57), (hr_a59), (hr_a61), (hr_a62)⟩
      · skip
        exfalso; omega
    · skip
      refine dz_Tsb ?_
      have e6 := dz_l1
      refine dz_Teq (fun h7 => ?_) (fun h7 => ?_)
      · skip
        exfalso; omega
      · skip
        refine dz_Tbe (show f31_X12_isTeam fu c2_groups c2_pots v2 = (if (v2 < (0 : Int32)) then (some (0 : Int32)) else (Option.bind (f9_X12_teams fu c2_groups c2_pots) (fun b5 => (if (b5 ≤ v2) then (some (0 : Int32)) else (some (1 : Int32)))))) from rfl) ?_
        refine dz_Tltb (fun h8 => ?_) (fun h8 => ?_)
        · skip
          refine dz_Tsb ?_
          refine dz_Teq (fun h9 => ?_) (fun h9 => ?_)
          · skip
            refine dz_Ts ?_
            dsimp only
            exact ⟨(hr_a56), (hr_a57), (hr_a59), (hr_a61), (hr_a62)⟩
          · skip
            exfalso; omega
        · skip
          refine dz_Tba ?_
          refine dz_Tb (t9_X12_teams_s fu hfu κ hκ _ _ p0 p1 p2 p3 o5 o6) (fun r6 q => ?_)
          obtain ⟨q6_0, q6_1, q6_2, qo6_0⟩ := q
          refine dz_Tleb (fun h10 => ?_) (fun h10 => ?_)
          · skip
            refine dz_Tsb ?_
            refine dz_Teq (fun h11 => ?_) (fun h11 => ?_)
            · skip
              refine dz_Ts ?_
              dsimp only
              exact ⟨(hr_a56), (hr_a57), (hr_a59), (hr_a61), (hr_a62)⟩
            · skip
              exfalso; omega
          · skip
            refine dz_Tsb ?_
            refine dz_Teq (fun h12 => ?_) (fun h12 => ?_)
            · skip
              exfalso; omega
            · skip
              refine dz_Teq (fun h13 => ?_) (fun h13 => ?_)
              · skip
                refine dz_Ts ?_
                dsimp only
                exact ⟨(hr_a56), (hr_a57), (hr_a59), (hr_a61), (hr_a62)⟩
              · skip
                refine dz_Tbe (show f61_X12_isWay fu v3 = (if (v3 < (0 : Int32)) then (some (0 : Int32)) else (if ((3 : Int32) ≤ v3) then (some (0 : Int32)) else (some (1 : Int32)))) from rfl) ?_
                refine dz_Tltb (fun h14 => ?_) (fun h14 => ?_)
                · skip
                  refine dz_Tsb ?_
                  refine dz_Teq (fun h15 => ?_) (fun h15 => ?_)
                  · skip
                    refine dz_Ts ?_
                    dsimp only
                    exact ⟨(hr_a56), (hr_a57), (hr_a59), (hr_a61), (hr_a62)⟩
                  · skip
                    exfalso; omega
                · skip
                  have e16 := dz_l3
                  refine dz_Tleb (fun h17 => ?_) (fun h17 => ?_)
                  · skip
                    refine dz_Tsb ?_
                    refine dz_Teq (fun h18 => ?_) (fun h18 => ?_)
                    · skip
                      refine dz_Ts ?_
                      dsimp only
                      exact ⟨(hr_a56), (hr_a57), (hr_a59), (hr_a61), (hr_a62)⟩
                    · skip
                      exfalso; omega
                  · skip
                    refine dz_Tsb ?_
                    refine dz_Teq (fun h19 => ?_) (fun h19 => ?_)
                    · skip
                      exfalso; omega
                    · skip
                      refine dz_Tb (t58_X12_layStage_s fu hfu κ hκ _ _ _ _ _ _ _ _ _ _ _ _ _ _ _ _ _ _ _ _ _ _ _ _ _ _ p0 p1 p2 p3 p4 p5 p6 p7 p8 p9 p10 p11 p12 (by first | assumption | omega) (by first | assumption | omega) (hr_a48) (hr_a49) (hr_a50) (hr_a52) (hr_a53) (hr_a54) (hr_a55) (hr_a56) (hr_a57) (hr_a59) (hr_a61) (hr_a62) o0 o1 o2 o3 o4 o5 o6 o7 o8) (fun r8 q => ?_)
                      obtain ⟨qa8_2, qa8_3, qa8_5, qa8_7, qa8_8⟩ := q
                      refine dz_Tb (t60_X12_pairRows_s fu hfu κ hκ _ _ _ _ _ p6 p7 (by first | assumption | omega) (by first | assumption | omega) (by first | assumption | omega) (by first | assumption | omega) (hr_a50) o8) (fun r9 _ => ?_)
                      refine dz_Ts ?_
                      dsimp only
                      exact ⟨(qa8_2), (qa8_3), (qa8_5), (qa8_7), (qa8_8)⟩
abbrev p63_X12_place_s (fu : Nat) (κ : Nat) (c2_groups : Int32) (c2_pots : Int32) (c2_ranks : Int32) (c2_draws : Int32) (c2_lawful : Int32) (c2_out : Int32) (a48 : Nat → Int32) (a49 : Nat → Int32) (a50 : Nat → Int32) (a52 : Nat → Int32) (a53 : Nat → Int32) (a54 : Nat → Int32) (a55 : Nat → Int32) (k : Nat) : Prop :=
  (∀ (v1 : Int32) (v2 : Int32) (v4 : Int64) (v6 : Int32) (c2_thrown : Int32) (c2_parts : Int32) (c2_laid : Int32) (a56 : Nat → Int32) (a57 : Nat → Int32) (a58 : Nat → Int32) (a59 : Nat → Int32) (a60 : Nat → Int64) (a61 : Nat → Int32) (a62 : Nat → Int32) (a63 : Nat → Int32) (a64 : Nat → Int64) (a65 : Nat → Int64), v1.toInt ≤ 11 → 0 ≤ v1.toInt → v2.toInt ≤ 3 → 0 ≤ v2.toInt → v6.toInt ≤ 13824 → 0 ≤ v6.toInt → c2_thrown.toInt ≤ 0 → 0 ≤ c2_thrown.toInt → v2.toInt + 1 ≤ c2_groups.toInt → v6.toInt ≤ c2_draws.toInt → v1.toInt ≤ c2_groups.toInt + 8 → dz_rg a56 4 0 3 → dz_rg a57 4 0 3 → dz_rg a59 14425 0 16777215 → dz_rg a61 13824 0 13823 → dz_rg a62 16 0 16777215 → 0 + 0 + (13824 - v6.toInt) * 12 + 6 ≤ ((k : Nat) : Int) → dz_T ((F63_X12_place fu c2_groups c2_pots c2_ranks c2_draws c2_lawful c2_out a48 a49 a50 a52 a53 a54 a55 k).1 v1 v2 v4 v6 c2_thrown c2_parts c2_laid a56 a57 a58 a59 a60 a61 a62 a63 a64 a65) (fun r => dz_rg r.2.2.2.2.1 4 0 3 ∧ dz_rg r.2.2.2.2.2.1 4 0 3 ∧ dz_rg r.2.2.2.2.2.2.2.1 14425 0 16777215 ∧ dz_rg r.2.2.2.2.2.2.2.2.2.1 13824 0 13823 ∧ dz_rg r.2.2.2.2.2.2.2.2.2.2.1 16 0 16777215))
set_option maxHeartbeats 4000000 in
set_option maxRecDepth 10000 in
theorem t63_X12_place_h1_s (fu : Nat) (hfu : 1000000000000 ≤ fu) (κ : Nat) (hκ : κ < 14) (c2_groups : Int32) (c2_pots : Int32) (c2_ranks : Int32) (c2_draws : Int32) (c2_lawful : Int32) (c2_out : Int32) (a48 : Nat → Int32) (a49 : Nat → Int32) (a50 : Nat → Int32) (a52 : Nat → Int32) (a53 : Nat → Int32) (a54 : Nat → Int32) (a55 : Nat → Int32) (p0 : c2_groups.toInt ≤ 4) (p1 : 2 ≤ c2_groups.toInt) (p2 : c2_pots.toInt ≤ 4) (p3 : 0 ≤ c2_pots.toInt) (p4 : c2_ranks.toInt ≤ 24) (p5 : 2 ≤ c2_ranks.toInt) (p6 : c2_draws.toInt ≤ 13824) (p7 : 1 ≤ c2_draws.toInt) (p8 : c2_lawful.toInt ≤ 13824) (p9 : 0 ≤ c2_lawful.toInt) (p10 : c2_out.toInt ≤ 12) (p11 : 0 ≤ c2_out.toInt) (p12 : c2_lawful.toInt ≤ c2_draws.toInt) (hr_a48 : dz_rg a48 100 0 3) (hr_a49 : dz_rg a49 13824 0 1023) (hr_a50 : dz_rg a50 165888 0 3) (hr_a52 : dz_rg a52 4 0 3) (hr_a53 : dz_rg a53 4 0 3) (hr_a54 : dz_rg a54 12 0 11) (hr_a55 : dz_rg a55 12 0 3) (o0 : dz_pm a52 (dz_kp κ)) (o1 : dz_pm a53 (dz_kg κ)) (o2 : dz_rw (dz_kg κ) (dz_kr κ) a48) (o3 : ∀ t : Int, dz_pp (dz_kg κ) (dz_kr κ) a54 a55 t c2_out.toInt.toNat) (o4 : c2_out.toInt ≤ ((dz_km κ : Nat) : Int)) (o5 : c2_groups.toInt = ((dz_kg κ : Nat) : Int)) (o6 : c2_pots.toInt = ((dz_kp κ : Nat) : Int)) (o7 : c2_ranks.toInt = ((dz_kr κ : Nat) : Int)) (o8 : c2_draws.toInt = ((dz_kt κ : Nat) : Int)) (k : Nat) (ih : ∀ j9, j9 < k → p63_X12_place_s fu κ c2_groups c2_pots c2_ranks c2_draws c2_lawful c2_out a48 a49 a50 a52 a53 a54 a55 j9) : ∀ (v1 : Int32) (v2 : Int32) (v4 : Int64) (v6 : Int32) (c2_thrown : Int32) (c2_parts : Int32) (c2_laid : Int32) (a56 : Nat → Int32) (a57 : Nat → Int32) (a58 : Nat → Int32) (a59 : Nat → Int32) (a60 : Nat → Int64) (a61 : Nat → Int32) (a62 : Nat → Int32) (a63 : Nat → Int32) (a64 : Nat → Int64) (a65 : Nat → Int64), v1.toInt ≤ 11 → 0 ≤ v1.toInt → v2.toInt ≤ 3 → 0 ≤ v2.toInt → v6.toInt ≤ 13824 → 0 ≤ v6.toInt → c2_thrown.toInt ≤ 0 → 0 ≤ c2_thrown.toInt → v2.toInt + 1 ≤ c2_groups.toInt → v6.toInt ≤ c2_draws.toInt → v1.toInt ≤ c2_groups.toInt + 8 → dz_rg a56 4 0 3 → dz_rg a57 4 0 3 → dz_rg a59 14425 0 16777215 → dz_rg a61 13824 0 13823 → dz_rg a62 16 0 16777215 → 0 + 0 + (13824 - v6.toInt) * 12 + 6 ≤ ((k : Nat) : Int) → dz_T ((F63_X12_place fu c2_groups c2_pots c2_ranks c2_draws c2_lawful c2_out a48 a49 a50 a52 a53 a54 a55 k).1 v1 v2 v4 v6 c2_thrown c2_parts c2_laid a56 a57 a58 a59 a60 a61 a62 a63 a64 a65) (fun r => dz_rg r.2.2.2.2.1 4 0 3 ∧ dz_rg r.2.2.2.2.2.1 4 0 3 ∧ dz_rg r.2.2.2.2.2.2.2.1 14425 0 16777215 ∧ dz_rg r.2.2.2.2.2.2.2.2.2.1 13824 0 13823 ∧ dz_rg r.2.2.2.2.2.2.2.2.2.2.1 16 0 16777215) := by
  intro v1 v2 v4 v6 c2_thrown c2_parts c2_laid a56 a57 a58 a59 a60 a61 a62 a63 a64 a65 i0 i1 i2 i3 i4 i5 i6 i7 i8 i9 i10 hr_a56 hr_a57 hr_a59 hr_a61 hr_a62 hm
  obtain ⟨k0, rfl⟩ : ∃ x, k = x + 1 := ⟨k - 1, by omega⟩
  show dz_T (s63_X12_place_1 fu c2_groups c2_pots c2_ranks c2_draws c2_lawful c2_out a48 a49 a50 a52 a53 a54 a55 (F63_X12_place fu c2_groups c2_pots c2_ranks c2_draws c2_lawful c2_out a48 a49 a50 a52 a53 a54 a55 k0).2  v1 v2 v4 v6 c2_thrown c2_parts c2_laid a56 a57 a58 a59 a60 a61 a62 a63 a64 a65) _
  unfold s63_X12_place_1
  refine dz_Tle (fun h1 => ?_) (fun h1 => ?_)
  · skip
    refine dz_Ts ?_
    dsimp only
    exact ⟨(hr_a56), (hr_a57), (hr_a59), (hr_a61), (hr_a62)⟩
  · skip
    have e2 := dz_l12
    have e3 := dz_mull (a := (12 : Int32)) (b := v6) 12 (by omega) (by omega) (by omega)
    have e4 := dz_add (a := ((12 : Int32) * v6)) (b := v1) (by omega) (by omega)
    refine dz_Tin (by omega) (by omega) ?_
    have e5 := dz_rgat (hr_a50) (i := (((12 : Int32) * v6) + v1)) (by omega) (by omega)
    refine dz_Teq (fun h6 => ?_) (fun h6 => ?_)
    · skip
      refine dz_Tin (by omega) (by omega) ?_
      obtain ⟨k1, rfl⟩ : ∃ x, k0 = x + 1 := ⟨k0 - 1, by omega⟩
      show dz_T (s63_X12_place_2 fu c2_groups c2_pots c2_ranks c2_draws c2_lawful c2_out a48 a49 a50 a52 a53 a54 a55 (F63_X12_place fu c2_groups c2_pots c2_ranks c2_draws c2_lawful c2_out a48 a49 a50 a52 a53 a54 a55 k1).1 v1 v2 v6 (a65 v6.toNatClampNeg) v4 c2_thrown c2_parts c2_laid a56 a57 a58 a59 a60 a61 a62 a63 a64 a65) _
      unfold s63_X12_place_2
      have e7 := dz_l1
      have e8 := dz_add (a := v6) (b := (1 : Int32)) (by omega) (by omega)
      exact (ih k1 (by omega)) v1 v2 (v4 + (a65 v6.toNatClampNeg)) (v6 + (1 : Int32)) c2_thrown c2_parts c2_laid a56 a57 a58 a59 a60 a61 a62 a63 a64 a65 i0 i1 i2 i3 (by omega) (by omega) i6 i7 i8 (by omega) i10 (hr_a56) (hr_a57) (hr_a59) (hr_a61) (hr_a62) (by omega)
    · skip
      obtain ⟨k2, rfl⟩ : ∃ x, k0 = x + 1 := ⟨k0 - 1, by omega⟩
      show dz_T (s63_X12_place_2 fu c2_groups c2_pots c2_ranks c2_draws c2_lawful c2_out a48 a49 a50 a52 a53 a54 a55 (F63_X12_place fu c2_groups c2_pots c2_ranks c2_draws c2_lawful c2_out a48 a49 a50 a52 a53 a54 a55 k2).1 v1 v2 v6 (0 : Int64) v4 c2_thrown c2_parts c2_laid a56 a57 a58 a59 a60 a61 a62 a63 a64 a65) _
      unfold s63_X12_place_2
      have e9 := dz_l1
      have e10 := dz_add (a := v6) (b := (1 : Int32)) (by omega) (by omega)
      exact (ih k2 (by omega)) v1 v2 (v4 + 0) (v6 + (1 : Int32)) c2_thrown c2_parts c2_laid a56 a57 a58 a59 a60 a61 a62 a63 a64 a65 i0 i1 i2 i3 (by omega) (by omega) i6 i7 i8 (by omega) i10 (hr_a56) (hr_a57) (hr_a59) (hr_a61) (hr_a62) (by omega)
theorem t63_X12_place_I_s (fu : Nat) (hfu : 1000000000000 ≤ fu) (κ : Nat) (hκ : κ < 14) (c2_groups : Int32) (c2_pots : Int32) (c2_ranks : Int32) (c2_draws : Int32) (c2_lawful : Int32) (c2_out : Int32) (a48 : Nat → Int32) (a49 : Nat → Int32) (a50 : Nat → Int32) (a52 : Nat → Int32) (a53 : Nat → Int32) (a54 : Nat → Int32) (a55 : Nat → Int32) (p0 : c2_groups.toInt ≤ 4) (p1 : 2 ≤ c2_groups.toInt) (p2 : c2_pots.toInt ≤ 4) (p3 : 0 ≤ c2_pots.toInt) (p4 : c2_ranks.toInt ≤ 24) (p5 : 2 ≤ c2_ranks.toInt) (p6 : c2_draws.toInt ≤ 13824) (p7 : 1 ≤ c2_draws.toInt) (p8 : c2_lawful.toInt ≤ 13824) (p9 : 0 ≤ c2_lawful.toInt) (p10 : c2_out.toInt ≤ 12) (p11 : 0 ≤ c2_out.toInt) (p12 : c2_lawful.toInt ≤ c2_draws.toInt) (hr_a48 : dz_rg a48 100 0 3) (hr_a49 : dz_rg a49 13824 0 1023) (hr_a50 : dz_rg a50 165888 0 3) (hr_a52 : dz_rg a52 4 0 3) (hr_a53 : dz_rg a53 4 0 3) (hr_a54 : dz_rg a54 12 0 11) (hr_a55 : dz_rg a55 12 0 3) (o0 : dz_pm a52 (dz_kp κ)) (o1 : dz_pm a53 (dz_kg κ)) (o2 : dz_rw (dz_kg κ) (dz_kr κ) a48) (o3 : ∀ t : Int, dz_pp (dz_kg κ) (dz_kr κ) a54 a55 t c2_out.toInt.toNat) (o4 : c2_out.toInt ≤ ((dz_km κ : Nat) : Int)) (o5 : c2_groups.toInt = ((dz_kg κ : Nat) : Int)) (o6 : c2_pots.toInt = ((dz_kp κ : Nat) : Int)) (o7 : c2_ranks.toInt = ((dz_kr κ : Nat) : Int)) (o8 : c2_draws.toInt = ((dz_kt κ : Nat) : Int)) (k : Nat) : p63_X12_place_s fu κ c2_groups c2_pots c2_ranks c2_draws c2_lawful c2_out a48 a49 a50 a52 a53 a54 a55 k := by
  induction k using Nat.strongRecOn with
  | _ k ih => exact t63_X12_place_h1_s fu hfu κ hκ c2_groups c2_pots c2_ranks c2_draws c2_lawful c2_out a48 a49 a50 a52 a53 a54 a55 p0 p1 p2 p3 p4 p5 p6 p7 p8 p9 p10 p11 p12 hr_a48 hr_a49 hr_a50 hr_a52 hr_a53 hr_a54 hr_a55 o0 o1 o2 o3 o4 o5 o6 o7 o8 k ih
set_option maxHeartbeats 4000000 in
set_option maxRecDepth 10000 in
theorem t63_X12_place_E_s (fu : Nat) (hfu : 1000000000000 ≤ fu) (κ : Nat) (hκ : κ < 14) (c2_groups : Int32) (c2_pots : Int32) (c2_ranks : Int32) (c2_draws : Int32) (c2_lawful : Int32) (c2_out : Int32) (a48 : Nat → Int32) (a49 : Nat → Int32) (a50 : Nat → Int32) (a52 : Nat → Int32) (a53 : Nat → Int32) (a54 : Nat → Int32) (a55 : Nat → Int32) (v1 : Int32) (v2 : Int32) (v3 : Int32) (c2_thrown : Int32) (c2_parts : Int32) (c2_laid : Int32) (a56 : Nat → Int32) (a57 : Nat → Int32) (a58 : Nat → Int32) (a59 : Nat → Int32) (a60 : Nat → Int64) (a61 : Nat → Int32) (a62 : Nat → Int32) (a63 : Nat → Int32) (a64 : Nat → Int64) (a65 : Nat → Int64) (p0 : c2_groups.toInt ≤ 4) (p1 : 2 ≤ c2_groups.toInt) (p2 : c2_pots.toInt ≤ 4) (p3 : 0 ≤ c2_pots.toInt) (p4 : c2_ranks.toInt ≤ 24) (p5 : 2 ≤ c2_ranks.toInt) (p6 : c2_draws.toInt ≤ 13824) (p7 : 1 ≤ c2_draws.toInt) (p8 : c2_lawful.toInt ≤ 13824) (p9 : 0 ≤ c2_lawful.toInt) (p10 : c2_out.toInt ≤ 12) (p11 : 0 ≤ c2_out.toInt) (p12 : c2_lawful.toInt ≤ c2_draws.toInt) (hr_a48 : dz_rg a48 100 0 3) (hr_a49 : dz_rg a49 13824 0 1023) (hr_a50 : dz_rg a50 165888 0 3) (hr_a52 : dz_rg a52 4 0 3) (hr_a53 : dz_rg a53 4 0 3) (hr_a54 : dz_rg a54 12 0 11) (hr_a55 : dz_rg a55 12 0 3) (hr_a56 : dz_rg a56 4 0 3) (hr_a57 : dz_rg a57 4 0 3) (hr_a59 : dz_rg a59 14425 0 16777215) (hr_a61 : dz_rg a61 13824 0 13823) (hr_a62 : dz_rg a62 16 0 16777215) (o0 : dz_pm a52 (dz_kp κ)) (o1 : dz_pm a53 (dz_kg κ)) (o2 : dz_rw (dz_kg κ) (dz_kr κ) a48) (o3 : ∀ t : Int, dz_pp (dz_kg κ) (dz_kr κ) a54 a55 t c2_out.toInt.toNat) (o4 : c2_out.toInt ≤ ((dz_km κ : Nat) : Int)) (o5 : c2_groups.toInt = ((dz_kg κ : Nat) : Int)) (o6 : c2_pots.toInt = ((dz_kp κ : Nat) : Int)) (o7 : c2_ranks.toInt = ((dz_kr κ : Nat) : Int)) (o8 : c2_draws.toInt = ((dz_kt κ : Nat) : Int)) (kv : Nat) (hkv : 1000000000000 ≤ kv) : dz_T (s63_X12_place_0 fu c2_groups c2_pots c2_ranks c2_draws c2_lawful c2_out a48 a49 a50 a52 a53 a54 a55 (F63_X12_place fu c2_groups c2_pots c2_ranks c2_draws c2_lawful c2_out a48 a49 a50 a52 a53 a54 a55 kv).1  v1 v2 v3 c2_thrown c2_parts c2_laid a56 a57 a58 a59 a60 a61 a62 a63 a64 a65) (fun r => dz_rg r.2.2.2.2.1 4 0 3 ∧ dz_rg r.2.2.2.2.2.1 4 0 3 ∧ dz_rg r.2.2.2.2.2.2.2.1 14425 0 16777215 ∧ dz_rg r.2.2.2.2.2.2.2.2.2.1 13824 0 13823 ∧ dz_rg r.2.2.2.2.2.2.2.2.2.2.1 16 0 16777215) := by
  unfold s63_X12_place_0
  refine dz_Tbe (show f31_X12_isTeam fu c2_groups c2_pots v1 = (if (v1 < (0 : Int32)) then (some (0 : Int32)) else (Option.bind (f9_X12_teams fu c2_groups c2_pots) (fun b2 => (if (b2 ≤ v1) then (some (0 : Int32)) else (some (1 : Int32)))))) from rfl) ?_
  have e1 := dz_l0
  refine dz_Tltb (fun h2 => ?_) (fun h2 => ?_)
  · skip
    refine dz_Tsb ?_
    refine dz_Teq (fun h3 => ?_) (fun h3 => ?_)
    · skip
      refine dz_Ts ?_
      dsimp only
      exact ⟨(hr_a56), (hr_a57), (hr_a59), (hr_a61), (hr_a62)⟩
    · skip
      exfalso; omega
  · skip
    refine dz_Tba ?_
    refine dz_Tb (t9_X12_teams_s fu hfu κ hκ _ _ p0 p1 p2 p3 o5 o6) (fun r3 q => ?_)
    obtain ⟨q3_0, q3_1, q3_2, qo3_0⟩ := q
    refine dz_Tleb (fun h4 => ?_) (fun h4 => ?_)
    · skip
      refine dz_Tsb ?_
      refine dz_Teq (fun h5 => ?_) (fun h5 => ?_)
      · skip
        refine dz_Ts ?_
        dsimp only
        exact ⟨(hr_a56), (hr_a57), (hr_a59), (hr_a61), (hr_a62)⟩
      · skip
        exfalso; omega
    · skip
      refine dz_Tsb ?_
      have e6 := dz_l1
      refine dz_Teq (fun h7 => ?_) (fun h7 => ?_)
      · skip
        exfalso; omega
      · skip
        refine dz_Tlt (fun h8 => ?_) (fun h8 => ?_)
        · skip
          refine dz_Ts ?_
          dsimp only
          exact ⟨(hr_a56), (hr_a57), (hr_a59), (hr_a61), (hr_a62)⟩
        · skip
          refine dz_Tle (fun h9 => ?_) (fun h9 => ?_)
          · skip
            refine dz_Ts ?_
            dsimp only
            exact ⟨(hr_a56), (hr_a57), (hr_a59), (hr_a61), (hr_a62)⟩
          · skip
            refine dz_Tbe (show f61_X12_isWay fu v3 = (if (v3 < (0 : Int32)) then (some (0 : Int32)) else (if ((3 : Int32) ≤ v3) then (some (0 : Int32)) else (some (1 : Int32)))) from rfl) ?_
            refine dz_Tltb (fun h10 => ?_) (fun h10 => ?_)
            · skip
              refine dz_Tsb ?_
              refine dz_Teq (fun h11 => ?_) (fun h11 => ?_)
              · skip
                refine dz_Ts ?_
                dsimp only
                exact ⟨(hr_a56), (hr_a57), (hr_a59), (hr_a61), (hr_a62)⟩
              · skip
                exfalso; omega
            · skip
              have e12 := dz_l3
              refine dz_Tleb (fun h13 => ?_) (fun h13 => ?_)
              · skip
                refine dz_Tsb ?_
                refine dz_Teq (fun h14 => ?_) (fun h14 => ?_)
                · skip
                  refine dz_Ts ?_
                  dsimp only
                  exact ⟨(hr_a56), (hr_a57), (hr_a59), (hr_a61), (hr_a62)⟩
                · skip
                  exfalso; omega
              · skip
                refine dz_Tsb ?_
                refine dz_Teq (fun h15 => ?_) (fun h15 => ?_)
                · skip
                  exfalso; omega
                · skip
                  refine dz_Tb (t58_X12_layStage_s fu hfu κ hκ _ _ _ _ _ _ _ _ _ _ _ _ _ _ _ _ _ _ _ _ _ _ _ _ _ _ p0 p1 p2 p3 p4 p5 p6 p7 p8 p9 p10 p11 p12 (by first | assumption | omega) (by first | assumption | omega) (hr_a48) (hr_a49) (hr_a50) (hr_a52) (hr_a53) (hr_a54) (hr_a55) (hr_a56) (hr_a57) (hr_a59) (hr_a61) (hr_a62) o0 o1 o2 o3 o4 o5 o6 o7 o8) (fun r5 q => ?_)
                  obtain ⟨qa5_2, qa5_3, qa5_5, qa5_7, qa5_8⟩ := q
                  exact (t63_X12_place_I_s fu hfu κ hκ c2_groups c2_pots c2_ranks c2_draws c2_lawful c2_out a48 a49 a50 a52 a53 a54 a55 p0 p1 p2 p3 p4 p5 p6 p7 p8 p9 p10 p11 p12 hr_a48 hr_a49 hr_a50 hr_a52 hr_a53 hr_a54 hr_a55 o0 o1 o2 o3 o4 o5 o6 o7 o8 kv) v1 v2 (0 : Int64) (0 : Int32) (0 : Int32) r5.1 r5.2.1 r5.2.2.1 r5.2.2.2.1 r5.2.2.2.2.1 r5.2.2.2.2.2.1 r5.2.2.2.2.2.2.1 r5.2.2.2.2.2.2.2.1 r5.2.2.2.2.2.2.2.2.1 r5.2.2.2.2.2.2.2.2.2.1 r5.2.2.2.2.2.2.2.2.2.2.1 r5.2.2.2.2.2.2.2.2.2.2.2 (by first | assumption | omega) (by first | assumption | omega) (by first | assumption | omega) (by first | assumption | omega) (by omega) (by omega) (by omega) (by omega) (by first | assumption | omega) (by omega) (by first | assumption | omega) (qa5_2) (qa5_3) (qa5_5) (qa5_7) (qa5_8) (by omega)
theorem t63_X12_place_s (fu : Nat) (hfu : 1000000000000 ≤ fu) (κ : Nat) (hκ : κ < 14) (c2_groups : Int32) (c2_pots : Int32) (c2_ranks : Int32) (c2_draws : Int32) (c2_lawful : Int32) (c2_out : Int32) (a48 : Nat → Int32) (a49 : Nat → Int32) (a50 : Nat → Int32) (a52 : Nat → Int32) (a53 : Nat → Int32) (a54 : Nat → Int32) (a55 : Nat → Int32) (v1 : Int32) (v2 : Int32) (v3 : Int32) (c2_thrown : Int32) (c2_parts : Int32) (c2_laid : Int32) (a56 : Nat → Int32) (a57 : Nat → Int32) (a58 : Nat → Int32) (a59 : Nat → Int32) (a60 : Nat → Int64) (a61 : Nat → Int32) (a62 : Nat → Int32) (a63 : Nat → Int32) (a64 : Nat → Int64) (a65 : Nat → Int64) (p0 : c2_groups.toInt ≤ 4) (p1 : 2 ≤ c2_groups.toInt) (p2 : c2_pots.toInt ≤ 4) (p3 : 0 ≤ c2_pots.toInt) (p4 : c2_ranks.toInt ≤ 24) (p5 : 2 ≤ c2_ranks.toInt) (p6 : c2_draws.toInt ≤ 13824) (p7 : 1 ≤ c2_draws.toInt) (p8 : c2_lawful.toInt ≤ 13824) (p9 : 0 ≤ c2_lawful.toInt) (p10 : c2_out.toInt ≤ 12) (p11 : 0 ≤ c2_out.toInt) (p12 : c2_lawful.toInt ≤ c2_draws.toInt) (hr_a48 : dz_rg a48 100 0 3) (hr_a49 : dz_rg a49 13824 0 1023) (hr_a50 : dz_rg a50 165888 0 3) (hr_a52 : dz_rg a52 4 0 3) (hr_a53 : dz_rg a53 4 0 3) (hr_a54 : dz_rg a54 12 0 11) (hr_a55 : dz_rg a55 12 0 3) (hr_a56 : dz_rg a56 4 0 3) (hr_a57 : dz_rg a57 4 0 3) (hr_a59 : dz_rg a59 14425 0 16777215) (hr_a61 : dz_rg a61 13824 0 13823) (hr_a62 : dz_rg a62 16 0 16777215) (o0 : dz_pm a52 (dz_kp κ)) (o1 : dz_pm a53 (dz_kg κ)) (o2 : dz_rw (dz_kg κ) (dz_kr κ) a48) (o3 : ∀ t : Int, dz_pp (dz_kg κ) (dz_kr κ) a54 a55 t c2_out.toInt.toNat) (o4 : c2_out.toInt ≤ ((dz_km κ : Nat) : Int)) (o5 : c2_groups.toInt = ((dz_kg κ : Nat) : Int)) (o6 : c2_pots.toInt = ((dz_kp κ : Nat) : Int)) (o7 : c2_ranks.toInt = ((dz_kr κ : Nat) : Int)) (o8 : c2_draws.toInt = ((dz_kt κ : Nat) : Int)) : dz_T (f63_X12_place fu c2_groups c2_pots c2_ranks c2_draws c2_lawful c2_out a48 a49 a50 a52 a53 a54 a55 v1 v2 v3 c2_thrown c2_parts c2_laid a56 a57 a58 a59 a60 a61 a62 a63 a64 a65) (fun r => dz_rg r.2.2.2.2.1 4 0 3 ∧ dz_rg r.2.2.2.2.2.1 4 0 3 ∧ dz_rg r.2.2.2.2.2.2.2.1 14425 0 16777215 ∧ dz_rg r.2.2.2.2.2.2.2.2.2.1 13824 0 13823 ∧ dz_rg r.2.2.2.2.2.2.2.2.2.2.1 16 0 16777215) :=
  t63_X12_place_E_s fu hfu κ hκ c2_groups c2_pots c2_ranks c2_draws c2_lawful c2_out a48 a49 a50 a52 a53 a54 a55 v1 v2 v3 c2_thrown c2_parts c2_laid a56 a57 a58 a59 a60 a61 a62 a63 a64 a65 p0 p1 p2 p3 p4 p5 p6 p7 p8 p9 p10 p11 p12 hr_a48 hr_a49 hr_a50 hr_a52 hr_a53 hr_a54 hr_a55 hr_a56 hr_a57 hr_a59 hr_a61 hr_a62 o0 o1 o2 o3 o4 o5 o6 o7 o8 fu hfu
abbrev p59_X12_allRows_s (fu : Nat) (κ : Nat) (c2_draws : Int32) (a65 : Nat → Int64) (k : Nat) : Prop :=
  (∀ (v1 : Int64) (v3 : Int32), v3.toInt ≤ 13824 → 0 ≤ v3.toInt → v3.toInt ≤ c2_draws.toInt → 0 + 0 + (13824 - v3.toInt) * 10 + 5 ≤ ((k : Nat) : Int) → dz_T ((F59_X12_allRows fu c2_draws a65 k) v1 v3) (fun r => True))
set_option maxHeartbeats 4000000 in
set_option maxRecDepth 10000 in
theorem t59_X12_allRows_h1_s (fu : Nat) (hfu : 1000000000000 ≤ fu) (κ : Nat) (hκ : κ < 14) (c2_draws : Int32) (a65 : Nat → Int64) (p0 : c2_draws.toInt ≤ 13824) (p1 : 1 ≤ c2_draws.toInt) (o0 : c2_draws.toInt = ((dz_kt κ : Nat) : Int)) (k : Nat) (ih : ∀ j9, j9 < k → p59_X12_allRows_s fu κ c2_draws a65 j9) : ∀ (v1 : Int64) (v3 : Int32), v3.toInt ≤ 13824 → 0 ≤ v3.toInt → v3.toInt ≤ c2_draws.toInt → 0 + 0 + (13824 - v3.toInt) * 10 + 5 ≤ ((k : Nat) : Int) → dz_T ((F59_X12_allRows fu c2_draws a65 k) v1 v3) (fun r => True) := by
  intro v1 v3 i0 i1 i2 hm
  obtain ⟨k0, rfl⟩ : ∃ x, k = x + 1 := ⟨k - 1, by omega⟩
  show dz_T (s59_X12_allRows_1 fu c2_draws a65 (F59_X12_allRows fu c2_draws a65 k0)  v1 v3) _
  unfold s59_X12_allRows_1
  refine dz_Tle (fun h1 => ?_) (fun h1 => ?_)
  · skip
    exact dz_Ts trivial
  · skip
    refine dz_Tin (by omega) (by omega) ?_
    have e2 := dz_l1
    have e3 := dz_add (a := v3) (b := (1 : Int32)) (by omega) (by omega)
    exact (ih k0 (by omega)) (v1 + (a65 v3.toNatClampNeg)) (v3 + (1 : Int32)) (by omega) (by omega) (by omega) (by omega)
theorem t59_X12_allRows_I_s (fu : Nat) (hfu : 1000000000000 ≤ fu) (κ : Nat) (hκ : κ < 14) (c2_draws : Int32) (a65 : Nat → Int64) (p0 : c2_draws.toInt ≤ 13824) (p1 : 1 ≤ c2_draws.toInt) (o0 : c2_draws.toInt = ((dz_kt κ : Nat) : Int)) (k : Nat) : p59_X12_allRows_s fu κ c2_draws a65 k := by
  induction k using Nat.strongRecOn with
  | _ k ih => exact t59_X12_allRows_h1_s fu hfu κ hκ c2_draws a65 p0 p1 o0 k ih
set_option maxHeartbeats 4000000 in
set_option maxRecDepth 10000 in
theorem t59_X12_allRows_E_s (fu : Nat) (hfu : 1000000000000 ≤ fu) (κ : Nat) (hκ : κ < 14) (c2_draws : Int32) (a65 : Nat → Int64) (p0 : c2_draws.toInt ≤ 13824) (p1 : 1 ≤ c2_draws.toInt) (o0 : c2_draws.toInt = ((dz_kt κ : Nat) : Int)) (kv : Nat) (hkv : 1000000000000 ≤ kv) : dz_T (s59_X12_allRows_0 fu c2_draws a65 (F59_X12_allRows fu c2_draws a65 kv) ) (fun r => True) := by
  unfold s59_X12_allRows_0
  have e1 := dz_l0
  exact (t59_X12_allRows_I_s fu hfu κ hκ c2_draws a65 p0 p1 o0 kv) (0 : Int64) (0 : Int32) (by omega) (by omega) (by omega) (by omega)
theorem t59_X12_allRows_s (fu : Nat) (hfu : 1000000000000 ≤ fu) (κ : Nat) (hκ : κ < 14) (c2_draws : Int32) (a65 : Nat → Int64) (p0 : c2_draws.toInt ≤ 13824) (p1 : 1 ≤ c2_draws.toInt) (o0 : c2_draws.toInt = ((dz_kt κ : Nat) : Int)) : dz_T (f59_X12_allRows fu c2_draws a65) (fun r => True) :=
  t59_X12_allRows_E_s fu hfu κ hκ c2_draws a65 p0 p1 o0 fu hfu
set_option maxHeartbeats 4000000 in
set_option maxRecDepth 10000 in
theorem t64_X12_all_s (fu : Nat) (hfu : 1000000000000 ≤ fu) (κ : Nat) (hκ : κ < 14) (c2_groups : Int32) (c2_pots : Int32) (c2_ranks : Int32) (c2_draws : Int32) (c2_lawful : Int32) (c2_out : Int32) (a48 : Nat → Int32) (a49 : Nat → Int32) (a50 : Nat → Int32) (a52 : Nat → Int32) (a53 : Nat → Int32) (a54 : Nat → Int32) (a55 : Nat → Int32) (v1 : Int32) (c2_thrown : Int32) (c2_parts : Int32) (c2_laid : Int32) (a56 : Nat → Int32) (a57 : Nat → Int32) (a58 : Nat → Int32) (a59 : Nat → Int32) (a60 : Nat → Int64) (a61 : Nat → Int32) (a62 : Nat → Int32) (a63 : Nat → Int32) (a64 : Nat → Int64) (a65 : Nat → Int64) (p0 : c2_groups.toInt ≤ 4) (p1 : 2 ≤ c2_groups.toInt) (p2 : c2_pots.toInt ≤ 4) (p3 : 0 ≤ c2_pots.toInt) (p4 : c2_ranks.toInt ≤ 24) (p5 : 2 ≤ c2_ranks.toInt) (p6 : c2_draws.toInt ≤ 13824) (p7 : 1 ≤ c2_draws.toInt) (p8 : c2_lawful.toInt ≤ 13824) (p9 : 0 ≤ c2_lawful.toInt) (p10 : c2_out.toInt ≤ 12) (p11 : 0 ≤ c2_out.toInt) (p12 : c2_lawful.toInt ≤ c2_draws.toInt) (hr_a48 : dz_rg a48 100 0 3) (hr_a49 : dz_rg a49 13824 0 1023) (hr_a50 : dz_rg a50 165888 0 3) (hr_a52 : dz_rg a52 4 0 3) (hr_a53 : dz_rg a53 4 0 3) (hr_a54 : dz_rg a54 12 0 11) (hr_a55 : dz_rg a55 12 0 3) (hr_a56 : dz_rg a56 4 0 3) (hr_a57 : dz_rg a57 4 0 3) (hr_a59 : dz_rg a59 14425 0 16777215) (hr_a61 : dz_rg a61 13824 0 13823) (hr_a62 : dz_rg a62 16 0 16777215) (o0 : dz_pm a52 (dz_kp κ)) (o1 : dz_pm a53 (dz_kg κ)) (o2 : dz_rw (dz_kg κ) (dz_kr κ) a48) (o3 : ∀ t : Int, dz_pp (dz_kg κ) (dz_kr κ) a54 a55 t c2_out.toInt.toNat) (o4 : c2_out.toInt ≤ ((dz_km κ : Nat) : Int)) (o5 : c2_groups.toInt = ((dz_kg κ : Nat) : Int)) (o6 : c2_pots.toInt = ((dz_kp κ : Nat) : Int)) (o7 : c2_ranks.toInt = ((dz_kr κ : Nat) : Int)) (o8 : c2_draws.toInt = ((dz_kt κ : Nat) : Int)) : dz_T (f64_X12_all fu c2_groups c2_pots c2_ranks c2_draws c2_lawful c2_out a48 a49 a50 a52 a53 a54 a55 v1 c2_thrown c2_parts c2_laid a56 a57 a58 a59 a60 a61 a62 a63 a64 a65) (fun r => dz_rg r.2.2.2.2.1 4 0 3 ∧ dz_rg r.2.2.2.2.2.1 4 0 3 ∧ dz_rg r.2.2.2.2.2.2.2.1 14425 0 16777215 ∧ dz_rg r.2.2.2.2.2.2.2.2.2.1 13824 0 13823 ∧ dz_rg r.2.2.2.2.2.2.2.2.2.2.1 16 0 16777215) := by
  unfold f64_X12_all s64_X12_all_0
  refine dz_Tbe (show f61_X12_isWay fu v1 = (if (v1 < (0 : Int32)) then (some (0 : Int32)) else (if ((3 : Int32) ≤ v1) then (some (0 : Int32)) else (some (1 : Int32)))) from rfl) ?_
  have e1 := dz_l0
  refine dz_Tltb (fun h2 => ?_) (fun h2 => ?_)
  · skip
    refine dz_Tsb ?_
    refine dz_Teq (fun h3 => ?_) (fun h3 => ?_)
    · skip
      refine dz_Ts ?_
      dsimp only
      exact ⟨(hr_a56), (hr_a57), (hr_a59), (hr_a61), (hr_a62)⟩
    · skip
      exfalso; omega
  · skip
    have e4 := dz_l3
    refine dz_Tleb (fun h5 => ?_) (fun h5 => ?_)
    · skip
      refine dz_Tsb ?_
      refine dz_Teq (fun h6 => ?_) (fun h6 => ?_)
      · skip
        refine dz_Ts ?_
        dsimp only
        exact ⟨(hr_a56), (hr_a57), (hr_a59), (hr_a61), (hr_a62)⟩
      · skip
        exfalso; omega
    · skip
      refine dz_Tsb ?_
      have e7 := dz_l1
      refine dz_Teq (fun h8 => ?_) (fun h8 => ?_)
      · skip
        exfalso; omega
      · skip
        refine dz_Tb (t58_X12_layStage_s fu hfu κ hκ _ _ _ _ _ _ _ _ _ _ _ _ _ _ _ _ _ _ _ _ _ _ _ _ _ _ p0 p1 p2 p3 p4 p5 p6 p7 p8 p9 p10 p11 p12 (by first | assumption | omega) (by first | assumption | omega) (hr_a48) (hr_a49) (hr_a50) (hr_a52) (hr_a53) (hr_a54) (hr_a55) (hr_a56) (hr_a57) (hr_a59) (hr_a61) (hr_a62) o0 o1 o2 o3 o4 o5 o6 o7 o8) (fun r2 q => ?_)
        obtain ⟨qa2_2, qa2_3, qa2_5, qa2_7, qa2_8⟩ := q
        refine dz_Tb (t59_X12_allRows_s fu hfu κ hκ _ _ p6 p7 o8) (fun r3 _ => ?_)
        refine dz_Ts ?_
        dsimp only
        exact ⟨(qa2_2), (qa2_3), (qa2_5), (qa2_7), (qa2_8)⟩
