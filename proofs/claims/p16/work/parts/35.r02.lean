set_option maxHeartbeats 4000000 in
set_option maxRecDepth 10000 in
theorem t16_X12_lineRead (fu : Nat) (hfu : 1000000000000 ≤ fu) (c2_stop : Int32) (a38 : Nat → Int32) (a39 : Nat → Int32) (v1 : Int32) (c2_fault : Int32) (c2_faultPlace : Int32) (c2_next : Int32) (c2_kind : Int32) (c2_which : Int32) (c2_place : Int32) (c2_groupsRead : Int32) (c2_potsRead : Int32) (c2_teamsRead : Int32) (c2_marksRead : Int32) (c2_barsRead : Int32) (a44 : Nat → Int32) (a45 : Nat → Int32) (a46 : Nat → Int32) (a47 : Nat → Int32) (p0 : c2_stop.toInt ≤ 400) (p1 : 0 ≤ c2_stop.toInt) (p2 : c2_next.toInt ≤ 400) (p3 : 0 ≤ c2_next.toInt) (p4 : c2_kind.toInt ≤ 5) (p5 : 0 ≤ c2_kind.toInt) (p6 : c2_place.toInt ≤ 400) (p7 : 0 ≤ c2_place.toInt) (p8 : c2_groupsRead.toInt ≤ 4) (p9 : 2 ≤ c2_groupsRead.toInt) (p10 : c2_potsRead.toInt ≤ 4) (p11 : 0 ≤ c2_potsRead.toInt) (p12 : c2_teamsRead.toInt ≤ 12) (p13 : 0 ≤ c2_teamsRead.toInt) (p14 : c2_marksRead.toInt ≤ 6) (p15 : 0 ≤ c2_marksRead.toInt) (p16 : c2_barsRead.toInt ≤ 10) (p17 : 0 ≤ c2_barsRead.toInt) (p18 : c2_next.toInt ≤ c2_stop.toInt) (hr_a39 : dz_pt a39 dz_wd) (hr_a47 : dz_rg a47 30 0 11) (o0 : c2_kind.toInt ≠ 1 ∨ (0 ≤ c2_which.toInt ∧ c2_which.toInt ≤ 6)) (o1 : ((c2_groupsRead.toInt = 2 ∧ c2_teamsRead.toInt = 2 * c2_potsRead.toInt) ∨ (c2_groupsRead.toInt = 3 ∧ c2_teamsRead.toInt = 3 * c2_potsRead.toInt) ∨ (c2_groupsRead.toInt = 4 ∧ c2_teamsRead.toInt = 4 * c2_potsRead.toInt))) (o2 : v1.toInt = 0 ∨ c2_potsRead.toInt = 0) (o3 : dz_bq a47 c2_barsRead.toInt.toNat) : dz_T (f16_X12_lineRead fu c2_stop a38 a39 v1 c2_fault c2_faultPlace c2_next c2_kind c2_which c2_place c2_groupsRead c2_potsRead c2_teamsRead c2_marksRead c2_barsRead a44 a45 a46 a47) (fun r => r.1.toInt ≤ 1 ∧ 0 ≤ r.1.toInt ∧ r.2.2.2.1.toInt ≤ 400 ∧ 0 ≤ r.2.2.2.1.toInt ∧ r.2.2.2.2.1.toInt ≤ 5 ∧ 0 ≤ r.2.2.2.2.1.toInt ∧ r.2.2.2.2.2.2.1.toInt ≤ 400 ∧ 0 ≤ r.2.2.2.2.2.2.1.toInt ∧ r.2.2.2.2.2.2.2.1.toInt ≤ 4 ∧ 2 ≤ r.2.2.2.2.2.2.2.1.toInt ∧ r.2.2.2.2.2.2.2.2.1.toInt ≤ 4 ∧ 0 ≤ r.2.2.2.2.2.2.2.2.1.toInt ∧ r.2.2.2.2.2.2.2.2.2.1.toInt ≤ 12 ∧ 0 ≤ r.2.2.2.2.2.2.2.2.2.1.toInt ∧ r.2.2.2.2.2.2.2.2.2.2.1.toInt ≤ 6 ∧ 0 ≤ r.2.2.2.2.2.2.2.2.2.2.1.toInt ∧ r.2.2.2.2.2.2.2.2.2.2.2.1.toInt ≤ 10 ∧ 0 ≤ r.2.2.2.2.2.2.2.2.2.2.2.1.toInt ∧ r.1.toInt ≤ c2_kind.toInt ∧ r.2.2.2.1.toInt ≤ c2_stop.toInt ∧ c2_next.toInt ≤ r.2.2.2.1.toInt ∧ dz_rg r.2.2.2.2.2.2.2.2.2.2.2.2.2.2.2 30 0 11 ∧ (r.1.toInt = 0 ∨ c2_next.toInt + 1 ≤ r.2.2.2.1.toInt) ∧ (r.1.toInt = 0 ∨ r.2.2.2.2.1.toInt ≠ 1 ∨ (0 ≤ r.2.2.2.2.2.1.toInt ∧ r.2.2.2.2.2.1.toInt ≤ 6)) ∧ (r.1.toInt = 0 ∨ ((r.2.2.2.2.2.2.2.1.toInt = 2 ∧ r.2.2.2.2.2.2.2.2.2.1.toInt = 2 * r.2.2.2.2.2.2.2.2.1.toInt) ∨ (r.2.2.2.2.2.2.2.1.toInt = 3 ∧ r.2.2.2.2.2.2.2.2.2.1.toInt = 3 * r.2.2.2.2.2.2.2.2.1.toInt) ∨ (r.2.2.2.2.2.2.2.1.toInt = 4 ∧ r.2.2.2.2.2.2.2.2.2.1.toInt = 4 * r.2.2.2.2.2.2.2.2.1.toInt))) ∧ (r.1.toInt = 0 ∨ 1 ≤ r.2.2.2.1.toInt) ∧ (r.1.toInt = 0 ∨ dz_bq r.2.2.2.2.2.2.2.2.2.2.2.2.2.2.2 r.2.2.2.2.2.2.2.2.2.2.2.1.toInt.toNat)) := by
  unfold f16_X12_lineRead s16_X12_lineRead_0
  have hs := dz_w3 o0
  have e1 := dz_l1
  refine dz_Teq (fun h2 => ?_) (fun h2 => ?_)
  · skip
    have e3 := dz_l0
    refine dz_Teq (fun h4 => ?_) (fun h4 => ?_)
    · skip
      unfold d16_X12_lineRead_2 s16_X12_lineRead_2
      refine dz_Teq (fun h5 => ?_) (fun h5 => ?_)
      · skip
        refine dz_Teq (fun h6 => ?_) (fun h6 => ?_)
        · skip
          have e7 := dz_l3
          refine dz_Tb (t2_X12_wrong fu hfu _ _ _ _ p6 p7) (fun r1 q => ?_)
          obtain ⟨q1_0, q1_1⟩ := q
          refine dz_Tg (dz_nb (by omega)) ?_
          refine dz_Ts ?_
          dsimp only
          exact ⟨(by first | assumption | omega), q1_1, p2, p3, p4, p5, p6, p7, p8, p9, p10, p11, p12, p13, p14, p15, p16, p17, (by first | assumption | omega), p18, (by first | assumption | omega), (hr_a47), (by omega), (by omega), (by omega), (by omega), (by first | exact Or.inl (by omega) | exact Or.inr (by assumption) | exact Or.inr ((by assumption : _ ∨ _).resolve_left (by omega)) | assumption)⟩
        · skip
          exfalso; omega
      · skip
        refine dz_Teq (fun h8 => ?_) (fun h8 => ?_)
        · skip
          refine dz_Tb (t13_X12_potRead fu hfu _ _ _ _ _ _ _ _ _ _ _ _ _ p0 p1 p8 p9 p2 p3 p4 p5 p6 p7 p10 p11 p12 p13 p18 (hr_a39)) (fun r2 q => ?_)
          obtain ⟨q2_0, q2_1, q2_2, q2_3, q2_4, q2_5, q2_6, q2_7, q2_8, q2_9, q2_10, q2_11, q2_12, q2_13, q2_14, q2_15, q2_16, q2_17, q2_18, q2_19, q2_20, q2_21, q2_22, q2_23, q2_24, q2_25, qo2_0, qo2_1⟩ := q
          refine dz_Teq (fun h9 => ?_) (fun h9 => ?_)
          · skip
            refine dz_Ts ?_
            dsimp only
            exact ⟨(by omega), (by omega), q2_8, q2_9, q2_10, q2_11, q2_12, q2_13, p8, p9, q2_14, q2_15, q2_16, q2_17, p14, p15, p16, p17, (by omega), q2_21, q2_22, (hr_a47), (by omega), (by omega), (by omega), (by omega), (by first | exact Or.inl (by omega) | exact Or.inr (by assumption) | exact Or.inr ((by assumption : _ ∨ _).resolve_left (by omega)) | assumption)⟩
          · skip
            unfold d16_X12_lineRead_3 s16_X12_lineRead_3
            have e10 := dz_l4
            refine dz_Teq (fun h11 => ?_) (fun h11 => ?_)
            · skip
              refine dz_Tb (t7_X12_take fu hfu _ _ _ _ _ _ _ p0 p1 q2_8 q2_9 q2_10 q2_11 q2_12 q2_13 q2_21 (hr_a39)) (fun r3 q => ?_)
              obtain ⟨q3_0, q3_1, q3_2, q3_3, q3_4, q3_5, q3_6, q3_7, q3_8, q3_9, q3_10, qo3_0, qo3_1⟩ := q
              refine dz_Ts ?_
              dsimp only
              exact ⟨(by omega), (by omega), q3_2, q3_3, q3_4, q3_5, q3_6, q3_7, p8, p9, q2_14, q2_15, q2_16, q2_17, p14, p15, p16, p17, (by omega), q3_8, (by first | assumption | omega), (hr_a47), (by omega), (by omega), (by omega), (by omega), (by first | exact Or.inl (by omega) | exact Or.inr (by assumption) | exact Or.inr ((by assumption : _ ∨ _).resolve_left (by omega)) | assumption)⟩
            · skip
              refine dz_Tb (t2_X12_wrong fu hfu _ _ _ _ q2_12 q2_13) (fun r4 q => ?_)
              obtain ⟨q4_0, q4_1⟩ := q
              refine dz_Tg (dz_nb (by omega)) ?_
              refine dz_Ts ?_
              dsimp only
              exact ⟨(by first | assumption | omega), q4_1, q2_8, q2_9, q2_10, q2_11, q2_12, q2_13, p8, p9, q2_14, q2_15, q2_16, q2_17, p14, p15, p16, p17, (by first | assumption | omega), q2_21, q2_22, (hr_a47), (by omega), (by omega), (by omega), (by omega), (by first | exact Or.inl (by omega) | exact Or.inr (by assumption) | exact Or.inr ((by assumption : _ ∨ _).resolve_left (by omega)) | assumption)⟩
        · skip
          have e12 := dz_l2
          refine dz_Teq (fun h13 => ?_) (fun h13 => ?_)
          · skip
            refine dz_Tb (t14_X12_markLine fu hfu _ _ _ _ _ _ _ _ _ _ _ _ _ _ p0 p1 p12 p13 p2 p3 p4 p5 p6 p7 p14 p15 p18 (hr_a39)) (fun r5 q => ?_)
            obtain ⟨q5_0, q5_1, q5_2, q5_3, q5_4, q5_5, q5_6, q5_7, q5_8, q5_9, q5_10, q5_11, q5_12, q5_13, q5_14, qo5_0⟩ := q
            refine dz_Teq (fun h14 => ?_) (fun h14 => ?_)
            · skip
              refine dz_Ts ?_
              dsimp only
              exact ⟨(by omega), (by omega), q5_4, q5_5, q5_6, q5_7, q5_8, q5_9, p8, p9, p10, p11, p12, p13, q5_10, q5_11, p16, p17, (by omega), q5_13, q5_14, (hr_a47), (by omega), (by omega), (by omega), (by omega), (by first | exact Or.inl (by omega) | exact Or.inr (by assumption) | exact Or.inr ((by assumption : _ ∨ _).resolve_left (by omega)) | assumption)⟩
            · skip
              unfold d16_X12_lineRead_3 s16_X12_lineRead_3
              have e15 := dz_l4
              refine dz_Teq (fun h16 => ?_) (fun h16 => ?_)
              · skip
                refine dz_Tb (t7_X12_take fu hfu _ _ _ _ _ _ _ p0 p1 q5_4 q5_5 q5_6 q5_7 q5_8 q5_9 q5_13 (hr_a39)) (fun r6 q => ?_)
                obtain ⟨q6_0, q6_1, q6_2, q6_3, q6_4, q6_5, q6_6, q6_7, q6_8, q6_9, q6_10, qo6_0, qo6_1⟩ := q
                refine dz_Ts ?_
                dsimp only
                exact ⟨(by omega), (by omega), q6_2, q6_3, q6_4, q6_5, q6_6, q6_7, p8, p9, p10, p11, p12, p13, q5_10, q5_11, p16, p17, (by omega), q6_8, (by first | assumption | omega), (hr_a47), (by omega), (by omega), (by omega), (by omega), (by first | exact Or.inl (by omega) | exact Or.inr (by assumption) | exact Or.inr ((by assumption : _ ∨ _).resolve_left (by omega)) | assumption)⟩
              · skip
                refine dz_Tb (t2_X12_wrong fu hfu _ _ _ _ q5_8 q5_9) (fun r7 q => ?_)
                obtain ⟨q7_0, q7_1⟩ := q
                refine dz_Tg (dz_nb (by omega)) ?_
                refine dz_Ts ?_
                dsimp only
                exact ⟨(by first | assumption | omega), q7_1, q5_4, q5_5, q5_6, q5_7, q5_8, q5_9, p8, p9, p10, p11, p12, p13, q5_10, q5_11, p16, p17, (by first | assumption | omega), q5_13, q5_14, (hr_a47), (by omega), (by omega), (by omega), (by omega), (by first | exact Or.inl (by omega) | exact Or.inr (by assumption) | exact Or.inr ((by assumption : _ ∨ _).resolve_left (by omega)) | assumption)⟩
          · skip
            have e17 := dz_l3
            have e18 := dz_rng c2_which
            refine dz_Tb (t15_X12_barLine fu hfu _ _ _ _ _ _ _ _ _ _ _ _ _ _ _ _ _ p0 p1 p8 p9 p12 p13 p14 p15 p2 p3 p4 p5 p6 p7 p16 p17 p18 (by omega) (by omega) (hr_a39) (hr_a47) o3) (fun r8 q => ?_)
            obtain ⟨q8_0, q8_1, q8_2, q8_3, q8_4, q8_5, q8_6, q8_7, q8_8, q8_9, q8_10, q8_11, q8_12, qa8_8, qo8_0, qo8_1⟩ := q
            refine dz_Teq (fun h19 => ?_) (fun h19 => ?_)
            · skip
              refine dz_Ts ?_
              dsimp only
              exact ⟨(by omega), (by omega), q8_2, q8_3, q8_4, q8_5, q8_6, q8_7, p8, p9, p10, p11, p12, p13, p14, p15, q8_8, q8_9, (by omega), q8_11, q8_12, (qa8_8), (by omega), (by omega), (by omega), (by omega), (by first | exact Or.inl (by omega) | exact Or.inr (by assumption) | exact Or.inr ((by assumption : _ ∨ _).resolve_left (by omega)) | assumption)⟩
            · skip
              unfold d16_X12_lineRead_3 s16_X12_lineRead_3
              have e20 := dz_l4
              refine dz_Teq (fun h21 => ?_) (fun h21 => ?_)
              · skip
                refine dz_Tb (t7_X12_take fu hfu _ _ _ _ _ _ _ p0 p1 q8_2 q8_3 q8_4 q8_5 q8_6 q8_7 q8_11 (hr_a39)) (fun r9 q => ?_)
                obtain ⟨q9_0, q9_1, q9_2, q9_3, q9_4, q9_5, q9_6, q9_7, q9_8, q9_9, q9_10, qo9_0, qo9_1⟩ := q
                refine dz_Ts ?_
                dsimp only
                exact ⟨(by omega), (by omega), q9_2, q9_3, q9_4, q9_5, q9_6, q9_7, p8, p9, p10, p11, p12, p13, p14, p15, q8_8, q8_9, (by omega), q9_8, (by first | assumption | omega), (qa8_8), (by omega), (by omega), (by omega), (by omega), (by first | exact Or.inl (by omega) | exact Or.inr (by assumption) | exact Or.inr ((by assumption : _ ∨ _).resolve_left (by omega)) | assumption)⟩
              · skip
                refine dz_Tb (t2_X12_wrong fu hfu _ _ _ _ q8_6 q8_7) (fun r10 q => ?_)
                obtain ⟨q10_0, q10_1⟩ := q
                refine dz_Tg (dz_nb (by omega)) ?_
                refine dz_Ts ?_
                dsimp only
                exact ⟨(by first | assumption | omega), q10_1, q8_2, q8_3, q8_4, q8_5, q8_6, q8_7, p8, p9, p10, p11, p12, p13, p14, p15, q8_8, q8_9, (by first | assumption | omega), q8_11, q8_12, (qa8_8), (by omega), (by omega), (by omega), (by omega), (by first | exact Or.inl (by omega) | exact Or.inr (by assumption) | exact Or.inr ((by assumption : _ ∨ _).resolve_left (by omega)) | assumption)⟩
    · skip
      refine dz_Teq (fun h22 => ?_) (fun h22 => ?_)
      · skip
        unfold d16_X12_lineRead_2 s16_X12_lineRead_2
        refine dz_Teq (fun h23 => ?_) (fun h23 => ?_)
        · skip
          refine dz_Teq (fun h24 => ?_) (fun h24 => ?_)
          · skip
            have e25 := dz_l3
            refine dz_Tb (t2_X12_wrong fu hfu _ _ _ _ p6 p7) (fun r11 q => ?_)
            obtain ⟨q11_0, q11_1⟩ := q
            refine dz_Tg (dz_nb (by omega)) ?_
            refine dz_Ts ?_
            dsimp only
            exact ⟨(by first | assumption | omega), q11_1, p2, p3, p4, p5, p6, p7, p8, p9, p10, p11, p12, p13, p14, p15, p16, p17, (by first | assumption | omega), p18, (by first | assumption | omega), (hr_a47), (by omega), (by omega), (by omega), (by omega), (by first | exact Or.inl (by omega) | exact Or.inr (by assumption) | exact Or.inr ((by assumption : _ ∨ _).resolve_left (by omega)) | assumption)⟩
          · skip
            refine dz_Tb (t7_X12_take fu hfu _ _ _ _ _ _ _ p0 p1 p2 p3 p4 p5 p6 p7 p18 (hr_a39)) (fun r12 q => ?_)
            obtain ⟨q12_0, q12_1, q12_2, q12_3, q12_4, q12_5, q12_6, q12_7, q12_8, q12_9, q12_10, qo12_0, qo12_1⟩ := q
            have e26 := dz_l2
            have e27 := dz_l4
            refine dz_Tb (t10_X12_isNumber fu hfu _ _ _ _ _ _ _ q12_4 q12_5 q12_6 q12_7) (fun r13 q => ?_)
            obtain ⟨q13_0, q13_1, q13_2, qo13_0⟩ := q
            refine dz_Teq (fun h28 => ?_) (fun h28 => ?_)
            · skip
              refine dz_Ts ?_
              dsimp only
              exact ⟨(by omega), (by omega), q12_2, q12_3, q12_4, q12_5, q12_6, q12_7, p8, p9, p10, p11, p12, p13, p14, p15, p16, p17, (by omega), q12_8, q12_9, (hr_a47), (by omega), (by omega), (by omega), (by omega), (by first | exact Or.inl (by omega) | exact Or.inr (by assumption) | exact Or.inr ((by assumption : _ ∨ _).resolve_left (by omega)) | assumption)⟩
            · skip
              refine dz_Tb (t7_X12_take fu hfu _ _ _ _ _ _ _ p0 p1 q12_2 q12_3 q12_4 q12_5 q12_6 q12_7 q12_8 (hr_a39)) (fun r14 q => ?_)
              obtain ⟨q14_0, q14_1, q14_2, q14_3, q14_4, q14_5, q14_6, q14_7, q14_8, q14_9, q14_10, qo14_0, qo14_1⟩ := q
              unfold d16_X12_lineRead_3 s16_X12_lineRead_3
              refine dz_Teq (fun h29 => ?_) (fun h29 => ?_)
              · skip
                refine dz_Tb (t7_X12_take fu hfu _ _ _ _ _ _ _ p0 p1 q14_2 q14_3 q14_4 q14_5 q14_6 q14_7 q14_8 (hr_a39)) (fun r15 q => ?_)
                obtain ⟨q15_0, q15_1, q15_2, q15_3, q15_4, q15_5, q15_6, q15_7, q15_8, q15_9, q15_10, qo15_0, qo15_1⟩ := q
                refine dz_Ts ?_
                dsimp only
                exact ⟨(by omega), (by omega), q15_2, q15_3, q15_4, q15_5, q15_6, q15_7, (by first | assumption | omega), (by first | assumption | omega), p10, p11, p12, p13, p14, p15, p16, p17, (by omega), q15_8, (by first | assumption | omega), (hr_a47), (by omega), (by omega), (by omega), (by omega), (by first | exact Or.inl (by omega) | exact Or.inr (by assumption) | exact Or.inr ((by assumption : _ ∨ _).resolve_left (by omega)) | assumption)⟩
              · skip
                refine dz_Tb (t2_X12_wrong fu hfu _ _ _ _ q14_6 q14_7) (fun r16 q => ?_)
                obtain ⟨q16_0, q16_1⟩ := q
                refine dz_Tg (dz_nb (by omega)) ?_
                refine dz_Ts ?_
                dsimp only
                exact ⟨(by first | assumption | omega), q16_1, q14_2, q14_3, q14_4, q14_5, q14_6, q14_7, (by first | assumption | omega), (by first | assumption | omega), p10, p11, p12, p13, p14, p15, p16, p17, (by first | assumption | omega), q14_8, (by first | assumption | omega), (hr_a47), (by omega), (by omega), (by omega), (by omega), (by first | exact Or.inl (by omega) | exact Or.inr (by assumption) | exact Or.inr ((by assumption : _ ∨ _).resolve_left (by omega)) | assumption)⟩
        · skip
          exfalso; omega
      · skip
        unfold d16_X12_lineRead_1 s16_X12_lineRead_1
        refine dz_Tb (t2_X12_wrong fu hfu _ _ _ _ p6 p7) (fun r17 q => ?_)
        obtain ⟨q17_0, q17_1⟩ := q
        refine dz_Tg (dz_nb (by omega)) ?_
        refine dz_Ts ?_
        dsimp only
        exact ⟨(by first | assumption | omega), q17_1, p2, p3, p4, p5, p6, p7, p8, p9, p10, p11, p12, p13, p14, p15, p16, p17, (by first | assumption | omega), p18, (by first | assumption | omega), (hr_a47), (by omega), (by omega), (by omega), (by omega), (by first | exact Or.inl (by omega) | exact Or.inr (by assumption) | exact Or.inr ((by assumption : _ ∨ _).resolve_left (by omega)) | assumption)⟩
  · skip
    unfold d16_X12_lineRead_1 s16_X12_lineRead_1
    refine dz_Tb (t2_X12_wrong fu hfu _ _ _ _ p6 p7) (fun r18 q => ?_)
    obtain ⟨q18_0, q18_1⟩ := q
    refine dz_Tg (dz_nb (by omega)) ?_
    refine dz_Ts ?_
    dsimp only
    exact ⟨(by first | assumption | omega), q18_1, p2, p3, p4, p5, p6, p7, p8, p9, p10, p11, p12, p13, p14, p15, p16, p17, (by first | assumption | omega), p18, (by first | assumption | omega), (hr_a47), (by omega), (by omega), (by omega), (by omega), (by first | exact Or.inl (by omega) | exact Or.inr (by assumption) | exact Or.inr ((by assumption : _ ∨ _).resolve_left (by omega)) | assumption)⟩
theorem t17_X12_layRows_s (fu : Nat) (hfu : 1000000000000 ≤ fu) (κ : Nat) (hκ : κ < 14) (c2_groups : Int32) (c2_ranks : Int32) (a48 : Nat → Int32) (p0 : c2_groups.toInt ≤ 4) (p1 : 2 ≤ c2_groups.toInt) (hr_a48 : dz_rg a48 100 0 3) (o0 : c2_groups.toInt = ((dz_kg κ : Nat) : Int)) : dz_T (f17_X12_layRows fu c2_groups c2_ranks a48) (fun r => 2 ≤ r.1.toInt ∧ r.1.toInt ≤ 24 ∧ dz_rg r.2 100 0 3 ∧ (r.1.toInt = ((dz_kr κ : Nat) : Int)) ∧ (dz_rw (dz_kg κ) (dz_kr κ) r.2)) := by
  rcases (show κ = 0 ∨ κ = 1 ∨ κ = 2 ∨ κ = 3 ∨ κ = 4 ∨ κ = 5 ∨ κ = 6 ∨ κ = 7 ∨ κ = 8 ∨ κ = 9 ∨ κ = 10 ∨ κ = 11 ∨ κ = 12 ∨ κ = 13 by omega) with rfl | rfl | rfl | rfl | rfl | rfl | rfl | rfl | rfl | rfl | rfl | rfl | rfl | rfl
  · refine dz_Tw (t17_X12_layRows_g2 fu hfu c2_groups c2_ranks a48 o0 hr_a48) (fun r h => ?_)
    obtain ⟨h1, h2, h3⟩ := h
    exact ⟨by omega, by omega, h2, h1, h3⟩
  · refine dz_Tw (t17_X12_layRows_g2 fu hfu c2_groups c2_ranks a48 o0 hr_a48) (fun r h => ?_)
    obtain ⟨h1, h2, h3⟩ := h
    exact ⟨by omega, by omega, h2, h1, h3⟩
  · refine dz_Tw (t17_X12_layRows_g2 fu hfu c2_groups c2_ranks a48 o0 hr_a48) (fun r h => ?_)
    obtain ⟨h1, h2, h3⟩ := h
    exact ⟨by omega, by omega, h2, h1, h3⟩
  · refine dz_Tw (t17_X12_layRows_g2 fu hfu c2_groups c2_ranks a48 o0 hr_a48) (fun r h => ?_)
    obtain ⟨h1, h2, h3⟩ := h
    exact ⟨by omega, by omega, h2, h1, h3⟩
  · refine dz_Tw (t17_X12_layRows_g2 fu hfu c2_groups c2_ranks a48 o0 hr_a48) (fun r h => ?_)
    obtain ⟨h1, h2, h3⟩ := h
    exact ⟨by omega, by omega, h2, h1, h3⟩
  · refine dz_Tw (t17_X12_layRows_g3 fu hfu c2_groups c2_ranks a48 o0 hr_a48) (fun r h => ?_)
    obtain ⟨h1, h2, h3⟩ := h
    exact ⟨by omega, by omega, h2, h1, h3⟩
  · refine dz_Tw (t17_X12_layRows_g3 fu hfu c2_groups c2_ranks a48 o0 hr_a48) (fun r h => ?_)
    obtain ⟨h1, h2, h3⟩ := h
    exact ⟨by omega, by omega, h2, h1, h3⟩
  · refine dz_Tw (t17_X12_layRows_g3 fu hfu c2_groups c2_ranks a48 o0 hr_a48) (fun r h => ?_)
    obtain ⟨h1, h2, h3⟩ := h
    exact ⟨by omega, by omega, h2, h1, h3⟩
  · refine dz_Tw (t17_X12_layRows_g3 fu hfu c2_groups c2_ranks a48 o0 hr_a48) (fun r h => ?_)
    obtain ⟨h1, h2, h3⟩ := h
    exact ⟨by omega, by omega, h2, h1, h3⟩
  · refine dz_Tw (t17_X12_layRows_g3 fu hfu c2_groups c2_ranks a48 o0 hr_a48) (fun r h => ?_)
    obtain ⟨h1, h2, h3⟩ := h
    exact ⟨by omega, by omega, h2, h1, h3⟩
  · refine dz_Tw (t17_X12_layRows_g4 fu hfu c2_groups c2_ranks a48 o0 hr_a48) (fun r h => ?_)
    obtain ⟨h1, h2, h3⟩ := h
    exact ⟨by omega, by omega, h2, h1, h3⟩
  · refine dz_Tw (t17_X12_layRows_g4 fu hfu c2_groups c2_ranks a48 o0 hr_a48) (fun r h => ?_)
    obtain ⟨h1, h2, h3⟩ := h
    exact ⟨by omega, by omega, h2, h1, h3⟩
  · refine dz_Tw (t17_X12_layRows_g4 fu hfu c2_groups c2_ranks a48 o0 hr_a48) (fun r h => ?_)
    obtain ⟨h1, h2, h3⟩ := h
    exact ⟨by omega, by omega, h2, h1, h3⟩
  · refine dz_Tw (t17_X12_layRows_g4 fu hfu c2_groups c2_ranks a48 o0 hr_a48) (fun r h => ?_)
    obtain ⟨h1, h2, h3⟩ := h
    exact ⟨by omega, by omega, h2, h1, h3⟩
theorem t18_X12_rankIn_s (fu : Nat) (hfu : 1000000000000 ≤ fu) (κ : Nat) (hκ : κ < 14) (c2_pots : Int32) (c2_ranks : Int32) (v1 : Int32) (v2 : Int32) (p0 : c2_pots.toInt ≤ 4) (p1 : 0 ≤ c2_pots.toInt) (p2 : c2_ranks.toInt ≤ 24) (p3 : 2 ≤ c2_ranks.toInt) (p4 : 0 ≤ v1.toInt) (p5 : v1.toInt ≤ 13823) (p6 : 0 ≤ v2.toInt) (p7 : v2.toInt + 1 ≤ c2_pots.toInt) (o0 : c2_pots.toInt = ((dz_kp κ : Nat) : Int)) (o1 : c2_ranks.toInt = ((dz_kr κ : Nat) : Int)) : dz_T (f18_X12_rankIn fu c2_pots c2_ranks v1 v2) (fun r => 0 ≤ r.toInt ∧ r.toInt + 1 ≤ c2_ranks.toInt ∧ (r.toInt = ((v1.toInt.toNat / (dz_kr κ) ^ (c2_pots.toInt.toNat - 1 - v2.toInt.toNat) % (dz_kr κ) : Nat) : Int))) := by
  have hkr := dz_kr4 hκ
  refine dz_Tw (t18_X12_rankIn_v fu hfu c2_pots c2_ranks v1 v2 c2_pots.toInt.toNat (dz_kr κ) (by omega) (by omega) (by omega) (by omega) (by omega) (by omega) (by omega)) (fun r h => ?_)
  have hq := Nat.mod_lt (v1.toInt.toNat / (dz_kr κ) ^ (c2_pots.toInt.toNat - 1 - v2.toInt.toNat)) (show 0 < (dz_kr κ) by omega)
  exact ⟨by omega, by omega, h⟩
set_option maxHeartbeats 4000000 in
set_option maxRecDepth 10000 in
theorem t9_X12_teams_g2 (fu : Nat) (hfu : 1000000000000 ≤ fu) (c2_groups : Int32) (c2_pots : Int32) (p0 : c2_groups.toInt ≤ 2) (p1 : 2 ≤ c2_groups.toInt) (p2 : c2_pots.toInt ≤ 4) (p3 : 0 ≤ c2_pots.toInt) : dz_T (f9_X12_teams fu c2_groups c2_pots) (fun r => r.toInt ≤ 8 ∧ 0 ≤ r.toInt ∧ (r.toInt = 2 * c2_pots.toInt)) := by
  unfold f9_X12_teams s9_X12_teams_0
  have e1 := dz_mull (a := c2_groups) (b := c2_pots) 2 (by omega) (by omega) (by omega)
  exact dz_Ts ⟨(by omega), (by omega), (by omega)⟩
set_option maxHeartbeats 4000000 in
set_option maxRecDepth 10000 in
theorem t9_X12_teams_g3 (fu : Nat) (hfu : 1000000000000 ≤ fu) (c2_groups : Int32) (c2_pots : Int32) (p0 : c2_groups.toInt ≤ 3) (p1 : 3 ≤ c2_groups.toInt) (p2 : c2_pots.toInt ≤ 4) (p3 : 0 ≤ c2_pots.toInt) : dz_T (f9_X12_teams fu c2_groups c2_pots) (fun r => r.toInt ≤ 12 ∧ 0 ≤ r.toInt ∧ (r.toInt = 3 * c2_pots.toInt)) := by
  unfold f9_X12_teams s9_X12_teams_0
  have e1 := dz_mull (a := c2_groups) (b := c2_pots) 3 (by omega) (by omega) (by omega)
  exact dz_Ts ⟨(by omega), (by omega), (by omega)⟩
set_option maxHeartbeats 4000000 in
set_option maxRecDepth 10000 in
theorem t9_X12_teams_g4 (fu : Nat) (hfu : 1000000000000 ≤ fu) (c2_groups : Int32) (c2_pots : Int32) (p0 : c2_groups.toInt ≤ 4) (p1 : 4 ≤ c2_groups.toInt) (p2 : c2_pots.toInt ≤ 3) (p3 : 0 ≤ c2_pots.toInt) : dz_T (f9_X12_teams fu c2_groups c2_pots) (fun r => r.toInt ≤ 12 ∧ 0 ≤ r.toInt ∧ (r.toInt = 4 * c2_pots.toInt)) := by
  unfold f9_X12_teams s9_X12_teams_0
  have e1 := dz_mull (a := c2_groups) (b := c2_pots) 4 (by omega) (by omega) (by omega)
  exact dz_Ts ⟨(by omega), (by omega), (by omega)⟩
set_option maxHeartbeats 4000000 in
theorem t9_X12_teams_s (fu : Nat) (hfu : 1000000000000 ≤ fu) (κ : Nat) (hκ : κ < 14) (c2_groups : Int32) (c2_pots : Int32) (p0 : c2_groups.toInt ≤ 4) (p1 : 2 ≤ c2_groups.toInt) (p2 : c2_pots.toInt ≤ 4) (p3 : 0 ≤ c2_pots.toInt) (o0 : c2_groups.toInt = ((dz_kg κ : Nat) : Int)) (o1 : c2_pots.toInt = ((dz_kp κ : Nat) : Int)) : dz_T (f9_X12_teams fu c2_groups c2_pots) (fun r => r.toInt ≤ 12 ∧ 0 ≤ r.toInt ∧ r.toInt ≤ c2_groups.toInt + 9 ∧ (r.toInt = ((dz_km κ : Nat) : Int))) := by
  rcases (show κ = 0 ∨ κ = 1 ∨ κ = 2 ∨ κ = 3 ∨ κ = 4 ∨ κ = 5 ∨ κ = 6 ∨ κ = 7 ∨ κ = 8 ∨ κ = 9 ∨ κ = 10 ∨ κ = 11 ∨ κ = 12 ∨ κ = 13 by omega) with rfl | rfl | rfl | rfl | rfl | rfl | rfl | rfl | rfl | rfl | rfl | rfl | rfl | rfl
  · skip
    have o0 : c2_groups.toInt = (2 : Int) := o0
    have o1 : c2_pots.toInt = (0 : Int) := o1
    have hdz_km : ((dz_km 0 : Nat) : Int) = (0 : Int) := rfl
    refine dz_Tw (t9_X12_teams_g2 fu hfu c2_groups c2_pots (by first | assumption | omega) (by first | assumption | omega) (by first | assumption | omega) (by first | assumption | omega)) (fun r h => ?_)
    obtain ⟨g0, g1, g2⟩ := h
    exact ⟨(by first | assumption | omega), (by first | assumption | omega), (by first | assumption | omega), (by first | assumption | omega)⟩
  · skip
    have o0 : c2_groups.toInt = (2 : Int) := o0
    have o1 : c2_pots.toInt = (1 : Int) := o1
    have hdz_km : ((dz_km 1 : Nat) : Int) = (2 : Int) := rfl
    refine dz_Tw (t9_X12_teams_g2 fu hfu c2_groups c2_pots (by first | assumption | omega) (by first | assumption | omega) (by first | assumption | omega) (by first | assumption | omega)) (fun r h => ?_)
    obtain ⟨g0, g1, g2⟩ := h
    exact ⟨(by first | assumption | omega), (by first | assumption | omega), (by first | assumption | omega), (by first | assumption | omega)⟩
  · skip
    have o0 : c2_groups.toInt = (2 : Int) := o0
    have o1 : c2_pots.toInt = (2 : Int) := o1
    have hdz_km : ((dz_km 2 : Nat) : Int) = (4 : Int) := rfl
    refine dz_Tw (t9_X12_teams_g2 fu hfu c2_groups c2_pots (by first | assumption | omega) (by first | assumption | omega) (by first | assumption | omega) (by first | assumption | omega)) (fun r h => ?_)
    obtain ⟨g0, g1, g2⟩ := h
    exact ⟨(by first | assumption | omega), (by first | assumption | omega), (by first | assumption | omega), (by first | assumption | omega)⟩
  · skip
    have o0 : c2_groups.toInt = (2 : Int) := o0
    have o1 : c2_pots.toInt = (3 : Int) := o1
    have hdz_km : ((dz_km 3 : Nat) : Int) = (6 : Int) := rfl
    refine dz_Tw (t9_X12_teams_g2 fu hfu c2_groups c2_pots (by first | assumption | omega) (by first | assumption | omega) (by first | assumption | omega) (by first | assumption | omega)) (fun r h => ?_)
    obtain ⟨g0, g1, g2⟩ := h
    exact ⟨(by first | assumption | omega), (by first | assumption | omega), (by first | assumption | omega), (by first | assumption | omega)⟩
  · skip
    have o0 : c2_groups.toInt = (2 : Int) := o0
    have o1 : c2_pots.toInt = (4 : Int) := o1
    have hdz_km : ((dz_km 4 : Nat) : Int) = (8 : Int) := rfl
    refine dz_Tw (t9_X12_teams_g2 fu hfu c2_groups c2_pots (by first | assumption | omega) (by first | assumption | omega) (by first | assumption | omega) (by first | assumption | omega)) (fun r h => ?_)
    obtain ⟨g0, g1, g2⟩ := h
    exact ⟨(by first | assumption | omega), (by first | assumption | omega), (by first | assumption | omega), (by first | assumption | omega)⟩
  · skip
    have o0 : c2_groups.toInt = (3 : Int) := o0
    have o1 : c2_pots.toInt = (0 : Int) := o1
    have hdz_km : ((dz_km 5 : Nat) : Int) = (0 : Int) := rfl
    refine dz_Tw (t9_X12_teams_g3 fu hfu c2_groups c2_pots (by first | assumption | omega) (by first | assumption | omega) (by first | assumption | omega) (by first | assumption | omega)) (fun r h => ?_)
    obtain ⟨g0, g1, g2⟩ := h
    exact ⟨(by first | assumption | omega), (by first | assumption | omega), (by first | assumption | omega), (by first | assumption | omega)⟩
  · skip
    have o0 : c2_groups.toInt = (3 : Int) := o0
    have o1 : c2_pots.toInt = (1 : Int) := o1
    have hdz_km : ((dz_km 6 : Nat) : Int) = (3 : Int) := rfl
    refine dz_Tw (t9_X12_teams_g3 fu hfu c2_groups c2_pots (by first | assumption | omega) (by first | assumption | omega) (by first | assumption | omega) (by first | assumption | omega)) (fun r h => ?_)
    obtain ⟨g0, g1, g2⟩ := h
    exact ⟨(by first | assumption | omega), (by first | assumption | omega), (by first | assumption | omega), (by first | assumption | omega)⟩
  · skip
    have o0 : c2_groups.toInt = (3 : Int) := o0
    have o1 : c2_pots.toInt = (2 : Int) := o1
    have hdz_km : ((dz_km 7 : Nat) : Int) = (6 : Int) := rfl
    refine dz_Tw (t9_X12_teams_g3 fu hfu c2_groups c2_pots (by first | assumption | omega) (by first | assumption | omega) (by first | assumption | omega) (by first | assumption | omega)) (fun r h => ?_)
    obtain ⟨g0, g1, g2⟩ := h
    exact ⟨(by first | assumption | omega), (by first | assumption | omega), (by first | assumption | omega), (by first | assumption | omega)⟩
  · skip
    have o0 : c2_groups.toInt = (3 : Int) := o0
    have o1 : c2_pots.toInt = (3 : Int) := o1
    have hdz_km : ((dz_km 8 : Nat) : Int) = (9 : Int) := rfl
    refine dz_Tw (t9_X12_teams_g3 fu hfu c2_groups c2_pots (by first | assumption | omega) (by first | assumption | omega) (by first | assumption | omega) (by first | assumption | omega)) (fun r h => ?_)
    obtain ⟨g0, g1, g2⟩ := h
    exact ⟨(by first | assumption | omega), (by first | assumption | omega), (by first | assumption | omega), (by first | assumption | omega)⟩
  · skip
    have o0 : c2_groups.toInt = (3 : Int) := o0
    have o1 : c2_pots.toInt = (4 : Int) := o1
    have hdz_km : ((dz_km 9 : Nat) : Int) = (12 : Int) := rfl
    refine dz_Tw (t9_X12_teams_g3 fu hfu c2_groups c2_pots (by first | assumption | omega) (by first | assumption | omega) (by first | assumption | omega) (by first | assumption | omega)) (fun r h => ?_)
    obtain ⟨g0, g1, g2⟩ := h
    exact ⟨(by first | assumption | omega), (by first | assumption | omega), (by first | assumption | omega), (by first | assumption | omega)⟩
  · skip
    have o0 : c2_groups.toInt = (4 : Int) := o0
    have o1 : c2_pots.toInt = (0 : Int) := o1
    have hdz_km : ((dz_km 10 : Nat) : Int) = (0 : Int) := rfl
    refine dz_Tw (t9_X12_teams_g4 fu hfu c2_groups c2_pots (by first | assumption | omega) (by first | assumption | omega) (by first | assumption | omega) (by first | assumption | omega)) (fun r h => ?_)
    obtain ⟨g0, g1, g2⟩ := h
    exact ⟨(by first | assumption | omega), (by first | assumption | omega), (by first | assumption | omega), (by first | assumption | omega)⟩
  · skip
    have o0 : c2_groups.toInt = (4 : Int) := o0
    have o1 : c2_pots.toInt = (1 : Int) := o1
    have hdz_km : ((dz_km 11 : Nat) : Int) = (4 : Int) := rfl
    refine dz_Tw (t9_X12_teams_g4 fu hfu c2_groups c2_pots (by first | assumption | omega) (by first | assumption | omega) (by first | assumption | omega) (by first | assumption | omega)) (fun r h => ?_)
    obtain ⟨g0, g1, g2⟩ := h
    exact ⟨(by first | assumption | omega), (by first | assumption | omega), (by first | assumption | omega), (by first | assumption | omega)⟩
  · skip
    have o0 : c2_groups.toInt = (4 : Int) := o0
    have o1 : c2_pots.toInt = (2 : Int) := o1
    have hdz_km : ((dz_km 12 : Nat) : Int) = (8 : Int) := rfl
    refine dz_Tw (t9_X12_teams_g4 fu hfu c2_groups c2_pots (by first | assumption | omega) (by first | assumption | omega) (by first | assumption | omega) (by first | assumption | omega)) (fun r h => ?_)
    obtain ⟨g0, g1, g2⟩ := h
    exact ⟨(by first | assumption | omega), (by first | assumption | omega), (by first | assumption | omega), (by first | assumption | omega)⟩
  · skip
    have o0 : c2_groups.toInt = (4 : Int) := o0
    have o1 : c2_pots.toInt = (3 : Int) := o1
    have hdz_km : ((dz_km 13 : Nat) : Int) = (12 : Int) := rfl
    refine dz_Tw (t9_X12_teams_g4 fu hfu c2_groups c2_pots (by first | assumption | omega) (by first | assumption | omega) (by first | assumption | omega) (by first | assumption | omega)) (fun r h => ?_)
    obtain ⟨g0, g1, g2⟩ := h
    exact ⟨(by first | assumption | omega), (by first | assumption | omega), (by first | assumption | omega), (by first | assumption | omega)⟩
abbrev p19_X12_isBroken_s (fu : Nat) (κ : Nat) (c2_groups : Int32) (c2_pots : Int32) (a42 : Nat → Int32) (a43 : Nat → Int32) (a50 : Nat → Int32) (k : Nat) : Prop :=
  (∀ (v2 : Int32) (v3 : Int32) (v4 : Int32) (v5 : Int32), v2.toInt ≤ 165876 → 0 ≤ v2.toInt → v3.toInt ≤ 11 → 0 ≤ v3.toInt → v4.toInt ≤ 5 → 0 ≤ v4.toInt → v5.toInt ≤ 4 → 0 ≤ v5.toInt → v5.toInt ≤ c2_groups.toInt → 0 + 0 + (4 - v5.toInt) * 240 + 8 ≤ ((k : Nat) : Int) → dz_T ((F19_X12_isBroken fu c2_groups c2_pots a42 a43 a50 k).1 v2 v3 v4 v5) (fun r => r.toInt ≤ 1 ∧ 0 ≤ r.toInt)) ∧ (∀ (v2 : Int32) (v3 : Int32) (v4 : Int32) (v5 : Int32) (v6 : Int32) (v7 : Int32), v2.toInt ≤ 165876 → 0 ≤ v2.toInt → v3.toInt ≤ 11 → 0 ≤ v3.toInt → v4.toInt ≤ 5 → 0 ≤ v4.toInt → v5.toInt ≤ 3 → 0 ≤ v5.toInt → v6.toInt ≤ 12 → 0 ≤ v6.toInt → v7.toInt ≤ 12 → 0 ≤ v7.toInt → v5.toInt + 1 ≤ c2_groups.toInt → v6.toInt ≤ v7.toInt → v6.toInt ≤ c2_groups.toInt + 9 → v7.toInt ≤ c2_groups.toInt + 9 → 0 + 0 + ((4 - v5.toInt) - 1) * 240 + 0 + (12 - v7.toInt) * 16 + 16 ≤ ((k : Nat) : Int) → dz_T ((F19_X12_isBroken fu c2_groups c2_pots a42 a43 a50 k).2.1 v2 v3 v4 v5 v6 v7) (fun r => r.toInt ≤ 1 ∧ 0 ≤ r.toInt))
set_option maxHeartbeats 4000000 in
set_option maxRecDepth 10000 in
theorem t19_X12_isBroken_h1_s (fu : Nat) (hfu : 1000000000000 ≤ fu) (κ : Nat) (hκ : κ < 14) (c2_groups : Int32) (c2_pots : Int32) (a42 : Nat → Int32) (a43 : Nat → Int32) (a50 : Nat → Int32) (p0 : c2_groups.toInt ≤ 4) (p1 : 2 ≤ c2_groups.toInt) (p2 : c2_pots.toInt ≤ 4) (p3 : 0 ≤ c2_pots.toInt) (hr_a43 : dz_rg a43 30 0 11) (hr_a50 : dz_rg a50 165888 0 3) (o1 : c2_groups.toInt = ((dz_kg κ : Nat) : Int)) (o2 : c2_pots.toInt = ((dz_kp κ : Nat) : Int)) (k : Nat) (ih : ∀ j9, j9 < k → p19_X12_isBroken_s fu κ c2_groups c2_pots a42 a43 a50 j9) : ∀ (v2 : Int32) (v3 : Int32) (v4 : Int32) (v5 : Int32), v2.toInt ≤ 165876 → 0 ≤ v2.toInt → v3.toInt ≤ 11 → 0 ≤ v3.toInt → v4.toInt ≤ 5 → 0 ≤ v4.toInt → v5.toInt ≤ 4 → 0 ≤ v5.toInt → v5.toInt ≤ c2_groups.toInt → 0 + 0 + (4 - v5.toInt) * 240 + 8 ≤ ((k : Nat) : Int) → dz_T ((F19_X12_isBroken fu c2_groups c2_pots a42 a43 a50 k).1 v2 v3 v4 v5) (fun r => r.toInt ≤ 1 ∧ 0 ≤ r.toInt) := by
  intro v2 v3 v4 v5 i0 i1 i2 i3 i4 i5 i6 i7 i8 hm
  obtain ⟨k0, rfl⟩ : ∃ x, k = x + 1 := ⟨k - 1, by omega⟩
  show dz_T (s19_X12_isBroken_1 fu c2_groups c2_pots a42 a43 a50 (F19_X12_isBroken fu c2_groups c2_pots a42 a43 a50 k0).2.1  v2 v3 v4 v5) _
  unfold s19_X12_isBroken_1
  refine dz_Tle (fun h1 => ?_) (fun h1 => ?_)
  · skip
    have e2 := dz_l0
    exact dz_Ts ⟨(by omega), (by omega)⟩
  · skip
    have e3 := dz_l0
    exact (ih k0 (by omega)).2 v2 v3 v4 v5 (0 : Int32) (0 : Int32) i0 i1 i2 i3 i4 i5 (by first | assumption | omega) i7 (by omega) (by omega) (by omega) (by omega) (by first | assumption | omega) (by omega) (by omega) (by omega) (by omega)
set_option maxHeartbeats 4000000 in
set_option maxRecDepth 10000 in
theorem t19_X12_isBroken_h2_s (fu : Nat) (hfu : 1000000000000 ≤ fu) (κ : Nat) (hκ : κ < 14) (c2_groups : Int32) (c2_pots : Int32) (a42 : Nat → Int32) (a43 : Nat → Int32) (a50 : Nat → Int32) (p0 : c2_groups.toInt ≤ 4) (p1 : 2 ≤ c2_groups.toInt) (p2 : c2_pots.toInt ≤ 4) (p3 : 0 ≤ c2_pots.toInt) (hr_a43 : dz_rg a43 30 0 11) (hr_a50 : dz_rg a50 165888 0 3) (o1 : c2_groups.toInt = ((dz_kg κ : Nat) : Int)) (o2 : c2_pots.toInt = ((dz_kp κ : Nat) : Int)) (k : Nat) (ih : ∀ j9, j9 < k → p19_X12_isBroken_s fu κ c2_groups c2_pots a42 a43 a50 j9) : ∀ (v2 : Int32) (v3 : Int32) (v4 : Int32) (v5 : Int32) (v6 : Int32) (v7 : Int32), v2.toInt ≤ 165876 → 0 ≤ v2.toInt → v3.toInt ≤ 11 → 0 ≤ v3.toInt → v4.toInt ≤ 5 → 0 ≤ v4.toInt → v5.toInt ≤ 3 → 0 ≤ v5.toInt → v6.toInt ≤ 12 → 0 ≤ v6.toInt → v7.toInt ≤ 12 → 0 ≤ v7.toInt → v5.toInt + 1 ≤ c2_groups.toInt → v6.toInt ≤ v7.toInt → v6.toInt ≤ c2_groups.toInt + 9 → v7.toInt ≤ c2_groups.toInt + 9 → 0 + 0 + ((4 - v5.toInt) - 1) * 240 + 0 + (12 - v7.toInt) * 16 + 16 ≤ ((k : Nat) : Int) → dz_T ((F19_X12_isBroken fu c2_groups c2_pots a42 a43 a50 k).2.1 v2 v3 v4 v5 v6 v7) (fun r => r.toInt ≤ 1 ∧ 0 ≤ r.toInt) := by
  intro v2 v3 v4 v5 v6 v7 i0 i1 i2 i3 i4 i5 i6 i7 i8 i9 i10 i11 i12 i13 i14 i15 hm
  obtain ⟨k0, rfl⟩ : ∃ x, k = x + 1 := ⟨k - 1, by omega⟩
  show dz_T (s19_X12_isBroken_2 fu c2_groups c2_pots a42 a43 a50 (F19_X12_isBroken fu c2_groups c2_pots a42 a43 a50 k0).1 (F19_X12_isBroken fu c2_groups c2_pots a42 a43 a50 k0).2.2.1 (F19_X12_isBroken fu c2_groups c2_pots a42 a43 a50 k0).2.2.2  v2 v3 v4 v5 v6 v7) _
  unfold s19_X12_isBroken_2
  refine dz_Tb (t9_X12_teams_s fu hfu κ hκ _ _ p0 p1 p2 p3 o1 o2) (fun r1 q => ?_)
  obtain ⟨q1_0, q1_1, q1_2, qo1_0⟩ := q
  refine dz_Tle (fun h1 => ?_) (fun h1 => ?_)
  · skip
    refine dz_Tle (fun h2 => ?_) (fun h2 => ?_)
    · skip
      have e3 := dz_l1
      have e4 := dz_add (a := v5) (b := (1 : Int32)) (by omega) (by omega)
      exact (ih k0 (by omega)).1 v2 v3 v4 (v5 + (1 : Int32)) i0 i1 i2 i3 i4 i5 (by omega) (by omega) (by omega) (by omega)
    · skip
      have e5 := dz_l1
      exact dz_Ts ⟨(by omega), (by omega)⟩
  · skip
    refine dz_Tin (by omega) (by omega) ?_
    have e6 := dz_l31
    have e7 := dz_andr (a := v7) (b := (31 : Int32)) (by omega)
    have e8 := dz_andl (a := v7) (b := (31 : Int32)) (by omega)
    have e9 := dz_l1
    have e10 := dz_andr (a := ((a42 v4.toNatClampNeg) >>> (v7 &&& (31 : Int32)))) (b := (1 : Int32)) (by omega)
    refine dz_Teq (fun h11 => ?_) (fun h11 => ?_)
    · skip
      have e12 := dz_add (a := v2) (b := v7) (by omega) (by omega)
      refine dz_Tin (by omega) (by omega) ?_
      have e13 := dz_rgat (hr_a50) (i := (v2 + v7)) (by omega) (by omega)
      refine dz_Teq (fun h14 => ?_) (fun h14 => ?_)
      · skip
        obtain ⟨k1, rfl⟩ : ∃ x, k0 = x + 1 := ⟨k0 - 1, by omega⟩
        show dz_T (s19_X12_isBroken_4 fu c2_groups c2_pots a42 a43 a50 (F19_X12_isBroken fu c2_groups c2_pots a42 a43 a50 k1).2.1 v2 v3 v4 v5 v7 (1 : Int32) v6) _
        unfold s19_X12_isBroken_4
        have e15 := dz_add (a := v6) (b := (1 : Int32)) (by omega) (by omega)
        have e16 := dz_add (a := v7) (b := (1 : Int32)) (by omega) (by omega)
        exact (ih k1 (by omega)).2 v2 v3 v4 v5 (v6 + (1 : Int32)) (v7 + (1 : Int32)) i0 i1 i2 i3 i4 i5 i6 i7 (by omega) (by omega) (by omega) (by omega) i12 (by omega) (by omega) (by omega) (by omega)
      · skip
        obtain ⟨k2, rfl⟩ : ∃ x, k0 = x + 1 := ⟨k0 - 1, by omega⟩
        show dz_T (s19_X12_isBroken_3 fu c2_groups c2_pots a42 a43 a50 (F19_X12_isBroken fu c2_groups c2_pots a42 a43 a50 k2).2.2.2 v2 v3 v4 v5 v7 v6) _
        unfold s19_X12_isBroken_3
        obtain ⟨k3, rfl⟩ : ∃ x, k2 = x + 1 := ⟨k2 - 1, by omega⟩
        show dz_T (s19_X12_isBroken_4 fu c2_groups c2_pots a42 a43 a50 (F19_X12_isBroken fu c2_groups c2_pots a42 a43 a50 k3).2.1 v2 v3 v4 v5 v7 (0 : Int32) v6) _
        unfold s19_X12_isBroken_4
        have e17 := dz_l0
        have e18 := dz_add (a := v6) (b := (0 : Int32)) (by omega) (by omega)
        have e19 := dz_add (a := v7) (b := (1 : Int32)) (by omega) (by omega)
        exact (ih k3 (by omega)).2 v2 v3 v4 v5 (v6 + (0 : Int32)) (v7 + (1 : Int32)) i0 i1 i2 i3 i4 i5 i6 i7 (by omega) (by omega) (by omega) (by omega) i12 (by omega) (by omega) (by omega) (by omega)
    · skip
      obtain ⟨k4, rfl⟩ : ∃ x, k0 = x + 1 := ⟨k0 - 1, by omega⟩
      show dz_T (s19_X12_isBroken_3 fu c2_groups c2_pots a42 a43 a50 (F19_X12_isBroken fu c2_groups c2_pots a42 a43 a50 k4).2.2.2 v2 v3 v4 v5 v7 v6) _
      unfold s19_X12_isBroken_3
      obtain ⟨k5, rfl⟩ : ∃ x, k4 = x + 1 := ⟨k4 - 1, by omega⟩
      show dz_T (s19_X12_isBroken_4 fu c2_groups c2_pots a42 a43 a50 (F19_X12_isBroken fu c2_groups c2_pots a42 a43 a50 k5).2.1 v2 v3 v4 v5 v7 (0 : Int32) v6) _
      unfold s19_X12_isBroken_4
      have e20 := dz_l0
      have e21 := dz_add (a := v6) (b := (0 : Int32)) (by omega) (by omega)
      have e22 := dz_add (a := v7) (b := (1 : Int32)) (by omega) (by omega)
      exact (ih k5 (by omega)).2 v2 v3 v4 v5 (v6 + (0 : Int32)) (v7 + (1 : Int32)) i0 i1 i2 i3 i4 i5 i6 i7 (by omega) (by omega) (by omega) (by omega) i12 (by omega) (by omega) (by omega) (by omega)
theorem t19_X12_isBroken_I_s (fu : Nat) (hfu : 1000000000000 ≤ fu) (κ : Nat) (hκ : κ < 14) (c2_groups : Int32) (c2_pots : Int32) (a42 : Nat → Int32) (a43 : Nat → Int32) (a50 : Nat → Int32) (p0 : c2_groups.toInt ≤ 4) (p1 : 2 ≤ c2_groups.toInt) (p2 : c2_pots.toInt ≤ 4) (p3 : 0 ≤ c2_pots.toInt) (hr_a43 : dz_rg a43 30 0 11) (hr_a50 : dz_rg a50 165888 0 3) (o1 : c2_groups.toInt = ((dz_kg κ : Nat) : Int)) (o2 : c2_pots.toInt = ((dz_kp κ : Nat) : Int)) (k : Nat) : p19_X12_isBroken_s fu κ c2_groups c2_pots a42 a43 a50 k := by
  induction k using Nat.strongRecOn with
  | _ k ih => exact ⟨t19_X12_isBroken_h1_s fu hfu κ hκ c2_groups c2_pots a42 a43 a50 p0 p1 p2 p3 hr_a43 hr_a50 o1 o2 k ih, t19_X12_isBroken_h2_s fu hfu κ hκ c2_groups c2_pots a42 a43 a50 p0 p1 p2 p3 hr_a43 hr_a50 o1 o2 k ih⟩
set_option maxHeartbeats 4000000 in
set_option maxRecDepth 10000 in
theorem t19_X12_isBroken_E_s (fu : Nat) (hfu : 1000000000000 ≤ fu) (κ : Nat) (hκ : κ < 14) (c2_groups : Int32) (c2_pots : Int32) (a42 : Nat → Int32) (a43 : Nat → Int32) (a50 : Nat → Int32) (v1 : Int32) (v2 : Int32) (p0 : c2_groups.toInt ≤ 4) (p1 : 2 ≤ c2_groups.toInt) (p2 : c2_pots.toInt ≤ 4) (p3 : 0 ≤ c2_pots.toInt) (p4 : 0 ≤ v1.toInt) (p5 : v1.toInt ≤ 9) (p6 : 0 ≤ v2.toInt) (p7 : v2.toInt ≤ 165876) (hr_a43 : dz_rg a43 30 0 11) (hr_a50 : dz_rg a50 165888 0 3) (o0 : dz_bq a43 (v1.toInt.toNat + 1)) (o1 : c2_groups.toInt = ((dz_kg κ : Nat) : Int)) (o2 : c2_pots.toInt = ((dz_kp κ : Nat) : Int)) (kv : Nat) (hkv : 1000000000000 ≤ kv) : dz_T (s19_X12_isBroken_0 fu c2_groups c2_pots a42 a43 a50 (F19_X12_isBroken fu c2_groups c2_pots a42 a43 a50 kv).1  v1 v2) (fun r => r.toInt ≤ 1 ∧ 0 ≤ r.toInt) := by
  unfold s19_X12_isBroken_0
  have hbr := dz_bqat (b := v1) o0 (by omega) (by omega) (by omega)
  have e1 := dz_l3
  have e2 := dz_mull (a := (3 : Int32)) (b := v1) 3 (by omega) (by omega) (by omega)
  have e3 := dz_l1
  have e4 := dz_add (a := ((3 : Int32) * v1)) (b := (1 : Int32)) (by omega) (by omega)
  refine dz_Tin (by omega) (by omega) ?_
  have e5 := dz_l2
  have e6 := dz_add (a := ((3 : Int32) * v1)) (b := (2 : Int32)) (by omega) (by omega)
  refine dz_Tin (by omega) (by omega) ?_
  refine dz_Tin (by omega) (by omega) ?_
  have e7 := dz_rgat (hr_a43) (i := ((3 : Int32) * v1)) (by omega) (by omega)
  refine dz_Teq (fun h8 => ?_) (fun h8 => ?_)
  · skip
    have e9 := dz_rgat (hr_a43) (i := (((3 : Int32) * v1) + (1 : Int32))) (by omega) (by omega)
    have e10 := dz_add (a := v2) (b := (a43 (((3 : Int32) * v1) + (1 : Int32)).toNatClampNeg)) (by omega) (by omega)
    refine dz_Tin (by omega) (by omega) ?_
    have e11 := dz_rgat (hr_a43) (i := (((3 : Int32) * v1) + (2 : Int32))) (by omega) (by omega)
    have e12 := dz_add (a := v2) (b := (a43 (((3 : Int32) * v1) + (2 : Int32)).toNatClampNeg)) (by omega) (by omega)
    refine dz_Tin (by omega) (by omega) ?_
    have e13 := dz_rgat (hr_a50) (i := (v2 + (a43 (((3 : Int32) * v1) + (1 : Int32)).toNatClampNeg))) (by omega) (by omega)
    have e14 := dz_rgat (hr_a50) (i := (v2 + (a43 (((3 : Int32) * v1) + (2 : Int32)).toNatClampNeg))) (by omega) (by omega)
    refine dz_Teq (fun h15 => ?_) (fun h15 => ?_)
    · skip
      exact dz_Ts ⟨(by omega), (by omega)⟩
    · skip
      have e16 := dz_l0
      exact dz_Ts ⟨(by omega), (by omega)⟩
  · skip
    refine dz_Tin (by omega) (by omega) ?_
    refine dz_Teq (fun h17 => ?_) (fun h17 => ?_)
    · skip
      have e18 := dz_rgat (hr_a43) (i := (((3 : Int32) * v1) + (1 : Int32))) (by omega) (by omega)
      have e19 := dz_add (a := v2) (b := (a43 (((3 : Int32) * v1) + (1 : Int32)).toNatClampNeg)) (by omega) (by omega)
      refine dz_Tin (by omega) (by omega) ?_
      have e20 := dz_rgat (hr_a50) (i := (v2 + (a43 (((3 : Int32) * v1) + (1 : Int32)).toNatClampNeg))) (by omega) (by omega)
      have e21 := dz_rgat (hr_a43) (i := (((3 : Int32) * v1) + (2 : Int32))) (by omega) (by omega)
      refine dz_Teq (fun h22 => ?_) (fun h22 => ?_)
      · skip
        exact dz_Ts ⟨(by omega), (by omega)⟩
      · skip
        have e23 := dz_l0
        exact dz_Ts ⟨(by omega), (by omega)⟩
    · skip
      refine dz_Tin (by omega) (by omega) ?_
      refine dz_Teq (fun h24 => ?_) (fun h24 => ?_)
      · skip
        have e25 := dz_rgat (hr_a43) (i := (((3 : Int32) * v1) + (1 : Int32))) (by omega) (by omega)
        have e26 := dz_add (a := v2) (b := (a43 (((3 : Int32) * v1) + (1 : Int32)).toNatClampNeg)) (by omega) (by omega)
        refine dz_Tin (by omega) (by omega) ?_
        have e27 := dz_rgat (hr_a50) (i := (v2 + (a43 (((3 : Int32) * v1) + (1 : Int32)).toNatClampNeg))) (by omega) (by omega)
        have e28 := dz_rgat (hr_a43) (i := (((3 : Int32) * v1) + (2 : Int32))) (by omega) (by omega)
        refine dz_Teq (fun h29 => ?_) (fun h29 => ?_)
        · skip
          have e30 := dz_l0
          exact dz_Ts ⟨(by omega), (by omega)⟩
        · skip
          exact dz_Ts ⟨(by omega), (by omega)⟩
      · skip
        have e31 := dz_rgat (hr_a43) (i := (((3 : Int32) * v1) + (1 : Int32))) (by omega) (by omega)
        have e32 := dz_rgat (hr_a43) (i := (((3 : Int32) * v1) + (2 : Int32))) (by omega) (by omega)
        have e33 := dz_l0
        exact (t19_X12_isBroken_I_s fu hfu κ hκ c2_groups c2_pots a42 a43 a50 p0 p1 p2 p3 hr_a43 hr_a50 o1 o2 kv).1 v2 (a43 (((3 : Int32) * v1) + (1 : Int32)).toNatClampNeg) (a43 (((3 : Int32) * v1) + (2 : Int32)).toNatClampNeg) (0 : Int32) p7 p6 (by omega) (by omega) (by omega) (by omega) (by omega) (by omega) (by omega) (by omega)
theorem t19_X12_isBroken_s (fu : Nat) (hfu : 1000000000000 ≤ fu) (κ : Nat) (hκ : κ < 14) (c2_groups : Int32) (c2_pots : Int32) (a42 : Nat → Int32) (a43 : Nat → Int32) (a50 : Nat → Int32) (v1 : Int32) (v2 : Int32) (p0 : c2_groups.toInt ≤ 4) (p1 : 2 ≤ c2_groups.toInt) (p2 : c2_pots.toInt ≤ 4) (p3 : 0 ≤ c2_pots.toInt) (p4 : 0 ≤ v1.toInt) (p5 : v1.toInt ≤ 9) (p6 : 0 ≤ v2.toInt) (p7 : v2.toInt ≤ 165876) (hr_a43 : dz_rg a43 30 0 11) (hr_a50 : dz_rg a50 165888 0 3) (o0 : dz_bq a43 (v1.toInt.toNat + 1)) (o1 : c2_groups.toInt = ((dz_kg κ : Nat) : Int)) (o2 : c2_pots.toInt = ((dz_kp κ : Nat) : Int)) : dz_T (f19_X12_isBroken fu c2_groups c2_pots a42 a43 a50 v1 v2) (fun r => r.toInt ≤ 1 ∧ 0 ≤ r.toInt) :=
  t19_X12_isBroken_E_s fu hfu κ hκ c2_groups c2_pots a42 a43 a50 v1 v2 p0 p1 p2 p3 p4 p5 p6 p7 hr_a43 hr_a50 o0 o1 o2 fu hfu
abbrev p19_X12_isBroken_g2 (fu : Nat) (c2_groups : Int32) (c2_pots : Int32) (a42 : Nat → Int32) (a43 : Nat → Int32) (a50 : Nat → Int32) (k : Nat) : Prop :=
  (∀ (v2 : Int32) (v3 : Int32) (v4 : Int32) (v5 : Int32), v2.toInt ≤ 165876 → 0 ≤ v2.toInt → v3.toInt ≤ 11 → 0 ≤ v3.toInt → v4.toInt ≤ 5 → 0 ≤ v4.toInt → v5.toInt ≤ 2 → 0 ≤ v5.toInt → 0 + 0 + (2 - v5.toInt) * 176 + 8 ≤ ((k : Nat) : Int) → dz_T ((F19_X12_isBroken fu c2_groups c2_pots a42 a43 a50 k).1 v2 v3 v4 v5) (fun r => r.toInt ≤ 1 ∧ 0 ≤ r.toInt)) ∧ (∀ (v2 : Int32) (v3 : Int32) (v4 : Int32) (v5 : Int32) (v6 : Int32) (v7 : Int32), v2.toInt ≤ 165876 → 0 ≤ v2.toInt → v3.toInt ≤ 11 → 0 ≤ v3.toInt → v4.toInt ≤ 5 → 0 ≤ v4.toInt → v5.toInt ≤ 1 → 0 ≤ v5.toInt → v6.toInt ≤ 8 → 0 ≤ v6.toInt → v7.toInt ≤ 8 → 0 ≤ v7.toInt → v6.toInt ≤ v7.toInt → 0 + 0 + ((2 - v5.toInt) - 1) * 176 + 0 + (8 - v7.toInt) * 16 + 16 ≤ ((k : Nat) : Int) → dz_T ((F19_X12_isBroken fu c2_groups c2_pots a42 a43 a50 k).2.1 v2 v3 v4 v5 v6 v7) (fun r => r.toInt ≤ 1 ∧ 0 ≤ r.toInt))
set_option maxHeartbeats 4000000 in
set_option maxRecDepth 10000 in
theorem t19_X12_isBroken_h1_g2 (fu : Nat) (hfu : 1000000000000 ≤ fu) (c2_groups : Int32) (c2_pots : Int32) (a42 : Nat → Int32) (a43 : Nat → Int32) (a50 : Nat → Int32) (p0 : c2_groups.toInt ≤ 2) (p1 : 2 ≤ c2_groups.toInt) (p2 : c2_pots.toInt ≤ 4) (p3 : 0 ≤ c2_pots.toInt) (hr_a43 : dz_rg a43 30 0 11) (hr_a50 : dz_rg a50 165888 0 3) (k : Nat) (ih : ∀ j9, j9 < k → p19_X12_isBroken_g2 fu c2_groups c2_pots a42 a43 a50 j9) : ∀ (v2 : Int32) (v3 : Int32) (v4 : Int32) (v5 : Int32), v2.toInt ≤ 165876 → 0 ≤ v2.toInt → v3.toInt ≤ 11 → 0 ≤ v3.toInt → v4.toInt ≤ 5 → 0 ≤ v4.toInt → v5.toInt ≤ 2 → 0 ≤ v5.toInt → 0 + 0 + (2 - v5.toInt) * 176 + 8 ≤ ((k : Nat) : Int) → dz_T ((F19_X12_isBroken fu c2_groups c2_pots a42 a43 a50 k).1 v2 v3 v4 v5) (fun r => r.toInt ≤ 1 ∧ 0 ≤ r.toInt) := by
  intro v2 v3 v4 v5 i0 i1 i2 i3 i4 i5 i6 i7 hm
  obtain ⟨k0, rfl⟩ : ∃ x, k = x + 1 := ⟨k - 1, by omega⟩
  show dz_T (s19_X12_isBroken_1 fu c2_groups c2_pots a42 a43 a50 (F19_X12_isBroken fu c2_groups c2_pots a42 a43 a50 k0).2.1  v2 v3 v4 v5) _
  unfold s19_X12_isBroken_1
  refine dz_Tle (fun h1 => ?_) (fun h1 => ?_)
  · skip
    have e2 := dz_l0
    exact dz_Ts ⟨(by omega), (by omega)⟩
  · skip
    have e3 := dz_l0
    exact (ih k0 (by omega)).2 v2 v3 v4 v5 (0 : Int32) (0 : Int32) i0 i1 i2 i3 i4 i5 (by first | assumption | omega) i7 (by omega) (by omega) (by omega) (by omega) (by omega) (by omega)
set_option maxHeartbeats 4000000 in
set_option maxRecDepth 10000 in
theorem t19_X12_isBroken_h2_g2 (fu : Nat) (hfu : 1000000000000 ≤ fu) (c2_groups : Int32) (c2_pots : Int32) (a42 : Nat → Int32) (a43 : Nat → Int32) (a50 : Nat → Int32) (p0 : c2_groups.toInt ≤ 2) (p1 : 2 ≤ c2_groups.toInt) (p2 : c2_pots.toInt ≤ 4) (p3 : 0 ≤ c2_pots.toInt) (hr_a43 : dz_rg a43 30 0 11) (hr_a50 : dz_rg a50 165888 0 3) (k : Nat) (ih : ∀ j9, j9 < k → p19_X12_isBroken_g2 fu c2_groups c2_pots a42 a43 a50 j9) : ∀ (v2 : Int32) (v3 : Int32) (v4 : Int32) (v5 : Int32) (v6 : Int32) (v7 : Int32), v2.toInt ≤ 165876 → 0 ≤ v2.toInt → v3.toInt ≤ 11 → 0 ≤ v3.toInt → v4.toInt ≤ 5 → 0 ≤ v4.toInt → v5.toInt ≤ 1 → 0 ≤ v5.toInt → v6.toInt ≤ 8 → 0 ≤ v6.toInt → v7.toInt ≤ 8 → 0 ≤ v7.toInt → v6.toInt ≤ v7.toInt → 0 + 0 + ((2 - v5.toInt) - 1) * 176 + 0 + (8 - v7.toInt) * 16 + 16 ≤ ((k : Nat) : Int) → dz_T ((F19_X12_isBroken fu c2_groups c2_pots a42 a43 a50 k).2.1 v2 v3 v4 v5 v6 v7) (fun r => r.toInt ≤ 1 ∧ 0 ≤ r.toInt) := by
  intro v2 v3 v4 v5 v6 v7 i0 i1 i2 i3 i4 i5 i6 i7 i8 i9 i10 i11 i12 hm
  obtain ⟨k0, rfl⟩ : ∃ x, k = x + 1 := ⟨k - 1, by omega⟩
  show dz_T (s19_X12_isBroken_2 fu c2_groups c2_pots a42 a43 a50 (F19_X12_isBroken fu c2_groups c2_pots a42 a43 a50 k0).1 (F19_X12_isBroken fu c2_groups c2_pots a42 a43 a50 k0).2.2.1 (F19_X12_isBroken fu c2_groups c2_pots a42 a43 a50 k0).2.2.2  v2 v3 v4 v5 v6 v7) _
  unfold s19_X12_isBroken_2
  refine dz_Tb (t9_X12_teams_g2 fu hfu _ _ p0 p1 p2 p3) (fun r1 q => ?_)
  obtain ⟨q1_0, q1_1, qo1_0⟩ := q
  refine dz_Tle (fun h1 => ?_) (fun h1 => ?_)
  · skip
    refine dz_Tle (fun h2 => ?_) (fun h2 => ?_)
    · skip
      have e3 := dz_l1
      have e4 := dz_add (a := v5) (b := (1 : Int32)) (by omega) (by omega)
      exact (ih k0 (by omega)).1 v2 v3 v4 (v5 + (1 : Int32)) i0 i1 i2 i3 i4 i5 (by omega) (by omega) (by omega)
    · skip
      have e5 := dz_l1
      exact dz_Ts ⟨(by omega), (by omega)⟩
  · skip
    refine dz_Tin (by omega) (by omega) ?_
    have e6 := dz_l31
    have e7 := dz_andr (a := v7) (b := (31 : Int32)) (by omega)
    have e8 := dz_andl (a := v7) (b := (31 : Int32)) (by omega)
    have e9 := dz_l1
    have e10 := dz_andr (a := ((a42 v4.toNatClampNeg) >>> (v7 &&& (31 : Int32)))) (b := (1 : Int32)) (by omega)
    refine dz_Teq (fun h11 => ?_) (fun h11 => ?_)
    · skip
      have e12 := dz_add (a := v2) (b := v7) (by omega) (by omega)
      refine dz_Tin (by omega) (by omega) ?_
      have e13 := dz_rgat (hr_a50) (i := (v2 + v7)) (by omega) (by omega)
      refine dz_Teq (fun h14 => ?_) (fun h14 => ?_)
      · skip
        obtain ⟨k1, rfl⟩ : ∃ x, k0 = x + 1 := ⟨k0 - 1, by omega⟩
        show dz_T (s19_X12_isBroken_4 fu c2_groups c2_pots a42 a43 a50 (F19_X12_isBroken fu c2_groups c2_pots a42 a43 a50 k1).2.1 v2 v3 v4 v5 v7 (1 : Int32) v6) _
        unfold s19_X12_isBroken_4
        have e15 := dz_add (a := v6) (b := (1 : Int32)) (by omega) (by omega)
        have e16 := dz_add (a := v7) (b := (1 : Int32)) (by omega) (by omega)
        exact (ih k1 (by omega)).2 v2 v3 v4 v5 (v6 + (1 : Int32)) (v7 + (1 : Int32)) i0 i1 i2 i3 i4 i5 i6 i7 (by omega) (by omega) (by omega) (by omega) (by omega) (by omega)
      · skip
        obtain ⟨k2, rfl⟩ : ∃ x, k0 = x + 1 := ⟨k0 - 1, by omega⟩
        show dz_T (s19_X12_isBroken_3 fu c2_groups c2_pots a42 a43 a50 (F19_X12_isBroken fu c2_groups c2_pots a42 a43 a50 k2).2.2.2 v2 v3 v4 v5 v7 v6) _
        unfold s19_X12_isBroken_3
        obtain ⟨k3, rfl⟩ : ∃ x, k2 = x + 1 := ⟨k2 - 1, by omega⟩
        show dz_T (s19_X12_isBroken_4 fu c2_groups c2_pots a42 a43 a50 (F19_X12_isBroken fu c2_groups c2_pots a42 a43 a50 k3).2.1 v2 v3 v4 v5 v7 (0 : Int32) v6) _
        unfold s19_X12_isBroken_4
        have e17 := dz_l0
        have e18 := dz_add (a := v6) (b := (0 : Int32)) (by omega) (by omega)
        have e19 := dz_add (a := v7) (b := (1 : Int32)) (by omega) (by omega)
        exact (ih k3 (by omega)).2 v2 v3 v4 v5 (v6 + (0 : Int32)) (v7 + (1 : Int32)) i0 i1 i2 i3 i4 i5 i6 i7 (by omega) (by omega) (by omega) (by omega) (by omega) (by omega)
    · skip
      obtain ⟨k4, rfl⟩ : ∃ x, k0 = x + 1 := ⟨k0 - 1, by omega⟩
      show dz_T (s19_X12_isBroken_3 fu c2_groups c2_pots a42 a43 a50 (F19_X12_isBroken fu c2_groups c2_pots a42 a43 a50 k4).2.2.2 v2 v3 v4 v5 v7 v6) _
      unfold s19_X12_isBroken_3
      obtain ⟨k5, rfl⟩ : ∃ x, k4 = x + 1 := ⟨k4 - 1, by omega⟩
      show dz_T (s19_X12_isBroken_4 fu c2_groups c2_pots a42 a43 a50 (F19_X12_isBroken fu c2_groups c2_pots a42 a43 a50 k5).2.1 v2 v3 v4 v5 v7 (0 : Int32) v6) _
      unfold s19_X12_isBroken_4
      have e20 := dz_l0
      have e21 := dz_add (a := v6) (b := (0 : Int32)) (by omega) (by omega)
      have e22 := dz_add (a := v7) (b := (1 : Int32)) (by omega) (by omega)
      exact (ih k5 (by omega)).2 v2 v3 v4 v5 (v6 + (0 : Int32)) (v7 + (1 : Int32)) i0 i1 i2 i3 i4 i5 i6 i7 (by omega) (by omega) (by omega) (by omega) (by omega) (by omega)
theorem t19_X12_isBroken_I_g2 (fu : Nat) (hfu : 1000000000000 ≤ fu) (c2_groups : Int32) (c2_pots : Int32) (a42 : Nat → Int32) (a43 : Nat → Int32) (a50 : Nat → Int32) (p0 : c2_groups.toInt ≤ 2) (p1 : 2 ≤ c2_groups.toInt) (p2 : c2_pots.toInt ≤ 4) (p3 : 0 ≤ c2_pots.toInt) (hr_a43 : dz_rg a43 30 0 11) (hr_a50 : dz_rg a50 165888 0 3) (k : Nat) : p19_X12_isBroken_g2 fu c2_groups c2_pots a42 a43 a50 k := by
  induction k using Nat.strongRecOn with
  | _ k ih => exact ⟨t19_X12_isBroken_h1_g2 fu hfu c2_groups c2_pots a42 a43 a50 p0 p1 p2 p3 hr_a43 hr_a50 k ih, t19_X12_isBroken_h2_g2 fu hfu c2_groups c2_pots a42 a43 a50 p0 p1 p2 p3 hr_a43 hr_a50 k ih⟩
set_option maxHeartbeats 4000000 in
set_option maxRecDepth 10000 in
theorem t19_X12_isBroken_E_g2 (fu : Nat) (hfu : 1000000000000 ≤ fu) (c2_groups : Int32) (c2_pots : Int32) (a42 : Nat → Int32) (a43 : Nat → Int32) (a50 : Nat → Int32) (v1 : Int32) (v2 : Int32) (p0 : c2_groups.toInt ≤ 2) (p1 : 2 ≤ c2_groups.toInt) (p2 : c2_pots.toInt ≤ 4) (p3 : 0 ≤ c2_pots.toInt) (p4 : 0 ≤ v1.toInt) (p5 : v1.toInt ≤ 9) (p6 : 0 ≤ v2.toInt) (p7 : v2.toInt ≤ 165876) (hr_a43 : dz_rg a43 30 0 11) (hr_a50 : dz_rg a50 165888 0 3) (o0 : dz_bq a43 (v1.toInt.toNat + 1)) (kv : Nat) (hkv : 1000000000000 ≤ kv) : dz_T (s19_X12_isBroken_0 fu c2_groups c2_pots a42 a43 a50 (F19_X12_isBroken fu c2_groups c2_pots a42 a43 a50 kv).1  v1 v2) (fun r => r.toInt ≤ 1 ∧ 0 ≤ r.toInt) := by
  unfold s19_X12_isBroken_0
  have hbr := dz_bqat (b := v1) o0 (by omega) (by omega) (by omega)
  have e1 := dz_l3
  have e2 := dz_mull (a := (3 : Int32)) (b := v1) 3 (by omega) (by omega) (by omega)
  have e3 := dz_l1
  have e4 := dz_add (a := ((3 : Int32) * v1)) (b := (1 : Int32)) (by omega) (by omega)
  refine dz_Tin (by omega) (by omega) ?_
  have e5 := dz_l2
  have e6 := dz_add (a := ((3 : Int32) * v1)) (b := (2 : Int32)) (by omega) (by omega)
  refine dz_Tin (by omega) (by omega) ?_
  refine dz_Tin (by omega) (by omega) ?_
  have e7 := dz_rgat (hr_a43) (i := ((3 : Int32) * v1)) (by omega) (by omega)
  refine dz_Teq (fun h8 => ?_) (fun h8 => ?_)
  · skip
    have e9 := dz_rgat (hr_a43) (i := (((3 : Int32) * v1) + (1 : Int32))) (by omega) (by omega)
    have e10 := dz_add (a := v2) (b := (a43 (((3 : Int32) * v1) + (1 : Int32)).toNatClampNeg)) (by omega) (by omega)
    refine dz_Tin (by omega) (by omega) ?_
    have e11 := dz_rgat (hr_a43) (i := (((3 : Int32) * v1) + (2 : Int32))) (by omega) (by omega)
    have e12 := dz_add (a := v2) (b := (a43 (((3 : Int32) * v1) + (2 : Int32)).toNatClampNeg)) (by omega) (by omega)
    refine dz_Tin (by omega) (by omega) ?_
    have e13 := dz_rgat (hr_a50) (i := (v2 + (a43 (((3 : Int32) * v1) + (1 : Int32)).toNatClampNeg))) (by omega) (by omega)
    have e14 := dz_rgat (hr_a50) (i := (v2 + (a43 (((3 : Int32) * v1) + (2 : Int32)).toNatClampNeg))) (by omega) (by omega)
    refine dz_Teq (fun h15 => ?_) (fun h15 => ?_)
    · skip
      exact dz_Ts ⟨(by omega), (by omega)⟩
    · skip
      have e16 := dz_l0
      exact dz_Ts ⟨(by omega), (by omega)⟩
  · skip
    refine dz_Tin (by omega) (by omega) ?_
    refine dz_Teq (fun h17 => ?_) (fun h17 => ?_)
    · skip
      have e18 := dz_rgat (hr_a43) (i := (((3 : Int32) * v1) + (1 : Int32))) (by omega) (by omega)
      have e19 := dz_add (a := v2) (b := (a43 (((3 : Int32) * v1) + (1 : Int32)).toNatClampNeg)) (by omega) (by omega)
      refine dz_Tin (by omega) (by omega) ?_
      have e20 := dz_rgat (hr_a50) (i := (v2 + (a43 (((3 : Int32) * v1) + (1 : Int32)).toNatClampNeg))) (by omega) (by omega)
      have e21 := dz_rgat (hr_a43) (i := (((3 : Int32) * v1) + (2 : Int32))) (by omega) (by omega)
      refine dz_Teq (fun h22 => ?_) (fun h22 => ?_)
      · skip
        exact dz_Ts ⟨(by omega), (by omega)⟩
      · skip
        have e23 := dz_l0
        exact dz_Ts ⟨(by omega), (by omega)⟩
    · skip
      refine dz_Tin (by omega) (by omega) ?_
      refine dz_Teq (fun h24 => ?_) (fun h24 => ?_)
      · skip
        have e25 := dz_rgat (hr_a43) (i := (((3 : Int32) * v1) + (1 : Int32))) (by omega) (by omega)
        have e26 := dz_add (a := v2) (b := (a43 (((3 : Int32) * v1) + (1 : Int32)).toNatClampNeg)) (by omega) (by omega)
        refine dz_Tin (by omega) (by omega) ?_
        have e27 := dz_rgat (hr_a50) (i := (v2 + (a43 (((3 : Int32) * v1) + (1 : Int32)).toNatClampNeg))) (by omega) (by omega)
        have e28 := dz_rgat (hr_a43) (i := (((3 : Int32) * v1) + (2 : Int32))) (by omega) (by omega)
        refine dz_Teq (fun h29 => ?_) (fun h29 => ?_)
        · skip
          have e30 := dz_l0
          exact dz_Ts ⟨(by omega), (by omega)⟩
        · skip
          exact dz_Ts ⟨(by omega), (by omega)⟩
      · skip
        have e31 := dz_rgat (hr_a43) (i := (((3 : Int32) * v1) + (1 : Int32))) (by omega) (by omega)
        have e32 := dz_rgat (hr_a43) (i := (((3 : Int32) * v1) + (2 : Int32))) (by omega) (by omega)
        have e33 := dz_l0
        exact (t19_X12_isBroken_I_g2 fu hfu c2_groups c2_pots a42 a43 a50 p0 p1 p2 p3 hr_a43 hr_a50 kv).1 v2 (a43 (((3 : Int32) * v1) + (1 : Int32)).toNatClampNeg) (a43 (((3 : Int32) * v1) + (2 : Int32)).toNatClampNeg) (0 : Int32) p7 p6 (by omega) (by omega) (by omega) (by omega) (by omega) (by omega) (by omega)
theorem t19_X12_isBroken_g2 (fu : Nat) (hfu : 1000000000000 ≤ fu) (c2_groups : Int32) (c2_pots : Int32) (a42 : Nat → Int32) (a43 : Nat → Int32) (a50 : Nat → Int32) (v1 : Int32) (v2 : Int32) (p0 : c2_groups.toInt ≤ 2) (p1 : 2 ≤ c2_groups.toInt) (p2 : c2_pots.toInt ≤ 4) (p3 : 0 ≤ c2_pots.toInt) (p4 : 0 ≤ v1.toInt) (p5 : v1.toInt ≤ 9) (p6 : 0 ≤ v2.toInt) (p7 : v2.toInt ≤ 165876) (hr_a43 : dz_rg a43 30 0 11) (hr_a50 : dz_rg a50 165888 0 3) (o0 : dz_bq a43 (v1.toInt.toNat + 1)) : dz_T (f19_X12_isBroken fu c2_groups c2_pots a42 a43 a50 v1 v2) (fun r => r.toInt ≤ 1 ∧ 0 ≤ r.toInt) :=
  t19_X12_isBroken_E_g2 fu hfu c2_groups c2_pots a42 a43 a50 v1 v2 p0 p1 p2 p3 p4 p5 p6 p7 hr_a43 hr_a50 o0 fu hfu
theorem t18_X12_rankIn_g2 (fu : Nat) (hfu : 1000000000000 ≤ fu) (c2_pots : Int32) (c2_ranks : Int32) (v1 : Int32) (v2 : Int32) (p0 : c2_pots.toInt ≤ 4) (p1 : 0 ≤ c2_pots.toInt) (p2 : c2_ranks.toInt ≤ 2) (p3 : 2 ≤ c2_ranks.toInt) (p4 : 0 ≤ v1.toInt) (p5 : v1.toInt ≤ 13823) (p6 : 0 ≤ v2.toInt) (p7 : v2.toInt + 1 ≤ c2_pots.toInt) : dz_T (f18_X12_rankIn fu c2_pots c2_ranks v1 v2) (fun r => 0 ≤ r.toInt ∧ r.toInt + 1 ≤ c2_ranks.toInt ∧ (r.toInt = ((v1.toInt.toNat / 2 ^ (c2_pots.toInt.toNat - 1 - v2.toInt.toNat) % 2 : Nat) : Int))) := by
  refine dz_Tw (t18_X12_rankIn_v fu hfu c2_pots c2_ranks v1 v2 c2_pots.toInt.toNat 2 (by omega) (by omega) (by omega) (by omega) (by omega) (by omega) (by omega)) (fun r h => ?_)
  have hq := Nat.mod_lt (v1.toInt.toNat / 2 ^ (c2_pots.toInt.toNat - 1 - v2.toInt.toNat)) (show 0 < 2 by omega)
  exact ⟨by omega, by omega, h⟩
