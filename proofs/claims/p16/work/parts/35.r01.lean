abbrev p13_X12_potRead (fu : Nat) (c2_stop : Int32) (c2_groupsRead : Int32) (a38 : Nat → Int32) (a39 : Nat → Int32) (gh_c2_next : Int32) (gh_c2_potsRead : Int32) (gh_c2_teamsRead : Int32) (k : Nat) : Prop :=
  (∀ (v1 : Int32) (c2_fault : Int32) (c2_faultPlace : Int32) (c2_next : Int32) (c2_kind : Int32) (c2_which : Int32) (c2_place : Int32) (c2_potsRead : Int32) (c2_teamsRead : Int32) (a44 : Nat → Int32), gh_c2_next.toInt ≤ 400 → 0 ≤ gh_c2_next.toInt → gh_c2_potsRead.toInt ≤ 3 → 0 ≤ gh_c2_potsRead.toInt → gh_c2_teamsRead.toInt ≤ 10 → 0 ≤ gh_c2_teamsRead.toInt → v1.toInt ≤ 4 → 0 ≤ v1.toInt → c2_next.toInt ≤ 400 → 0 ≤ c2_next.toInt → c2_kind.toInt ≤ 5 → 0 ≤ c2_kind.toInt → c2_place.toInt ≤ 400 → 0 ≤ c2_place.toInt → c2_potsRead.toInt ≤ 3 → 0 ≤ c2_potsRead.toInt → c2_teamsRead.toInt ≤ 12 → 0 ≤ c2_teamsRead.toInt → c2_next.toInt ≤ c2_stop.toInt → c2_potsRead.toInt ≤ gh_c2_potsRead.toInt → gh_c2_next.toInt ≤ c2_next.toInt → gh_c2_next.toInt ≤ c2_place.toInt → gh_c2_potsRead.toInt ≤ c2_potsRead.toInt → gh_c2_teamsRead.toInt ≤ c2_teamsRead.toInt → v1.toInt ≤ c2_groupsRead.toInt → v1.toInt ≤ c2_teamsRead.toInt → c2_kind.toInt ≤ c2_teamsRead.toInt + 4 → c2_kind.toInt ≤ v1.toInt + 4 → c2_teamsRead.toInt ≤ v1.toInt + 10 → c2_teamsRead.toInt + c2_groupsRead.toInt ≤ 12 + v1.toInt → c2_teamsRead.toInt = gh_c2_teamsRead.toInt + v1.toInt → c2_potsRead.toInt = gh_c2_potsRead.toInt → c2_kind.toInt = 0 ∨ gh_c2_next.toInt + 1 ≤ c2_next.toInt → 0 + 0 + (6 * (400 - c2_next.toInt) + c2_kind.toInt) * 14 + 7 ≤ ((k : Nat) : Int) → dz_T ((F13_X12_potRead fu c2_stop c2_groupsRead a38 a39 k).2.1 v1 c2_fault c2_faultPlace c2_next c2_kind c2_which c2_place c2_potsRead c2_teamsRead a44) (fun r => gh_c2_next.toInt ≤ 400 ∧ 0 ≤ gh_c2_next.toInt ∧ gh_c2_potsRead.toInt ≤ 4 ∧ 0 ≤ gh_c2_potsRead.toInt ∧ gh_c2_teamsRead.toInt ≤ 12 ∧ 0 ≤ gh_c2_teamsRead.toInt ∧ r.1.toInt ≤ 1 ∧ 0 ≤ r.1.toInt ∧ r.2.2.2.1.toInt ≤ 400 ∧ 0 ≤ r.2.2.2.1.toInt ∧ r.2.2.2.2.1.toInt ≤ 5 ∧ 0 ≤ r.2.2.2.2.1.toInt ∧ r.2.2.2.2.2.2.1.toInt ≤ 400 ∧ 0 ≤ r.2.2.2.2.2.2.1.toInt ∧ r.2.2.2.2.2.2.2.1.toInt ≤ 4 ∧ 0 ≤ r.2.2.2.2.2.2.2.1.toInt ∧ r.2.2.2.2.2.2.2.2.1.toInt ≤ 12 ∧ 0 ≤ r.2.2.2.2.2.2.2.2.1.toInt ∧ r.1.toInt ≤ r.2.2.2.2.1.toInt ∧ r.1.toInt ≤ r.2.2.2.2.2.2.2.1.toInt ∧ r.1.toInt ≤ r.2.2.2.2.2.2.2.2.1.toInt ∧ r.2.2.2.1.toInt ≤ c2_stop.toInt ∧ gh_c2_next.toInt ≤ r.2.2.2.1.toInt ∧ gh_c2_potsRead.toInt ≤ r.2.2.2.2.2.2.2.1.toInt ∧ gh_c2_teamsRead.toInt ≤ r.2.2.2.2.2.2.2.2.1.toInt ∧ r.2.2.2.2.2.2.2.1.toInt ≤ gh_c2_potsRead.toInt + 1 ∧ (r.1.toInt = 0 ∨ r.2.2.2.2.1.toInt = 0 ∨ gh_c2_next.toInt + 1 ≤ r.2.2.2.1.toInt) ∧ (r.1.toInt = 0 ∨ (r.2.2.2.2.2.2.2.2.1.toInt = gh_c2_teamsRead.toInt + c2_groupsRead.toInt ∧ r.2.2.2.2.2.2.2.1.toInt = gh_c2_potsRead.toInt + 1))))
set_option maxHeartbeats 4000000 in
set_option maxRecDepth 10000 in
theorem t13_X12_potRead_h2 (fu : Nat) (hfu : 1000000000000 ≤ fu) (c2_stop : Int32) (c2_groupsRead : Int32) (a38 : Nat → Int32) (a39 : Nat → Int32) (gh_c2_next : Int32) (gh_c2_potsRead : Int32) (gh_c2_teamsRead : Int32) (p0 : c2_stop.toInt ≤ 400) (p1 : 0 ≤ c2_stop.toInt) (p2 : c2_groupsRead.toInt ≤ 4) (p3 : 2 ≤ c2_groupsRead.toInt) (hr_a39 : dz_pt a39 dz_wd) (k : Nat) (ih : ∀ j9, j9 < k → p13_X12_potRead fu c2_stop c2_groupsRead a38 a39 gh_c2_next gh_c2_potsRead gh_c2_teamsRead j9) : ∀ (v1 : Int32) (c2_fault : Int32) (c2_faultPlace : Int32) (c2_next : Int32) (c2_kind : Int32) (c2_which : Int32) (c2_place : Int32) (c2_potsRead : Int32) (c2_teamsRead : Int32) (a44 : Nat → Int32), gh_c2_next.toInt ≤ 400 → 0 ≤ gh_c2_next.toInt → gh_c2_potsRead.toInt ≤ 3 → 0 ≤ gh_c2_potsRead.toInt → gh_c2_teamsRead.toInt ≤ 10 → 0 ≤ gh_c2_teamsRead.toInt → v1.toInt ≤ 4 → 0 ≤ v1.toInt → c2_next.toInt ≤ 400 → 0 ≤ c2_next.toInt → c2_kind.toInt ≤ 5 → 0 ≤ c2_kind.toInt → c2_place.toInt ≤ 400 → 0 ≤ c2_place.toInt → c2_potsRead.toInt ≤ 3 → 0 ≤ c2_potsRead.toInt → c2_teamsRead.toInt ≤ 12 → 0 ≤ c2_teamsRead.toInt → c2_next.toInt ≤ c2_stop.toInt → c2_potsRead.toInt ≤ gh_c2_potsRead.toInt → gh_c2_next.toInt ≤ c2_next.toInt → gh_c2_next.toInt ≤ c2_place.toInt → gh_c2_potsRead.toInt ≤ c2_potsRead.toInt → gh_c2_teamsRead.toInt ≤ c2_teamsRead.toInt → v1.toInt ≤ c2_groupsRead.toInt → v1.toInt ≤ c2_teamsRead.toInt → c2_kind.toInt ≤ c2_teamsRead.toInt + 4 → c2_kind.toInt ≤ v1.toInt + 4 → c2_teamsRead.toInt ≤ v1.toInt + 10 → c2_teamsRead.toInt + c2_groupsRead.toInt ≤ 12 + v1.toInt → c2_teamsRead.toInt = gh_c2_teamsRead.toInt + v1.toInt → c2_potsRead.toInt = gh_c2_potsRead.toInt → c2_kind.toInt = 0 ∨ gh_c2_next.toInt + 1 ≤ c2_next.toInt → 0 + 0 + (6 * (400 - c2_next.toInt) + c2_kind.toInt) * 14 + 7 ≤ ((k : Nat) : Int) → dz_T ((F13_X12_potRead fu c2_stop c2_groupsRead a38 a39 k).2.1 v1 c2_fault c2_faultPlace c2_next c2_kind c2_which c2_place c2_potsRead c2_teamsRead a44) (fun r => gh_c2_next.toInt ≤ 400 ∧ 0 ≤ gh_c2_next.toInt ∧ gh_c2_potsRead.toInt ≤ 4 ∧ 0 ≤ gh_c2_potsRead.toInt ∧ gh_c2_teamsRead.toInt ≤ 12 ∧ 0 ≤ gh_c2_teamsRead.toInt ∧ r.1.toInt ≤ 1 ∧ 0 ≤ r.1.toInt ∧ r.2.2.2.1.toInt ≤ 400 ∧ 0 ≤ r.2.2.2.1.toInt ∧ r.2.2.2.2.1.toInt ≤ 5 ∧ 0 ≤ r.2.2.2.2.1.toInt ∧ r.2.2.2.2.2.2.1.toInt ≤ 400 ∧ 0 ≤ r.2.2.2.2.2.2.1.toInt ∧ r.2.2.2.2.2.2.2.1.toInt ≤ 4 ∧ 0 ≤ r.2.2.2.2.2.2.2.1.toInt ∧ r.2.2.2.2.2.2.2.2.1.toInt ≤ 12 ∧ 0 ≤ r.2.2.2.2.2.2.2.2.1.toInt ∧ r.1.toInt ≤ r.2.2.2.2.1.toInt ∧ r.1.toInt ≤ r.2.2.2.2.2.2.2.1.toInt ∧ r.1.toInt ≤ r.2.2.2.2.2.2.2.2.1.toInt ∧ r.2.2.2.1.toInt ≤ c2_stop.toInt ∧ gh_c2_next.toInt ≤ r.2.2.2.1.toInt ∧ gh_c2_potsRead.toInt ≤ r.2.2.2.2.2.2.2.1.toInt ∧ gh_c2_teamsRead.toInt ≤ r.2.2.2.2.2.2.2.2.1.toInt ∧ r.2.2.2.2.2.2.2.1.toInt ≤ gh_c2_potsRead.toInt + 1 ∧ (r.1.toInt = 0 ∨ r.2.2.2.2.1.toInt = 0 ∨ gh_c2_next.toInt + 1 ≤ r.2.2.2.1.toInt) ∧ (r.1.toInt = 0 ∨ (r.2.2.2.2.2.2.2.2.1.toInt = gh_c2_teamsRead.toInt + c2_groupsRead.toInt ∧ r.2.2.2.2.2.2.2.1.toInt = gh_c2_potsRead.toInt + 1))) := by
  intro v1 c2_fault c2_faultPlace c2_next c2_kind c2_which c2_place c2_potsRead c2_teamsRead a44 i0 i1 i2 i3 i4 i5 i6 i7 i8 i9 i10 i11 i12 i13 i14 i15 i16 i17 i18 i19 i20 i21 i22 i23 i24 i25 i26 i27 i28 x0 x1 x2 x3 hm
  obtain ⟨k0, rfl⟩ : ∃ x, k = x + 1 := ⟨k - 1, by omega⟩
  show dz_T (s13_X12_potRead_2 fu c2_stop c2_groupsRead a38 a39 (F13_X12_potRead fu c2_stop c2_groupsRead a38 a39 k0).2.1 (F13_X12_potRead fu c2_stop c2_groupsRead a38 a39 k0).2.2  v1 c2_fault c2_faultPlace c2_next c2_kind c2_which c2_place c2_potsRead c2_teamsRead a44) _
  unfold s13_X12_potRead_2
  have e1 := dz_l2
  refine dz_Teq (fun h2 => ?_) (fun h2 => ?_)
  · skip
    refine dz_Teq (fun h3 => ?_) (fun h3 => ?_)
    · skip
      refine dz_Tb (t2_X12_wrong fu hfu _ _ _ _ i12 i13) (fun r1 q => ?_)
      obtain ⟨q1_0, q1_1⟩ := q
      refine dz_Tg (dz_nb (by omega)) ?_
      refine dz_Ts ?_
      dsimp only
      exact ⟨i0, i1, (by first | assumption | omega), i3, (by first | assumption | omega), i5, (by first | assumption | omega), q1_1, i8, i9, i10, i11, i12, i13, (by first | assumption | omega), i15, i16, i17, (by first | assumption | omega), (by first | assumption | omega), (by first | assumption | omega), i18, i20, i22, i23, (by first | assumption | omega), (by omega), (by omega)⟩
    · skip
      refine dz_Tb (t11_X12_teamOf fu hfu _ _ _ i16 i17) (fun r2 q => ?_)
      obtain ⟨q2_0, q2_1, q2_2⟩ := q
      have e4 := dz_l0
      refine dz_Tlt (fun h5 => ?_) (fun h5 => ?_)
      · skip
        refine dz_Tin (by omega) (by omega) ?_
        refine dz_Tb (t7_X12_take fu hfu _ _ _ _ _ _ _ p0 p1 i8 i9 i10 i11 i12 i13 i18 (hr_a39)) (fun r3 q => ?_)
        obtain ⟨q3_0, q3_1, q3_2, q3_3, q3_4, q3_5, q3_6, q3_7, q3_8, q3_9, q3_10, qo3_0, qo3_1⟩ := q
        have e6 := dz_l1
        have e7 := dz_add (a := v1) (b := (1 : Int32)) (by omega) (by omega)
        have e8 := dz_add (a := c2_teamsRead) (b := (1 : Int32)) (by omega) (by omega)
        exact (ih k0 (by omega)) (v1 + (1 : Int32)) c2_fault c2_faultPlace r3.1 r3.2.1 r3.2.2.1 r3.2.2.2 c2_potsRead (c2_teamsRead + (1 : Int32)) (upd a44 c2_teamsRead.toNatClampNeg c2_which) i0 i1 i2 i3 i4 i5 (by omega) (by omega) q3_2 q3_3 q3_4 q3_5 q3_6 q3_7 i14 i15 (by omega) (by omega) q3_8 i19 (by first | assumption | omega) (by first | assumption | omega) i22 (by omega) (by omega) (by omega) (by omega) (by omega) (by omega) (by omega) (by omega) (by omega) (by omega) (by omega)
      · skip
        have e9 := dz_l3
        refine dz_Tb (t2_X12_wrong fu hfu _ _ _ _ i12 i13) (fun r4 q => ?_)
        obtain ⟨q4_0, q4_1⟩ := q
        refine dz_Tg (dz_nb (by omega)) ?_
        refine dz_Ts ?_
        dsimp only
        exact ⟨i0, i1, (by first | assumption | omega), i3, (by first | assumption | omega), i5, (by first | assumption | omega), q4_1, i8, i9, i10, i11, i12, i13, (by first | assumption | omega), i15, i16, i17, (by first | assumption | omega), (by first | assumption | omega), (by first | assumption | omega), i18, i20, i22, i23, (by first | assumption | omega), (by omega), (by omega)⟩
  · skip
    have e10 := dz_l4
    refine dz_Teq (fun h11 => ?_) (fun h11 => ?_)
    · skip
      refine dz_Teq (fun h12 => ?_) (fun h12 => ?_)
      · skip
        obtain ⟨k1, rfl⟩ : ∃ x, k0 = x + 1 := ⟨k0 - 1, by omega⟩
        show dz_T (s13_X12_potRead_3 fu c2_stop c2_groupsRead a38 a39 c2_fault c2_faultPlace c2_next c2_kind c2_which c2_place (c2_potsRead + (1 : Int32)) c2_teamsRead a44) _
        unfold s13_X12_potRead_3
        have e13 := dz_l1
        have e14 := dz_add (a := c2_potsRead) (b := (1 : Int32)) (by omega) (by omega)
        refine dz_Ts ?_
        dsimp only
        exact ⟨i0, i1, (by first | assumption | omega), i3, (by first | assumption | omega), i5, (by omega), (by omega), i8, i9, i10, i11, i12, i13, (by omega), (by omega), i16, i17, (by omega), (by omega), (by omega), i18, i20, (by omega), i23, (by omega), (by omega), (by omega)⟩
      · skip
        have e15 := dz_l5
        refine dz_Tb (t2_X12_wrong fu hfu _ _ _ _ i12 i13) (fun r5 q => ?_)
        obtain ⟨q5_0, q5_1⟩ := q
        have e16 := dz_l0
        refine dz_Teq (fun h17 => ?_) (fun h17 => ?_)
        · skip
          have e18 := dz_l1
          have e19 := dz_add (a := c2_potsRead) (b := (1 : Int32)) (by omega) (by omega)
          refine dz_Ts ?_
          dsimp only
          exact ⟨i0, i1, (by first | assumption | omega), i3, (by first | assumption | omega), i5, (by omega), (by omega), i8, i9, i10, i11, i12, i13, (by omega), (by omega), i16, i17, (by omega), (by omega), (by omega), i18, i20, (by omega), i23, (by omega), (by omega), (by omega)⟩
        · skip
          exfalso; omega
    · skip
      have e20 := dz_l1
      refine dz_Tb (t2_X12_wrong fu hfu _ _ _ _ i12 i13) (fun r6 q => ?_)
      obtain ⟨q6_0, q6_1⟩ := q
      refine dz_Tg (dz_nb (by omega)) ?_
      refine dz_Ts ?_
      dsimp only
      exact ⟨i0, i1, (by first | assumption | omega), i3, (by first | assumption | omega), i5, (by first | assumption | omega), q6_1, i8, i9, i10, i11, i12, i13, (by first | assumption | omega), i15, i16, i17, (by first | assumption | omega), (by first | assumption | omega), (by first | assumption | omega), i18, i20, i22, i23, (by first | assumption | omega), (by omega), (by omega)⟩
theorem t13_X12_potRead_I (fu : Nat) (hfu : 1000000000000 ≤ fu) (c2_stop : Int32) (c2_groupsRead : Int32) (a38 : Nat → Int32) (a39 : Nat → Int32) (gh_c2_next : Int32) (gh_c2_potsRead : Int32) (gh_c2_teamsRead : Int32) (p0 : c2_stop.toInt ≤ 400) (p1 : 0 ≤ c2_stop.toInt) (p2 : c2_groupsRead.toInt ≤ 4) (p3 : 2 ≤ c2_groupsRead.toInt) (hr_a39 : dz_pt a39 dz_wd) (k : Nat) : p13_X12_potRead fu c2_stop c2_groupsRead a38 a39 gh_c2_next gh_c2_potsRead gh_c2_teamsRead k := by
  induction k using Nat.strongRecOn with
  | _ k ih => exact t13_X12_potRead_h2 fu hfu c2_stop c2_groupsRead a38 a39 gh_c2_next gh_c2_potsRead gh_c2_teamsRead p0 p1 p2 p3 hr_a39 k ih
set_option maxHeartbeats 4000000 in
set_option maxRecDepth 10000 in
theorem t13_X12_potRead_E (fu : Nat) (hfu : 1000000000000 ≤ fu) (c2_stop : Int32) (c2_groupsRead : Int32) (a38 : Nat → Int32) (a39 : Nat → Int32) (c2_fault : Int32) (c2_faultPlace : Int32) (c2_next : Int32) (c2_kind : Int32) (c2_which : Int32) (c2_place : Int32) (c2_potsRead : Int32) (c2_teamsRead : Int32) (a44 : Nat → Int32) (p0 : c2_stop.toInt ≤ 400) (p1 : 0 ≤ c2_stop.toInt) (p2 : c2_groupsRead.toInt ≤ 4) (p3 : 2 ≤ c2_groupsRead.toInt) (p4 : c2_next.toInt ≤ 400) (p5 : 0 ≤ c2_next.toInt) (p6 : c2_kind.toInt ≤ 5) (p7 : 0 ≤ c2_kind.toInt) (p8 : c2_place.toInt ≤ 400) (p9 : 0 ≤ c2_place.toInt) (p10 : c2_potsRead.toInt ≤ 4) (p11 : 0 ≤ c2_potsRead.toInt) (p12 : c2_teamsRead.toInt ≤ 12) (p13 : 0 ≤ c2_teamsRead.toInt) (p14 : c2_next.toInt ≤ c2_stop.toInt) (hr_a39 : dz_pt a39 dz_wd) (kv : Nat) (hkv : 1000000000000 ≤ kv) : dz_T (s13_X12_potRead_0 fu c2_stop c2_groupsRead a38 a39 (F13_X12_potRead fu c2_stop c2_groupsRead a38 a39 kv).1 (F13_X12_potRead fu c2_stop c2_groupsRead a38 a39 kv).2.1  c2_fault c2_faultPlace c2_next c2_kind c2_which c2_place c2_potsRead c2_teamsRead a44) (fun r => c2_next.toInt ≤ 400 ∧ 0 ≤ c2_next.toInt ∧ c2_potsRead.toInt ≤ 4 ∧ 0 ≤ c2_potsRead.toInt ∧ c2_teamsRead.toInt ≤ 12 ∧ 0 ≤ c2_teamsRead.toInt ∧ r.1.toInt ≤ 1 ∧ 0 ≤ r.1.toInt ∧ r.2.2.2.1.toInt ≤ 400 ∧ 0 ≤ r.2.2.2.1.toInt ∧ r.2.2.2.2.1.toInt ≤ 5 ∧ 0 ≤ r.2.2.2.2.1.toInt ∧ r.2.2.2.2.2.2.1.toInt ≤ 400 ∧ 0 ≤ r.2.2.2.2.2.2.1.toInt ∧ r.2.2.2.2.2.2.2.1.toInt ≤ 4 ∧ 0 ≤ r.2.2.2.2.2.2.2.1.toInt ∧ r.2.2.2.2.2.2.2.2.1.toInt ≤ 12 ∧ 0 ≤ r.2.2.2.2.2.2.2.2.1.toInt ∧ r.1.toInt ≤ r.2.2.2.2.1.toInt ∧ r.1.toInt ≤ r.2.2.2.2.2.2.2.1.toInt ∧ r.1.toInt ≤ r.2.2.2.2.2.2.2.2.1.toInt ∧ r.2.2.2.1.toInt ≤ c2_stop.toInt ∧ c2_next.toInt ≤ r.2.2.2.1.toInt ∧ c2_potsRead.toInt ≤ r.2.2.2.2.2.2.2.1.toInt ∧ c2_teamsRead.toInt ≤ r.2.2.2.2.2.2.2.2.1.toInt ∧ r.2.2.2.2.2.2.2.1.toInt ≤ c2_potsRead.toInt + 1 ∧ (r.1.toInt = 0 ∨ r.2.2.2.2.1.toInt = 0 ∨ c2_next.toInt + 1 ≤ r.2.2.2.1.toInt) ∧ (r.1.toInt = 0 ∨ (r.2.2.2.2.2.2.2.2.1.toInt = c2_teamsRead.toInt + c2_groupsRead.toInt ∧ r.2.2.2.2.2.2.2.1.toInt = c2_potsRead.toInt + 1))) := by
  unfold s13_X12_potRead_0
  have e1 := dz_l4
  refine dz_Teq (fun h2 => ?_) (fun h2 => ?_)
  · skip
    obtain ⟨k1, rfl⟩ : ∃ x, kv = x + 1 := ⟨kv - 1, by omega⟩
    show dz_T (s13_X12_potRead_1 fu c2_stop c2_groupsRead a38 a39 c2_fault c2_faultPlace c2_next c2_kind c2_which c2_place c2_potsRead c2_teamsRead a44) _
    unfold s13_X12_potRead_1
    have e3 := dz_l2
    refine dz_Tb (t2_X12_wrong fu hfu _ _ _ _ p8 p9) (fun r1 q => ?_)
    obtain ⟨q1_0, q1_1⟩ := q
    refine dz_Tg (dz_nb (by omega)) ?_
    refine dz_Ts ?_
    dsimp only
    exact ⟨(by first | assumption | omega), (by first | assumption | omega), (by first | assumption | omega), (by first | assumption | omega), (by first | assumption | omega), (by first | assumption | omega), (by first | assumption | omega), q1_1, p4, p5, p6, p7, p8, p9, p10, p11, p12, p13, (by first | assumption | omega), (by first | assumption | omega), (by first | assumption | omega), p14, (by first | assumption | omega), (by first | assumption | omega), (by first | assumption | omega), (by first | assumption | omega), (by omega), (by omega)⟩
  · skip
    have e4 := dz_add (a := c2_teamsRead) (b := c2_groupsRead) (by omega) (by omega)
    have e5 := dz_l12
    refine dz_Tle (fun h6 => ?_) (fun h6 => ?_)
    · skip
      refine dz_Tb (t7_X12_take fu hfu _ _ _ _ _ _ _ p0 p1 p4 p5 p6 p7 p8 p9 p14 (hr_a39)) (fun r2 q => ?_)
      obtain ⟨q2_0, q2_1, q2_2, q2_3, q2_4, q2_5, q2_6, q2_7, q2_8, q2_9, q2_10, qo2_0, qo2_1⟩ := q
      have e7 := dz_l2
      refine dz_Teq (fun h8 => ?_) (fun h8 => ?_)
      · skip
        have e9 := dz_l0
        exact (t13_X12_potRead_I fu hfu c2_stop c2_groupsRead a38 a39 c2_next c2_potsRead c2_teamsRead p0 p1 p2 p3 hr_a39 kv) (0 : Int32) c2_fault c2_faultPlace r2.1 r2.2.1 r2.2.2.1 r2.2.2.2 c2_potsRead c2_teamsRead a44 (by first | assumption | omega) (by first | assumption | omega) (by first | assumption | omega) (by first | assumption | omega) (by first | assumption | omega) (by first | assumption | omega) (by omega) (by omega) q2_2 q2_3 q2_4 q2_5 q2_6 q2_7 (by first | assumption | omega) p11 p12 p13 q2_8 (by first | assumption | omega) (by first | assumption | omega) (by first | assumption | omega) (by first | assumption | omega) (by first | assumption | omega) (by omega) (by omega) (by first | assumption | omega) (by omega) (by omega) (by omega) (by omega) (by omega) (by omega) (by omega)
      · skip
        have e10 := dz_l1
        refine dz_Tb (t2_X12_wrong fu hfu _ _ _ _ q2_6 q2_7) (fun r3 q => ?_)
        obtain ⟨q3_0, q3_1⟩ := q
        refine dz_Tg (dz_nb (by omega)) ?_
        refine dz_Ts ?_
        dsimp only
        exact ⟨(by first | assumption | omega), (by first | assumption | omega), (by first | assumption | omega), (by first | assumption | omega), (by first | assumption | omega), (by first | assumption | omega), (by first | assumption | omega), q3_1, q2_2, q2_3, q2_4, q2_5, q2_6, q2_7, p10, p11, p12, p13, (by first | assumption | omega), (by first | assumption | omega), (by first | assumption | omega), q2_8, (by first | assumption | omega), (by first | assumption | omega), (by first | assumption | omega), (by first | assumption | omega), (by omega), (by omega)⟩
    · skip
      obtain ⟨k2, rfl⟩ : ∃ x, kv = x + 1 := ⟨kv - 1, by omega⟩
      show dz_T (s13_X12_potRead_1 fu c2_stop c2_groupsRead a38 a39 c2_fault c2_faultPlace c2_next c2_kind c2_which c2_place c2_potsRead c2_teamsRead a44) _
      unfold s13_X12_potRead_1
      have e11 := dz_l2
      refine dz_Tb (t2_X12_wrong fu hfu _ _ _ _ p8 p9) (fun r4 q => ?_)
      obtain ⟨q4_0, q4_1⟩ := q
      refine dz_Tg (dz_nb (by omega)) ?_
      refine dz_Ts ?_
      dsimp only
      exact ⟨(by first | assumption | omega), (by first | assumption | omega), (by first | assumption | omega), (by first | assumption | omega), (by first | assumption | omega), (by first | assumption | omega), (by first | assumption | omega), q4_1, p4, p5, p6, p7, p8, p9, p10, p11, p12, p13, (by first | assumption | omega), (by first | assumption | omega), (by first | assumption | omega), p14, (by first | assumption | omega), (by first | assumption | omega), (by first | assumption | omega), (by first | assumption | omega), (by omega), (by omega)⟩
theorem t13_X12_potRead (fu : Nat) (hfu : 1000000000000 ≤ fu) (c2_stop : Int32) (c2_groupsRead : Int32) (a38 : Nat → Int32) (a39 : Nat → Int32) (c2_fault : Int32) (c2_faultPlace : Int32) (c2_next : Int32) (c2_kind : Int32) (c2_which : Int32) (c2_place : Int32) (c2_potsRead : Int32) (c2_teamsRead : Int32) (a44 : Nat → Int32) (p0 : c2_stop.toInt ≤ 400) (p1 : 0 ≤ c2_stop.toInt) (p2 : c2_groupsRead.toInt ≤ 4) (p3 : 2 ≤ c2_groupsRead.toInt) (p4 : c2_next.toInt ≤ 400) (p5 : 0 ≤ c2_next.toInt) (p6 : c2_kind.toInt ≤ 5) (p7 : 0 ≤ c2_kind.toInt) (p8 : c2_place.toInt ≤ 400) (p9 : 0 ≤ c2_place.toInt) (p10 : c2_potsRead.toInt ≤ 4) (p11 : 0 ≤ c2_potsRead.toInt) (p12 : c2_teamsRead.toInt ≤ 12) (p13 : 0 ≤ c2_teamsRead.toInt) (p14 : c2_next.toInt ≤ c2_stop.toInt) (hr_a39 : dz_pt a39 dz_wd) : dz_T (f13_X12_potRead fu c2_stop c2_groupsRead a38 a39 c2_fault c2_faultPlace c2_next c2_kind c2_which c2_place c2_potsRead c2_teamsRead a44) (fun r => c2_next.toInt ≤ 400 ∧ 0 ≤ c2_next.toInt ∧ c2_potsRead.toInt ≤ 4 ∧ 0 ≤ c2_potsRead.toInt ∧ c2_teamsRead.toInt ≤ 12 ∧ 0 ≤ c2_teamsRead.toInt ∧ r.1.toInt ≤ 1 ∧ 0 ≤ r.1.toInt ∧ r.2.2.2.1.toInt ≤ 400 ∧ 0 ≤ r.2.2.2.1.toInt ∧ r.2.2.2.2.1.toInt ≤ 5 ∧ 0 ≤ r.2.2.2.2.1.toInt ∧ r.2.2.2.2.2.2.1.toInt ≤ 400 ∧ 0 ≤ r.2.2.2.2.2.2.1.toInt ∧ r.2.2.2.2.2.2.2.1.toInt ≤ 4 ∧ 0 ≤ r.2.2.2.2.2.2.2.1.toInt ∧ r.2.2.2.2.2.2.2.2.1.toInt ≤ 12 ∧ 0 ≤ r.2.2.2.2.2.2.2.2.1.toInt ∧ r.1.toInt ≤ r.2.2.2.2.1.toInt ∧ r.1.toInt ≤ r.2.2.2.2.2.2.2.1.toInt ∧ r.1.toInt ≤ r.2.2.2.2.2.2.2.2.1.toInt ∧ r.2.2.2.1.toInt ≤ c2_stop.toInt ∧ c2_next.toInt ≤ r.2.2.2.1.toInt ∧ c2_potsRead.toInt ≤ r.2.2.2.2.2.2.2.1.toInt ∧ c2_teamsRead.toInt ≤ r.2.2.2.2.2.2.2.2.1.toInt ∧ r.2.2.2.2.2.2.2.1.toInt ≤ c2_potsRead.toInt + 1 ∧ (r.1.toInt = 0 ∨ r.2.2.2.2.1.toInt = 0 ∨ c2_next.toInt + 1 ≤ r.2.2.2.1.toInt) ∧ (r.1.toInt = 0 ∨ (r.2.2.2.2.2.2.2.2.1.toInt = c2_teamsRead.toInt + c2_groupsRead.toInt ∧ r.2.2.2.2.2.2.2.1.toInt = c2_potsRead.toInt + 1))) :=
  t13_X12_potRead_E fu hfu c2_stop c2_groupsRead a38 a39 c2_fault c2_faultPlace c2_next c2_kind c2_which c2_place c2_potsRead c2_teamsRead a44 p0 p1 p2 p3 p4 p5 p6 p7 p8 p9 p10 p11 p12 p13 p14 hr_a39 fu hfu
abbrev p12_X12_markOf (fu : Nat) (c2_marksRead : Int32) (a45 : Nat → Int32) (k : Nat) : Prop :=
  (∀ (v1 : Int32) (v2 : Int32), v2.toInt ≤ 6 → 0 ≤ v2.toInt → v2.toInt ≤ c2_marksRead.toInt → 0 + 0 + (6 - v2.toInt) * 10 + 5 ≤ ((k : Nat) : Int) → dz_T ((F12_X12_markOf fu c2_marksRead a45 k) v1 v2) (fun r => r.toInt ≤ 5 ∧ (-1) ≤ r.toInt ∧ r.toInt + 1 ≤ c2_marksRead.toInt))
set_option maxHeartbeats 4000000 in
set_option maxRecDepth 10000 in
theorem t12_X12_markOf_h1 (fu : Nat) (hfu : 1000000000000 ≤ fu) (c2_marksRead : Int32) (a45 : Nat → Int32) (p0 : c2_marksRead.toInt ≤ 6) (p1 : 0 ≤ c2_marksRead.toInt) (k : Nat) (ih : ∀ j9, j9 < k → p12_X12_markOf fu c2_marksRead a45 j9) : ∀ (v1 : Int32) (v2 : Int32), v2.toInt ≤ 6 → 0 ≤ v2.toInt → v2.toInt ≤ c2_marksRead.toInt → 0 + 0 + (6 - v2.toInt) * 10 + 5 ≤ ((k : Nat) : Int) → dz_T ((F12_X12_markOf fu c2_marksRead a45 k) v1 v2) (fun r => r.toInt ≤ 5 ∧ (-1) ≤ r.toInt ∧ r.toInt + 1 ≤ c2_marksRead.toInt) := by
  intro v1 v2 i0 i1 i2 hm
  obtain ⟨k0, rfl⟩ : ∃ x, k = x + 1 := ⟨k - 1, by omega⟩
  show dz_T (s12_X12_markOf_1 fu c2_marksRead a45 (F12_X12_markOf fu c2_marksRead a45 k0)  v1 v2) _
  unfold s12_X12_markOf_1
  refine dz_Tle (fun h1 => ?_) (fun h1 => ?_)
  · skip
    have e2 := dz_lm1
    exact dz_Ts ⟨(by omega), (by omega), (by omega)⟩
  · skip
    refine dz_Tin (by omega) (by omega) ?_
    refine dz_Teq (fun h3 => ?_) (fun h3 => ?_)
    · skip
      exact dz_Ts ⟨(by first | assumption | omega), (by first | assumption | omega), (by first | assumption | omega)⟩
    · skip
      have e4 := dz_l1
      have e5 := dz_add (a := v2) (b := (1 : Int32)) (by omega) (by omega)
      exact (ih k0 (by omega)) v1 (v2 + (1 : Int32)) (by omega) (by omega) (by omega) (by omega)
theorem t12_X12_markOf_I (fu : Nat) (hfu : 1000000000000 ≤ fu) (c2_marksRead : Int32) (a45 : Nat → Int32) (p0 : c2_marksRead.toInt ≤ 6) (p1 : 0 ≤ c2_marksRead.toInt) (k : Nat) : p12_X12_markOf fu c2_marksRead a45 k := by
  induction k using Nat.strongRecOn with
  | _ k ih => exact t12_X12_markOf_h1 fu hfu c2_marksRead a45 p0 p1 k ih
set_option maxHeartbeats 4000000 in
set_option maxRecDepth 10000 in
theorem t12_X12_markOf_E (fu : Nat) (hfu : 1000000000000 ≤ fu) (c2_marksRead : Int32) (a45 : Nat → Int32) (v1 : Int32) (p0 : c2_marksRead.toInt ≤ 6) (p1 : 0 ≤ c2_marksRead.toInt) (kv : Nat) (hkv : 1000000000000 ≤ kv) : dz_T (s12_X12_markOf_0 fu c2_marksRead a45 (F12_X12_markOf fu c2_marksRead a45 kv)  v1) (fun r => r.toInt ≤ 5 ∧ (-1) ≤ r.toInt ∧ r.toInt + 1 ≤ c2_marksRead.toInt) := by
  unfold s12_X12_markOf_0
  have e1 := dz_l0
  exact (t12_X12_markOf_I fu hfu c2_marksRead a45 p0 p1 kv) v1 (0 : Int32) (by omega) (by omega) (by omega) (by omega)
theorem t12_X12_markOf (fu : Nat) (hfu : 1000000000000 ≤ fu) (c2_marksRead : Int32) (a45 : Nat → Int32) (v1 : Int32) (p0 : c2_marksRead.toInt ≤ 6) (p1 : 0 ≤ c2_marksRead.toInt) : dz_T (f12_X12_markOf fu c2_marksRead a45 v1) (fun r => r.toInt ≤ 5 ∧ (-1) ≤ r.toInt ∧ r.toInt + 1 ≤ c2_marksRead.toInt) :=
  t12_X12_markOf_E fu hfu c2_marksRead a45 v1 p0 p1 fu hfu
abbrev p14_X12_markLine (fu : Nat) (c2_stop : Int32) (c2_teamsRead : Int32) (a38 : Nat → Int32) (a39 : Nat → Int32) (a44 : Nat → Int32) (gh_c2_next : Int32) (k : Nat) : Prop :=
  (∀ (v1 : Int32) (v2 : Int32) (c2_fault : Int32) (c2_faultPlace : Int32) (c2_next : Int32) (c2_kind : Int32) (c2_which : Int32) (c2_place : Int32) (c2_marksRead : Int32) (a45 : Nat → Int32) (a46 : Nat → Int32), gh_c2_next.toInt ≤ 400 → 0 ≤ gh_c2_next.toInt → v2.toInt ≤ 4095 → 0 ≤ v2.toInt → c2_next.toInt ≤ 400 → 0 ≤ c2_next.toInt → c2_kind.toInt ≤ 5 → 0 ≤ c2_kind.toInt → c2_place.toInt ≤ 400 → 0 ≤ c2_place.toInt → c2_marksRead.toInt ≤ 5 → 0 ≤ c2_marksRead.toInt → c2_next.toInt ≤ c2_stop.toInt → gh_c2_next.toInt ≤ c2_next.toInt → gh_c2_next.toInt ≤ c2_place.toInt → c2_kind.toInt ≤ c2_teamsRead.toInt + 4 → c2_kind.toInt = 0 ∨ gh_c2_next.toInt + 1 ≤ c2_next.toInt → 0 + 0 + (6 * (400 - c2_next.toInt) + c2_kind.toInt) * 10 + 5 ≤ ((k : Nat) : Int) → dz_T ((F14_X12_markLine fu c2_stop c2_teamsRead a38 a39 a44 k) v1 v2 c2_fault c2_faultPlace c2_next c2_kind c2_which c2_place c2_marksRead a45 a46) (fun r => gh_c2_next.toInt ≤ 400 ∧ 0 ≤ gh_c2_next.toInt ∧ r.1.toInt ≤ 1 ∧ 0 ≤ r.1.toInt ∧ r.2.2.2.1.toInt ≤ 400 ∧ 0 ≤ r.2.2.2.1.toInt ∧ r.2.2.2.2.1.toInt ≤ 5 ∧ 0 ≤ r.2.2.2.2.1.toInt ∧ r.2.2.2.2.2.2.1.toInt ≤ 400 ∧ 0 ≤ r.2.2.2.2.2.2.1.toInt ∧ r.2.2.2.2.2.2.2.1.toInt ≤ 6 ∧ 0 ≤ r.2.2.2.2.2.2.2.1.toInt ∧ r.1.toInt ≤ r.2.2.2.2.2.2.2.1.toInt ∧ r.2.2.2.1.toInt ≤ c2_stop.toInt ∧ gh_c2_next.toInt ≤ r.2.2.2.1.toInt ∧ (r.1.toInt = 0 ∨ r.2.2.2.2.1.toInt = 0 ∨ gh_c2_next.toInt + 1 ≤ r.2.2.2.1.toInt)))
set_option maxHeartbeats 4000000 in
set_option maxRecDepth 10000 in
theorem t14_X12_markLine_h1 (fu : Nat) (hfu : 1000000000000 ≤ fu) (c2_stop : Int32) (c2_teamsRead : Int32) (a38 : Nat → Int32) (a39 : Nat → Int32) (a44 : Nat → Int32) (gh_c2_next : Int32) (p0 : c2_stop.toInt ≤ 400) (p1 : 0 ≤ c2_stop.toInt) (p2 : c2_teamsRead.toInt ≤ 12) (p3 : 0 ≤ c2_teamsRead.toInt) (hr_a39 : dz_pt a39 dz_wd) (k : Nat) (ih : ∀ j9, j9 < k → p14_X12_markLine fu c2_stop c2_teamsRead a38 a39 a44 gh_c2_next j9) : ∀ (v1 : Int32) (v2 : Int32) (c2_fault : Int32) (c2_faultPlace : Int32) (c2_next : Int32) (c2_kind : Int32) (c2_which : Int32) (c2_place : Int32) (c2_marksRead : Int32) (a45 : Nat → Int32) (a46 : Nat → Int32), gh_c2_next.toInt ≤ 400 → 0 ≤ gh_c2_next.toInt → v2.toInt ≤ 4095 → 0 ≤ v2.toInt → c2_next.toInt ≤ 400 → 0 ≤ c2_next.toInt → c2_kind.toInt ≤ 5 → 0 ≤ c2_kind.toInt → c2_place.toInt ≤ 400 → 0 ≤ c2_place.toInt → c2_marksRead.toInt ≤ 5 → 0 ≤ c2_marksRead.toInt → c2_next.toInt ≤ c2_stop.toInt → gh_c2_next.toInt ≤ c2_next.toInt → gh_c2_next.toInt ≤ c2_place.toInt → c2_kind.toInt ≤ c2_teamsRead.toInt + 4 → c2_kind.toInt = 0 ∨ gh_c2_next.toInt + 1 ≤ c2_next.toInt → 0 + 0 + (6 * (400 - c2_next.toInt) + c2_kind.toInt) * 10 + 5 ≤ ((k : Nat) : Int) → dz_T ((F14_X12_markLine fu c2_stop c2_teamsRead a38 a39 a44 k) v1 v2 c2_fault c2_faultPlace c2_next c2_kind c2_which c2_place c2_marksRead a45 a46) (fun r => gh_c2_next.toInt ≤ 400 ∧ 0 ≤ gh_c2_next.toInt ∧ r.1.toInt ≤ 1 ∧ 0 ≤ r.1.toInt ∧ r.2.2.2.1.toInt ≤ 400 ∧ 0 ≤ r.2.2.2.1.toInt ∧ r.2.2.2.2.1.toInt ≤ 5 ∧ 0 ≤ r.2.2.2.2.1.toInt ∧ r.2.2.2.2.2.2.1.toInt ≤ 400 ∧ 0 ≤ r.2.2.2.2.2.2.1.toInt ∧ r.2.2.2.2.2.2.2.1.toInt ≤ 6 ∧ 0 ≤ r.2.2.2.2.2.2.2.1.toInt ∧ r.1.toInt ≤ r.2.2.2.2.2.2.2.1.toInt ∧ r.2.2.2.1.toInt ≤ c2_stop.toInt ∧ gh_c2_next.toInt ≤ r.2.2.2.1.toInt ∧ (r.1.toInt = 0 ∨ r.2.2.2.2.1.toInt = 0 ∨ gh_c2_next.toInt + 1 ≤ r.2.2.2.1.toInt)) := by
  intro v1 v2 c2_fault c2_faultPlace c2_next c2_kind c2_which c2_place c2_marksRead a45 a46 i0 i1 i2 i3 i4 i5 i6 i7 i8 i9 i10 i11 i12 i13 i14 i15 x0 hm
  obtain ⟨k0, rfl⟩ : ∃ x, k = x + 1 := ⟨k - 1, by omega⟩
  show dz_T (s14_X12_markLine_1 fu c2_stop c2_teamsRead a38 a39 a44 (F14_X12_markLine fu c2_stop c2_teamsRead a38 a39 a44 k0)  v1 v2 c2_fault c2_faultPlace c2_next c2_kind c2_which c2_place c2_marksRead a45 a46) _
  unfold s14_X12_markLine_1
  have e1 := dz_l2
  refine dz_Teq (fun h2 => ?_) (fun h2 => ?_)
  · skip
    refine dz_Tb (t11_X12_teamOf fu hfu _ _ _ p2 p3) (fun r1 q => ?_)
    obtain ⟨q1_0, q1_1, q1_2⟩ := q
    have e3 := dz_l0
    refine dz_Tle (fun h4 => ?_) (fun h4 => ?_)
    · skip
      have e5 := dz_l31
      have e6 := dz_andr (a := r1) (b := (31 : Int32)) (by omega)
      have e7 := dz_andl (a := r1) (b := (31 : Int32)) (by omega)
      have e8 := dz_shr (a := v2) (b := (r1 &&& (31 : Int32))) (by omega)
      have e9 := dz_l1
      have e10 := dz_andr (a := (v2 >>> (r1 &&& (31 : Int32)))) (b := (1 : Int32)) (by omega)
      have e11 := dz_andl (a := (v2 >>> (r1 &&& (31 : Int32)))) (b := (1 : Int32)) (by omega)
      refine dz_Teq (fun h12 => ?_) (fun h12 => ?_)
      · skip
        have e13 := dz_l3
        refine dz_Tb (t2_X12_wrong fu hfu _ _ _ _ i8 i9) (fun r2 q => ?_)
        obtain ⟨q2_0, q2_1⟩ := q
        refine dz_Tg (dz_nb (by omega)) ?_
        refine dz_Ts ?_
        dsimp only
        exact ⟨i0, i1, (by first | assumption | omega), q2_1, i4, i5, i6, i7, i8, i9, (by first | assumption | omega), i11, (by first | assumption | omega), i12, i13, (by omega)⟩
      · skip
        refine dz_Tb (t7_X12_take fu hfu _ _ _ _ _ _ _ p0 p1 i4 i5 i6 i7 i8 i9 i12 (hr_a39)) (fun r3 q => ?_)
        obtain ⟨q3_0, q3_1, q3_2, q3_3, q3_4, q3_5, q3_6, q3_7, q3_8, q3_9, q3_10, qo3_0, qo3_1⟩ := q
        have e14 := dz_shl1 (b := r1) 0 11 (by omega) (by omega) (by omega)
        have e15 := dz_orb (a := v2) (b := ((1 : Int32) <<< (r1 &&& (31 : Int32)))) 12 (by omega) (by omega) (by omega) (by omega) (by omega)
        exact (ih k0 (by omega)) v1 (v2 ||| ((1 : Int32) <<< (r1 &&& (31 : Int32)))) c2_fault c2_faultPlace r3.1 r3.2.1 r3.2.2.1 r3.2.2.2 c2_marksRead a45 a46 i0 i1 (by omega) (by omega) q3_2 q3_3 q3_4 q3_5 q3_6 q3_7 i10 i11 q3_8 (by first | assumption | omega) (by first | assumption | omega) (by first | assumption | omega) (by omega) (by omega)
    · skip
      have e16 := dz_l4
      refine dz_Tb (t2_X12_wrong fu hfu _ _ _ _ i8 i9) (fun r4 q => ?_)
      obtain ⟨q4_0, q4_1⟩ := q
      refine dz_Tg (dz_nb (by omega)) ?_
      refine dz_Ts ?_
      dsimp only
      exact ⟨i0, i1, (by first | assumption | omega), q4_1, i4, i5, i6, i7, i8, i9, (by first | assumption | omega), i11, (by first | assumption | omega), i12, i13, (by omega)⟩
  · skip
    refine dz_Tin (by omega) (by omega) ?_
    refine dz_Tin (by omega) (by omega) ?_
    have e17 := dz_l1
    have e18 := dz_add (a := c2_marksRead) (b := (1 : Int32)) (by omega) (by omega)
    refine dz_Ts ?_
    dsimp only
    exact ⟨i0, i1, (by omega), (by omega), i4, i5, i6, i7, i8, i9, (by omega), (by omega), (by omega), i12, i13, (by omega)⟩
theorem t14_X12_markLine_I (fu : Nat) (hfu : 1000000000000 ≤ fu) (c2_stop : Int32) (c2_teamsRead : Int32) (a38 : Nat → Int32) (a39 : Nat → Int32) (a44 : Nat → Int32) (gh_c2_next : Int32) (p0 : c2_stop.toInt ≤ 400) (p1 : 0 ≤ c2_stop.toInt) (p2 : c2_teamsRead.toInt ≤ 12) (p3 : 0 ≤ c2_teamsRead.toInt) (hr_a39 : dz_pt a39 dz_wd) (k : Nat) : p14_X12_markLine fu c2_stop c2_teamsRead a38 a39 a44 gh_c2_next k := by
  induction k using Nat.strongRecOn with
  | _ k ih => exact t14_X12_markLine_h1 fu hfu c2_stop c2_teamsRead a38 a39 a44 gh_c2_next p0 p1 p2 p3 hr_a39 k ih
set_option maxHeartbeats 4000000 in
set_option maxRecDepth 10000 in
theorem t14_X12_markLine_E (fu : Nat) (hfu : 1000000000000 ≤ fu) (c2_stop : Int32) (c2_teamsRead : Int32) (a38 : Nat → Int32) (a39 : Nat → Int32) (a44 : Nat → Int32) (c2_fault : Int32) (c2_faultPlace : Int32) (c2_next : Int32) (c2_kind : Int32) (c2_which : Int32) (c2_place : Int32) (c2_marksRead : Int32) (a45 : Nat → Int32) (a46 : Nat → Int32) (p0 : c2_stop.toInt ≤ 400) (p1 : 0 ≤ c2_stop.toInt) (p2 : c2_teamsRead.toInt ≤ 12) (p3 : 0 ≤ c2_teamsRead.toInt) (p4 : c2_next.toInt ≤ 400) (p5 : 0 ≤ c2_next.toInt) (p6 : c2_kind.toInt ≤ 5) (p7 : 0 ≤ c2_kind.toInt) (p8 : c2_place.toInt ≤ 400) (p9 : 0 ≤ c2_place.toInt) (p10 : c2_marksRead.toInt ≤ 6) (p11 : 0 ≤ c2_marksRead.toInt) (p12 : c2_next.toInt ≤ c2_stop.toInt) (hr_a39 : dz_pt a39 dz_wd) (kv : Nat) (hkv : 1000000000000 ≤ kv) : dz_T (s14_X12_markLine_0 fu c2_stop c2_teamsRead a38 a39 a44 (F14_X12_markLine fu c2_stop c2_teamsRead a38 a39 a44 kv)  c2_fault c2_faultPlace c2_next c2_kind c2_which c2_place c2_marksRead a45 a46) (fun r => c2_next.toInt ≤ 400 ∧ 0 ≤ c2_next.toInt ∧ r.1.toInt ≤ 1 ∧ 0 ≤ r.1.toInt ∧ r.2.2.2.1.toInt ≤ 400 ∧ 0 ≤ r.2.2.2.1.toInt ∧ r.2.2.2.2.1.toInt ≤ 5 ∧ 0 ≤ r.2.2.2.2.1.toInt ∧ r.2.2.2.2.2.2.1.toInt ≤ 400 ∧ 0 ≤ r.2.2.2.2.2.2.1.toInt ∧ r.2.2.2.2.2.2.2.1.toInt ≤ 6 ∧ 0 ≤ r.2.2.2.2.2.2.2.1.toInt ∧ r.1.toInt ≤ r.2.2.2.2.2.2.2.1.toInt ∧ r.2.2.2.1.toInt ≤ c2_stop.toInt ∧ c2_next.toInt ≤ r.2.2.2.1.toInt ∧ (r.1.toInt = 0 ∨ r.2.2.2.2.1.toInt = 0 ∨ c2_next.toInt + 1 ≤ r.2.2.2.1.toInt)) := by
  unfold s14_X12_markLine_0
  have e1 := dz_l6
  refine dz_Teq (fun h2 => ?_) (fun h2 => ?_)
  · skip
    have e3 := dz_l2
    refine dz_Tb (t2_X12_wrong fu hfu _ _ _ _ p8 p9) (fun r1 q => ?_)
    obtain ⟨q1_0, q1_1⟩ := q
    refine dz_Tg (dz_nb (by omega)) ?_
    refine dz_Ts ?_
    dsimp only
    exact ⟨(by first | assumption | omega), (by first | assumption | omega), (by first | assumption | omega), q1_1, p4, p5, p6, p7, p8, p9, p10, p11, (by first | assumption | omega), p12, (by first | assumption | omega), (by omega)⟩
  · skip
    refine dz_Tb (t7_X12_take fu hfu _ _ _ _ _ _ _ p0 p1 p4 p5 p6 p7 p8 p9 p12 (hr_a39)) (fun r2 q => ?_)
    obtain ⟨q2_0, q2_1, q2_2, q2_3, q2_4, q2_5, q2_6, q2_7, q2_8, q2_9, q2_10, qo2_0, qo2_1⟩ := q
    have e4 := dz_l2
    refine dz_Teq (fun h5 => ?_) (fun h5 => ?_)
    · skip
      refine dz_Tb (t12_X12_markOf fu hfu _ _ _ p10 p11) (fun r3 q => ?_)
      obtain ⟨q3_0, q3_1, q3_2⟩ := q
      have e6 := dz_l0
      refine dz_Tlt (fun h7 => ?_) (fun h7 => ?_)
      · skip
        refine dz_Tb (t7_X12_take fu hfu _ _ _ _ _ _ _ p0 p1 q2_2 q2_3 q2_4 q2_5 q2_6 q2_7 q2_8 (hr_a39)) (fun r4 q => ?_)
        obtain ⟨q4_0, q4_1, q4_2, q4_3, q4_4, q4_5, q4_6, q4_7, q4_8, q4_9, q4_10, qo4_0, qo4_1⟩ := q
        refine dz_Teq (fun h8 => ?_) (fun h8 => ?_)
        · skip
          exact (t14_X12_markLine_I fu hfu c2_stop c2_teamsRead a38 a39 a44 c2_next p0 p1 p2 p3 hr_a39 kv) r2.2.2.1 (0 : Int32) c2_fault c2_faultPlace r4.1 r4.2.1 r4.2.2.1 r4.2.2.2 c2_marksRead a45 a46 (by first | assumption | omega) (by first | assumption | omega) (by omega) (by omega) q4_2 q4_3 q4_4 q4_5 q4_6 q4_7 (by first | assumption | omega) p11 q4_8 (by first | assumption | omega) (by first | assumption | omega) (by first | assumption | omega) (by omega) (by omega)
        · skip
          have e9 := dz_l1
          refine dz_Tb (t2_X12_wrong fu hfu _ _ _ _ q4_6 q4_7) (fun r5 q => ?_)
          obtain ⟨q5_0, q5_1⟩ := q
          refine dz_Tg (dz_nb (by omega)) ?_
          refine dz_Ts ?_
          dsimp only
          exact ⟨(by first | assumption | omega), (by first | assumption | omega), (by first | assumption | omega), q5_1, q4_2, q4_3, q4_4, q4_5, q4_6, q4_7, p10, p11, (by first | assumption | omega), q4_8, (by first | assumption | omega), (by omega)⟩
      · skip
        have e10 := dz_l3
        refine dz_Tb (t2_X12_wrong fu hfu _ _ _ _ q2_6 q2_7) (fun r6 q => ?_)
        obtain ⟨q6_0, q6_1⟩ := q
        refine dz_Tg (dz_nb (by omega)) ?_
        refine dz_Ts ?_
        dsimp only
        exact ⟨(by first | assumption | omega), (by first | assumption | omega), (by first | assumption | omega), q6_1, q2_2, q2_3, q2_4, q2_5, q2_6, q2_7, p10, p11, (by first | assumption | omega), q2_8, (by first | assumption | omega), (by omega)⟩
    · skip
      have e11 := dz_l1
      refine dz_Tb (t2_X12_wrong fu hfu _ _ _ _ q2_6 q2_7) (fun r7 q => ?_)
      obtain ⟨q7_0, q7_1⟩ := q
      refine dz_Tg (dz_nb (by omega)) ?_
      refine dz_Ts ?_
      dsimp only
      exact ⟨(by first | assumption | omega), (by first | assumption | omega), (by first | assumption | omega), q7_1, q2_2, q2_3, q2_4, q2_5, q2_6, q2_7, p10, p11, (by first | assumption | omega), q2_8, (by first | assumption | omega), (by omega)⟩
theorem t14_X12_markLine (fu : Nat) (hfu : 1000000000000 ≤ fu) (c2_stop : Int32) (c2_teamsRead : Int32) (a38 : Nat → Int32) (a39 : Nat → Int32) (a44 : Nat → Int32) (c2_fault : Int32) (c2_faultPlace : Int32) (c2_next : Int32) (c2_kind : Int32) (c2_which : Int32) (c2_place : Int32) (c2_marksRead : Int32) (a45 : Nat → Int32) (a46 : Nat → Int32) (p0 : c2_stop.toInt ≤ 400) (p1 : 0 ≤ c2_stop.toInt) (p2 : c2_teamsRead.toInt ≤ 12) (p3 : 0 ≤ c2_teamsRead.toInt) (p4 : c2_next.toInt ≤ 400) (p5 : 0 ≤ c2_next.toInt) (p6 : c2_kind.toInt ≤ 5) (p7 : 0 ≤ c2_kind.toInt) (p8 : c2_place.toInt ≤ 400) (p9 : 0 ≤ c2_place.toInt) (p10 : c2_marksRead.toInt ≤ 6) (p11 : 0 ≤ c2_marksRead.toInt) (p12 : c2_next.toInt ≤ c2_stop.toInt) (hr_a39 : dz_pt a39 dz_wd) : dz_T (f14_X12_markLine fu c2_stop c2_teamsRead a38 a39 a44 c2_fault c2_faultPlace c2_next c2_kind c2_which c2_place c2_marksRead a45 a46) (fun r => c2_next.toInt ≤ 400 ∧ 0 ≤ c2_next.toInt ∧ r.1.toInt ≤ 1 ∧ 0 ≤ r.1.toInt ∧ r.2.2.2.1.toInt ≤ 400 ∧ 0 ≤ r.2.2.2.1.toInt ∧ r.2.2.2.2.1.toInt ≤ 5 ∧ 0 ≤ r.2.2.2.2.1.toInt ∧ r.2.2.2.2.2.2.1.toInt ≤ 400 ∧ 0 ≤ r.2.2.2.2.2.2.1.toInt ∧ r.2.2.2.2.2.2.2.1.toInt ≤ 6 ∧ 0 ≤ r.2.2.2.2.2.2.2.1.toInt ∧ r.1.toInt ≤ r.2.2.2.2.2.2.2.1.toInt ∧ r.2.2.2.1.toInt ≤ c2_stop.toInt ∧ c2_next.toInt ≤ r.2.2.2.1.toInt ∧ (r.1.toInt = 0 ∨ r.2.2.2.2.1.toInt = 0 ∨ c2_next.toInt + 1 ≤ r.2.2.2.1.toInt)) :=
  t14_X12_markLine_E fu hfu c2_stop c2_teamsRead a38 a39 a44 c2_fault c2_faultPlace c2_next c2_kind c2_which c2_place c2_marksRead a45 a46 p0 p1 p2 p3 p4 p5 p6 p7 p8 p9 p10 p11 p12 hr_a39 fu hfu
set_option maxHeartbeats 4000000 in
set_option maxRecDepth 10000 in
theorem t10_X12_isNumber (fu : Nat) (hfu : 1000000000000 ≤ fu) (c2_kind : Int32) (c2_which : Int32) (c2_place : Int32) (v1 : Int32) (v2 : Int32) (c2_fault : Int32) (c2_faultPlace : Int32) (p0 : c2_kind.toInt ≤ 5) (p1 : 0 ≤ c2_kind.toInt) (p2 : c2_place.toInt ≤ 400) (p3 : 0 ≤ c2_place.toInt) : dz_T (f10_X12_isNumber fu c2_kind c2_which c2_place v1 v2 c2_fault c2_faultPlace) (fun r => r.1.toInt ≤ 1 ∧ 0 ≤ r.1.toInt ∧ r.1.toInt ≤ c2_kind.toInt ∧ (r.1.toInt = 0 ∨ (v1.toInt ≤ c2_which.toInt ∧ c2_which.toInt ≤ v2.toInt))) := by
  unfold f10_X12_isNumber s10_X12_isNumber_0
  have e1 := dz_l3
  refine dz_Teq (fun h2 => ?_) (fun h2 => ?_)
  · skip
    refine dz_Tlt (fun h3 => ?_) (fun h3 => ?_)
    · skip
      unfold d10_X12_isNumber_1 s10_X12_isNumber_1
      have e4 := dz_l2
      refine dz_Tb (t2_X12_wrong fu hfu _ _ _ _ p2 p3) (fun r1 q => ?_)
      obtain ⟨q1_0, q1_1⟩ := q
      have e5 := dz_l0
      refine dz_Teq (fun h6 => ?_) (fun h6 => ?_)
      · skip
        refine dz_Ts ?_
        dsimp only
        exact ⟨(by omega), (by omega), (by omega), (by omega)⟩
      · skip
        exfalso; omega
    · skip
      refine dz_Tle (fun h7 => ?_) (fun h7 => ?_)
      · skip
        unfold d10_X12_isNumber_2 s10_X12_isNumber_2
        have e8 := dz_l1
        refine dz_Ts ?_
        dsimp only
        exact ⟨(by omega), (by omega), (by omega), (by omega)⟩
      · skip
        unfold d10_X12_isNumber_1 s10_X12_isNumber_1
        have e9 := dz_l2
        refine dz_Tb (t2_X12_wrong fu hfu _ _ _ _ p2 p3) (fun r2 q => ?_)
        obtain ⟨q2_0, q2_1⟩ := q
        have e10 := dz_l0
        refine dz_Teq (fun h11 => ?_) (fun h11 => ?_)
        · skip
          refine dz_Ts ?_
          dsimp only
          exact ⟨(by omega), (by omega), (by omega), (by omega)⟩
        · skip
          exfalso; omega
  · skip
    have e12 := dz_l1
    refine dz_Tb (t2_X12_wrong fu hfu _ _ _ _ p2 p3) (fun r3 q => ?_)
    obtain ⟨q3_0, q3_1⟩ := q
    refine dz_Tg (dz_nb (by omega)) ?_
    refine dz_Ts ?_
    dsimp only
    exact ⟨(by first | assumption | omega), q3_1, (by first | assumption | omega), (by omega)⟩
set_option maxHeartbeats 4000000 in
set_option maxRecDepth 10000 in
theorem t15_X12_barLine (fu : Nat) (hfu : 1000000000000 ≤ fu) (c2_stop : Int32) (c2_groupsRead : Int32) (c2_teamsRead : Int32) (c2_marksRead : Int32) (a38 : Nat → Int32) (a39 : Nat → Int32) (a44 : Nat → Int32) (a45 : Nat → Int32) (v1 : Int32) (c2_fault : Int32) (c2_faultPlace : Int32) (c2_next : Int32) (c2_kind : Int32) (c2_which : Int32) (c2_place : Int32) (c2_barsRead : Int32) (a47 : Nat → Int32) (p0 : c2_stop.toInt ≤ 400) (p1 : 0 ≤ c2_stop.toInt) (p2 : c2_groupsRead.toInt ≤ 4) (p3 : 2 ≤ c2_groupsRead.toInt) (p4 : c2_teamsRead.toInt ≤ 12) (p5 : 0 ≤ c2_teamsRead.toInt) (p6 : c2_marksRead.toInt ≤ 6) (p7 : 0 ≤ c2_marksRead.toInt) (p8 : c2_next.toInt ≤ 400) (p9 : 0 ≤ c2_next.toInt) (p10 : c2_kind.toInt ≤ 5) (p11 : 0 ≤ c2_kind.toInt) (p12 : c2_place.toInt ≤ 400) (p13 : 0 ≤ c2_place.toInt) (p14 : c2_barsRead.toInt ≤ 10) (p15 : 0 ≤ c2_barsRead.toInt) (p16 : c2_next.toInt ≤ c2_stop.toInt) (p17 : 0 ≤ v1.toInt) (p18 : v1.toInt ≤ 3) (hr_a39 : dz_pt a39 dz_wd) (hr_a47 : dz_rg a47 30 0 11) (o0 : dz_bq a47 c2_barsRead.toInt.toNat) : dz_T (f15_X12_barLine fu c2_stop c2_groupsRead c2_teamsRead c2_marksRead a38 a39 a44 a45 v1 c2_fault c2_faultPlace c2_next c2_kind c2_which c2_place c2_barsRead a47) (fun r => r.1.toInt ≤ 1 ∧ 0 ≤ r.1.toInt ∧ r.2.2.2.1.toInt ≤ 400 ∧ 0 ≤ r.2.2.2.1.toInt ∧ r.2.2.2.2.1.toInt ≤ 5 ∧ 0 ≤ r.2.2.2.2.1.toInt ∧ r.2.2.2.2.2.2.1.toInt ≤ 400 ∧ 0 ≤ r.2.2.2.2.2.2.1.toInt ∧ r.2.2.2.2.2.2.2.1.toInt ≤ 10 ∧ 0 ≤ r.2.2.2.2.2.2.2.1.toInt ∧ r.1.toInt ≤ r.2.2.2.2.2.2.2.1.toInt ∧ r.2.2.2.1.toInt ≤ c2_stop.toInt ∧ c2_next.toInt ≤ r.2.2.2.1.toInt ∧ dz_rg r.2.2.2.2.2.2.2.2 30 0 11 ∧ (r.1.toInt = 0 ∨ r.2.2.2.2.1.toInt = 0 ∨ c2_next.toInt + 1 ≤ r.2.2.2.1.toInt) ∧ (r.1.toInt = 0 ∨ dz_bq r.2.2.2.2.2.2.2.2 r.2.2.2.2.2.2.2.1.toInt.toNat)) := by
  unfold f15_X12_barLine s15_X12_barLine_0
  have e1 := dz_l10
  refine dz_Teq (fun h2 => ?_) (fun h2 => ?_)
  · skip
    have e3 := dz_l2
    refine dz_Tb (t2_X12_wrong fu hfu _ _ _ _ p12 p13) (fun r1 q => ?_)
    obtain ⟨q1_0, q1_1⟩ := q
    refine dz_Tg (dz_nb (by omega)) ?_
    refine dz_Ts ?_
    dsimp only
    exact ⟨(by first | assumption | omega), q1_1, p8, p9, p10, p11, p12, p13, p14, p15, (by first | assumption | omega), p16, (by first | assumption | omega), (hr_a47), (by omega), (by first | exact Or.inl (by omega) | exact Or.inr (dz_bq3 o0 (by omega) (by omega) (by omega) (by omega) (by omega) (by omega)))⟩
  · skip
    refine dz_Tb (t7_X12_take fu hfu _ _ _ _ _ _ _ p0 p1 p8 p9 p10 p11 p12 p13 p16 (hr_a39)) (fun r2 q => ?_)
    obtain ⟨q2_0, q2_1, q2_2, q2_3, q2_4, q2_5, q2_6, q2_7, q2_8, q2_9, q2_10, qo2_0, qo2_1⟩ := q
    have e4 := dz_l0
    refine dz_Teq (fun h5 => ?_) (fun h5 => ?_)
    · skip
      have e6 := dz_l1
      have e7 := dz_l3
      refine dz_Tb (t10_X12_isNumber fu hfu _ _ _ _ _ _ _ q2_4 q2_5 q2_6 q2_7) (fun r3 q => ?_)
      obtain ⟨q3_0, q3_1, q3_2, qo3_0⟩ := q
      refine dz_Teq (fun h8 => ?_) (fun h8 => ?_)
      · skip
        refine dz_Ts ?_
        dsimp only
        exact ⟨(by omega), (by omega), q2_2, q2_3, q2_4, q2_5, q2_6, q2_7, p14, p15, (by omega), q2_8, q2_9, (hr_a47), (by omega), (by first | exact Or.inl (by omega) | exact Or.inr (dz_bq3 o0 (by omega) (by omega) (by omega) (by omega) (by omega) (by omega)))⟩
      · skip
        refine dz_Tb (t7_X12_take fu hfu _ _ _ _ _ _ _ p0 p1 q2_2 q2_3 q2_4 q2_5 q2_6 q2_7 q2_8 (hr_a39)) (fun r4 q => ?_)
        obtain ⟨q4_0, q4_1, q4_2, q4_3, q4_4, q4_5, q4_6, q4_7, q4_8, q4_9, q4_10, qo4_0, qo4_1⟩ := q
        have e9 := dz_l2
        refine dz_Teq (fun h10 => ?_) (fun h10 => ?_)
        · skip
          refine dz_Tb (t12_X12_markOf fu hfu _ _ _ p6 p7) (fun r5 q => ?_)
          obtain ⟨q5_0, q5_1, q5_2⟩ := q
          refine dz_Tle (fun h11 => ?_) (fun h11 => ?_)
          · skip
            unfold d15_X12_barLine_1 s15_X12_barLine_1
            refine dz_Tb (t7_X12_take fu hfu _ _ _ _ _ _ _ p0 p1 q4_2 q4_3 q4_4 q4_5 q4_6 q4_7 q4_8 (hr_a39)) (fun r6 q => ?_)
            obtain ⟨q6_0, q6_1, q6_2, q6_3, q6_4, q6_5, q6_6, q6_7, q6_8, q6_9, q6_10, qo6_0, qo6_1⟩ := q
            have e12 := dz_mull (a := (3 : Int32)) (b := c2_barsRead) 3 (by omega) (by omega) (by omega)
            refine dz_Tin (by omega) (by omega) ?_
            have e13 := dz_add (a := ((3 : Int32) * c2_barsRead)) (b := (1 : Int32)) (by omega) (by omega)
            refine dz_Tin (by omega) (by omega) ?_
            have e14 := dz_add (a := ((3 : Int32) * c2_barsRead)) (b := (2 : Int32)) (by omega) (by omega)
            refine dz_Tin (by omega) (by omega) ?_
            have e15 := dz_add (a := c2_barsRead) (b := (1 : Int32)) (by omega) (by omega)
            refine dz_Ts ?_
            dsimp only
            exact ⟨(by omega), (by omega), q6_2, q6_3, q6_4, q6_5, q6_6, q6_7, (by omega), (by omega), (by omega), q6_8, (by first | assumption | omega), (dz_rgu (dz_rgu (dz_rgu (hr_a47) (by omega) (by omega)) (by omega) (by omega)) (by omega) (by omega)), (by omega), (by first | exact Or.inl (by omega) | exact Or.inr (dz_bq3 o0 (by omega) (by omega) (by omega) (by omega) (by omega) (by omega)))⟩
          · skip
            have e16 := dz_l4
            refine dz_Tb (t2_X12_wrong fu hfu _ _ _ _ q4_6 q4_7) (fun r7 q => ?_)
            obtain ⟨q7_0, q7_1⟩ := q
            refine dz_Tg (dz_nb (by omega)) ?_
            refine dz_Ts ?_
            dsimp only
            exact ⟨(by first | assumption | omega), q7_1, q4_2, q4_3, q4_4, q4_5, q4_6, q4_7, p14, p15, (by first | assumption | omega), q4_8, (by first | assumption | omega), (hr_a47), (by omega), (by first | exact Or.inl (by omega) | exact Or.inr (dz_bq3 o0 (by omega) (by omega) (by omega) (by omega) (by omega) (by omega)))⟩
        · skip
          refine dz_Tb (t2_X12_wrong fu hfu _ _ _ _ q4_6 q4_7) (fun r8 q => ?_)
          obtain ⟨q8_0, q8_1⟩ := q
          refine dz_Tg (dz_nb (by omega)) ?_
          refine dz_Ts ?_
          dsimp only
          exact ⟨(by first | assumption | omega), q8_1, q4_2, q4_3, q4_4, q4_5, q4_6, q4_7, p14, p15, (by first | assumption | omega), q4_8, (by first | assumption | omega), (hr_a47), (by omega), (by first | exact Or.inl (by omega) | exact Or.inr (dz_bq3 o0 (by omega) (by omega) (by omega) (by omega) (by omega) (by omega)))⟩
    · skip
      have e17 := dz_l2
      refine dz_Teq (fun h18 => ?_) (fun h18 => ?_)
      · skip
        refine dz_Tb (t11_X12_teamOf fu hfu _ _ _ p4 p5) (fun r9 q => ?_)
        obtain ⟨q9_0, q9_1, q9_2⟩ := q
        refine dz_Tle (fun h19 => ?_) (fun h19 => ?_)
        · skip
          refine dz_Tb (t7_X12_take fu hfu _ _ _ _ _ _ _ p0 p1 q2_2 q2_3 q2_4 q2_5 q2_6 q2_7 q2_8 (hr_a39)) (fun r10 q => ?_)
          obtain ⟨q10_0, q10_1, q10_2, q10_3, q10_4, q10_5, q10_6, q10_7, q10_8, q10_9, q10_10, qo10_0, qo10_1⟩ := q
          have e20 := dz_l1
          refine dz_Teq (fun h21 => ?_) (fun h21 => ?_)
          · skip
            refine dz_Teq (fun h22 => ?_) (fun h22 => ?_)
            · skip
              refine dz_Tb (t11_X12_teamOf fu hfu _ _ _ p4 p5) (fun r11 q => ?_)
              obtain ⟨q11_0, q11_1, q11_2⟩ := q
              refine dz_Tle (fun h23 => ?_) (fun h23 => ?_)
              · skip
                refine dz_Teq (fun h24 => ?_) (fun h24 => ?_)
                · skip
                  have e25 := dz_l3
                  refine dz_Tb (t2_X12_wrong fu hfu _ _ _ _ q10_6 q10_7) (fun r12 q => ?_)
                  obtain ⟨q12_0, q12_1⟩ := q
                  refine dz_Tg (dz_nb (by omega)) ?_
                  refine dz_Ts ?_
                  dsimp only
                  exact ⟨(by first | assumption | omega), q12_1, q10_2, q10_3, q10_4, q10_5, q10_6, q10_7, p14, p15, (by first | assumption | omega), q10_8, (by first | assumption | omega), (hr_a47), (by omega), (by first | exact Or.inl (by omega) | exact Or.inr (dz_bq3 o0 (by omega) (by omega) (by omega) (by omega) (by omega) (by omega)))⟩
                · skip
                  unfold d15_X12_barLine_1 s15_X12_barLine_1
                  refine dz_Tb (t7_X12_take fu hfu _ _ _ _ _ _ _ p0 p1 q10_2 q10_3 q10_4 q10_5 q10_6 q10_7 q10_8 (hr_a39)) (fun r13 q => ?_)
                  obtain ⟨q13_0, q13_1, q13_2, q13_3, q13_4, q13_5, q13_6, q13_7, q13_8, q13_9, q13_10, qo13_0, qo13_1⟩ := q
                  have e26 := dz_l3
                  have e27 := dz_mull (a := (3 : Int32)) (b := c2_barsRead) 3 (by omega) (by omega) (by omega)
                  refine dz_Tin (by omega) (by omega) ?_
                  have e28 := dz_add (a := ((3 : Int32) * c2_barsRead)) (b := (1 : Int32)) (by omega) (by omega)
                  refine dz_Tin (by omega) (by omega) ?_
                  have e29 := dz_add (a := ((3 : Int32) * c2_barsRead)) (b := (2 : Int32)) (by omega) (by omega)
                  refine dz_Tin (by omega) (by omega) ?_
                  have e30 := dz_add (a := c2_barsRead) (b := (1 : Int32)) (by omega) (by omega)
                  refine dz_Ts ?_
                  dsimp only
                  exact ⟨(by omega), (by omega), q13_2, q13_3, q13_4, q13_5, q13_6, q13_7, (by omega), (by omega), (by omega), q13_8, (by first | assumption | omega), (dz_rgu (dz_rgu (dz_rgu (hr_a47) (by omega) (by omega)) (by omega) (by omega)) (by omega) (by omega)), (by omega), (by first | exact Or.inl (by omega) | exact Or.inr (dz_bq3 o0 (by omega) (by omega) (by omega) (by omega) (by omega) (by omega)))⟩
              · skip
                have e31 := dz_l4
                refine dz_Tb (t2_X12_wrong fu hfu _ _ _ _ q10_6 q10_7) (fun r14 q => ?_)
                obtain ⟨q14_0, q14_1⟩ := q
                refine dz_Tg (dz_nb (by omega)) ?_
                refine dz_Ts ?_
                dsimp only
                exact ⟨(by first | assumption | omega), q14_1, q10_2, q10_3, q10_4, q10_5, q10_6, q10_7, p14, p15, (by first | assumption | omega), q10_8, (by first | assumption | omega), (hr_a47), (by omega), (by first | exact Or.inl (by omega) | exact Or.inr (dz_bq3 o0 (by omega) (by omega) (by omega) (by omega) (by omega) (by omega)))⟩
            · skip
              refine dz_Tb (t2_X12_wrong fu hfu _ _ _ _ q10_6 q10_7) (fun r15 q => ?_)
              obtain ⟨q15_0, q15_1⟩ := q
              refine dz_Tg (dz_nb (by omega)) ?_
              refine dz_Ts ?_
              dsimp only
              exact ⟨(by first | assumption | omega), q15_1, q10_2, q10_3, q10_4, q10_5, q10_6, q10_7, p14, p15, (by first | assumption | omega), q10_8, (by first | assumption | omega), (hr_a47), (by omega), (by first | exact Or.inl (by omega) | exact Or.inr (dz_bq3 o0 (by omega) (by omega) (by omega) (by omega) (by omega) (by omega)))⟩
          · skip
            have e32 := dz_sub (a := c2_groupsRead) (b := (1 : Int32)) (by omega) (by omega)
            refine dz_Tb (t10_X12_isNumber fu hfu _ _ _ _ _ _ _ q10_4 q10_5 q10_6 q10_7) (fun r16 q => ?_)
            obtain ⟨q16_0, q16_1, q16_2, qo16_0⟩ := q
            refine dz_Teq (fun h33 => ?_) (fun h33 => ?_)
            · skip
              refine dz_Ts ?_
              dsimp only
              exact ⟨(by omega), (by omega), q10_2, q10_3, q10_4, q10_5, q10_6, q10_7, p14, p15, (by omega), q10_8, (by first | assumption | omega), (hr_a47), (by omega), (by first | exact Or.inl (by omega) | exact Or.inr (dz_bq3 o0 (by omega) (by omega) (by omega) (by omega) (by omega) (by omega)))⟩
            · skip
              unfold d15_X12_barLine_1 s15_X12_barLine_1
              refine dz_Tb (t7_X12_take fu hfu _ _ _ _ _ _ _ p0 p1 q10_2 q10_3 q10_4 q10_5 q10_6 q10_7 q10_8 (hr_a39)) (fun r17 q => ?_)
              obtain ⟨q17_0, q17_1, q17_2, q17_3, q17_4, q17_5, q17_6, q17_7, q17_8, q17_9, q17_10, qo17_0, qo17_1⟩ := q
              have e34 := dz_l3
              have e35 := dz_mull (a := (3 : Int32)) (b := c2_barsRead) 3 (by omega) (by omega) (by omega)
              refine dz_Tin (by omega) (by omega) ?_
              have e36 := dz_add (a := ((3 : Int32) * c2_barsRead)) (b := (1 : Int32)) (by omega) (by omega)
              refine dz_Tin (by omega) (by omega) ?_
              have e37 := dz_add (a := ((3 : Int32) * c2_barsRead)) (b := (2 : Int32)) (by omega) (by omega)
              refine dz_Tin (by omega) (by omega) ?_
              have e38 := dz_add (a := c2_barsRead) (b := (1 : Int32)) (by omega) (by omega)
              refine dz_Ts ?_
              dsimp only
              exact ⟨(by omega), (by omega), q17_2, q17_3, q17_4, q17_5, q17_6, q17_7, (by omega), (by omega), (by omega), q17_8, (by first | assumption | omega), (dz_rgu (dz_rgu (dz_rgu (hr_a47) (by omega) (by omega)) (by omega) (by omega)) (by omega) (by omega)), (by omega), (by first | exact Or.inl (by omega) | exact Or.inr (dz_bq3 o0 (by omega) (by omega) (by omega) (by omega) (by omega) (by omega)))⟩
        · skip
          have e39 := dz_l4
          refine dz_Tb (t2_X12_wrong fu hfu _ _ _ _ q2_6 q2_7) (fun r18 q => ?_)
          obtain ⟨q18_0, q18_1⟩ := q
          refine dz_Tg (dz_nb (by omega)) ?_
          refine dz_Ts ?_
          dsimp only
          exact ⟨(by first | assumption | omega), q18_1, q2_2, q2_3, q2_4, q2_5, q2_6, q2_7, p14, p15, (by first | assumption | omega), q2_8, q2_9, (hr_a47), (by omega), (by first | exact Or.inl (by omega) | exact Or.inr (dz_bq3 o0 (by omega) (by omega) (by omega) (by omega) (by omega) (by omega)))⟩
      · skip
        have e40 := dz_l1
        refine dz_Tb (t2_X12_wrong fu hfu _ _ _ _ q2_6 q2_7) (fun r19 q => ?_)
        obtain ⟨q19_0, q19_1⟩ := q
        refine dz_Tg (dz_nb (by omega)) ?_
        refine dz_Ts ?_
        dsimp only
        exact ⟨(by first | assumption | omega), q19_1, q2_2, q2_3, q2_4, q2_5, q2_6, q2_7, p14, p15, (by first | assumption | omega), q2_8, q2_9, (hr_a47), (by omega), (by first | exact Or.inl (by omega) | exact Or.inr (dz_bq3 o0 (by omega) (by omega) (by omega) (by omega) (by omega) (by omega)))⟩
