abbrev p88_X11_tapeFour (fu : Nat) (k : Nat) : Prop :=
  (∀ (v1 : Int32) (v2 : Int32) (c73_taped : Int32) (a247 : Nat → Int32), v2.toInt ≤ 24 → (-8) ≤ v2.toInt → c73_taped.toInt ≤ 400 → 0 ≤ c73_taped.toInt → 0 + 0 + (400 - c73_taped.toInt) * 10 + 5 ≤ ((k : Nat) : Int) → dz_T ((F88_X11_tapeFour fu k) v1 v2 c73_taped a247) (fun r => r.1.toInt ≤ 400 ∧ 0 ≤ r.1.toInt))
set_option maxHeartbeats 1000000 in
set_option maxRecDepth 10000 in
theorem t88_X11_tapeFour_h1 (fu : Nat) (hfu : 1000000000000 ≤ fu) (k : Nat) (ih : ∀ j9, j9 < k → p88_X11_tapeFour fu j9) : ∀ (v1 : Int32) (v2 : Int32) (c73_taped : Int32) (a247 : Nat → Int32), v2.toInt ≤ 24 → (-8) ≤ v2.toInt → c73_taped.toInt ≤ 400 → 0 ≤ c73_taped.toInt → 0 + 0 + (400 - c73_taped.toInt) * 10 + 5 ≤ ((k : Nat) : Int) → dz_T ((F88_X11_tapeFour fu k) v1 v2 c73_taped a247) (fun r => r.1.toInt ≤ 400 ∧ 0 ≤ r.1.toInt) := by
  intro v1 v2 c73_taped a247 i0 i1 i2 i3 hm
  obtain ⟨k0, rfl⟩ : ∃ x, k = x + 1 := ⟨k - 1, by omega⟩
  show dz_T (s88_X11_tapeFour_1 fu (F88_X11_tapeFour fu k0)  v1 v2 c73_taped a247) _
  unfold s88_X11_tapeFour_1
  have e1 := dz_l0
  refine dz_Tlt (fun h2 => ?_) (fun h2 => ?_)
  · skip
    refine dz_Ts ?_
    dsimp only
    exact ⟨i2, i3⟩
  · skip
    have e3 := dz_l400
    refine dz_Tle (fun h4 => ?_) (fun h4 => ?_)
    · skip
      refine dz_Ts ?_
      dsimp only
      exact ⟨i2, i3⟩
    · skip
      refine dz_Tin (by omega) (by omega) ?_
      have e5 := dz_lm8
      have e6 := dz_add (a := v2) (b := (-(8 : Int32))) (by omega) (by omega)
      have e7 := dz_l1
      have e8 := dz_add (a := c73_taped) (b := (1 : Int32)) (by omega) (by omega)
      exact (ih k0 (by omega)) v1 (v2 + (-(8 : Int32))) (c73_taped + (1 : Int32)) (upd a247 c73_taped.toNatClampNeg ((dz_ush v1 v2) &&& (255 : Int32))) (by omega) (by omega) (by omega) (by omega) (by omega)
theorem t88_X11_tapeFour_I (fu : Nat) (hfu : 1000000000000 ≤ fu) (k : Nat) : p88_X11_tapeFour fu k := by
  induction k using Nat.strongRecOn with
  | _ k ih => exact t88_X11_tapeFour_h1 fu hfu k ih
set_option maxHeartbeats 1000000 in
set_option maxRecDepth 10000 in
theorem t88_X11_tapeFour_E (fu : Nat) (hfu : 1000000000000 ≤ fu) (v1 : Int32) (c73_taped : Int32) (a247 : Nat → Int32) (p0 : c73_taped.toInt ≤ 400) (p1 : 0 ≤ c73_taped.toInt) (kv : Nat) (hkv : 1000000000000 ≤ kv) : dz_T (s88_X11_tapeFour_0 fu (F88_X11_tapeFour fu kv)  v1 c73_taped a247) (fun r => r.1.toInt ≤ 400 ∧ 0 ≤ r.1.toInt) := by
  unfold s88_X11_tapeFour_0
  have e1 := dz_l24
  exact (t88_X11_tapeFour_I fu hfu kv) v1 (24 : Int32) c73_taped a247 (by omega) (by omega) p0 p1 (by omega)
theorem t88_X11_tapeFour (fu : Nat) (hfu : 1000000000000 ≤ fu) (v1 : Int32) (c73_taped : Int32) (a247 : Nat → Int32) (p0 : c73_taped.toInt ≤ 400) (p1 : 0 ≤ c73_taped.toInt) : dz_T (f88_X11_tapeFour fu v1 c73_taped a247) (fun r => r.1.toInt ≤ 400 ∧ 0 ≤ r.1.toInt) :=
  t88_X11_tapeFour_E fu hfu v1 c73_taped a247 p0 p1 fu hfu
set_option maxHeartbeats 1000000 in
set_option maxRecDepth 10000 in
theorem t89_X11_feed (fu : Nat) (hfu : 1000000000000 ≤ fu) (v1 : Int32) (v2 : Int32) (v3 : Int32) (v4 : Int32) (v5 : Int32) (c73_taped : Int32) (a247 : Nat → Int32) (p0 : c73_taped.toInt ≤ 400) (p1 : 0 ≤ c73_taped.toInt) : dz_T (f89_X11_feed fu v1 v2 v3 v4 v5 c73_taped a247) (fun r => r.1.toInt ≤ 400 ∧ (-1) ≤ r.1.toInt ∧ r.2.1.toInt ≤ 400 ∧ 0 ≤ r.2.1.toInt ∧ r.1.toInt ≤ r.2.1.toInt) := by
  unfold f89_X11_feed s89_X11_feed_0
  have e1 := dz_l20
  have e2 := dz_add (a := c73_taped) (b := (20 : Int32)) (by omega) (by omega)
  have e3 := dz_l400
  refine dz_Tle (fun h4 => ?_) (fun h4 => ?_)
  · skip
    refine dz_Tb (t88_X11_tapeFour fu hfu _ _ _ p0 p1) (fun r1 q => ?_)
    obtain ⟨q1_0, q1_1⟩ := q
    refine dz_Tb (t88_X11_tapeFour fu hfu _ _ _ q1_0 q1_1) (fun r2 q => ?_)
    obtain ⟨q2_0, q2_1⟩ := q
    refine dz_Tb (t88_X11_tapeFour fu hfu _ _ _ q2_0 q2_1) (fun r3 q => ?_)
    obtain ⟨q3_0, q3_1⟩ := q
    refine dz_Tb (t88_X11_tapeFour fu hfu _ _ _ q3_0 q3_1) (fun r4 q => ?_)
    obtain ⟨q4_0, q4_1⟩ := q
    refine dz_Tb (t88_X11_tapeFour fu hfu _ _ _ q4_0 q4_1) (fun r5 q => ?_)
    obtain ⟨q5_0, q5_1⟩ := q
    refine dz_Ts ?_
    dsimp only
    exact ⟨q5_0, (by first | assumption | omega), q5_0, q5_1, (by first | assumption | omega)⟩
  · skip
    have e5 := dz_lm1
    refine dz_Ts ?_
    dsimp only
    exact ⟨(by omega), (by omega), p0, p1, (by omega)⟩
set_option maxHeartbeats 1000000 in
set_option maxRecDepth 10000 in
theorem t90_X3_forget (fu : Nat) (hfu : 1000000000000 ≤ fu) (c255_groups : Int32) (c255_pots : Int32) (c255_teams : Int32) (c255_marks : Int32) (c255_bars : Int32) (c255_groupsNamed : Int32) (p0 : c255_groups.toInt ≤ 4) (p1 : 2 ≤ c255_groups.toInt) (p2 : c255_pots.toInt ≤ 4) (p3 : 0 ≤ c255_pots.toInt) (p4 : c255_teams.toInt ≤ 12) (p5 : 0 ≤ c255_teams.toInt) (p6 : c255_marks.toInt ≤ 6) (p7 : 0 ≤ c255_marks.toInt) (p8 : c255_bars.toInt ≤ 10) (p9 : 0 ≤ c255_bars.toInt) : dz_T (f90_X3_forget fu c255_groups c255_pots c255_teams c255_marks c255_bars c255_groupsNamed) (fun r => r.1.toInt ≤ 2 ∧ 2 ≤ r.1.toInt ∧ r.2.1.toInt ≤ 0 ∧ 0 ≤ r.2.1.toInt ∧ r.2.2.1.toInt ≤ 0 ∧ 0 ≤ r.2.2.1.toInt ∧ r.2.2.2.1.toInt ≤ 0 ∧ 0 ≤ r.2.2.2.1.toInt ∧ r.2.2.2.2.1.toInt ≤ 0 ∧ 0 ≤ r.2.2.2.2.1.toInt) := by
  unfold f90_X3_forget s90_X3_forget_0
  have e1 := dz_l2
  have e2 := dz_l0
  refine dz_Ts ?_
  dsimp only
  exact ⟨(by omega), (by omega), (by omega), (by omega), (by omega), (by omega), (by omega), (by omega), (by omega), (by omega)⟩
set_option maxHeartbeats 1000000 in
set_option maxRecDepth 10000 in
theorem t91_X5_isBlank (fu : Nat) (hfu : 1000000000000 ≤ fu) (v0 : Int32) : dz_T (f91_X5_isBlank fu v0) (fun r => r.toInt ≤ 1 ∧ 0 ≤ r.toInt) := by
  unfold f91_X5_isBlank s91_X5_isBlank_0
  have e1 := dz_l10
  refine dz_Teq (fun h2 => ?_) (fun h2 => ?_)
  · skip
    unfold d91_X5_isBlank_1 s91_X5_isBlank_1
    have e3 := dz_l1
    exact dz_Ts ⟨(by omega), (by omega)⟩
  · skip
    have e4 := dz_l32
    refine dz_Teq (fun h5 => ?_) (fun h5 => ?_)
    · skip
      unfold d91_X5_isBlank_1 s91_X5_isBlank_1
      have e6 := dz_l1
      exact dz_Ts ⟨(by omega), (by omega)⟩
    · skip
      have e7 := dz_l0
      exact dz_Ts ⟨(by omega), (by omega)⟩
abbrev p94_X5_stepNumber (fu : Nat) (a247 : Nat → Int32) (c254_length : Int32) (k : Nat) : Prop :=
  (∀ (c254_at : Int32) (c254_kind : Int32) (c254_value : Int32), c254_at.toInt ≤ 400 → 0 ≤ c254_at.toInt → c254_value.toInt ≤ 1000 → 0 ≤ c254_value.toInt → c254_at.toInt ≤ c254_length.toInt → 0 + 0 + (400 - c254_at.toInt) * 12 + 6 ≤ ((k : Nat) : Int) → dz_T ((F94_X5_stepNumber fu a247 c254_length k).1 c254_at c254_kind c254_value) (fun r => r.1.toInt ≤ 400 ∧ 0 ≤ r.1.toInt ∧ r.1.toInt ≤ c254_length.toInt))
set_option maxHeartbeats 1000000 in
set_option maxRecDepth 10000 in
theorem t94_X5_stepNumber_h1 (fu : Nat) (hfu : 1000000000000 ≤ fu) (a247 : Nat → Int32) (c254_length : Int32) (p0 : c254_length.toInt ≤ 400) (p1 : 0 ≤ c254_length.toInt) (k : Nat) (ih : ∀ j9, j9 < k → p94_X5_stepNumber fu a247 c254_length j9) : ∀ (c254_at : Int32) (c254_kind : Int32) (c254_value : Int32), c254_at.toInt ≤ 400 → 0 ≤ c254_at.toInt → c254_value.toInt ≤ 1000 → 0 ≤ c254_value.toInt → c254_at.toInt ≤ c254_length.toInt → 0 + 0 + (400 - c254_at.toInt) * 12 + 6 ≤ ((k : Nat) : Int) → dz_T ((F94_X5_stepNumber fu a247 c254_length k).1 c254_at c254_kind c254_value) (fun r => r.1.toInt ≤ 400 ∧ 0 ≤ r.1.toInt ∧ r.1.toInt ≤ c254_length.toInt) := by
  intro c254_at c254_kind c254_value i0 i1 i2 i3 i4 hm
  obtain ⟨k0, rfl⟩ : ∃ x, k = x + 1 := ⟨k - 1, by omega⟩
  show dz_T (s94_X5_stepNumber_1 fu a247 c254_length (F94_X5_stepNumber fu a247 c254_length k0).1 (F94_X5_stepNumber fu a247 c254_length k0).2  c254_at c254_kind c254_value) _
  unfold s94_X5_stepNumber_1
  refine dz_Tle (fun h1 => ?_) (fun h1 => ?_)
  · skip
    obtain ⟨k1, rfl⟩ : ∃ x, k0 = x + 1 := ⟨k0 - 1, by omega⟩
    show dz_T (s94_X5_stepNumber_2 fu a247 c254_length c254_at c254_kind c254_value) _
    unfold s94_X5_stepNumber_2
    have e2 := dz_l2
    refine dz_Ts ?_
    dsimp only
    exact ⟨i0, i1, i4⟩
  · skip
    refine dz_Tin (by omega) (by omega) ?_
    refine dz_Tbe (show f93_X5_isDigit fu (a247 c254_at.toNatClampNeg) = (if ((a247 c254_at.toNatClampNeg) < (48 : Int32)) then (some (0 : Int32)) else (if ((57 : Int32) < (a247 c254_at.toNatClampNeg)) then (some (0 : Int32)) else (some (1 : Int32)))) from rfl) ?_
    have e3 := dz_l48
    refine dz_Tltb (fun h4 => ?_) (fun h4 => ?_)
    · skip
      refine dz_Tsb ?_
      have e5 := dz_l0
      refine dz_Teq (fun h6 => ?_) (fun h6 => ?_)
      · skip
        obtain ⟨k2, rfl⟩ : ∃ x, k0 = x + 1 := ⟨k0 - 1, by omega⟩
        show dz_T (s94_X5_stepNumber_2 fu a247 c254_length c254_at c254_kind c254_value) _
        unfold s94_X5_stepNumber_2
        have e7 := dz_l2
        refine dz_Ts ?_
        dsimp only
        exact ⟨i0, i1, i4⟩
      · skip
        exfalso; omega
    · skip
      have e8 := dz_l57
      refine dz_Tltb (fun h9 => ?_) (fun h9 => ?_)
      · skip
        refine dz_Tsb ?_
        have e10 := dz_l0
        refine dz_Teq (fun h11 => ?_) (fun h11 => ?_)
        · skip
          obtain ⟨k3, rfl⟩ : ∃ x, k0 = x + 1 := ⟨k0 - 1, by omega⟩
          show dz_T (s94_X5_stepNumber_2 fu a247 c254_length c254_at c254_kind c254_value) _
          unfold s94_X5_stepNumber_2
          have e12 := dz_l2
          refine dz_Ts ?_
          dsimp only
          exact ⟨i0, i1, i4⟩
        · skip
          exfalso; omega
      · skip
        refine dz_Tsb ?_
        have e13 := dz_l1
        have e14 := dz_l0
        refine dz_Teq (fun h15 => ?_) (fun h15 => ?_)
        · skip
          exfalso; omega
        · skip
          refine dz_Tin (by omega) (by omega) ?_
          have e16 := dz_add (a := c254_at) (b := (1 : Int32)) (by omega) (by omega)
          have e17 := dz_l1000
          have e18 := dz_l10
          have e19 := dz_mulr (a := c254_value) (b := (10 : Int32)) 10 (by omega) (by omega) (by omega)
          have e20 := dz_add (a := (c254_value * (10 : Int32))) (b := (a247 c254_at.toNatClampNeg)) (by omega) (by omega)
          have e21 := dz_sub (a := ((c254_value * (10 : Int32)) + (a247 c254_at.toNatClampNeg))) (b := (48 : Int32)) (by omega) (by omega)
          have e22 := dz_min (a := (1000 : Int32)) (b := (((c254_value * (10 : Int32)) + (a247 c254_at.toNatClampNeg)) - (48 : Int32)))
          exact (ih k0 (by omega)) (c254_at + (1 : Int32)) c254_kind (if ((1000 : Int32) < (((c254_value * (10 : Int32)) + (a247 c254_at.toNatClampNeg)) - (48 : Int32))) then (1000 : Int32) else (((c254_value * (10 : Int32)) + (a247 c254_at.toNatClampNeg)) - (48 : Int32))) (by omega) (by omega) (by omega) (by omega) (by omega) (by omega)
theorem t94_X5_stepNumber_I (fu : Nat) (hfu : 1000000000000 ≤ fu) (a247 : Nat → Int32) (c254_length : Int32) (p0 : c254_length.toInt ≤ 400) (p1 : 0 ≤ c254_length.toInt) (k : Nat) : p94_X5_stepNumber fu a247 c254_length k := by
  induction k using Nat.strongRecOn with
  | _ k ih => exact t94_X5_stepNumber_h1 fu hfu a247 c254_length p0 p1 k ih
set_option maxHeartbeats 1000000 in
set_option maxRecDepth 10000 in
theorem t94_X5_stepNumber_E (fu : Nat) (hfu : 1000000000000 ≤ fu) (a247 : Nat → Int32) (c254_length : Int32) (c254_at : Int32) (c254_kind : Int32) (c254_value : Int32) (p0 : c254_length.toInt ≤ 400) (p1 : 0 ≤ c254_length.toInt) (p2 : c254_at.toInt ≤ 400) (p3 : 0 ≤ c254_at.toInt) (p4 : c254_at.toInt ≤ c254_length.toInt) (kv : Nat) (hkv : 1000000000000 ≤ kv) : dz_T (s94_X5_stepNumber_0 fu a247 c254_length (F94_X5_stepNumber fu a247 c254_length kv).1  c254_at c254_kind c254_value) (fun r => r.1.toInt ≤ 400 ∧ 0 ≤ r.1.toInt ∧ r.1.toInt ≤ c254_length.toInt) := by
  unfold s94_X5_stepNumber_0
  have e1 := dz_l0
  exact (t94_X5_stepNumber_I fu hfu a247 c254_length p0 p1 kv) c254_at c254_kind (0 : Int32) p2 p3 (by omega) (by omega) p4 (by omega)
theorem t94_X5_stepNumber (fu : Nat) (hfu : 1000000000000 ≤ fu) (a247 : Nat → Int32) (c254_length : Int32) (c254_at : Int32) (c254_kind : Int32) (c254_value : Int32) (p0 : c254_length.toInt ≤ 400) (p1 : 0 ≤ c254_length.toInt) (p2 : c254_at.toInt ≤ 400) (p3 : 0 ≤ c254_at.toInt) (p4 : c254_at.toInt ≤ c254_length.toInt) : dz_T (f94_X5_stepNumber fu a247 c254_length c254_at c254_kind c254_value) (fun r => r.1.toInt ≤ 400 ∧ 0 ≤ r.1.toInt ∧ r.1.toInt ≤ c254_length.toInt) :=
  t94_X5_stepNumber_E fu hfu a247 c254_length c254_at c254_kind c254_value p0 p1 p2 p3 p4 fu hfu
abbrev p95_X5_stepWord (fu : Nat) (a247 : Nat → Int32) (c254_length : Int32) (k : Nat) : Prop :=
  (∀ (v1 : Int32) (c254_at : Int32) (c254_kind : Int32) (c254_value : Int32), v1.toInt ≤ 400 → 0 ≤ v1.toInt → c254_at.toInt ≤ 400 → 0 ≤ c254_at.toInt → c254_value.toInt ≤ 1073741823 → 0 ≤ c254_value.toInt → c254_at.toInt ≤ c254_length.toInt → v1.toInt ≤ c254_at.toInt → 0 + 0 + (400 - v1.toInt) * 16 + 8 ≤ ((k : Nat) : Int) → dz_T ((F95_X5_stepWord fu a247 c254_length k).1 v1 c254_at c254_kind c254_value) (fun r => r.1.toInt ≤ 400 ∧ 0 ≤ r.1.toInt ∧ r.1.toInt ≤ c254_length.toInt))
set_option maxHeartbeats 1000000 in
set_option maxRecDepth 10000 in
theorem t95_X5_stepWord_h1 (fu : Nat) (hfu : 1000000000000 ≤ fu) (a247 : Nat → Int32) (c254_length : Int32) (p0 : c254_length.toInt ≤ 400) (p1 : 0 ≤ c254_length.toInt) (k : Nat) (ih : ∀ j9, j9 < k → p95_X5_stepWord fu a247 c254_length j9) : ∀ (v1 : Int32) (c254_at : Int32) (c254_kind : Int32) (c254_value : Int32), v1.toInt ≤ 400 → 0 ≤ v1.toInt → c254_at.toInt ≤ 400 → 0 ≤ c254_at.toInt → c254_value.toInt ≤ 1073741823 → 0 ≤ c254_value.toInt → c254_at.toInt ≤ c254_length.toInt → v1.toInt ≤ c254_at.toInt → 0 + 0 + (400 - v1.toInt) * 16 + 8 ≤ ((k : Nat) : Int) → dz_T ((F95_X5_stepWord fu a247 c254_length k).1 v1 c254_at c254_kind c254_value) (fun r => r.1.toInt ≤ 400 ∧ 0 ≤ r.1.toInt ∧ r.1.toInt ≤ c254_length.toInt) := by
  intro v1 c254_at c254_kind c254_value i0 i1 i2 i3 i4 i5 i6 i7 hm
  obtain ⟨k0, rfl⟩ : ∃ x, k = x + 1 := ⟨k - 1, by omega⟩
  show dz_T (s95_X5_stepWord_1 fu a247 c254_length (F95_X5_stepWord fu a247 c254_length k0).2.1 (F95_X5_stepWord fu a247 c254_length k0).2.2.1  v1 c254_at c254_kind c254_value) _
  unfold s95_X5_stepWord_1
  refine dz_Tle (fun h1 => ?_) (fun h1 => ?_)
  · skip
    obtain ⟨k1, rfl⟩ : ∃ x, k0 = x + 1 := ⟨k0 - 1, by omega⟩
    show dz_T (s95_X5_stepWord_2 fu a247 c254_length (F95_X5_stepWord fu a247 c254_length k1).2.2.2 v1 c254_at c254_kind c254_value) _
    unfold s95_X5_stepWord_2
    have e2 := dz_l6
    refine dz_Tlt (fun h3 => ?_) (fun h3 => ?_)
    · skip
      obtain ⟨k2, rfl⟩ : ∃ x, k1 = x + 1 := ⟨k1 - 1, by omega⟩
      show dz_T (s95_X5_stepWord_4 fu a247 c254_length (4 : Int32) c254_at c254_kind c254_value) _
      unfold s95_X5_stepWord_4
      have e4 := dz_l4
      refine dz_Ts ?_
      dsimp only
      exact ⟨i2, i3, i6⟩
    · skip
      obtain ⟨k3, rfl⟩ : ∃ x, k1 = x + 1 := ⟨k1 - 1, by omega⟩
      show dz_T (s95_X5_stepWord_4 fu a247 c254_length (1 : Int32) c254_at c254_kind c254_value) _
      unfold s95_X5_stepWord_4
      have e5 := dz_l1
      refine dz_Ts ?_
      dsimp only
      exact ⟨i2, i3, i6⟩
  · skip
    refine dz_Tin (by omega) (by omega) ?_
    refine dz_Tbe (show f92_X5_isLetter fu (a247 c254_at.toNatClampNeg) = (if ((a247 c254_at.toNatClampNeg) < (97 : Int32)) then (some (0 : Int32)) else (if ((122 : Int32) < (a247 c254_at.toNatClampNeg)) then (some (0 : Int32)) else (some (1 : Int32)))) from rfl) ?_
    have e6 := dz_l97
    refine dz_Tltb (fun h7 => ?_) (fun h7 => ?_)
    · skip
      refine dz_Tsb ?_
      have e8 := dz_l0
      refine dz_Teq (fun h9 => ?_) (fun h9 => ?_)
      · skip
        obtain ⟨k4, rfl⟩ : ∃ x, k0 = x + 1 := ⟨k0 - 1, by omega⟩
        show dz_T (s95_X5_stepWord_2 fu a247 c254_length (F95_X5_stepWord fu a247 c254_length k4).2.2.2 v1 c254_at c254_kind c254_value) _
        unfold s95_X5_stepWord_2
        have e10 := dz_l6
        refine dz_Tlt (fun h11 => ?_) (fun h11 => ?_)
        · skip
          obtain ⟨k5, rfl⟩ : ∃ x, k4 = x + 1 := ⟨k4 - 1, by omega⟩
          show dz_T (s95_X5_stepWord_4 fu a247 c254_length (4 : Int32) c254_at c254_kind c254_value) _
          unfold s95_X5_stepWord_4
          have e12 := dz_l4
          refine dz_Ts ?_
          dsimp only
          exact ⟨i2, i3, i6⟩
        · skip
          obtain ⟨k6, rfl⟩ : ∃ x, k4 = x + 1 := ⟨k4 - 1, by omega⟩
          show dz_T (s95_X5_stepWord_4 fu a247 c254_length (1 : Int32) c254_at c254_kind c254_value) _
          unfold s95_X5_stepWord_4
          have e13 := dz_l1
          refine dz_Ts ?_
          dsimp only
          exact ⟨i2, i3, i6⟩
      · skip
        exfalso; omega
    · skip
      have e14 := dz_l122
      refine dz_Tltb (fun h15 => ?_) (fun h15 => ?_)
      · skip
        refine dz_Tsb ?_
        have e16 := dz_l0
        refine dz_Teq (fun h17 => ?_) (fun h17 => ?_)
        · skip
          obtain ⟨k7, rfl⟩ : ∃ x, k0 = x + 1 := ⟨k0 - 1, by omega⟩
          show dz_T (s95_X5_stepWord_2 fu a247 c254_length (F95_X5_stepWord fu a247 c254_length k7).2.2.2 v1 c254_at c254_kind c254_value) _
          unfold s95_X5_stepWord_2
          have e18 := dz_l6
          refine dz_Tlt (fun h19 => ?_) (fun h19 => ?_)
          · skip
            obtain ⟨k8, rfl⟩ : ∃ x, k7 = x + 1 := ⟨k7 - 1, by omega⟩
            show dz_T (s95_X5_stepWord_4 fu a247 c254_length (4 : Int32) c254_at c254_kind c254_value) _
            unfold s95_X5_stepWord_4
            have e20 := dz_l4
            refine dz_Ts ?_
            dsimp only
            exact ⟨i2, i3, i6⟩
          · skip
            obtain ⟨k9, rfl⟩ : ∃ x, k7 = x + 1 := ⟨k7 - 1, by omega⟩
            show dz_T (s95_X5_stepWord_4 fu a247 c254_length (1 : Int32) c254_at c254_kind c254_value) _
            unfold s95_X5_stepWord_4
            have e21 := dz_l1
            refine dz_Ts ?_
            dsimp only
            exact ⟨i2, i3, i6⟩
        · skip
          exfalso; omega
      · skip
        refine dz_Tsb ?_
        have e22 := dz_l1
        have e23 := dz_l0
        refine dz_Teq (fun h24 => ?_) (fun h24 => ?_)
        · skip
          exfalso; omega
        · skip
          have e25 := dz_l6
          refine dz_Tle (fun h26 => ?_) (fun h26 => ?_)
          · skip
            obtain ⟨k10, rfl⟩ : ∃ x, k0 = x + 1 := ⟨k0 - 1, by omega⟩
            show dz_T (s95_X5_stepWord_3 fu a247 c254_length (F95_X5_stepWord fu a247 c254_length k10).1 v1 c254_at c254_kind c254_value) _
            unfold s95_X5_stepWord_3
            have e27 := dz_add (a := v1) (b := (1 : Int32)) (by omega) (by omega)
            have e28 := dz_add (a := c254_at) (b := (1 : Int32)) (by omega) (by omega)
            exact (ih k10 (by omega)) (v1 + (1 : Int32)) (c254_at + (1 : Int32)) c254_kind c254_value (by omega) (by omega) (by omega) (by omega) i4 i5 (by omega) (by omega) (by omega)
          · skip
            refine dz_Tin (by omega) (by omega) ?_
            obtain ⟨k11, rfl⟩ : ∃ x, k0 = x + 1 := ⟨k0 - 1, by omega⟩
            show dz_T (s95_X5_stepWord_3 fu a247 c254_length (F95_X5_stepWord fu a247 c254_length k11).1 v1 c254_at c254_kind (c254_value ||| ((((a247 c254_at.toNatClampNeg) - (97 : Int32)) + (1 : Int32)) <<< (((25 : Int32) - ((5 : Int32) * v1)) &&& (31 : Int32))))) _
            unfold s95_X5_stepWord_3
            have e29 := dz_add (a := v1) (b := (1 : Int32)) (by omega) (by omega)
            have e30 := dz_add (a := c254_at) (b := (1 : Int32)) (by omega) (by omega)
            have e31 := dz_sub (a := (a247 c254_at.toNatClampNeg)) (b := (97 : Int32)) (by omega) (by omega)
            have e32 := dz_add (a := ((a247 c254_at.toNatClampNeg) - (97 : Int32))) (b := (1 : Int32)) (by omega) (by omega)
            have e33 := dz_l25
            have e34 := dz_l5
            have e35 := dz_mull (a := (5 : Int32)) (b := v1) 5 (by omega) (by omega) (by omega)
            have e36 := dz_sub (a := (25 : Int32)) (b := ((5 : Int32) * v1)) (by omega) (by omega)
            have e37 := dz_l31
            have e38 := dz_andr (a := ((25 : Int32) - ((5 : Int32) * v1))) (b := (31 : Int32)) (by omega)
            have e39 := dz_andl (a := ((25 : Int32) - ((5 : Int32) * v1))) (b := (31 : Int32)) (by omega)
            have e40 := dz_shlb (a := (((a247 c254_at.toNatClampNeg) - (97 : Int32)) + (1 : Int32))) (b := ((25 : Int32) - ((5 : Int32) * v1))) 26 25 (by omega) (by omega) (by omega) (by omega) (by decide)
            have e41 := dz_orb (a := c254_value) (b := ((((a247 c254_at.toNatClampNeg) - (97 : Int32)) + (1 : Int32)) <<< (((25 : Int32) - ((5 : Int32) * v1)) &&& (31 : Int32)))) 30 (by omega) (by omega) (by omega) (by omega) (by omega)
            exact (ih k11 (by omega)) (v1 + (1 : Int32)) (c254_at + (1 : Int32)) c254_kind (c254_value ||| ((((a247 c254_at.toNatClampNeg) - (97 : Int32)) + (1 : Int32)) <<< (((25 : Int32) - ((5 : Int32) * v1)) &&& (31 : Int32)))) (by omega) (by omega) (by omega) (by omega) (by omega) (by omega) (by omega) (by omega) (by omega)
theorem t95_X5_stepWord_I (fu : Nat) (hfu : 1000000000000 ≤ fu) (a247 : Nat → Int32) (c254_length : Int32) (p0 : c254_length.toInt ≤ 400) (p1 : 0 ≤ c254_length.toInt) (k : Nat) : p95_X5_stepWord fu a247 c254_length k := by
  induction k using Nat.strongRecOn with
  | _ k ih => exact t95_X5_stepWord_h1 fu hfu a247 c254_length p0 p1 k ih
set_option maxHeartbeats 1000000 in
set_option maxRecDepth 10000 in
theorem t95_X5_stepWord_E (fu : Nat) (hfu : 1000000000000 ≤ fu) (a247 : Nat → Int32) (c254_length : Int32) (c254_at : Int32) (c254_kind : Int32) (c254_value : Int32) (p0 : c254_length.toInt ≤ 400) (p1 : 0 ≤ c254_length.toInt) (p2 : c254_at.toInt ≤ 400) (p3 : 0 ≤ c254_at.toInt) (p4 : c254_at.toInt ≤ c254_length.toInt) (kv : Nat) (hkv : 1000000000000 ≤ kv) : dz_T (s95_X5_stepWord_0 fu a247 c254_length (F95_X5_stepWord fu a247 c254_length kv).1  c254_at c254_kind c254_value) (fun r => r.1.toInt ≤ 400 ∧ 0 ≤ r.1.toInt ∧ r.1.toInt ≤ c254_length.toInt) := by
  unfold s95_X5_stepWord_0
  have e1 := dz_l0
  exact (t95_X5_stepWord_I fu hfu a247 c254_length p0 p1 kv) (0 : Int32) c254_at c254_kind (0 : Int32) (by omega) (by omega) p2 p3 (by omega) (by omega) p4 (by omega) (by omega)
theorem t95_X5_stepWord (fu : Nat) (hfu : 1000000000000 ≤ fu) (a247 : Nat → Int32) (c254_length : Int32) (c254_at : Int32) (c254_kind : Int32) (c254_value : Int32) (p0 : c254_length.toInt ≤ 400) (p1 : 0 ≤ c254_length.toInt) (p2 : c254_at.toInt ≤ 400) (p3 : 0 ≤ c254_at.toInt) (p4 : c254_at.toInt ≤ c254_length.toInt) : dz_T (f95_X5_stepWord fu a247 c254_length c254_at c254_kind c254_value) (fun r => r.1.toInt ≤ 400 ∧ 0 ≤ r.1.toInt ∧ r.1.toInt ≤ c254_length.toInt) :=
  t95_X5_stepWord_E fu hfu a247 c254_length c254_at c254_kind c254_value p0 p1 p2 p3 p4 fu hfu
abbrev p96_X5_step (fu : Nat) (a247 : Nat → Int32) (c254_length : Int32) (k : Nat) : Prop :=
  (∀ (c254_at : Int32) (c254_kind : Int32) (c254_start : Int32) (c254_value : Int32), c254_at.toInt ≤ 400 → 0 ≤ c254_at.toInt → c254_start.toInt ≤ 400 → 0 ≤ c254_start.toInt → c254_at.toInt ≤ c254_length.toInt → 0 + 0 + (400 - c254_at.toInt) * 14 + 7 ≤ ((k : Nat) : Int) → dz_T ((F96_X5_step fu a247 c254_length k).1 c254_at c254_kind c254_start c254_value) (fun r => r.1.toInt ≤ 400 ∧ 0 ≤ r.1.toInt ∧ r.2.2.1.toInt ≤ 400 ∧ 0 ≤ r.2.2.1.toInt ∧ r.1.toInt ≤ c254_length.toInt))
set_option maxHeartbeats 1000000 in
set_option maxRecDepth 10000 in
theorem t96_X5_step_h1 (fu : Nat) (hfu : 1000000000000 ≤ fu) (a247 : Nat → Int32) (c254_length : Int32) (p0 : c254_length.toInt ≤ 400) (p1 : 0 ≤ c254_length.toInt) (k : Nat) (ih : ∀ j9, j9 < k → p96_X5_step fu a247 c254_length j9) : ∀ (c254_at : Int32) (c254_kind : Int32) (c254_start : Int32) (c254_value : Int32), c254_at.toInt ≤ 400 → 0 ≤ c254_at.toInt → c254_start.toInt ≤ 400 → 0 ≤ c254_start.toInt → c254_at.toInt ≤ c254_length.toInt → 0 + 0 + (400 - c254_at.toInt) * 14 + 7 ≤ ((k : Nat) : Int) → dz_T ((F96_X5_step fu a247 c254_length k).1 c254_at c254_kind c254_start c254_value) (fun r => r.1.toInt ≤ 400 ∧ 0 ≤ r.1.toInt ∧ r.2.2.1.toInt ≤ 400 ∧ 0 ≤ r.2.2.1.toInt ∧ r.1.toInt ≤ c254_length.toInt) := by
  intro c254_at c254_kind c254_start c254_value i0 i1 i2 i3 i4 hm
  obtain ⟨k0, rfl⟩ : ∃ x, k = x + 1 := ⟨k - 1, by omega⟩
  show dz_T (s96_X5_step_1 fu a247 c254_length (F96_X5_step fu a247 c254_length k0).1 (F96_X5_step fu a247 c254_length k0).2.1  c254_at c254_kind c254_start c254_value) _
  unfold s96_X5_step_1
  refine dz_Tle (fun h1 => ?_) (fun h1 => ?_)
  · skip
    obtain ⟨k1, rfl⟩ : ∃ x, k0 = x + 1 := ⟨k0 - 1, by omega⟩
    show dz_T (s96_X5_step_2 fu a247 c254_length (F96_X5_step fu a247 c254_length k1).2.2 c254_at c254_kind c254_start c254_value) _
    unfold s96_X5_step_2
    refine dz_Tlt (fun h2 => ?_) (fun h2 => ?_)
    · skip
      exfalso; omega
    · skip
      have e3 := dz_l0
      refine dz_Ts ?_
      dsimp only
      exact ⟨i0, i1, i0, i1, i4⟩
  · skip
    refine dz_Tin (by omega) (by omega) ?_
    refine dz_Tb (t91_X5_isBlank fu hfu _ ) (fun r1 q => ?_)
    obtain ⟨q1_0, q1_1⟩ := q
    have e4 := dz_l0
    refine dz_Teq (fun h5 => ?_) (fun h5 => ?_)
    · skip
      obtain ⟨k2, rfl⟩ : ∃ x, k0 = x + 1 := ⟨k0 - 1, by omega⟩
      show dz_T (s96_X5_step_2 fu a247 c254_length (F96_X5_step fu a247 c254_length k2).2.2 c254_at c254_kind c254_start c254_value) _
      unfold s96_X5_step_2
      refine dz_Tlt (fun h6 => ?_) (fun h6 => ?_)
      · skip
        refine dz_Tin (by omega) (by omega) ?_
        refine dz_Tbe (show f92_X5_isLetter fu (a247 c254_at.toNatClampNeg) = (if ((a247 c254_at.toNatClampNeg) < (97 : Int32)) then (some (0 : Int32)) else (if ((122 : Int32) < (a247 c254_at.toNatClampNeg)) then (some (0 : Int32)) else (some (1 : Int32)))) from rfl) ?_
        have e7 := dz_l97
        refine dz_Tltb (fun h8 => ?_) (fun h8 => ?_)
        · skip
          refine dz_Tsb ?_
          refine dz_Teq (fun h9 => ?_) (fun h9 => ?_)
          · skip
            refine dz_Tin (by omega) (by omega) ?_
            refine dz_Tbe (show f93_X5_isDigit fu (a247 c254_at.toNatClampNeg) = (if ((a247 c254_at.toNatClampNeg) < (48 : Int32)) then (some (0 : Int32)) else (if ((57 : Int32) < (a247 c254_at.toNatClampNeg)) then (some (0 : Int32)) else (some (1 : Int32)))) from rfl) ?_
            have e10 := dz_l48
            refine dz_Tltb (fun h11 => ?_) (fun h11 => ?_)
            · skip
              refine dz_Tsb ?_
              refine dz_Teq (fun h12 => ?_) (fun h12 => ?_)
              · skip
                refine dz_Tin (by omega) (by omega) ?_
                have e13 := dz_l59
                refine dz_Teq (fun h14 => ?_) (fun h14 => ?_)
                · skip
                  exfalso; omega
                · skip
                  obtain ⟨k3, rfl⟩ : ∃ x, k2 = x + 1 := ⟨k2 - 1, by omega⟩
                  show dz_T (s96_X5_step_3 fu a247 c254_length (4 : Int32) c254_at c254_kind c254_at c254_value) _
                  unfold s96_X5_step_3
                  have e15 := dz_l1
                  have e16 := dz_add (a := c254_at) (b := (1 : Int32)) (by omega) (by omega)
                  have e17 := dz_l4
                  refine dz_Ts ?_
                  dsimp only
                  exact ⟨(by omega), (by omega), i0, i1, (by omega)⟩
              · skip
                exfalso; omega
            · skip
              have e18 := dz_l57
              refine dz_Tltb (fun h19 => ?_) (fun h19 => ?_)
              · skip
                refine dz_Tsb ?_
                refine dz_Teq (fun h20 => ?_) (fun h20 => ?_)
                · skip
                  refine dz_Tin (by omega) (by omega) ?_
                  have e21 := dz_l59
                  refine dz_Teq (fun h22 => ?_) (fun h22 => ?_)
                  · skip
                    obtain ⟨k4, rfl⟩ : ∃ x, k2 = x + 1 := ⟨k2 - 1, by omega⟩
                    show dz_T (s96_X5_step_3 fu a247 c254_length (3 : Int32) c254_at c254_kind c254_at c254_value) _
                    unfold s96_X5_step_3
                    have e23 := dz_l1
                    have e24 := dz_add (a := c254_at) (b := (1 : Int32)) (by omega) (by omega)
                    have e25 := dz_l3
                    refine dz_Ts ?_
                    dsimp only
                    exact ⟨(by omega), (by omega), i0, i1, (by omega)⟩
                  · skip
                    obtain ⟨k5, rfl⟩ : ∃ x, k2 = x + 1 := ⟨k2 - 1, by omega⟩
                    show dz_T (s96_X5_step_3 fu a247 c254_length (4 : Int32) c254_at c254_kind c254_at c254_value) _
                    unfold s96_X5_step_3
                    have e26 := dz_l1
                    have e27 := dz_add (a := c254_at) (b := (1 : Int32)) (by omega) (by omega)
                    have e28 := dz_l4
                    refine dz_Ts ?_
                    dsimp only
                    exact ⟨(by omega), (by omega), i0, i1, (by omega)⟩
                · skip
                  exfalso; omega
              · skip
                refine dz_Tsb ?_
                have e29 := dz_l1
                refine dz_Teq (fun h30 => ?_) (fun h30 => ?_)
                · skip
                  exfalso; omega
                · skip
                  refine dz_Tb (t94_X5_stepNumber fu hfu _ _ _ _ _ p0 p1 i0 i1 i4) (fun r4 q => ?_)
                  obtain ⟨q4_0, q4_1, q4_2⟩ := q
                  refine dz_Ts ?_
                  dsimp only
                  exact ⟨q4_0, q4_1, i0, i1, q4_2⟩
          · skip
            exfalso; omega
        · skip
          have e31 := dz_l122
          refine dz_Tltb (fun h32 => ?_) (fun h32 => ?_)
          · skip
            refine dz_Tsb ?_
            refine dz_Teq (fun h33 => ?_) (fun h33 => ?_)
            · skip
              refine dz_Tin (by omega) (by omega) ?_
              refine dz_Tbe (show f93_X5_isDigit fu (a247 c254_at.toNatClampNeg) = (if ((a247 c254_at.toNatClampNeg) < (48 : Int32)) then (some (0 : Int32)) else (if ((57 : Int32) < (a247 c254_at.toNatClampNeg)) then (some (0 : Int32)) else (some (1 : Int32)))) from rfl) ?_
              have e34 := dz_l48
              refine dz_Tltb (fun h35 => ?_) (fun h35 => ?_)
              · skip
                exfalso; omega
              · skip
                have e36 := dz_l57
                refine dz_Tltb (fun h37 => ?_) (fun h37 => ?_)
                · skip
                  refine dz_Tsb ?_
                  refine dz_Teq (fun h38 => ?_) (fun h38 => ?_)
                  · skip
                    refine dz_Tin (by omega) (by omega) ?_
                    have e39 := dz_l59
                    refine dz_Teq (fun h40 => ?_) (fun h40 => ?_)
                    · skip
                      exfalso; omega
                    · skip
                      obtain ⟨k6, rfl⟩ : ∃ x, k2 = x + 1 := ⟨k2 - 1, by omega⟩
                      show dz_T (s96_X5_step_3 fu a247 c254_length (4 : Int32) c254_at c254_kind c254_at c254_value) _
                      unfold s96_X5_step_3
                      have e41 := dz_l1
                      have e42 := dz_add (a := c254_at) (b := (1 : Int32)) (by omega) (by omega)
                      have e43 := dz_l4
                      refine dz_Ts ?_
                      dsimp only
                      exact ⟨(by omega), (by omega), i0, i1, (by omega)⟩
                  · skip
                    exfalso; omega
                · skip
                  exfalso; omega
            · skip
              exfalso; omega
          · skip
            refine dz_Tsb ?_
            have e44 := dz_l1
            refine dz_Teq (fun h45 => ?_) (fun h45 => ?_)
            · skip
              exfalso; omega
            · skip
              refine dz_Tb (t95_X5_stepWord fu hfu _ _ _ _ _ p0 p1 i0 i1 i4) (fun r6 q => ?_)
              obtain ⟨q6_0, q6_1, q6_2⟩ := q
              refine dz_Ts ?_
              dsimp only
              exact ⟨q6_0, q6_1, i0, i1, q6_2⟩
      · skip
        exfalso; omega
    · skip
      have e46 := dz_l1
      have e47 := dz_add (a := c254_at) (b := (1 : Int32)) (by omega) (by omega)
      exact (ih k0 (by omega)) (c254_at + (1 : Int32)) c254_kind c254_start c254_value (by omega) (by omega) i2 i3 (by omega) (by omega)
theorem t96_X5_step_I (fu : Nat) (hfu : 1000000000000 ≤ fu) (a247 : Nat → Int32) (c254_length : Int32) (p0 : c254_length.toInt ≤ 400) (p1 : 0 ≤ c254_length.toInt) (k : Nat) : p96_X5_step fu a247 c254_length k := by
  induction k using Nat.strongRecOn with
  | _ k ih => exact t96_X5_step_h1 fu hfu a247 c254_length p0 p1 k ih
set_option maxHeartbeats 1000000 in
set_option maxRecDepth 10000 in
theorem t96_X5_step_E (fu : Nat) (hfu : 1000000000000 ≤ fu) (a247 : Nat → Int32) (c254_length : Int32) (c254_at : Int32) (c254_kind : Int32) (c254_start : Int32) (c254_value : Int32) (p0 : c254_length.toInt ≤ 400) (p1 : 0 ≤ c254_length.toInt) (p2 : c254_at.toInt ≤ 400) (p3 : 0 ≤ c254_at.toInt) (p4 : c254_start.toInt ≤ 400) (p5 : 0 ≤ c254_start.toInt) (p6 : c254_at.toInt ≤ c254_length.toInt) (kv : Nat) (hkv : 1000000000000 ≤ kv) : dz_T (s96_X5_step_0 fu a247 c254_length (F96_X5_step fu a247 c254_length kv).1  c254_at c254_kind c254_start c254_value) (fun r => r.1.toInt ≤ 400 ∧ 0 ≤ r.1.toInt ∧ r.2.2.1.toInt ≤ 400 ∧ 0 ≤ r.2.2.1.toInt ∧ r.1.toInt ≤ c254_length.toInt) := by
  unfold s96_X5_step_0
  exact (t96_X5_step_I fu hfu a247 c254_length p0 p1 kv) c254_at c254_kind c254_start c254_value p2 p3 p4 p5 p6 (by omega)
theorem t96_X5_step (fu : Nat) (hfu : 1000000000000 ≤ fu) (a247 : Nat → Int32) (c254_length : Int32) (c254_at : Int32) (c254_kind : Int32) (c254_start : Int32) (c254_value : Int32) (p0 : c254_length.toInt ≤ 400) (p1 : 0 ≤ c254_length.toInt) (p2 : c254_at.toInt ≤ 400) (p3 : 0 ≤ c254_at.toInt) (p4 : c254_start.toInt ≤ 400) (p5 : 0 ≤ c254_start.toInt) (p6 : c254_at.toInt ≤ c254_length.toInt) : dz_T (f96_X5_step fu a247 c254_length c254_at c254_kind c254_start c254_value) (fun r => r.1.toInt ≤ 400 ∧ 0 ≤ r.1.toInt ∧ r.2.2.1.toInt ≤ 400 ∧ 0 ≤ r.2.2.1.toInt ∧ r.1.toInt ≤ c254_length.toInt) :=
  t96_X5_step_E fu hfu a247 c254_length c254_at c254_kind c254_start c254_value p0 p1 p2 p3 p4 p5 p6 fu hfu
set_option maxHeartbeats 1000000 in
set_option maxRecDepth 10000 in
theorem t97_X5_fail (fu : Nat) (hfu : 1000000000000 ≤ fu) (c254_start : Int32) (v1 : Int32) (c254_fault : Int32) (c254_place : Int32) (p0 : c254_start.toInt ≤ 400) (p1 : 0 ≤ c254_start.toInt) : dz_T (f97_X5_fail fu c254_start v1 c254_fault c254_place) (fun r => r.1.toInt ≤ 0 ∧ 0 ≤ r.1.toInt ∧ (r.2.1.toInt = v1.toInt)) := by
  unfold f97_X5_fail s97_X5_fail_0
  have e1 := dz_l0
  refine dz_Ts ?_
  dsimp only
  exact ⟨(by omega), (by omega), (by omega)⟩
set_option maxHeartbeats 1000000 in
set_option maxRecDepth 10000 in
theorem t98_X5_isRoomForBar (fu : Nat) (hfu : 1000000000000 ≤ fu) (c254_start : Int32) (c255_bars : Int32) (c254_fault : Int32) (c254_place : Int32) (p0 : c254_start.toInt ≤ 400) (p1 : 0 ≤ c254_start.toInt) (p2 : c255_bars.toInt ≤ 10) (p3 : 0 ≤ c255_bars.toInt) : dz_T (f98_X5_isRoomForBar fu c254_start c255_bars c254_fault c254_place) (fun r => r.1.toInt ≤ 1 ∧ 0 ≤ r.1.toInt ∧ (r.1.toInt ≠ 0 ∨ r.2.1.toInt ≠ 0)) := by
  unfold f98_X5_isRoomForBar s98_X5_isRoomForBar_0
  have e1 := dz_l10
  refine dz_Tlt (fun h2 => ?_) (fun h2 => ?_)
  · skip
    unfold d98_X5_isRoomForBar_1 s98_X5_isRoomForBar_1
    have e3 := dz_l1
    refine dz_Ts ?_
    dsimp only
    exact ⟨(by omega), (by omega), (by omega)⟩
  · skip
    have e4 := dz_l2
    refine dz_Tb (t97_X5_fail fu hfu _ _ _ _ p0 p1) (fun r1 q => ?_)
    obtain ⟨q1_0, q1_1, qo1_0⟩ := q
    have e5 := dz_l0
    refine dz_Teq (fun h6 => ?_) (fun h6 => ?_)
    · skip
      refine dz_Ts ?_
      dsimp only
      exact ⟨(by omega), (by omega), (by omega)⟩
    · skip
      exfalso; omega
set_option maxHeartbeats 1000000 in
set_option maxRecDepth 10000 in
theorem t100_X5_isName (fu : Nat) (hfu : 1000000000000 ≤ fu) (c254_kind : Int32) (c254_start : Int32) (c254_value : Int32) (c254_fault : Int32) (c254_place : Int32) (p0 : c254_start.toInt ≤ 400) (p1 : 0 ≤ c254_start.toInt) : dz_T (f100_X5_isName fu c254_kind c254_start c254_value c254_fault c254_place) (fun r => r.1.toInt ≤ 1 ∧ 0 ≤ r.1.toInt ∧ (r.1.toInt ≠ 0 ∨ r.2.1.toInt ≠ 0)) := by
  unfold f100_X5_isName s100_X5_isName_0
  have e1 := dz_l1
  refine dz_Teq (fun h2 => ?_) (fun h2 => ?_)
  · skip
    refine dz_Tbe (show f99_X5_isOfLanguage fu c254_value = (if (c254_value = (50383488 : Int32)) then (some (1 : Int32)) else (if (c254_value = (54967924 : Int32)) then (some (1 : Int32)) else (if (c254_value = (211555456 : Int32)) then (some (1 : Int32)) else (if (c254_value = (254268947 : Int32)) then (some (1 : Int32)) else (if (c254_value = (437857280 : Int32)) then (some (1 : Int32)) else (if (c254_value = (475731520 : Int32)) then (some (1 : Int32)) else (if (c254_value = (553254912 : Int32)) then (some (1 : Int32)) else (some (0 : Int32))))))))) from rfl) ?_
    have e3 := dz_l50383488
    refine dz_Teqb (fun h4 => ?_) (fun h4 => ?_)
    · skip
      refine dz_Tsb ?_
      have e5 := dz_l0
      refine dz_Teq (fun h6 => ?_) (fun h6 => ?_)
      · skip
        exfalso; omega
      · skip
        unfold d100_X5_isName_1 s100_X5_isName_1
        refine dz_Tb (t97_X5_fail fu hfu _ _ _ _ p0 p1) (fun r2 q => ?_)
        obtain ⟨q2_0, q2_1, qo2_0⟩ := q
        refine dz_Teq (fun h7 => ?_) (fun h7 => ?_)
        · skip
          refine dz_Ts ?_
          dsimp only
          exact ⟨(by omega), (by omega), (by omega)⟩
        · skip
          exfalso; omega
    · skip
      have e8 := dz_l54967924
      refine dz_Teqb (fun h9 => ?_) (fun h9 => ?_)
      · skip
        refine dz_Tsb ?_
        have e10 := dz_l0
        refine dz_Teq (fun h11 => ?_) (fun h11 => ?_)
        · skip
          exfalso; omega
        · skip
          unfold d100_X5_isName_1 s100_X5_isName_1
          refine dz_Tb (t97_X5_fail fu hfu _ _ _ _ p0 p1) (fun r3 q => ?_)
          obtain ⟨q3_0, q3_1, qo3_0⟩ := q
          refine dz_Teq (fun h12 => ?_) (fun h12 => ?_)
          · skip
            refine dz_Ts ?_
            dsimp only
            exact ⟨(by omega), (by omega), (by omega)⟩
          · skip
            exfalso; omega
      · skip
        have e13 := dz_l211555456
        refine dz_Teqb (fun h14 => ?_) (fun h14 => ?_)
        · skip
          refine dz_Tsb ?_
          have e15 := dz_l0
          refine dz_Teq (fun h16 => ?_) (fun h16 => ?_)
          · skip
            exfalso; omega
          · skip
            unfold d100_X5_isName_1 s100_X5_isName_1
            refine dz_Tb (t97_X5_fail fu hfu _ _ _ _ p0 p1) (fun r4 q => ?_)
            obtain ⟨q4_0, q4_1, qo4_0⟩ := q
            refine dz_Teq (fun h17 => ?_) (fun h17 => ?_)
            · skip
              refine dz_Ts ?_
              dsimp only
              exact ⟨(by omega), (by omega), (by omega)⟩
            · skip
              exfalso; omega
        · skip
          have e18 := dz_l254268947
          refine dz_Teqb (fun h19 => ?_) (fun h19 => ?_)
          · skip
            refine dz_Tsb ?_
            have e20 := dz_l0
            refine dz_Teq (fun h21 => ?_) (fun h21 => ?_)
            · skip
              exfalso; omega
            · skip
              unfold d100_X5_isName_1 s100_X5_isName_1
              refine dz_Tb (t97_X5_fail fu hfu _ _ _ _ p0 p1) (fun r5 q => ?_)
              obtain ⟨q5_0, q5_1, qo5_0⟩ := q
              refine dz_Teq (fun h22 => ?_) (fun h22 => ?_)
              · skip
                refine dz_Ts ?_
                dsimp only
                exact ⟨(by omega), (by omega), (by omega)⟩
              · skip
                exfalso; omega
          · skip
            have e23 := dz_l437857280
            refine dz_Teqb (fun h24 => ?_) (fun h24 => ?_)
            · skip
              refine dz_Tsb ?_
              have e25 := dz_l0
              refine dz_Teq (fun h26 => ?_) (fun h26 => ?_)
              · skip
                exfalso; omega
              · skip
                unfold d100_X5_isName_1 s100_X5_isName_1
                refine dz_Tb (t97_X5_fail fu hfu _ _ _ _ p0 p1) (fun r6 q => ?_)
                obtain ⟨q6_0, q6_1, qo6_0⟩ := q
                refine dz_Teq (fun h27 => ?_) (fun h27 => ?_)
                · skip
                  refine dz_Ts ?_
                  dsimp only
                  exact ⟨(by omega), (by omega), (by omega)⟩
                · skip
                  exfalso; omega
            · skip
              have e28 := dz_l475731520
              refine dz_Teqb (fun h29 => ?_) (fun h29 => ?_)
              · skip
                refine dz_Tsb ?_
                have e30 := dz_l0
                refine dz_Teq (fun h31 => ?_) (fun h31 => ?_)
                · skip
                  exfalso; omega
                · skip
                  unfold d100_X5_isName_1 s100_X5_isName_1
                  refine dz_Tb (t97_X5_fail fu hfu _ _ _ _ p0 p1) (fun r7 q => ?_)
                  obtain ⟨q7_0, q7_1, qo7_0⟩ := q
                  refine dz_Teq (fun h32 => ?_) (fun h32 => ?_)
                  · skip
                    refine dz_Ts ?_
                    dsimp only
                    exact ⟨(by omega), (by omega), (by omega)⟩
                  · skip
                    exfalso; omega
              · skip
                have e33 := dz_l553254912
                refine dz_Teqb (fun h34 => ?_) (fun h34 => ?_)
                · skip
                  refine dz_Tsb ?_
                  have e35 := dz_l0
                  refine dz_Teq (fun h36 => ?_) (fun h36 => ?_)
                  · skip
                    exfalso; omega
                  · skip
                    unfold d100_X5_isName_1 s100_X5_isName_1
                    refine dz_Tb (t97_X5_fail fu hfu _ _ _ _ p0 p1) (fun r8 q => ?_)
                    obtain ⟨q8_0, q8_1, qo8_0⟩ := q
                    refine dz_Teq (fun h37 => ?_) (fun h37 => ?_)
                    · skip
                      refine dz_Ts ?_
                      dsimp only
                      exact ⟨(by omega), (by omega), (by omega)⟩
                    · skip
                      exfalso; omega
                · skip
                  refine dz_Tsb ?_
                  have e38 := dz_l0
                  refine dz_Teq (fun h39 => ?_) (fun h39 => ?_)
                  · skip
                    unfold d100_X5_isName_2 s100_X5_isName_2
                    refine dz_Ts ?_
                    dsimp only
                    exact ⟨(by omega), (by omega), (by omega)⟩
                  · skip
                    exfalso; omega
  · skip
    unfold d100_X5_isName_1 s100_X5_isName_1
    refine dz_Tb (t97_X5_fail fu hfu _ _ _ _ p0 p1) (fun r9 q => ?_)
    obtain ⟨q9_0, q9_1, qo9_0⟩ := q
    have e40 := dz_l0
    refine dz_Teq (fun h41 => ?_) (fun h41 => ?_)
    · skip
      refine dz_Ts ?_
      dsimp only
      exact ⟨(by omega), (by omega), (by omega)⟩
    · skip
      exfalso; omega
abbrev p101_X3_find (fu : Nat) (a256 : Nat → Int32) (k : Nat) : Prop :=
  (∀ (v1 : Int32) (v2 : Int32) (v3 : Int32), v3.toInt ≤ 12 → 0 ≤ v3.toInt → 0 + 0 + (12 - v3.toInt) * 10 + 5 ≤ ((k : Nat) : Int) → dz_T ((F101_X3_find fu a256 k) v1 v2 v3) (fun r => r.toInt ≤ 11 ∧ (-1) ≤ r.toInt))
set_option maxHeartbeats 1000000 in
set_option maxRecDepth 10000 in
theorem t101_X3_find_h1 (fu : Nat) (hfu : 1000000000000 ≤ fu) (a256 : Nat → Int32) (k : Nat) (ih : ∀ j9, j9 < k → p101_X3_find fu a256 j9) : ∀ (v1 : Int32) (v2 : Int32) (v3 : Int32), v3.toInt ≤ 12 → 0 ≤ v3.toInt → 0 + 0 + (12 - v3.toInt) * 10 + 5 ≤ ((k : Nat) : Int) → dz_T ((F101_X3_find fu a256 k) v1 v2 v3) (fun r => r.toInt ≤ 11 ∧ (-1) ≤ r.toInt) := by
  intro v1 v2 v3 i0 i1 hm
  obtain ⟨k0, rfl⟩ : ∃ x, k = x + 1 := ⟨k - 1, by omega⟩
  show dz_T (s101_X3_find_1 fu a256 (F101_X3_find fu a256 k0)  v1 v2 v3) _
  unfold s101_X3_find_1
  refine dz_Tle (fun h1 => ?_) (fun h1 => ?_)
  · skip
    have e2 := dz_lm1
    exact dz_Ts ⟨(by omega), (by omega)⟩
  · skip
    have e3 := dz_l12
    refine dz_Tle (fun h4 => ?_) (fun h4 => ?_)
    · skip
      have e5 := dz_lm1
      exact dz_Ts ⟨(by omega), (by omega)⟩
    · skip
      refine dz_Tin (by omega) (by omega) ?_
      refine dz_Teq (fun h6 => ?_) (fun h6 => ?_)
      · skip
        exact dz_Ts ⟨(by first | assumption | omega), (by first | assumption | omega)⟩
      · skip
        have e7 := dz_l1
        have e8 := dz_add (a := v3) (b := (1 : Int32)) (by omega) (by omega)
        exact (ih k0 (by omega)) v1 v2 (v3 + (1 : Int32)) (by omega) (by omega) (by omega)
theorem t101_X3_find_I (fu : Nat) (hfu : 1000000000000 ≤ fu) (a256 : Nat → Int32) (k : Nat) : p101_X3_find fu a256 k := by
  induction k using Nat.strongRecOn with
  | _ k ih => exact t101_X3_find_h1 fu hfu a256 k ih
set_option maxHeartbeats 1000000 in
set_option maxRecDepth 10000 in
theorem t101_X3_find_E (fu : Nat) (hfu : 1000000000000 ≤ fu) (a256 : Nat → Int32) (v1 : Int32) (v2 : Int32) (kv : Nat) (hkv : 1000000000000 ≤ kv) : dz_T (s101_X3_find_0 fu a256 (F101_X3_find fu a256 kv)  v1 v2) (fun r => r.toInt ≤ 11 ∧ (-1) ≤ r.toInt) := by
  unfold s101_X3_find_0
  have e1 := dz_l0
  exact (t101_X3_find_I fu hfu a256 kv) v1 v2 (0 : Int32) (by omega) (by omega) (by omega)
theorem t101_X3_find (fu : Nat) (hfu : 1000000000000 ≤ fu) (a256 : Nat → Int32) (v1 : Int32) (v2 : Int32) : dz_T (f101_X3_find fu a256 v1 v2) (fun r => r.toInt ≤ 11 ∧ (-1) ≤ r.toInt) :=
  t101_X3_find_E fu hfu a256 v1 v2 fu hfu
set_option maxHeartbeats 1000000 in
set_option maxRecDepth 10000 in
theorem t102_X3_teamNamed (fu : Nat) (hfu : 1000000000000 ≤ fu) (c255_teams : Int32) (a256 : Nat → Int32) (v1 : Int32) (p0 : c255_teams.toInt ≤ 12) (p1 : 0 ≤ c255_teams.toInt) : dz_T (f102_X3_teamNamed fu c255_teams a256 v1) (fun r => r.toInt ≤ 11 ∧ (-1) ≤ r.toInt) := by
  unfold f102_X3_teamNamed s102_X3_teamNamed_0
  refine dz_Tb (t101_X3_find fu hfu _ _ _ ) (fun r1 q => ?_)
  obtain ⟨q1_0, q1_1⟩ := q
  exact dz_Ts ⟨q1_0, q1_1⟩
set_option maxHeartbeats 1000000 in
set_option maxRecDepth 10000 in
theorem t103_X5_readTeam (fu : Nat) (hfu : 1000000000000 ≤ fu) (c254_kind : Int32) (c254_start : Int32) (c254_value : Int32) (c255_teams : Int32) (a256 : Nat → Int32) (c254_fault : Int32) (c254_place : Int32) (p0 : c254_start.toInt ≤ 400) (p1 : 0 ≤ c254_start.toInt) (p2 : c255_teams.toInt ≤ 12) (p3 : 0 ≤ c255_teams.toInt) : dz_T (f103_X5_readTeam fu c254_kind c254_start c254_value c255_teams a256 c254_fault c254_place) (fun r => r.1.toInt ≤ 11 ∧ (-1) ≤ r.1.toInt ∧ (0 ≤ r.1.toInt ∨ r.2.1.toInt ≠ 0)) := by
  unfold f103_X5_readTeam s103_X5_readTeam_0
  refine dz_Tb (t100_X5_isName fu hfu _ _ _ _ _ p0 p1) (fun r1 q => ?_)
  obtain ⟨q1_0, q1_1, qo1_0⟩ := q
  have e1 := dz_l0
  refine dz_Teq (fun h2 => ?_) (fun h2 => ?_)
  · skip
    have e3 := dz_lm1
    refine dz_Ts ?_
    dsimp only
    exact ⟨(by omega), (by omega), (by omega)⟩
  · skip
    refine dz_Tb (t102_X3_teamNamed fu hfu _ _ _ p2 p3) (fun r2 q => ?_)
    obtain ⟨q2_0, q2_1⟩ := q
    have e4 := dz_lm1
    refine dz_Teq (fun h5 => ?_) (fun h5 => ?_)
    · skip
      have e6 := dz_l4
      refine dz_Tb (t97_X5_fail fu hfu _ _ _ _ p0 p1) (fun r3 q => ?_)
      obtain ⟨q3_0, q3_1, qo3_0⟩ := q
      refine dz_Ts ?_
      dsimp only
      exact ⟨q2_0, q2_1, (by omega)⟩
    · skip
      refine dz_Ts ?_
      dsimp only
      exact ⟨q2_0, q2_1, (by omega)⟩
set_option maxHeartbeats 1000000 in
set_option maxRecDepth 10000 in
theorem t104_X3_addBar (fu : Nat) (hfu : 1000000000000 ≤ fu) (v1 : Int32) (v2 : Int32) (c255_bars : Int32) (a259 : Nat → Int32) (a260 : Nat → Int32) (p0 : c255_bars.toInt ≤ 10) (p1 : 0 ≤ c255_bars.toInt) : dz_T (f104_X3_addBar fu v1 v2 c255_bars a259 a260) (fun r => r.1.toInt ≤ 10 ∧ 1 ≤ r.1.toInt) := by
  unfold f104_X3_addBar s104_X3_addBar_0
  have e1 := dz_l10
  refine dz_Tle (fun h2 => ?_) (fun h2 => ?_)
  · skip
    refine dz_Ts ?_
    dsimp only
    exact ⟨p0, (by first | assumption | omega)⟩
  · skip
    refine dz_Tin (by omega) (by omega) ?_
    refine dz_Tin (by omega) (by omega) ?_
    have e3 := dz_l1
    have e4 := dz_add (a := c255_bars) (b := (1 : Int32)) (by omega) (by omega)
    refine dz_Ts ?_
    dsimp only
    exact ⟨(by omega), (by omega)⟩
set_option maxHeartbeats 1000000 in
set_option maxRecDepth 10000 in
theorem t105_X3_addAtMost (fu : Nat) (hfu : 1000000000000 ≤ fu) (v1 : Int32) (v2 : Int32) (c255_bars : Int32) (a259 : Nat → Int32) (a260 : Nat → Int32) (p0 : c255_bars.toInt ≤ 10) (p1 : 0 ≤ c255_bars.toInt) : dz_T (f105_X3_addAtMost fu v1 v2 c255_bars a259 a260) (fun r => r.1.toInt ≤ 10 ∧ 1 ≤ r.1.toInt) := by
  unfold f105_X3_addAtMost s105_X3_addAtMost_0
  have e1 := dz_l4369
  have e2 := dz_rng v1
  refine dz_Tb (t104_X3_addBar fu hfu _ _ _ _ _ p0 p1) (fun r1 q => ?_)
  obtain ⟨q1_0, q1_1⟩ := q
  refine dz_Ts ?_
  dsimp only
  exact ⟨q1_0, q1_1⟩
set_option maxHeartbeats 1000000 in
set_option maxRecDepth 10000 in
theorem t106_X5_readApart (fu : Nat) (hfu : 1000000000000 ≤ fu) (a247 : Nat → Int32) (c254_length : Int32) (c255_teams : Int32) (a256 : Nat → Int32) (c254_fault : Int32) (c254_place : Int32) (c254_at : Int32) (c254_kind : Int32) (c254_start : Int32) (c254_value : Int32) (c255_bars : Int32) (a259 : Nat → Int32) (a260 : Nat → Int32) (p0 : c254_length.toInt ≤ 400) (p1 : 0 ≤ c254_length.toInt) (p2 : c255_teams.toInt ≤ 12) (p3 : 0 ≤ c255_teams.toInt) (p4 : c254_at.toInt ≤ 400) (p5 : 0 ≤ c254_at.toInt) (p6 : c254_start.toInt ≤ 400) (p7 : 0 ≤ c254_start.toInt) (p8 : c255_bars.toInt ≤ 10) (p9 : 0 ≤ c255_bars.toInt) (p10 : c254_at.toInt ≤ c254_length.toInt) : dz_T (f106_X5_readApart fu a247 c254_length c255_teams a256 c254_fault c254_place c254_at c254_kind c254_start c254_value c255_bars a259 a260) (fun r => r.1.toInt ≤ 1 ∧ 0 ≤ r.1.toInt ∧ r.2.2.2.1.toInt ≤ 400 ∧ 0 ≤ r.2.2.2.1.toInt ∧ r.2.2.2.2.2.1.toInt ≤ 400 ∧ 0 ≤ r.2.2.2.2.2.1.toInt ∧ r.2.2.2.2.2.2.2.1.toInt ≤ 10 ∧ 0 ≤ r.2.2.2.2.2.2.2.1.toInt ∧ r.1.toInt ≤ r.2.2.2.2.2.2.2.1.toInt ∧ r.2.2.2.1.toInt ≤ c254_length.toInt ∧ (r.1.toInt ≠ 0 ∨ r.2.1.toInt ≠ 0)) := by
  unfold f106_X5_readApart s106_X5_readApart_0
  refine dz_Tb (t96_X5_step fu hfu _ _ _ _ _ _ p0 p1 p4 p5 p6 p7 p10) (fun r1 q => ?_)
  obtain ⟨q1_0, q1_1, q1_2, q1_3, q1_4⟩ := q
  refine dz_Tb (t103_X5_readTeam fu hfu _ _ _ _ _ _ _ q1_2 q1_3 p2 p3) (fun r2 q => ?_)
  obtain ⟨q2_0, q2_1, qo2_0⟩ := q
  have e1 := dz_lm1
  refine dz_Teq (fun h2 => ?_) (fun h2 => ?_)
  · skip
    have e3 := dz_l0
    refine dz_Ts ?_
    dsimp only
    exact ⟨(by omega), (by omega), q1_0, q1_1, q1_2, q1_3, p8, p9, (by omega), q1_4, (by omega)⟩
  · skip
    refine dz_Tb (t96_X5_step fu hfu _ _ _ _ _ _ p0 p1 q1_0 q1_1 q1_2 q1_3 q1_4) (fun r3 q => ?_)
    obtain ⟨q3_0, q3_1, q3_2, q3_3, q3_4⟩ := q
    refine dz_Tb (t103_X5_readTeam fu hfu _ _ _ _ _ _ _ q3_2 q3_3 p2 p3) (fun r4 q => ?_)
    obtain ⟨q4_0, q4_1, qo4_0⟩ := q
    refine dz_Teq (fun h4 => ?_) (fun h4 => ?_)
    · skip
      have e5 := dz_l0
      refine dz_Ts ?_
      dsimp only
      exact ⟨(by omega), (by omega), q3_0, q3_1, q3_2, q3_3, p8, p9, (by omega), q3_4, (by omega)⟩
    · skip
      refine dz_Teq (fun h6 => ?_) (fun h6 => ?_)
      · skip
        have e7 := dz_l3
        refine dz_Tb (t97_X5_fail fu hfu _ _ _ _ q3_2 q3_3) (fun r5 q => ?_)
        obtain ⟨q5_0, q5_1, qo5_0⟩ := q
        refine dz_Tg (dz_nb (by omega)) ?_
        refine dz_Ts ?_
        dsimp only
        exact ⟨(by first | assumption | omega), q5_1, q3_0, q3_1, q3_2, q3_3, p8, p9, (by first | assumption | omega), q3_4, (by omega)⟩
      · skip
        have e8 := dz_l1
        have e9 := dz_l31
        have e10 := dz_andr (a := r2.1) (b := (31 : Int32)) (by omega)
        have e11 := dz_andl (a := r2.1) (b := (31 : Int32)) (by omega)
        have e12 := dz_shl1 (b := r2.1) 0 11 (by omega) (by omega) (by omega)
        have e13 := dz_andr (a := r4.1) (b := (31 : Int32)) (by omega)
        have e14 := dz_andl (a := r4.1) (b := (31 : Int32)) (by omega)
        have e15 := dz_shl1 (b := r4.1) 0 11 (by omega) (by omega) (by omega)
        have e16 := dz_orb (a := ((1 : Int32) <<< (r2.1 &&& (31 : Int32)))) (b := ((1 : Int32) <<< (r4.1 &&& (31 : Int32)))) 12 (by omega) (by omega) (by omega) (by omega) (by omega)
        refine dz_Tb (t105_X3_addAtMost fu hfu _ _ _ _ _ p8 p9) (fun r6 q => ?_)
        obtain ⟨q6_0, q6_1⟩ := q
        refine dz_Tb (t96_X5_step fu hfu _ _ _ _ _ _ p0 p1 q3_0 q3_1 q3_2 q3_3 q3_4) (fun r7 q => ?_)
        obtain ⟨q7_0, q7_1, q7_2, q7_3, q7_4⟩ := q
        refine dz_Ts ?_
        dsimp only
        exact ⟨(by omega), (by omega), q7_0, q7_1, q7_2, q7_3, q6_0, (by first | assumption | omega), (by omega), q7_4, (by omega)⟩
set_option maxHeartbeats 1000000 in
set_option maxRecDepth 10000 in
theorem t107_X5_isNumber (fu : Nat) (hfu : 1000000000000 ≤ fu) (c254_kind : Int32) (c254_start : Int32) (c254_value : Int32) (v1 : Int32) (v2 : Int32) (c254_fault : Int32) (c254_place : Int32) (p0 : c254_start.toInt ≤ 400) (p1 : 0 ≤ c254_start.toInt) : dz_T (f107_X5_isNumber fu c254_kind c254_start c254_value v1 v2 c254_fault c254_place) (fun r => r.1.toInt ≤ 1 ∧ 0 ≤ r.1.toInt ∧ (r.1.toInt = 0 ∨ (v1.toInt ≤ c254_value.toInt ∧ c254_value.toInt ≤ v2.toInt)) ∧ (r.1.toInt ≠ 0 ∨ r.2.1.toInt ≠ 0)) := by
  unfold f107_X5_isNumber s107_X5_isNumber_0
  have e1 := dz_l2
  refine dz_Teq (fun h2 => ?_) (fun h2 => ?_)
  · skip
    refine dz_Tlt (fun h3 => ?_) (fun h3 => ?_)
    · skip
      unfold d107_X5_isNumber_1 s107_X5_isNumber_1
      refine dz_Tb (t97_X5_fail fu hfu _ _ _ _ p0 p1) (fun r1 q => ?_)
      obtain ⟨q1_0, q1_1, qo1_0⟩ := q
      have e4 := dz_l0
      refine dz_Teq (fun h5 => ?_) (fun h5 => ?_)
      · skip
        refine dz_Ts ?_
        dsimp only
        exact ⟨(by omega), (by omega), (by omega), (by omega)⟩
      · skip
        exfalso; omega
    · skip
      refine dz_Tle (fun h6 => ?_) (fun h6 => ?_)
      · skip
        unfold d107_X5_isNumber_2 s107_X5_isNumber_2
        have e7 := dz_l1
        refine dz_Ts ?_
        dsimp only
        exact ⟨(by omega), (by omega), (by omega), (by omega)⟩
      · skip
        unfold d107_X5_isNumber_1 s107_X5_isNumber_1
        refine dz_Tb (t97_X5_fail fu hfu _ _ _ _ p0 p1) (fun r2 q => ?_)
        obtain ⟨q2_0, q2_1, qo2_0⟩ := q
        have e8 := dz_l0
        refine dz_Teq (fun h9 => ?_) (fun h9 => ?_)
        · skip
          refine dz_Ts ?_
          dsimp only
          exact ⟨(by omega), (by omega), (by omega), (by omega)⟩
        · skip
          exfalso; omega
  · skip
    have e10 := dz_l1
    refine dz_Tb (t97_X5_fail fu hfu _ _ _ _ p0 p1) (fun r3 q => ?_)
    obtain ⟨q3_0, q3_1, qo3_0⟩ := q
    refine dz_Tg (dz_nb (by omega)) ?_
    refine dz_Ts ?_
    dsimp only
    exact ⟨(by first | assumption | omega), q3_1, (by omega), (by omega)⟩
abbrev p108_X3_find (fu : Nat) (a258 : Nat → Int32) (k : Nat) : Prop :=
  (∀ (v1 : Int32) (v2 : Int32) (v3 : Int32), v3.toInt ≤ 6 → 0 ≤ v3.toInt → 0 + 0 + (6 - v3.toInt) * 10 + 5 ≤ ((k : Nat) : Int) → dz_T ((F108_X3_find fu a258 k) v1 v2 v3) (fun r => r.toInt ≤ 5 ∧ (-1) ≤ r.toInt))
set_option maxHeartbeats 1000000 in
set_option maxRecDepth 10000 in
theorem t108_X3_find_h1 (fu : Nat) (hfu : 1000000000000 ≤ fu) (a258 : Nat → Int32) (k : Nat) (ih : ∀ j9, j9 < k → p108_X3_find fu a258 j9) : ∀ (v1 : Int32) (v2 : Int32) (v3 : Int32), v3.toInt ≤ 6 → 0 ≤ v3.toInt → 0 + 0 + (6 - v3.toInt) * 10 + 5 ≤ ((k : Nat) : Int) → dz_T ((F108_X3_find fu a258 k) v1 v2 v3) (fun r => r.toInt ≤ 5 ∧ (-1) ≤ r.toInt) := by
  intro v1 v2 v3 i0 i1 hm
  obtain ⟨k0, rfl⟩ : ∃ x, k = x + 1 := ⟨k - 1, by omega⟩
  show dz_T (s108_X3_find_1 fu a258 (F108_X3_find fu a258 k0)  v1 v2 v3) _
  unfold s108_X3_find_1
  refine dz_Tle (fun h1 => ?_) (fun h1 => ?_)
  · skip
    have e2 := dz_lm1
    exact dz_Ts ⟨(by omega), (by omega)⟩
  · skip
    have e3 := dz_l6
    refine dz_Tle (fun h4 => ?_) (fun h4 => ?_)
    · skip
      have e5 := dz_lm1
      exact dz_Ts ⟨(by omega), (by omega)⟩
    · skip
      refine dz_Tin (by omega) (by omega) ?_
      refine dz_Teq (fun h6 => ?_) (fun h6 => ?_)
      · skip
        exact dz_Ts ⟨(by first | assumption | omega), (by first | assumption | omega)⟩
      · skip
        have e7 := dz_l1
        have e8 := dz_add (a := v3) (b := (1 : Int32)) (by omega) (by omega)
        exact (ih k0 (by omega)) v1 v2 (v3 + (1 : Int32)) (by omega) (by omega) (by omega)
theorem t108_X3_find_I (fu : Nat) (hfu : 1000000000000 ≤ fu) (a258 : Nat → Int32) (k : Nat) : p108_X3_find fu a258 k := by
  induction k using Nat.strongRecOn with
  | _ k ih => exact t108_X3_find_h1 fu hfu a258 k ih
set_option maxHeartbeats 1000000 in
set_option maxRecDepth 10000 in
theorem t108_X3_find_E (fu : Nat) (hfu : 1000000000000 ≤ fu) (a258 : Nat → Int32) (v1 : Int32) (v2 : Int32) (kv : Nat) (hkv : 1000000000000 ≤ kv) : dz_T (s108_X3_find_0 fu a258 (F108_X3_find fu a258 kv)  v1 v2) (fun r => r.toInt ≤ 5 ∧ (-1) ≤ r.toInt) := by
  unfold s108_X3_find_0
  have e1 := dz_l0
  exact (t108_X3_find_I fu hfu a258 kv) v1 v2 (0 : Int32) (by omega) (by omega) (by omega)
theorem t108_X3_find (fu : Nat) (hfu : 1000000000000 ≤ fu) (a258 : Nat → Int32) (v1 : Int32) (v2 : Int32) : dz_T (f108_X3_find fu a258 v1 v2) (fun r => r.toInt ≤ 5 ∧ (-1) ≤ r.toInt) :=
  t108_X3_find_E fu hfu a258 v1 v2 fu hfu
set_option maxHeartbeats 1000000 in
set_option maxRecDepth 10000 in
theorem t109_X3_markNamed (fu : Nat) (hfu : 1000000000000 ≤ fu) (c255_marks : Int32) (a258 : Nat → Int32) (v1 : Int32) (p0 : c255_marks.toInt ≤ 6) (p1 : 0 ≤ c255_marks.toInt) : dz_T (f109_X3_markNamed fu c255_marks a258 v1) (fun r => r.toInt ≤ 5 ∧ (-1) ≤ r.toInt) := by
  unfold f109_X3_markNamed s109_X3_markNamed_0
  refine dz_Tb (t108_X3_find fu hfu _ _ _ ) (fun r1 q => ?_)
  obtain ⟨q1_0, q1_1⟩ := q
  exact dz_Ts ⟨q1_0, q1_1⟩
abbrev p110_X3_teamsMarked (fu : Nat) (c255_teams : Int32) (a257 : Nat → Int32) (k : Nat) : Prop :=
  (∀ (v1 : Int32) (v2 : Int32) (v3 : Int32), v2.toInt ≤ 16777215 → 0 ≤ v2.toInt → v3.toInt ≤ 12 → 0 ≤ v3.toInt → v3.toInt ≤ c255_teams.toInt → 0 + 0 + (12 - v3.toInt) * 10 + 5 ≤ ((k : Nat) : Int) → dz_T ((F110_X3_teamsMarked fu c255_teams a257 k) v1 v2 v3) (fun r => r.toInt ≤ 16777215 ∧ 0 ≤ r.toInt))
set_option maxHeartbeats 1000000 in
set_option maxRecDepth 10000 in
theorem t110_X3_teamsMarked_h1 (fu : Nat) (hfu : 1000000000000 ≤ fu) (c255_teams : Int32) (a257 : Nat → Int32) (p0 : c255_teams.toInt ≤ 12) (p1 : 0 ≤ c255_teams.toInt) (k : Nat) (ih : ∀ j9, j9 < k → p110_X3_teamsMarked fu c255_teams a257 j9) : ∀ (v1 : Int32) (v2 : Int32) (v3 : Int32), v2.toInt ≤ 16777215 → 0 ≤ v2.toInt → v3.toInt ≤ 12 → 0 ≤ v3.toInt → v3.toInt ≤ c255_teams.toInt → 0 + 0 + (12 - v3.toInt) * 10 + 5 ≤ ((k : Nat) : Int) → dz_T ((F110_X3_teamsMarked fu c255_teams a257 k) v1 v2 v3) (fun r => r.toInt ≤ 16777215 ∧ 0 ≤ r.toInt) := by
  intro v1 v2 v3 i0 i1 i2 i3 i4 hm
  obtain ⟨k0, rfl⟩ : ∃ x, k = x + 1 := ⟨k - 1, by omega⟩
  show dz_T (s110_X3_teamsMarked_1 fu c255_teams a257 (F110_X3_teamsMarked fu c255_teams a257 k0)  v1 v2 v3) _
  unfold s110_X3_teamsMarked_1
  refine dz_Tle (fun h1 => ?_) (fun h1 => ?_)
  · skip
    exact dz_Ts ⟨i0, i1⟩
  · skip
    refine dz_Tin (by omega) (by omega) ?_
    have e2 := dz_l1
    have e3 := dz_andr (a := (dz_ush (a257 v3.toNatClampNeg) v1)) (b := (1 : Int32)) (by omega)
    have e4 := dz_l31
    have e5 := dz_andr (a := v3) (b := (31 : Int32)) (by omega)
    have e6 := dz_andl (a := v3) (b := (31 : Int32)) (by omega)
    have e7 := dz_shlb (a := ((dz_ush (a257 v3.toNatClampNeg) v1) &&& (1 : Int32))) (b := v3) 1 11 (by omega) (by omega) (by omega) (by omega) (by decide)
    have e8 := dz_orb (a := v2) (b := (((dz_ush (a257 v3.toNatClampNeg) v1) &&& (1 : Int32)) <<< (v3 &&& (31 : Int32)))) 24 (by omega) (by omega) (by omega) (by omega) (by omega)
    have e9 := dz_add (a := v3) (b := (1 : Int32)) (by omega) (by omega)
    exact (ih k0 (by omega)) v1 (v2 ||| (((dz_ush (a257 v3.toNatClampNeg) v1) &&& (1 : Int32)) <<< (v3 &&& (31 : Int32)))) (v3 + (1 : Int32)) (by omega) (by omega) (by omega) (by omega) (by omega) (by omega)
theorem t110_X3_teamsMarked_I (fu : Nat) (hfu : 1000000000000 ≤ fu) (c255_teams : Int32) (a257 : Nat → Int32) (p0 : c255_teams.toInt ≤ 12) (p1 : 0 ≤ c255_teams.toInt) (k : Nat) : p110_X3_teamsMarked fu c255_teams a257 k := by
  induction k using Nat.strongRecOn with
  | _ k ih => exact t110_X3_teamsMarked_h1 fu hfu c255_teams a257 p0 p1 k ih
set_option maxHeartbeats 1000000 in
set_option maxRecDepth 10000 in
theorem t110_X3_teamsMarked_E (fu : Nat) (hfu : 1000000000000 ≤ fu) (c255_teams : Int32) (a257 : Nat → Int32) (v1 : Int32) (p0 : c255_teams.toInt ≤ 12) (p1 : 0 ≤ c255_teams.toInt) (kv : Nat) (hkv : 1000000000000 ≤ kv) : dz_T (s110_X3_teamsMarked_0 fu c255_teams a257 (F110_X3_teamsMarked fu c255_teams a257 kv)  v1) (fun r => r.toInt ≤ 16777215 ∧ 0 ≤ r.toInt) := by
  unfold s110_X3_teamsMarked_0
  have e1 := dz_l0
  exact (t110_X3_teamsMarked_I fu hfu c255_teams a257 p0 p1 kv) v1 (0 : Int32) (0 : Int32) (by omega) (by omega) (by omega) (by omega) (by omega) (by omega)
theorem t110_X3_teamsMarked (fu : Nat) (hfu : 1000000000000 ≤ fu) (c255_teams : Int32) (a257 : Nat → Int32) (v1 : Int32) (p0 : c255_teams.toInt ≤ 12) (p1 : 0 ≤ c255_teams.toInt) : dz_T (f110_X3_teamsMarked fu c255_teams a257 v1) (fun r => r.toInt ≤ 16777215 ∧ 0 ≤ r.toInt) :=
  t110_X3_teamsMarked_E fu hfu c255_teams a257 v1 p0 p1 fu hfu
set_option maxHeartbeats 1000000 in
set_option maxRecDepth 10000 in
theorem t111_X5_readAtMost (fu : Nat) (hfu : 1000000000000 ≤ fu) (a247 : Nat → Int32) (c254_length : Int32) (c255_teams : Int32) (c255_marks : Int32) (a257 : Nat → Int32) (a258 : Nat → Int32) (c254_fault : Int32) (c254_place : Int32) (c254_at : Int32) (c254_kind : Int32) (c254_start : Int32) (c254_value : Int32) (c255_bars : Int32) (a259 : Nat → Int32) (a260 : Nat → Int32) (p0 : c254_length.toInt ≤ 400) (p1 : 0 ≤ c254_length.toInt) (p2 : c255_teams.toInt ≤ 12) (p3 : 0 ≤ c255_teams.toInt) (p4 : c255_marks.toInt ≤ 6) (p5 : 0 ≤ c255_marks.toInt) (p6 : c254_at.toInt ≤ 400) (p7 : 0 ≤ c254_at.toInt) (p8 : c254_start.toInt ≤ 400) (p9 : 0 ≤ c254_start.toInt) (p10 : c255_bars.toInt ≤ 10) (p11 : 0 ≤ c255_bars.toInt) (p12 : c254_at.toInt ≤ c254_length.toInt) : dz_T (f111_X5_readAtMost fu a247 c254_length c255_teams c255_marks a257 a258 c254_fault c254_place c254_at c254_kind c254_start c254_value c255_bars a259 a260) (fun r => r.1.toInt ≤ 1 ∧ 0 ≤ r.1.toInt ∧ r.2.2.2.1.toInt ≤ 400 ∧ 0 ≤ r.2.2.2.1.toInt ∧ r.2.2.2.2.2.1.toInt ≤ 400 ∧ 0 ≤ r.2.2.2.2.2.1.toInt ∧ r.2.2.2.2.2.2.2.1.toInt ≤ 10 ∧ 0 ≤ r.2.2.2.2.2.2.2.1.toInt ∧ r.1.toInt ≤ r.2.2.2.2.2.2.2.1.toInt ∧ r.2.2.2.1.toInt ≤ c254_length.toInt ∧ (r.1.toInt ≠ 0 ∨ r.2.1.toInt ≠ 0)) := by
  unfold f111_X5_readAtMost s111_X5_readAtMost_0
  refine dz_Tb (t96_X5_step fu hfu _ _ _ _ _ _ p0 p1 p6 p7 p8 p9 p12) (fun r1 q => ?_)
  obtain ⟨q1_0, q1_1, q1_2, q1_3, q1_4⟩ := q
  have e1 := dz_l1
  have e2 := dz_l3
  refine dz_Tb (t107_X5_isNumber fu hfu _ _ _ _ _ _ _ q1_2 q1_3) (fun r2 q => ?_)
  obtain ⟨q2_0, q2_1, qo2_0, qo2_1⟩ := q
  have e3 := dz_l0
  refine dz_Teq (fun h4 => ?_) (fun h4 => ?_)
  · skip
    refine dz_Ts ?_
    dsimp only
    exact ⟨(by omega), (by omega), q1_0, q1_1, q1_2, q1_3, p10, p11, (by omega), q1_4, (by omega)⟩
  · skip
    refine dz_Tb (t96_X5_step fu hfu _ _ _ _ _ _ p0 p1 q1_0 q1_1 q1_2 q1_3 q1_4) (fun r3 q => ?_)
    obtain ⟨q3_0, q3_1, q3_2, q3_3, q3_4⟩ := q
    refine dz_Tb (t100_X5_isName fu hfu _ _ _ _ _ q3_2 q3_3) (fun r4 q => ?_)
    obtain ⟨q4_0, q4_1, qo4_0⟩ := q
    refine dz_Teq (fun h5 => ?_) (fun h5 => ?_)
    · skip
      refine dz_Ts ?_
      dsimp only
      exact ⟨(by omega), (by omega), q3_0, q3_1, q3_2, q3_3, p10, p11, (by omega), q3_4, (by omega)⟩
    · skip
      refine dz_Tb (t109_X3_markNamed fu hfu _ _ _ p4 p5) (fun r5 q => ?_)
      obtain ⟨q5_0, q5_1⟩ := q
      have e6 := dz_lm1
      refine dz_Teq (fun h7 => ?_) (fun h7 => ?_)
      · skip
        have e8 := dz_l4
        refine dz_Tb (t97_X5_fail fu hfu _ _ _ _ q3_2 q3_3) (fun r6 q => ?_)
        obtain ⟨q6_0, q6_1, qo6_0⟩ := q
        refine dz_Tg (dz_nb (by omega)) ?_
        refine dz_Ts ?_
        dsimp only
        exact ⟨(by first | assumption | omega), q6_1, q3_0, q3_1, q3_2, q3_3, p10, p11, (by first | assumption | omega), q3_4, (by omega)⟩
      · skip
        refine dz_Tb (t110_X3_teamsMarked fu hfu _ _ _ p2 p3) (fun r7 q => ?_)
        obtain ⟨q7_0, q7_1⟩ := q
        refine dz_Tb (t105_X3_addAtMost fu hfu _ _ _ _ _ p10 p11) (fun r8 q => ?_)
        obtain ⟨q8_0, q8_1⟩ := q
        refine dz_Tb (t96_X5_step fu hfu _ _ _ _ _ _ p0 p1 q3_0 q3_1 q3_2 q3_3 q3_4) (fun r9 q => ?_)
        obtain ⟨q9_0, q9_1, q9_2, q9_3, q9_4⟩ := q
        refine dz_Ts ?_
        dsimp only
        exact ⟨(by omega), (by omega), q9_0, q9_1, q9_2, q9_3, q8_0, (by first | assumption | omega), (by omega), q9_4, (by omega)⟩
set_option maxHeartbeats 1000000 in
set_option maxRecDepth 10000 in
theorem t112_X3_addNever (fu : Nat) (hfu : 1000000000000 ≤ fu) (v1 : Int32) (v2 : Int32) (c255_bars : Int32) (c255_groupsNamed : Int32) (a259 : Nat → Int32) (a260 : Nat → Int32) (p0 : c255_bars.toInt ≤ 10) (p1 : 0 ≤ c255_bars.toInt) : dz_T (f112_X3_addNever fu v1 v2 c255_bars c255_groupsNamed a259 a260) (fun r => r.1.toInt ≤ 10 ∧ 1 ≤ r.1.toInt) := by
  unfold f112_X3_addNever s112_X3_addNever_0
  have e1 := dz_l1
  have e2 := dz_l31
  have e3 := dz_andr (a := v1) (b := (31 : Int32)) (by omega)
  have e4 := dz_l30583
  have e5 := dz_l15
  have e6 := dz_l4
  have e7 := dz_rng v2
  have e8 := dz_andr (a := ((4 : Int32) * v2)) (b := (31 : Int32)) (by omega)
  have e9 := dz_lm1
  have e10 := dz_andl (a := (30583 : Int32)) (b := (((15 : Int32) <<< (((4 : Int32) * v2) &&& (31 : Int32))) ^^^ (-(1 : Int32)))) (by omega)
  refine dz_Tb (t104_X3_addBar fu hfu _ _ _ _ _ p0 p1) (fun r1 q => ?_)
  obtain ⟨q1_0, q1_1⟩ := q
  have e11 := dz_andr (a := v2) (b := (31 : Int32)) (by omega)
  refine dz_Ts ?_
  dsimp only
  exact ⟨q1_0, q1_1⟩
set_option maxHeartbeats 1000000 in
set_option maxRecDepth 10000 in
theorem t113_X3_addFixed (fu : Nat) (hfu : 1000000000000 ≤ fu) (v1 : Int32) (v2 : Int32) (c255_bars : Int32) (c255_groupsNamed : Int32) (a259 : Nat → Int32) (a260 : Nat → Int32) (p0 : c255_bars.toInt ≤ 10) (p1 : 0 ≤ c255_bars.toInt) : dz_T (f113_X3_addFixed fu v1 v2 c255_bars c255_groupsNamed a259 a260) (fun r => r.1.toInt ≤ 10 ∧ 1 ≤ r.1.toInt) := by
  unfold f113_X3_addFixed s113_X3_addFixed_0
  have e1 := dz_l1
  have e2 := dz_l31
  have e3 := dz_andr (a := v1) (b := (31 : Int32)) (by omega)
  have e4 := dz_l7
  have e5 := dz_l4
  have e6 := dz_rng v2
  have e7 := dz_andr (a := ((4 : Int32) * v2)) (b := (31 : Int32)) (by omega)
  refine dz_Tb (t104_X3_addBar fu hfu _ _ _ _ _ p0 p1) (fun r1 q => ?_)
  obtain ⟨q1_0, q1_1⟩ := q
  have e8 := dz_andr (a := v2) (b := (31 : Int32)) (by omega)
  refine dz_Ts ?_
  dsimp only
  exact ⟨q1_0, q1_1⟩
set_option maxHeartbeats 1000000 in
set_option maxRecDepth 10000 in
theorem t114_X5_readHeld (fu : Nat) (hfu : 1000000000000 ≤ fu) (a247 : Nat → Int32) (c254_length : Int32) (c255_groups : Int32) (c255_teams : Int32) (a256 : Nat → Int32) (v1 : Int32) (c254_fault : Int32) (c254_place : Int32) (c254_at : Int32) (c254_kind : Int32) (c254_start : Int32) (c254_value : Int32) (c255_bars : Int32) (c255_groupsNamed : Int32) (a259 : Nat → Int32) (a260 : Nat → Int32) (p0 : c254_length.toInt ≤ 400) (p1 : 0 ≤ c254_length.toInt) (p2 : c255_groups.toInt ≤ 4) (p3 : 2 ≤ c255_groups.toInt) (p4 : c255_teams.toInt ≤ 12) (p5 : 0 ≤ c255_teams.toInt) (p6 : c254_at.toInt ≤ 400) (p7 : 0 ≤ c254_at.toInt) (p8 : c254_start.toInt ≤ 400) (p9 : 0 ≤ c254_start.toInt) (p10 : c255_bars.toInt ≤ 10) (p11 : 0 ≤ c255_bars.toInt) (p12 : c254_at.toInt ≤ c254_length.toInt) : dz_T (f114_X5_readHeld fu a247 c254_length c255_groups c255_teams a256 v1 c254_fault c254_place c254_at c254_kind c254_start c254_value c255_bars c255_groupsNamed a259 a260) (fun r => r.1.toInt ≤ 1 ∧ 0 ≤ r.1.toInt ∧ r.2.2.2.1.toInt ≤ 400 ∧ 0 ≤ r.2.2.2.1.toInt ∧ r.2.2.2.2.2.1.toInt ≤ 400 ∧ 0 ≤ r.2.2.2.2.2.1.toInt ∧ r.2.2.2.2.2.2.2.1.toInt ≤ 10 ∧ 0 ≤ r.2.2.2.2.2.2.2.1.toInt ∧ r.1.toInt ≤ r.2.2.2.2.2.2.2.1.toInt ∧ r.2.2.2.1.toInt ≤ c254_length.toInt ∧ (r.1.toInt ≠ 0 ∨ r.2.1.toInt ≠ 0)) := by
  unfold f114_X5_readHeld s114_X5_readHeld_0
  refine dz_Tb (t96_X5_step fu hfu _ _ _ _ _ _ p0 p1 p6 p7 p8 p9 p12) (fun r1 q => ?_)
  obtain ⟨q1_0, q1_1, q1_2, q1_3, q1_4⟩ := q
  refine dz_Tb (t103_X5_readTeam fu hfu _ _ _ _ _ _ _ q1_2 q1_3 p4 p5) (fun r2 q => ?_)
  obtain ⟨q2_0, q2_1, qo2_0⟩ := q
  have e1 := dz_lm1
  refine dz_Teq (fun h2 => ?_) (fun h2 => ?_)
  · skip
    have e3 := dz_l0
    refine dz_Ts ?_
    dsimp only
    exact ⟨(by omega), (by omega), q1_0, q1_1, q1_2, q1_3, p10, p11, (by omega), q1_4, (by omega)⟩
  · skip
    refine dz_Tb (t96_X5_step fu hfu _ _ _ _ _ _ p0 p1 q1_0 q1_1 q1_2 q1_3 q1_4) (fun r3 q => ?_)
    obtain ⟨q3_0, q3_1, q3_2, q3_3, q3_4⟩ := q
    have e4 := dz_l0
    have e5 := dz_l1
    have e6 := dz_sub (a := c255_groups) (b := (1 : Int32)) (by omega) (by omega)
    refine dz_Tb (t107_X5_isNumber fu hfu _ _ _ _ _ _ _ q3_2 q3_3) (fun r4 q => ?_)
    obtain ⟨q4_0, q4_1, qo4_0, qo4_1⟩ := q
    refine dz_Teq (fun h7 => ?_) (fun h7 => ?_)
    · skip
      refine dz_Ts ?_
      dsimp only
      exact ⟨(by omega), (by omega), q3_0, q3_1, q3_2, q3_3, p10, p11, (by omega), q3_4, (by omega)⟩
    · skip
      refine dz_Teq (fun h8 => ?_) (fun h8 => ?_)
      · skip
        refine dz_Tb (t112_X3_addNever fu hfu _ _ _ _ _ _ p10 p11) (fun r5 q => ?_)
        obtain ⟨q5_0, q5_1⟩ := q
        unfold d114_X5_readHeld_1 s114_X5_readHeld_1
        refine dz_Tb (t96_X5_step fu hfu _ _ _ _ _ _ p0 p1 q3_0 q3_1 q3_2 q3_3 q3_4) (fun r6 q => ?_)
        obtain ⟨q6_0, q6_1, q6_2, q6_3, q6_4⟩ := q
        refine dz_Ts ?_
        dsimp only
        exact ⟨(by omega), (by omega), q6_0, q6_1, q6_2, q6_3, q5_0, (by first | assumption | omega), (by omega), q6_4, (by omega)⟩
      · skip
        refine dz_Tb (t113_X3_addFixed fu hfu _ _ _ _ _ _ p10 p11) (fun r7 q => ?_)
        obtain ⟨q7_0, q7_1⟩ := q
        unfold d114_X5_readHeld_1 s114_X5_readHeld_1
        refine dz_Tb (t96_X5_step fu hfu _ _ _ _ _ _ p0 p1 q3_0 q3_1 q3_2 q3_3 q3_4) (fun r8 q => ?_)
        obtain ⟨q8_0, q8_1, q8_2, q8_3, q8_4⟩ := q
        refine dz_Ts ?_
        dsimp only
        exact ⟨(by omega), (by omega), q8_0, q8_1, q8_2, q8_3, q7_0, (by first | assumption | omega), (by omega), q8_4, (by omega)⟩
set_option maxHeartbeats 1000000 in
set_option maxRecDepth 10000 in
theorem t115_X3_addMark (fu : Nat) (hfu : 1000000000000 ≤ fu) (v1 : Int32) (c255_marks : Int32) (a258 : Nat → Int32) (p0 : c255_marks.toInt ≤ 6) (p1 : 0 ≤ c255_marks.toInt) : dz_T (f115_X3_addMark fu v1 c255_marks a258) (fun r => r.1.toInt ≤ 6 ∧ 1 ≤ r.1.toInt) := by
  unfold f115_X3_addMark s115_X3_addMark_0
  have e1 := dz_l6
  refine dz_Tle (fun h2 => ?_) (fun h2 => ?_)
  · skip
    refine dz_Ts ?_
    dsimp only
    exact ⟨p0, (by first | assumption | omega)⟩
  · skip
    refine dz_Tin (by omega) (by omega) ?_
    have e3 := dz_l1
    have e4 := dz_add (a := c255_marks) (b := (1 : Int32)) (by omega) (by omega)
    refine dz_Ts ?_
    dsimp only
    exact ⟨(by omega), (by omega)⟩
abbrev p116_X5_readMark (fu : Nat) (a247 : Nat → Int32) (c254_length : Int32) (c255_teams : Int32) (a256 : Nat → Int32) (k : Nat) : Prop :=
  (∀ (v1 : Int32) (v2 : Int32) (v3 : Int32) (c254_fault : Int32) (c254_place : Int32) (c254_at : Int32) (c254_kind : Int32) (c254_start : Int32) (c254_value : Int32) (c255_marks : Int32) (a257 : Nat → Int32) (a258 : Nat → Int32), v1.toInt ≤ 32 → 1 ≤ v1.toInt → v2.toInt ≤ 400 → 0 ≤ v2.toInt → v3.toInt ≤ 400 → 0 ≤ v3.toInt → c254_at.toInt ≤ 400 → 0 ≤ c254_at.toInt → c254_start.toInt ≤ 400 → 0 ≤ c254_start.toInt → c255_marks.toInt ≤ 6 → 1 ≤ c255_marks.toInt → c254_at.toInt ≤ c254_length.toInt → v2.toInt ≤ c254_length.toInt → v2.toInt ≤ v3.toInt → v3.toInt ≤ c254_length.toInt → v3.toInt ≤ v2.toInt → 0 + 0 + (400 - v2.toInt) * 12 + 6 ≤ ((k : Nat) : Int) → dz_T ((F116_X5_readMark fu a247 c254_length c255_teams a256 k).1 v1 v2 v3 c254_fault c254_place c254_at c254_kind c254_start c254_value c255_marks a257 a258) (fun r => r.1.toInt ≤ 1 ∧ 0 ≤ r.1.toInt ∧ r.2.2.2.1.toInt ≤ 400 ∧ 0 ≤ r.2.2.2.1.toInt ∧ r.2.2.2.2.2.1.toInt ≤ 400 ∧ 0 ≤ r.2.2.2.2.2.1.toInt ∧ r.2.2.2.2.2.2.2.1.toInt ≤ 6 ∧ 0 ≤ r.2.2.2.2.2.2.2.1.toInt ∧ r.1.toInt ≤ r.2.2.2.2.2.2.2.1.toInt ∧ r.2.2.2.1.toInt ≤ c254_length.toInt ∧ (r.1.toInt ≠ 0 ∨ r.2.1.toInt ≠ 0)))
set_option maxHeartbeats 1000000 in
set_option maxRecDepth 10000 in
theorem t116_X5_readMark_h1 (fu : Nat) (hfu : 1000000000000 ≤ fu) (a247 : Nat → Int32) (c254_length : Int32) (c255_teams : Int32) (a256 : Nat → Int32) (p0 : c254_length.toInt ≤ 400) (p1 : 0 ≤ c254_length.toInt) (p2 : c255_teams.toInt ≤ 12) (p3 : 0 ≤ c255_teams.toInt) (k : Nat) (ih : ∀ j9, j9 < k → p116_X5_readMark fu a247 c254_length c255_teams a256 j9) : ∀ (v1 : Int32) (v2 : Int32) (v3 : Int32) (c254_fault : Int32) (c254_place : Int32) (c254_at : Int32) (c254_kind : Int32) (c254_start : Int32) (c254_value : Int32) (c255_marks : Int32) (a257 : Nat → Int32) (a258 : Nat → Int32), v1.toInt ≤ 32 → 1 ≤ v1.toInt → v2.toInt ≤ 400 → 0 ≤ v2.toInt → v3.toInt ≤ 400 → 0 ≤ v3.toInt → c254_at.toInt ≤ 400 → 0 ≤ c254_at.toInt → c254_start.toInt ≤ 400 → 0 ≤ c254_start.toInt → c255_marks.toInt ≤ 6 → 1 ≤ c255_marks.toInt → c254_at.toInt ≤ c254_length.toInt → v2.toInt ≤ c254_length.toInt → v2.toInt ≤ v3.toInt → v3.toInt ≤ c254_length.toInt → v3.toInt ≤ v2.toInt → 0 + 0 + (400 - v2.toInt) * 12 + 6 ≤ ((k : Nat) : Int) → dz_T ((F116_X5_readMark fu a247 c254_length c255_teams a256 k).1 v1 v2 v3 c254_fault c254_place c254_at c254_kind c254_start c254_value c255_marks a257 a258) (fun r => r.1.toInt ≤ 1 ∧ 0 ≤ r.1.toInt ∧ r.2.2.2.1.toInt ≤ 400 ∧ 0 ≤ r.2.2.2.1.toInt ∧ r.2.2.2.2.2.1.toInt ≤ 400 ∧ 0 ≤ r.2.2.2.2.2.1.toInt ∧ r.2.2.2.2.2.2.2.1.toInt ≤ 6 ∧ 0 ≤ r.2.2.2.2.2.2.2.1.toInt ∧ r.1.toInt ≤ r.2.2.2.2.2.2.2.1.toInt ∧ r.2.2.2.1.toInt ≤ c254_length.toInt ∧ (r.1.toInt ≠ 0 ∨ r.2.1.toInt ≠ 0)) := by
  intro v1 v2 v3 c254_fault c254_place c254_at c254_kind c254_start c254_value c255_marks a257 a258 i0 i1 i2 i3 i4 i5 i6 i7 i8 i9 i10 i11 i12 i13 i14 i15 i16 hm
  obtain ⟨k0, rfl⟩ : ∃ x, k = x + 1 := ⟨k - 1, by omega⟩
  show dz_T (s116_X5_readMark_1 fu a247 c254_length c255_teams a256 (F116_X5_readMark fu a247 c254_length c255_teams a256 k0).2  v1 v2 v3 c254_fault c254_place c254_at c254_kind c254_start c254_value c255_marks a257 a258) _
  unfold s116_X5_readMark_1
  refine dz_Tle (fun h1 => ?_) (fun h1 => ?_)
  · skip
    have e2 := dz_l1
    refine dz_Ts ?_
    dsimp only
    exact ⟨(by omega), (by omega), i6, i7, i8, i9, i10, (by first | assumption | omega), (by omega), i12, (by omega)⟩
  · skip
    have e3 := dz_l0
    refine dz_Teq (fun h4 => ?_) (fun h4 => ?_)
    · skip
      obtain ⟨k1, rfl⟩ : ∃ x, k0 = x + 1 := ⟨k0 - 1, by omega⟩
      show dz_T (s116_X5_readMark_2 fu a247 c254_length c255_teams a256 (F116_X5_readMark fu a247 c254_length c255_teams a256 k1).1 v1 v2 v3 c254_fault c254_place c254_at c254_kind c254_start c254_value c255_marks a257 a258) _
      unfold s116_X5_readMark_2
      refine dz_Tb (t103_X5_readTeam fu hfu _ _ _ _ _ _ _ i8 i9 p2 p3) (fun r1 q => ?_)
      obtain ⟨q1_0, q1_1, qo1_0⟩ := q
      have e5 := dz_lm1
      refine dz_Teq (fun h6 => ?_) (fun h6 => ?_)
      · skip
        refine dz_Ts ?_
        dsimp only
        exact ⟨(by omega), (by omega), i6, i7, i8, i9, i10, (by first | assumption | omega), (by omega), i12, (by omega)⟩
      · skip
        refine dz_Tin (by omega) (by omega) ?_
        have e7 := dz_andr (a := (a257 r1.1.toNatClampNeg)) (b := v1) (by omega)
        refine dz_Teq (fun h8 => ?_) (fun h8 => ?_)
        · skip
          refine dz_Tin (by omega) (by omega) ?_
          refine dz_Tin (by omega) (by omega) ?_
          refine dz_Tb (t96_X5_step fu hfu _ _ _ _ _ _ p0 p1 i6 i7 i8 i9 i12) (fun r2 q => ?_)
          obtain ⟨q2_0, q2_1, q2_2, q2_3, q2_4⟩ := q
          have e9 := dz_l1
          have e10 := dz_add (a := v2) (b := (1 : Int32)) (by omega) (by omega)
          have e11 := dz_add (a := v3) (b := (1 : Int32)) (by omega) (by omega)
          exact (ih k1 (by omega)) v1 (v2 + (1 : Int32)) (v3 + (1 : Int32)) r1.2.1 r1.2.2 r2.1 r2.2.1 r2.2.2.1 r2.2.2.2 c255_marks (upd a257 r1.1.toNatClampNeg ((a257 r1.1.toNatClampNeg) ||| v1)) a258 i0 i1 (by omega) (by omega) (by omega) (by omega) q2_0 q2_1 q2_2 q2_3 i10 i11 q2_4 (by omega) (by omega) (by omega) (by omega) (by omega)
        · skip
          have e12 := dz_l3
          refine dz_Tb (t97_X5_fail fu hfu _ _ _ _ i8 i9) (fun r3 q => ?_)
          obtain ⟨q3_0, q3_1, qo3_0⟩ := q
          refine dz_Tg (dz_nb (by omega)) ?_
          refine dz_Ts ?_
          dsimp only
          exact ⟨(by first | assumption | omega), q3_1, i6, i7, i8, i9, i10, (by first | assumption | omega), (by first | assumption | omega), i12, (by omega)⟩
    · skip
      have e13 := dz_l3
      refine dz_Teq (fun h14 => ?_) (fun h14 => ?_)
      · skip
        have e15 := dz_l1
        refine dz_Ts ?_
        dsimp only
        exact ⟨(by omega), (by omega), i6, i7, i8, i9, i10, (by first | assumption | omega), (by omega), i12, (by omega)⟩
      · skip
        obtain ⟨k2, rfl⟩ : ∃ x, k0 = x + 1 := ⟨k0 - 1, by omega⟩
        show dz_T (s116_X5_readMark_2 fu a247 c254_length c255_teams a256 (F116_X5_readMark fu a247 c254_length c255_teams a256 k2).1 v1 v2 v3 c254_fault c254_place c254_at c254_kind c254_start c254_value c255_marks a257 a258) _
        unfold s116_X5_readMark_2
        refine dz_Tb (t103_X5_readTeam fu hfu _ _ _ _ _ _ _ i8 i9 p2 p3) (fun r4 q => ?_)
        obtain ⟨q4_0, q4_1, qo4_0⟩ := q
        have e16 := dz_lm1
        refine dz_Teq (fun h17 => ?_) (fun h17 => ?_)
        · skip
          refine dz_Ts ?_
          dsimp only
          exact ⟨(by omega), (by omega), i6, i7, i8, i9, i10, (by first | assumption | omega), (by omega), i12, (by omega)⟩
        · skip
          refine dz_Tin (by omega) (by omega) ?_
          have e18 := dz_andr (a := (a257 r4.1.toNatClampNeg)) (b := v1) (by omega)
          refine dz_Teq (fun h19 => ?_) (fun h19 => ?_)
          · skip
            refine dz_Tin (by omega) (by omega) ?_
            refine dz_Tin (by omega) (by omega) ?_
            refine dz_Tb (t96_X5_step fu hfu _ _ _ _ _ _ p0 p1 i6 i7 i8 i9 i12) (fun r5 q => ?_)
            obtain ⟨q5_0, q5_1, q5_2, q5_3, q5_4⟩ := q
            have e20 := dz_l1
            have e21 := dz_add (a := v2) (b := (1 : Int32)) (by omega) (by omega)
            have e22 := dz_add (a := v3) (b := (1 : Int32)) (by omega) (by omega)
            exact (ih k2 (by omega)) v1 (v2 + (1 : Int32)) (v3 + (1 : Int32)) r4.2.1 r4.2.2 r5.1 r5.2.1 r5.2.2.1 r5.2.2.2 c255_marks (upd a257 r4.1.toNatClampNeg ((a257 r4.1.toNatClampNeg) ||| v1)) a258 i0 i1 (by omega) (by omega) (by omega) (by omega) q5_0 q5_1 q5_2 q5_3 i10 i11 q5_4 (by omega) (by omega) (by omega) (by omega) (by omega)
          · skip
            refine dz_Tb (t97_X5_fail fu hfu _ _ _ _ i8 i9) (fun r6 q => ?_)
            obtain ⟨q6_0, q6_1, qo6_0⟩ := q
            refine dz_Tg (dz_nb (by omega)) ?_
            refine dz_Ts ?_
            dsimp only
            exact ⟨(by first | assumption | omega), q6_1, i6, i7, i8, i9, i10, (by first | assumption | omega), (by first | assumption | omega), i12, (by omega)⟩
theorem t116_X5_readMark_I (fu : Nat) (hfu : 1000000000000 ≤ fu) (a247 : Nat → Int32) (c254_length : Int32) (c255_teams : Int32) (a256 : Nat → Int32) (p0 : c254_length.toInt ≤ 400) (p1 : 0 ≤ c254_length.toInt) (p2 : c255_teams.toInt ≤ 12) (p3 : 0 ≤ c255_teams.toInt) (k : Nat) : p116_X5_readMark fu a247 c254_length c255_teams a256 k := by
  induction k using Nat.strongRecOn with
  | _ k ih => exact t116_X5_readMark_h1 fu hfu a247 c254_length c255_teams a256 p0 p1 p2 p3 k ih
set_option maxHeartbeats 1000000 in
set_option maxRecDepth 10000 in
theorem t116_X5_readMark_E (fu : Nat) (hfu : 1000000000000 ≤ fu) (a247 : Nat → Int32) (c254_length : Int32) (c255_teams : Int32) (a256 : Nat → Int32) (c254_fault : Int32) (c254_place : Int32) (c254_at : Int32) (c254_kind : Int32) (c254_start : Int32) (c254_value : Int32) (c255_marks : Int32) (a257 : Nat → Int32) (a258 : Nat → Int32) (p0 : c254_length.toInt ≤ 400) (p1 : 0 ≤ c254_length.toInt) (p2 : c255_teams.toInt ≤ 12) (p3 : 0 ≤ c255_teams.toInt) (p4 : c254_at.toInt ≤ 400) (p5 : 0 ≤ c254_at.toInt) (p6 : c254_start.toInt ≤ 400) (p7 : 0 ≤ c254_start.toInt) (p8 : c255_marks.toInt ≤ 6) (p9 : 0 ≤ c255_marks.toInt) (p10 : c254_at.toInt ≤ c254_length.toInt) (kv : Nat) (hkv : 1000000000000 ≤ kv) : dz_T (s116_X5_readMark_0 fu a247 c254_length c255_teams a256 (F116_X5_readMark fu a247 c254_length c255_teams a256 kv).1  c254_fault c254_place c254_at c254_kind c254_start c254_value c255_marks a257 a258) (fun r => r.1.toInt ≤ 1 ∧ 0 ≤ r.1.toInt ∧ r.2.2.2.1.toInt ≤ 400 ∧ 0 ≤ r.2.2.2.1.toInt ∧ r.2.2.2.2.2.1.toInt ≤ 400 ∧ 0 ≤ r.2.2.2.2.2.1.toInt ∧ r.2.2.2.2.2.2.2.1.toInt ≤ 6 ∧ 0 ≤ r.2.2.2.2.2.2.2.1.toInt ∧ r.1.toInt ≤ r.2.2.2.2.2.2.2.1.toInt ∧ r.2.2.2.1.toInt ≤ c254_length.toInt ∧ (r.1.toInt ≠ 0 ∨ r.2.1.toInt ≠ 0)) := by
  unfold s116_X5_readMark_0
  have e1 := dz_l6
  refine dz_Teq (fun h2 => ?_) (fun h2 => ?_)
  · skip
    have e3 := dz_l2
    refine dz_Tb (t97_X5_fail fu hfu _ _ _ _ p6 p7) (fun r1 q => ?_)
    obtain ⟨q1_0, q1_1, qo1_0⟩ := q
    refine dz_Tg (dz_nb (by omega)) ?_
    refine dz_Ts ?_
    dsimp only
    exact ⟨(by first | assumption | omega), q1_1, p4, p5, p6, p7, p8, p9, (by first | assumption | omega), p10, (by omega)⟩
  · skip
    refine dz_Tb (t96_X5_step fu hfu _ _ _ _ _ _ p0 p1 p4 p5 p6 p7 p10) (fun r2 q => ?_)
    obtain ⟨q2_0, q2_1, q2_2, q2_3, q2_4⟩ := q
    refine dz_Tb (t100_X5_isName fu hfu _ _ _ _ _ q2_2 q2_3) (fun r3 q => ?_)
    obtain ⟨q3_0, q3_1, qo3_0⟩ := q
    have e4 := dz_l0
    refine dz_Teq (fun h5 => ?_) (fun h5 => ?_)
    · skip
      refine dz_Ts ?_
      dsimp only
      exact ⟨(by omega), (by omega), q2_0, q2_1, q2_2, q2_3, p8, p9, (by omega), q2_4, (by omega)⟩
    · skip
      refine dz_Tb (t109_X3_markNamed fu hfu _ _ _ p8 p9) (fun r4 q => ?_)
      obtain ⟨q4_0, q4_1⟩ := q
      have e6 := dz_lm1
      refine dz_Teq (fun h7 => ?_) (fun h7 => ?_)
      · skip
        refine dz_Tb (t115_X3_addMark fu hfu _ _ _ p8 p9) (fun r5 q => ?_)
        obtain ⟨q5_0, q5_1⟩ := q
        refine dz_Tb (t96_X5_step fu hfu _ _ _ _ _ _ p0 p1 q2_0 q2_1 q2_2 q2_3 q2_4) (fun r6 q => ?_)
        obtain ⟨q6_0, q6_1, q6_2, q6_3, q6_4⟩ := q
        have e8 := dz_l1
        have e9 := dz_l31
        have e10 := dz_andr (a := c255_marks) (b := (31 : Int32)) (by omega)
        have e11 := dz_andl (a := c255_marks) (b := (31 : Int32)) (by omega)
        have e12 := dz_shl1 (b := c255_marks) 0 5 (by omega) (by omega) (by omega)
        exact (t116_X5_readMark_I fu hfu a247 c254_length c255_teams a256 p0 p1 p2 p3 kv) ((1 : Int32) <<< (c255_marks &&& (31 : Int32))) (0 : Int32) (0 : Int32) r3.2.1 r3.2.2 r6.1 r6.2.1 r6.2.2.1 r6.2.2.2 r5.1 a257 r5.2 (by omega) (by omega) (by omega) (by omega) (by omega) (by omega) q6_0 q6_1 q6_2 q6_3 q5_0 q5_1 q6_4 (by omega) (by omega) (by omega) (by omega) (by omega)
      · skip
        have e13 := dz_l3
        refine dz_Tb (t97_X5_fail fu hfu _ _ _ _ q2_2 q2_3) (fun r7 q => ?_)
        obtain ⟨q7_0, q7_1, qo7_0⟩ := q
        refine dz_Tg (dz_nb (by omega)) ?_
        refine dz_Ts ?_
        dsimp only
        exact ⟨(by first | assumption | omega), q7_1, q2_0, q2_1, q2_2, q2_3, p8, p9, (by first | assumption | omega), q2_4, (by omega)⟩
theorem t116_X5_readMark (fu : Nat) (hfu : 1000000000000 ≤ fu) (a247 : Nat → Int32) (c254_length : Int32) (c255_teams : Int32) (a256 : Nat → Int32) (c254_fault : Int32) (c254_place : Int32) (c254_at : Int32) (c254_kind : Int32) (c254_start : Int32) (c254_value : Int32) (c255_marks : Int32) (a257 : Nat → Int32) (a258 : Nat → Int32) (p0 : c254_length.toInt ≤ 400) (p1 : 0 ≤ c254_length.toInt) (p2 : c255_teams.toInt ≤ 12) (p3 : 0 ≤ c255_teams.toInt) (p4 : c254_at.toInt ≤ 400) (p5 : 0 ≤ c254_at.toInt) (p6 : c254_start.toInt ≤ 400) (p7 : 0 ≤ c254_start.toInt) (p8 : c255_marks.toInt ≤ 6) (p9 : 0 ≤ c255_marks.toInt) (p10 : c254_at.toInt ≤ c254_length.toInt) : dz_T (f116_X5_readMark fu a247 c254_length c255_teams a256 c254_fault c254_place c254_at c254_kind c254_start c254_value c255_marks a257 a258) (fun r => r.1.toInt ≤ 1 ∧ 0 ≤ r.1.toInt ∧ r.2.2.2.1.toInt ≤ 400 ∧ 0 ≤ r.2.2.2.1.toInt ∧ r.2.2.2.2.2.1.toInt ≤ 400 ∧ 0 ≤ r.2.2.2.2.2.1.toInt ∧ r.2.2.2.2.2.2.2.1.toInt ≤ 6 ∧ 0 ≤ r.2.2.2.2.2.2.2.1.toInt ∧ r.1.toInt ≤ r.2.2.2.2.2.2.2.1.toInt ∧ r.2.2.2.1.toInt ≤ c254_length.toInt ∧ (r.1.toInt ≠ 0 ∨ r.2.1.toInt ≠ 0)) :=
  t116_X5_readMark_E fu hfu a247 c254_length c255_teams a256 c254_fault c254_place c254_at c254_kind c254_start c254_value c255_marks a257 a258 p0 p1 p2 p3 p4 p5 p6 p7 p8 p9 p10 fu hfu
set_option maxHeartbeats 1000000 in
set_option maxRecDepth 10000 in
theorem t117_X3_addTeam (fu : Nat) (hfu : 1000000000000 ≤ fu) (v1 : Int32) (c255_teams : Int32) (a256 : Nat → Int32) (a257 : Nat → Int32) (p0 : c255_teams.toInt ≤ 12) (p1 : 0 ≤ c255_teams.toInt) : dz_T (f117_X3_addTeam fu v1 c255_teams a256 a257) (fun r => r.1.toInt ≤ 12 ∧ 1 ≤ r.1.toInt ∧ (12 ≤ c255_teams.toInt ∨ r.1.toInt = c255_teams.toInt + 1)) := by
  unfold f117_X3_addTeam s117_X3_addTeam_0
  have e1 := dz_l12
  refine dz_Tle (fun h2 => ?_) (fun h2 => ?_)
  · skip
    refine dz_Ts ?_
    dsimp only
    exact ⟨p0, (by first | assumption | omega), (by omega)⟩
  · skip
    refine dz_Tin (by omega) (by omega) ?_
    refine dz_Tin (by omega) (by omega) ?_
    have e3 := dz_l1
    have e4 := dz_add (a := c255_teams) (b := (1 : Int32)) (by omega) (by omega)
    refine dz_Ts ?_
    dsimp only
    exact ⟨(by omega), (by omega), (by omega)⟩
abbrev p118_X5_readPot (fu : Nat) (a247 : Nat → Int32) (c254_length : Int32) (c255_groups : Int32) (gh_c255_teams : Int32) (gh_c255_pots : Int32) (k : Nat) : Prop :=
  (∀ (v1 : Int32) (v2 : Int32) (c254_fault : Int32) (c254_place : Int32) (c254_at : Int32) (c254_kind : Int32) (c254_start : Int32) (c254_value : Int32) (c255_pots : Int32) (c255_teams : Int32) (a256 : Nat → Int32) (a257 : Nat → Int32), gh_c255_teams.toInt ≤ 10 → 0 ≤ gh_c255_teams.toInt → gh_c255_pots.toInt ≤ 3 → 0 ≤ gh_c255_pots.toInt → v1.toInt ≤ 4 → 0 ≤ v1.toInt → v2.toInt ≤ 4 → 0 ≤ v2.toInt → c254_at.toInt ≤ 400 → 0 ≤ c254_at.toInt → c254_start.toInt ≤ 400 → 0 ≤ c254_start.toInt → c255_pots.toInt ≤ 3 → 0 ≤ c255_pots.toInt → c255_teams.toInt ≤ 12 → 0 ≤ c255_teams.toInt → c254_at.toInt ≤ c254_length.toInt → c255_pots.toInt ≤ gh_c255_pots.toInt → gh_c255_pots.toInt ≤ c255_pots.toInt → v1.toInt ≤ c254_length.toInt → v1.toInt ≤ c255_groups.toInt → v1.toInt ≤ v2.toInt → v2.toInt ≤ c254_length.toInt → v2.toInt ≤ c255_groups.toInt → v2.toInt ≤ v1.toInt → v1.toInt ≤ c255_teams.toInt + 3 → gh_c255_teams.toInt ≤ c255_teams.toInt + 9 → c255_teams.toInt ≤ c254_length.toInt + 11 → c255_teams.toInt ≤ v1.toInt + 11 → c255_teams.toInt = gh_c255_teams.toInt + v1.toInt → gh_c255_teams.toInt + c255_groups.toInt ≤ 12 → c255_pots.toInt = gh_c255_pots.toInt → 0 + 0 + (4 - v1.toInt) * 16 + 8 ≤ ((k : Nat) : Int) → dz_T ((F118_X5_readPot fu a247 c254_length c255_groups k).2.1 v1 v2 c254_fault c254_place c254_at c254_kind c254_start c254_value c255_pots c255_teams a256 a257) (fun r => gh_c255_teams.toInt ≤ 12 ∧ 0 ≤ gh_c255_teams.toInt ∧ gh_c255_pots.toInt ≤ 4 ∧ 0 ≤ gh_c255_pots.toInt ∧ r.1.toInt ≤ 1 ∧ 0 ≤ r.1.toInt ∧ r.2.2.2.1.toInt ≤ 400 ∧ 0 ≤ r.2.2.2.1.toInt ∧ r.2.2.2.2.2.1.toInt ≤ 400 ∧ 0 ≤ r.2.2.2.2.2.1.toInt ∧ r.2.2.2.2.2.2.2.1.toInt ≤ 4 ∧ 0 ≤ r.2.2.2.2.2.2.2.1.toInt ∧ r.2.2.2.2.2.2.2.2.1.toInt ≤ 12 ∧ 0 ≤ r.2.2.2.2.2.2.2.2.1.toInt ∧ r.1.toInt ≤ r.2.2.2.2.2.2.2.1.toInt ∧ r.1.toInt ≤ c254_length.toInt ∧ r.2.2.2.1.toInt ≤ c254_length.toInt ∧ gh_c255_pots.toInt ≤ r.2.2.2.2.2.2.2.1.toInt ∧ r.2.2.2.2.2.2.2.1.toInt ≤ gh_c255_pots.toInt + 1 ∧ gh_c255_teams.toInt ≤ r.2.2.2.2.2.2.2.2.1.toInt + 9 ∧ (r.1.toInt ≠ 0 ∨ r.2.1.toInt ≠ 0) ∧ (r.1.toInt = 0 ∨ (r.2.2.2.2.2.2.2.1.toInt = gh_c255_pots.toInt + 1 ∧ r.2.2.2.2.2.2.2.2.1.toInt = gh_c255_teams.toInt + c255_groups.toInt))))
set_option maxHeartbeats 1000000 in
set_option maxRecDepth 10000 in
theorem t118_X5_readPot_h2 (fu : Nat) (hfu : 1000000000000 ≤ fu) (a247 : Nat → Int32) (c254_length : Int32) (c255_groups : Int32) (gh_c255_teams : Int32) (gh_c255_pots : Int32) (p0 : c254_length.toInt ≤ 400) (p1 : 0 ≤ c254_length.toInt) (p2 : c255_groups.toInt ≤ 4) (p3 : 2 ≤ c255_groups.toInt) (k : Nat) (ih : ∀ j9, j9 < k → p118_X5_readPot fu a247 c254_length c255_groups gh_c255_teams gh_c255_pots j9) : ∀ (v1 : Int32) (v2 : Int32) (c254_fault : Int32) (c254_place : Int32) (c254_at : Int32) (c254_kind : Int32) (c254_start : Int32) (c254_value : Int32) (c255_pots : Int32) (c255_teams : Int32) (a256 : Nat → Int32) (a257 : Nat → Int32), gh_c255_teams.toInt ≤ 10 → 0 ≤ gh_c255_teams.toInt → gh_c255_pots.toInt ≤ 3 → 0 ≤ gh_c255_pots.toInt → v1.toInt ≤ 4 → 0 ≤ v1.toInt → v2.toInt ≤ 4 → 0 ≤ v2.toInt → c254_at.toInt ≤ 400 → 0 ≤ c254_at.toInt → c254_start.toInt ≤ 400 → 0 ≤ c254_start.toInt → c255_pots.toInt ≤ 3 → 0 ≤ c255_pots.toInt → c255_teams.toInt ≤ 12 → 0 ≤ c255_teams.toInt → c254_at.toInt ≤ c254_length.toInt → c255_pots.toInt ≤ gh_c255_pots.toInt → gh_c255_pots.toInt ≤ c255_pots.toInt → v1.toInt ≤ c254_length.toInt → v1.toInt ≤ c255_groups.toInt → v1.toInt ≤ v2.toInt → v2.toInt ≤ c254_length.toInt → v2.toInt ≤ c255_groups.toInt → v2.toInt ≤ v1.toInt → v1.toInt ≤ c255_teams.toInt + 3 → gh_c255_teams.toInt ≤ c255_teams.toInt + 9 → c255_teams.toInt ≤ c254_length.toInt + 11 → c255_teams.toInt ≤ v1.toInt + 11 → c255_teams.toInt = gh_c255_teams.toInt + v1.toInt → gh_c255_teams.toInt + c255_groups.toInt ≤ 12 → c255_pots.toInt = gh_c255_pots.toInt → 0 + 0 + (4 - v1.toInt) * 16 + 8 ≤ ((k : Nat) : Int) → dz_T ((F118_X5_readPot fu a247 c254_length c255_groups k).2.1 v1 v2 c254_fault c254_place c254_at c254_kind c254_start c254_value c255_pots c255_teams a256 a257) (fun r => gh_c255_teams.toInt ≤ 12 ∧ 0 ≤ gh_c255_teams.toInt ∧ gh_c255_pots.toInt ≤ 4 ∧ 0 ≤ gh_c255_pots.toInt ∧ r.1.toInt ≤ 1 ∧ 0 ≤ r.1.toInt ∧ r.2.2.2.1.toInt ≤ 400 ∧ 0 ≤ r.2.2.2.1.toInt ∧ r.2.2.2.2.2.1.toInt ≤ 400 ∧ 0 ≤ r.2.2.2.2.2.1.toInt ∧ r.2.2.2.2.2.2.2.1.toInt ≤ 4 ∧ 0 ≤ r.2.2.2.2.2.2.2.1.toInt ∧ r.2.2.2.2.2.2.2.2.1.toInt ≤ 12 ∧ 0 ≤ r.2.2.2.2.2.2.2.2.1.toInt ∧ r.1.toInt ≤ r.2.2.2.2.2.2.2.1.toInt ∧ r.1.toInt ≤ c254_length.toInt ∧ r.2.2.2.1.toInt ≤ c254_length.toInt ∧ gh_c255_pots.toInt ≤ r.2.2.2.2.2.2.2.1.toInt ∧ r.2.2.2.2.2.2.2.1.toInt ≤ gh_c255_pots.toInt + 1 ∧ gh_c255_teams.toInt ≤ r.2.2.2.2.2.2.2.2.1.toInt + 9 ∧ (r.1.toInt ≠ 0 ∨ r.2.1.toInt ≠ 0) ∧ (r.1.toInt = 0 ∨ (r.2.2.2.2.2.2.2.1.toInt = gh_c255_pots.toInt + 1 ∧ r.2.2.2.2.2.2.2.2.1.toInt = gh_c255_teams.toInt + c255_groups.toInt))) := by
  intro v1 v2 c254_fault c254_place c254_at c254_kind c254_start c254_value c255_pots c255_teams a256 a257 i0 i1 i2 i3 i4 i5 i6 i7 i8 i9 i10 i11 i12 i13 i14 i15 i16 i17 i18 i19 i20 i21 i22 i23 i24 i25 i26 i27 i28 x0 x1 x2 hm
  obtain ⟨k0, rfl⟩ : ∃ x, k = x + 1 := ⟨k - 1, by omega⟩
  show dz_T (s118_X5_readPot_2 fu a247 c254_length c255_groups (F118_X5_readPot fu a247 c254_length c255_groups k0).2.2.1 (F118_X5_readPot fu a247 c254_length c255_groups k0).2.2.2  v1 v2 c254_fault c254_place c254_at c254_kind c254_start c254_value c255_pots c255_teams a256 a257) _
  unfold s118_X5_readPot_2
  refine dz_Tle (fun h1 => ?_) (fun h1 => ?_)
  · skip
    obtain ⟨k1, rfl⟩ : ∃ x, k0 = x + 1 := ⟨k0 - 1, by omega⟩
    show dz_T (s118_X5_readPot_3 fu a247 c254_length c255_groups v1 c254_fault c254_place c254_at c254_kind c254_start c254_value c255_pots c255_teams a256 a257) _
    unfold s118_X5_readPot_3
    refine dz_Tle (fun h2 => ?_) (fun h2 => ?_)
    · skip
      have e3 := dz_l1
      have e4 := dz_add (a := c255_pots) (b := (1 : Int32)) (by omega) (by omega)
      refine dz_Ts ?_
      dsimp only
      exact ⟨(by first | assumption | omega), i1, (by first | assumption | omega), i3, (by omega), (by omega), i8, i9, i10, i11, (by omega), (by omega), i14, i15, (by omega), (by omega), i16, (by omega), (by omega), i26, (by omega), (by omega)⟩
    · skip
      have e5 := dz_l5
      refine dz_Tb (t97_X5_fail fu hfu _ _ _ _ i10 i11) (fun r1 q => ?_)
      obtain ⟨q1_0, q1_1, qo1_0⟩ := q
      refine dz_Tg (dz_nb (by omega)) ?_
      refine dz_Ts ?_
      dsimp only
      exact ⟨(by first | assumption | omega), i1, (by first | assumption | omega), i3, (by first | assumption | omega), q1_1, i8, i9, i10, i11, (by first | assumption | omega), i13, i14, i15, (by first | assumption | omega), (by first | assumption | omega), i16, i18, (by first | assumption | omega), i26, (by omega), (by omega)⟩
  · skip
    have e6 := dz_l0
    refine dz_Teq (fun h7 => ?_) (fun h7 => ?_)
    · skip
      obtain ⟨k2, rfl⟩ : ∃ x, k0 = x + 1 := ⟨k0 - 1, by omega⟩
      show dz_T (s118_X5_readPot_4 fu a247 c254_length c255_groups (F118_X5_readPot fu a247 c254_length c255_groups k2).2.1 v1 v2 c254_fault c254_place c254_at c254_kind c254_start c254_value c255_pots c255_teams a256 a257) _
      unfold s118_X5_readPot_4
      refine dz_Tb (t100_X5_isName fu hfu _ _ _ _ _ i10 i11) (fun r2 q => ?_)
      obtain ⟨q2_0, q2_1, qo2_0⟩ := q
      refine dz_Teq (fun h8 => ?_) (fun h8 => ?_)
      · skip
        refine dz_Ts ?_
        dsimp only
        exact ⟨(by first | assumption | omega), i1, (by first | assumption | omega), i3, (by omega), (by omega), i8, i9, i10, i11, (by first | assumption | omega), i13, i14, i15, (by omega), (by omega), i16, i18, (by first | assumption | omega), i26, (by omega), (by omega)⟩
      · skip
        refine dz_Teq (fun h9 => ?_) (fun h9 => ?_)
        · skip
          exfalso; omega
        · skip
          refine dz_Tb (t102_X3_teamNamed fu hfu _ _ _ i14 i15) (fun r3 q => ?_)
          obtain ⟨q3_0, q3_1⟩ := q
          have e10 := dz_lm1
          refine dz_Teq (fun h11 => ?_) (fun h11 => ?_)
          · skip
            refine dz_Tb (t117_X3_addTeam fu hfu _ _ _ _ i14 i15) (fun r4 q => ?_)
            obtain ⟨q4_0, q4_1, qo4_0⟩ := q
            refine dz_Tb (t96_X5_step fu hfu _ _ _ _ _ _ p0 p1 i8 i9 i10 i11 i16) (fun r5 q => ?_)
            obtain ⟨q5_0, q5_1, q5_2, q5_3, q5_4⟩ := q
            have e12 := dz_l1
            have e13 := dz_add (a := v1) (b := (1 : Int32)) (by omega) (by omega)
            have e14 := dz_add (a := v2) (b := (1 : Int32)) (by omega) (by omega)
            exact (ih k2 (by omega)) (v1 + (1 : Int32)) (v2 + (1 : Int32)) r2.2.1 r2.2.2 r5.1 r5.2.1 r5.2.2.1 r5.2.2.2 c255_pots r4.1 r4.2.1 r4.2.2 i0 i1 i2 i3 (by omega) (by omega) (by omega) (by omega) q5_0 q5_1 q5_2 q5_3 i12 i13 q4_0 (by first | assumption | omega) q5_4 i17 i18 (by omega) (by omega) (by omega) (by omega) (by omega) (by omega) (by omega) (by first | assumption | omega) (by first | assumption | omega) (by omega) (by omega) (by omega) (by omega) (by omega)
          · skip
            have e15 := dz_l3
            refine dz_Tb (t97_X5_fail fu hfu _ _ _ _ i10 i11) (fun r6 q => ?_)
            obtain ⟨q6_0, q6_1, qo6_0⟩ := q
            refine dz_Tg (dz_nb (by omega)) ?_
            refine dz_Ts ?_
            dsimp only
            exact ⟨(by first | assumption | omega), i1, (by first | assumption | omega), i3, (by first | assumption | omega), q6_1, i8, i9, i10, i11, (by first | assumption | omega), i13, i14, i15, (by first | assumption | omega), (by first | assumption | omega), i16, i18, (by first | assumption | omega), i26, (by omega), (by omega)⟩
    · skip
      have e16 := dz_l3
      refine dz_Teq (fun h17 => ?_) (fun h17 => ?_)
      · skip
        obtain ⟨k3, rfl⟩ : ∃ x, k0 = x + 1 := ⟨k0 - 1, by omega⟩
        show dz_T (s118_X5_readPot_3 fu a247 c254_length c255_groups v1 c254_fault c254_place c254_at c254_kind c254_start c254_value c255_pots c255_teams a256 a257) _
        unfold s118_X5_readPot_3
        refine dz_Tle (fun h18 => ?_) (fun h18 => ?_)
        · skip
          have e19 := dz_l1
          have e20 := dz_add (a := c255_pots) (b := (1 : Int32)) (by omega) (by omega)
          refine dz_Ts ?_
          dsimp only
          exact ⟨(by first | assumption | omega), i1, (by first | assumption | omega), i3, (by omega), (by omega), i8, i9, i10, i11, (by omega), (by omega), i14, i15, (by omega), (by omega), i16, (by omega), (by omega), i26, (by omega), (by omega)⟩
        · skip
          have e21 := dz_l5
          refine dz_Tb (t97_X5_fail fu hfu _ _ _ _ i10 i11) (fun r7 q => ?_)
          obtain ⟨q7_0, q7_1, qo7_0⟩ := q
          refine dz_Tg (dz_nb (by omega)) ?_
          refine dz_Ts ?_
          dsimp only
          exact ⟨(by first | assumption | omega), i1, (by first | assumption | omega), i3, (by first | assumption | omega), q7_1, i8, i9, i10, i11, (by first | assumption | omega), i13, i14, i15, (by first | assumption | omega), (by first | assumption | omega), i16, i18, (by first | assumption | omega), i26, (by omega), (by omega)⟩
      · skip
        obtain ⟨k4, rfl⟩ : ∃ x, k0 = x + 1 := ⟨k0 - 1, by omega⟩
        show dz_T (s118_X5_readPot_4 fu a247 c254_length c255_groups (F118_X5_readPot fu a247 c254_length c255_groups k4).2.1 v1 v2 c254_fault c254_place c254_at c254_kind c254_start c254_value c255_pots c255_teams a256 a257) _
        unfold s118_X5_readPot_4
        refine dz_Tb (t100_X5_isName fu hfu _ _ _ _ _ i10 i11) (fun r8 q => ?_)
        obtain ⟨q8_0, q8_1, qo8_0⟩ := q
        refine dz_Teq (fun h22 => ?_) (fun h22 => ?_)
        · skip
          refine dz_Ts ?_
          dsimp only
          exact ⟨(by first | assumption | omega), i1, (by first | assumption | omega), i3, (by omega), (by omega), i8, i9, i10, i11, (by first | assumption | omega), i13, i14, i15, (by omega), (by omega), i16, i18, (by first | assumption | omega), i26, (by omega), (by omega)⟩
        · skip
          refine dz_Teq (fun h23 => ?_) (fun h23 => ?_)
          · skip
            have e24 := dz_l2
            refine dz_Tb (t97_X5_fail fu hfu _ _ _ _ i10 i11) (fun r9 q => ?_)
            obtain ⟨q9_0, q9_1, qo9_0⟩ := q
            refine dz_Tg (dz_nb (by omega)) ?_
            refine dz_Ts ?_
            dsimp only
            exact ⟨(by first | assumption | omega), i1, (by first | assumption | omega), i3, (by first | assumption | omega), q9_1, i8, i9, i10, i11, (by first | assumption | omega), i13, i14, i15, (by first | assumption | omega), (by first | assumption | omega), i16, i18, (by first | assumption | omega), i26, (by omega), (by omega)⟩
          · skip
            refine dz_Tb (t102_X3_teamNamed fu hfu _ _ _ i14 i15) (fun r10 q => ?_)
            obtain ⟨q10_0, q10_1⟩ := q
            have e25 := dz_lm1
            refine dz_Teq (fun h26 => ?_) (fun h26 => ?_)
            · skip
              refine dz_Tb (t117_X3_addTeam fu hfu _ _ _ _ i14 i15) (fun r11 q => ?_)
              obtain ⟨q11_0, q11_1, qo11_0⟩ := q
              refine dz_Tb (t96_X5_step fu hfu _ _ _ _ _ _ p0 p1 i8 i9 i10 i11 i16) (fun r12 q => ?_)
              obtain ⟨q12_0, q12_1, q12_2, q12_3, q12_4⟩ := q
              have e27 := dz_l1
              have e28 := dz_add (a := v1) (b := (1 : Int32)) (by omega) (by omega)
              have e29 := dz_add (a := v2) (b := (1 : Int32)) (by omega) (by omega)
              exact (ih k4 (by omega)) (v1 + (1 : Int32)) (v2 + (1 : Int32)) r8.2.1 r8.2.2 r12.1 r12.2.1 r12.2.2.1 r12.2.2.2 c255_pots r11.1 r11.2.1 r11.2.2 i0 i1 i2 i3 (by omega) (by omega) (by omega) (by omega) q12_0 q12_1 q12_2 q12_3 i12 i13 q11_0 (by first | assumption | omega) q12_4 i17 i18 (by omega) (by omega) (by omega) (by omega) (by omega) (by omega) (by omega) (by first | assumption | omega) (by first | assumption | omega) (by omega) (by omega) (by omega) (by omega) (by omega)
            · skip
              refine dz_Tb (t97_X5_fail fu hfu _ _ _ _ i10 i11) (fun r13 q => ?_)
              obtain ⟨q13_0, q13_1, qo13_0⟩ := q
              refine dz_Tg (dz_nb (by omega)) ?_
              refine dz_Ts ?_
              dsimp only
              exact ⟨(by first | assumption | omega), i1, (by first | assumption | omega), i3, (by first | assumption | omega), q13_1, i8, i9, i10, i11, (by first | assumption | omega), i13, i14, i15, (by first | assumption | omega), (by first | assumption | omega), i16, i18, (by first | assumption | omega), i26, (by omega), (by omega)⟩
theorem t118_X5_readPot_I (fu : Nat) (hfu : 1000000000000 ≤ fu) (a247 : Nat → Int32) (c254_length : Int32) (c255_groups : Int32) (gh_c255_teams : Int32) (gh_c255_pots : Int32) (p0 : c254_length.toInt ≤ 400) (p1 : 0 ≤ c254_length.toInt) (p2 : c255_groups.toInt ≤ 4) (p3 : 2 ≤ c255_groups.toInt) (k : Nat) : p118_X5_readPot fu a247 c254_length c255_groups gh_c255_teams gh_c255_pots k := by
  induction k using Nat.strongRecOn with
  | _ k ih => exact t118_X5_readPot_h2 fu hfu a247 c254_length c255_groups gh_c255_teams gh_c255_pots p0 p1 p2 p3 k ih
set_option maxHeartbeats 1000000 in
set_option maxRecDepth 10000 in
theorem t118_X5_readPot_E (fu : Nat) (hfu : 1000000000000 ≤ fu) (a247 : Nat → Int32) (c254_length : Int32) (c255_groups : Int32) (c254_fault : Int32) (c254_place : Int32) (c254_at : Int32) (c254_kind : Int32) (c254_start : Int32) (c254_value : Int32) (c255_pots : Int32) (c255_teams : Int32) (a256 : Nat → Int32) (a257 : Nat → Int32) (p0 : c254_length.toInt ≤ 400) (p1 : 0 ≤ c254_length.toInt) (p2 : c255_groups.toInt ≤ 4) (p3 : 2 ≤ c255_groups.toInt) (p4 : c254_at.toInt ≤ 400) (p5 : 0 ≤ c254_at.toInt) (p6 : c254_start.toInt ≤ 400) (p7 : 0 ≤ c254_start.toInt) (p8 : c255_pots.toInt ≤ 4) (p9 : 0 ≤ c255_pots.toInt) (p10 : c255_teams.toInt ≤ 12) (p11 : 0 ≤ c255_teams.toInt) (p12 : c254_at.toInt ≤ c254_length.toInt) (kv : Nat) (hkv : 1000000000000 ≤ kv) : dz_T (s118_X5_readPot_0 fu a247 c254_length c255_groups (F118_X5_readPot fu a247 c254_length c255_groups kv).1 (F118_X5_readPot fu a247 c254_length c255_groups kv).2.1  c254_fault c254_place c254_at c254_kind c254_start c254_value c255_pots c255_teams a256 a257) (fun r => c255_teams.toInt ≤ 12 ∧ 0 ≤ c255_teams.toInt ∧ c255_pots.toInt ≤ 4 ∧ 0 ≤ c255_pots.toInt ∧ r.1.toInt ≤ 1 ∧ 0 ≤ r.1.toInt ∧ r.2.2.2.1.toInt ≤ 400 ∧ 0 ≤ r.2.2.2.1.toInt ∧ r.2.2.2.2.2.1.toInt ≤ 400 ∧ 0 ≤ r.2.2.2.2.2.1.toInt ∧ r.2.2.2.2.2.2.2.1.toInt ≤ 4 ∧ 0 ≤ r.2.2.2.2.2.2.2.1.toInt ∧ r.2.2.2.2.2.2.2.2.1.toInt ≤ 12 ∧ 0 ≤ r.2.2.2.2.2.2.2.2.1.toInt ∧ r.1.toInt ≤ r.2.2.2.2.2.2.2.1.toInt ∧ r.1.toInt ≤ c254_length.toInt ∧ r.2.2.2.1.toInt ≤ c254_length.toInt ∧ c255_pots.toInt ≤ r.2.2.2.2.2.2.2.1.toInt ∧ r.2.2.2.2.2.2.2.1.toInt ≤ c255_pots.toInt + 1 ∧ c255_teams.toInt ≤ r.2.2.2.2.2.2.2.2.1.toInt + 9 ∧ (r.1.toInt ≠ 0 ∨ r.2.1.toInt ≠ 0) ∧ (r.1.toInt = 0 ∨ (r.2.2.2.2.2.2.2.1.toInt = c255_pots.toInt + 1 ∧ r.2.2.2.2.2.2.2.2.1.toInt = c255_teams.toInt + c255_groups.toInt))) := by
  unfold s118_X5_readPot_0
  have e1 := dz_l4
  refine dz_Teq (fun h2 => ?_) (fun h2 => ?_)
  · skip
    obtain ⟨k1, rfl⟩ : ∃ x, kv = x + 1 := ⟨kv - 1, by omega⟩
    show dz_T (s118_X5_readPot_1 fu a247 c254_length c255_groups c254_fault c254_place c254_at c254_kind c254_start c254_value c255_pots c255_teams a256 a257) _
    unfold s118_X5_readPot_1
    have e3 := dz_l2
    refine dz_Tb (t97_X5_fail fu hfu _ _ _ _ p6 p7) (fun r1 q => ?_)
    obtain ⟨q1_0, q1_1, qo1_0⟩ := q
    refine dz_Tg (dz_nb (by omega)) ?_
    refine dz_Ts ?_
    dsimp only
    exact ⟨(by first | assumption | omega), (by first | assumption | omega), (by first | assumption | omega), (by first | assumption | omega), (by first | assumption | omega), q1_1, p4, p5, p6, p7, p8, p9, p10, p11, (by first | assumption | omega), (by first | assumption | omega), p12, (by first | assumption | omega), (by first | assumption | omega), (by first | assumption | omega), (by omega), (by omega)⟩
  · skip
    have e4 := dz_add (a := c255_teams) (b := c255_groups) (by omega) (by omega)
    have e5 := dz_l12
    refine dz_Tle (fun h6 => ?_) (fun h6 => ?_)
    · skip
      refine dz_Tb (t96_X5_step fu hfu _ _ _ _ _ _ p0 p1 p4 p5 p6 p7 p12) (fun r2 q => ?_)
      obtain ⟨q2_0, q2_1, q2_2, q2_3, q2_4⟩ := q
      have e7 := dz_l0
      exact (t118_X5_readPot_I fu hfu a247 c254_length c255_groups c255_teams c255_pots p0 p1 p2 p3 kv) (0 : Int32) (0 : Int32) c254_fault c254_place r2.1 r2.2.1 r2.2.2.1 r2.2.2.2 c255_pots c255_teams a256 a257 (by first | assumption | omega) (by first | assumption | omega) (by first | assumption | omega) (by first | assumption | omega) (by omega) (by omega) (by omega) (by omega) q2_0 q2_1 q2_2 q2_3 (by first | assumption | omega) p9 p10 p11 q2_4 (by first | assumption | omega) (by first | assumption | omega) (by omega) (by omega) (by omega) (by omega) (by omega) (by omega) (by omega) (by first | assumption | omega) (by first | assumption | omega) (by omega) (by omega) (by omega) (by omega) (by omega)
    · skip
      obtain ⟨k2, rfl⟩ : ∃ x, kv = x + 1 := ⟨kv - 1, by omega⟩
      show dz_T (s118_X5_readPot_1 fu a247 c254_length c255_groups c254_fault c254_place c254_at c254_kind c254_start c254_value c255_pots c255_teams a256 a257) _
      unfold s118_X5_readPot_1
      have e8 := dz_l2
      refine dz_Tb (t97_X5_fail fu hfu _ _ _ _ p6 p7) (fun r3 q => ?_)
      obtain ⟨q3_0, q3_1, qo3_0⟩ := q
      refine dz_Tg (dz_nb (by omega)) ?_
      refine dz_Ts ?_
      dsimp only
      exact ⟨(by first | assumption | omega), (by first | assumption | omega), (by first | assumption | omega), (by first | assumption | omega), (by first | assumption | omega), q3_1, p4, p5, p6, p7, p8, p9, p10, p11, (by first | assumption | omega), (by first | assumption | omega), p12, (by first | assumption | omega), (by first | assumption | omega), (by first | assumption | omega), (by omega), (by omega)⟩
theorem t118_X5_readPot (fu : Nat) (hfu : 1000000000000 ≤ fu) (a247 : Nat → Int32) (c254_length : Int32) (c255_groups : Int32) (c254_fault : Int32) (c254_place : Int32) (c254_at : Int32) (c254_kind : Int32) (c254_start : Int32) (c254_value : Int32) (c255_pots : Int32) (c255_teams : Int32) (a256 : Nat → Int32) (a257 : Nat → Int32) (p0 : c254_length.toInt ≤ 400) (p1 : 0 ≤ c254_length.toInt) (p2 : c255_groups.toInt ≤ 4) (p3 : 2 ≤ c255_groups.toInt) (p4 : c254_at.toInt ≤ 400) (p5 : 0 ≤ c254_at.toInt) (p6 : c254_start.toInt ≤ 400) (p7 : 0 ≤ c254_start.toInt) (p8 : c255_pots.toInt ≤ 4) (p9 : 0 ≤ c255_pots.toInt) (p10 : c255_teams.toInt ≤ 12) (p11 : 0 ≤ c255_teams.toInt) (p12 : c254_at.toInt ≤ c254_length.toInt) : dz_T (f118_X5_readPot fu a247 c254_length c255_groups c254_fault c254_place c254_at c254_kind c254_start c254_value c255_pots c255_teams a256 a257) (fun r => c255_teams.toInt ≤ 12 ∧ 0 ≤ c255_teams.toInt ∧ c255_pots.toInt ≤ 4 ∧ 0 ≤ c255_pots.toInt ∧ r.1.toInt ≤ 1 ∧ 0 ≤ r.1.toInt ∧ r.2.2.2.1.toInt ≤ 400 ∧ 0 ≤ r.2.2.2.1.toInt ∧ r.2.2.2.2.2.1.toInt ≤ 400 ∧ 0 ≤ r.2.2.2.2.2.1.toInt ∧ r.2.2.2.2.2.2.2.1.toInt ≤ 4 ∧ 0 ≤ r.2.2.2.2.2.2.2.1.toInt ∧ r.2.2.2.2.2.2.2.2.1.toInt ≤ 12 ∧ 0 ≤ r.2.2.2.2.2.2.2.2.1.toInt ∧ r.1.toInt ≤ r.2.2.2.2.2.2.2.1.toInt ∧ r.1.toInt ≤ c254_length.toInt ∧ r.2.2.2.1.toInt ≤ c254_length.toInt ∧ c255_pots.toInt ≤ r.2.2.2.2.2.2.2.1.toInt ∧ r.2.2.2.2.2.2.2.1.toInt ≤ c255_pots.toInt + 1 ∧ c255_teams.toInt ≤ r.2.2.2.2.2.2.2.2.1.toInt + 9 ∧ (r.1.toInt ≠ 0 ∨ r.2.1.toInt ≠ 0) ∧ (r.1.toInt = 0 ∨ (r.2.2.2.2.2.2.2.1.toInt = c255_pots.toInt + 1 ∧ r.2.2.2.2.2.2.2.2.1.toInt = c255_teams.toInt + c255_groups.toInt))) :=
  t118_X5_readPot_E fu hfu a247 c254_length c255_groups c254_fault c254_place c254_at c254_kind c254_start c254_value c255_pots c255_teams a256 a257 p0 p1 p2 p3 p4 p5 p6 p7 p8 p9 p10 p11 p12 fu hfu
set_option maxHeartbeats 1000000 in
set_option maxRecDepth 10000 in
theorem t119_X5_readGroups (fu : Nat) (hfu : 1000000000000 ≤ fu) (a247 : Nat → Int32) (c254_length : Int32) (c254_fault : Int32) (c254_place : Int32) (c254_at : Int32) (c254_kind : Int32) (c254_start : Int32) (c254_value : Int32) (c255_groups : Int32) (p0 : c254_length.toInt ≤ 400) (p1 : 0 ≤ c254_length.toInt) (p2 : c254_at.toInt ≤ 400) (p3 : 0 ≤ c254_at.toInt) (p4 : c254_start.toInt ≤ 400) (p5 : 0 ≤ c254_start.toInt) (p6 : c255_groups.toInt ≤ 4) (p7 : 2 ≤ c255_groups.toInt) (p8 : c254_at.toInt ≤ c254_length.toInt) : dz_T (f119_X5_readGroups fu a247 c254_length c254_fault c254_place c254_at c254_kind c254_start c254_value c255_groups) (fun r => r.1.toInt ≤ 1 ∧ 0 ≤ r.1.toInt ∧ r.2.2.2.1.toInt ≤ 400 ∧ 0 ≤ r.2.2.2.1.toInt ∧ r.2.2.2.2.2.1.toInt ≤ 400 ∧ 0 ≤ r.2.2.2.2.2.1.toInt ∧ r.2.2.2.2.2.2.2.toInt ≤ 4 ∧ 2 ≤ r.2.2.2.2.2.2.2.toInt ∧ r.2.2.2.1.toInt ≤ c254_length.toInt ∧ (r.1.toInt ≠ 0 ∨ r.2.1.toInt ≠ 0)) := by
  unfold f119_X5_readGroups s119_X5_readGroups_0
  refine dz_Tb (t96_X5_step fu hfu _ _ _ _ _ _ p0 p1 p2 p3 p4 p5 p8) (fun r1 q => ?_)
  obtain ⟨q1_0, q1_1, q1_2, q1_3, q1_4⟩ := q
  have e1 := dz_l2
  have e2 := dz_l4
  refine dz_Tb (t107_X5_isNumber fu hfu _ _ _ _ _ _ _ q1_2 q1_3) (fun r2 q => ?_)
  obtain ⟨q2_0, q2_1, qo2_0, qo2_1⟩ := q
  have e3 := dz_l0
  refine dz_Teq (fun h4 => ?_) (fun h4 => ?_)
  · skip
    refine dz_Ts ?_
    dsimp only
    exact ⟨(by omega), (by omega), q1_0, q1_1, q1_2, q1_3, p6, p7, q1_4, (by omega)⟩
  · skip
    refine dz_Tb (t96_X5_step fu hfu _ _ _ _ _ _ p0 p1 q1_0 q1_1 q1_2 q1_3 q1_4) (fun r3 q => ?_)
    obtain ⟨q3_0, q3_1, q3_2, q3_3, q3_4⟩ := q
    have e5 := dz_l1
    refine dz_Ts ?_
    dsimp only
    exact ⟨(by omega), (by omega), q3_0, q3_1, q3_2, q3_3, (by first | assumption | omega), (by first | assumption | omega), q3_4, (by omega)⟩
set_option maxHeartbeats 1000000 in
set_option maxRecDepth 10000 in
theorem t120_X5_readUpToStop (fu : Nat) (hfu : 1000000000000 ≤ fu) (a247 : Nat → Int32) (c254_length : Int32) (v1 : Int32) (c254_fault : Int32) (c254_place : Int32) (c254_at : Int32) (c254_kind : Int32) (c254_start : Int32) (c254_value : Int32) (c255_groups : Int32) (c255_pots : Int32) (c255_teams : Int32) (c255_marks : Int32) (c255_bars : Int32) (c255_groupsNamed : Int32) (a256 : Nat → Int32) (a257 : Nat → Int32) (a258 : Nat → Int32) (a259 : Nat → Int32) (a260 : Nat → Int32) (p0 : c254_length.toInt ≤ 400) (p1 : 0 ≤ c254_length.toInt) (p2 : c254_at.toInt ≤ 400) (p3 : 0 ≤ c254_at.toInt) (p4 : c254_start.toInt ≤ 400) (p5 : 0 ≤ c254_start.toInt) (p6 : c255_groups.toInt ≤ 4) (p7 : 2 ≤ c255_groups.toInt) (p8 : c255_pots.toInt ≤ 4) (p9 : 0 ≤ c255_pots.toInt) (p10 : c255_teams.toInt ≤ 12) (p11 : 0 ≤ c255_teams.toInt) (p12 : c255_marks.toInt ≤ 6) (p13 : 0 ≤ c255_marks.toInt) (p14 : c255_bars.toInt ≤ 10) (p15 : 0 ≤ c255_bars.toInt) (p16 : c254_at.toInt ≤ c254_length.toInt) (o0 : ((c255_groups.toInt = 2 ∧ c255_teams.toInt = 2 * c255_pots.toInt) ∨ (c255_groups.toInt = 3 ∧ c255_teams.toInt = 3 * c255_pots.toInt) ∨ (c255_groups.toInt = 4 ∧ c255_teams.toInt = 4 * c255_pots.toInt))) (o1 : v1.toInt = 0 ∨ (c255_pots.toInt = 0 ∧ c255_teams.toInt = 0)) : dz_T (f120_X5_readUpToStop fu a247 c254_length v1 c254_fault c254_place c254_at c254_kind c254_start c254_value c255_groups c255_pots c255_teams c255_marks c255_bars c255_groupsNamed a256 a257 a258 a259 a260) (fun r => r.1.toInt ≤ 1 ∧ 0 ≤ r.1.toInt ∧ r.2.2.2.1.toInt ≤ 400 ∧ 0 ≤ r.2.2.2.1.toInt ∧ r.2.2.2.2.2.1.toInt ≤ 400 ∧ 0 ≤ r.2.2.2.2.2.1.toInt ∧ r.2.2.2.2.2.2.2.1.toInt ≤ 4 ∧ 2 ≤ r.2.2.2.2.2.2.2.1.toInt ∧ r.2.2.2.2.2.2.2.2.1.toInt ≤ 4 ∧ 0 ≤ r.2.2.2.2.2.2.2.2.1.toInt ∧ r.2.2.2.2.2.2.2.2.2.1.toInt ≤ 12 ∧ 0 ≤ r.2.2.2.2.2.2.2.2.2.1.toInt ∧ r.2.2.2.2.2.2.2.2.2.2.1.toInt ≤ 6 ∧ 0 ≤ r.2.2.2.2.2.2.2.2.2.2.1.toInt ∧ r.2.2.2.2.2.2.2.2.2.2.2.1.toInt ≤ 10 ∧ 0 ≤ r.2.2.2.2.2.2.2.2.2.2.2.1.toInt ∧ r.2.2.2.1.toInt ≤ c254_length.toInt ∧ (r.1.toInt ≠ 0 ∨ r.2.1.toInt ≠ 0) ∧ (r.1.toInt = 0 ∨ ((r.2.2.2.2.2.2.2.1.toInt = 2 ∧ r.2.2.2.2.2.2.2.2.2.1.toInt = 2 * r.2.2.2.2.2.2.2.2.1.toInt) ∨ (r.2.2.2.2.2.2.2.1.toInt = 3 ∧ r.2.2.2.2.2.2.2.2.2.1.toInt = 3 * r.2.2.2.2.2.2.2.2.1.toInt) ∨ (r.2.2.2.2.2.2.2.1.toInt = 4 ∧ r.2.2.2.2.2.2.2.2.2.1.toInt = 4 * r.2.2.2.2.2.2.2.2.1.toInt)))) := by
  unfold f120_X5_readUpToStop s120_X5_readUpToStop_0
  have e1 := dz_l1
  refine dz_Teq (fun h2 => ?_) (fun h2 => ?_)
  · skip
    have e3 := dz_l0
    refine dz_Teq (fun h4 => ?_) (fun h4 => ?_)
    · skip
      unfold d120_X5_readUpToStop_2 s120_X5_readUpToStop_2
      refine dz_Teq (fun h5 => ?_) (fun h5 => ?_)
      · skip
        have e6 := dz_l50383488
        refine dz_Teq (fun h7 => ?_) (fun h7 => ?_)
        · skip
          refine dz_Tb (t98_X5_isRoomForBar fu hfu _ _ _ _ p4 p5 p14 p15) (fun r1 q => ?_)
          obtain ⟨q1_0, q1_1, qo1_0⟩ := q
          refine dz_Teq (fun h8 => ?_) (fun h8 => ?_)
          · skip
            refine dz_Ts ?_
            dsimp only
            exact ⟨(by omega), (by omega), p2, p3, p4, p5, p6, p7, p8, p9, p10, p11, p12, p13, p14, p15, p16, (by omega), (by omega)⟩
          · skip
            refine dz_Tb (t106_X5_readApart fu hfu _ _ _ _ _ _ _ _ _ _ _ _ _ p0 p1 p10 p11 p2 p3 p4 p5 p14 p15 p16) (fun r2 q => ?_)
            obtain ⟨q2_0, q2_1, q2_2, q2_3, q2_4, q2_5, q2_6, q2_7, q2_8, q2_9, qo2_0⟩ := q
            refine dz_Teq (fun h9 => ?_) (fun h9 => ?_)
            · skip
              refine dz_Ts ?_
              dsimp only
              exact ⟨(by omega), (by omega), q2_2, q2_3, q2_4, q2_5, p6, p7, p8, p9, p10, p11, p12, p13, q2_6, q2_7, q2_9, (by omega), (by omega)⟩
            · skip
              refine dz_Ts ?_
              dsimp only
              exact ⟨(by omega), (by omega), q2_2, q2_3, q2_4, q2_5, p6, p7, p8, p9, p10, p11, p12, p13, q2_6, q2_7, q2_9, (by omega), (by omega)⟩
        · skip
          have e10 := dz_l54967924
          refine dz_Teq (fun h11 => ?_) (fun h11 => ?_)
          · skip
            refine dz_Tb (t98_X5_isRoomForBar fu hfu _ _ _ _ p4 p5 p14 p15) (fun r3 q => ?_)
            obtain ⟨q3_0, q3_1, qo3_0⟩ := q
            refine dz_Teq (fun h12 => ?_) (fun h12 => ?_)
            · skip
              refine dz_Ts ?_
              dsimp only
              exact ⟨(by omega), (by omega), p2, p3, p4, p5, p6, p7, p8, p9, p10, p11, p12, p13, p14, p15, p16, (by omega), (by omega)⟩
            · skip
              refine dz_Tb (t111_X5_readAtMost fu hfu _ _ _ _ _ _ _ _ _ _ _ _ _ _ _ p0 p1 p10 p11 p12 p13 p2 p3 p4 p5 p14 p15 p16) (fun r4 q => ?_)
              obtain ⟨q4_0, q4_1, q4_2, q4_3, q4_4, q4_5, q4_6, q4_7, q4_8, q4_9, qo4_0⟩ := q
              refine dz_Teq (fun h13 => ?_) (fun h13 => ?_)
              · skip
                refine dz_Ts ?_
                dsimp only
                exact ⟨(by omega), (by omega), q4_2, q4_3, q4_4, q4_5, p6, p7, p8, p9, p10, p11, p12, p13, q4_6, q4_7, q4_9, (by omega), (by omega)⟩
              · skip
                refine dz_Ts ?_
                dsimp only
                exact ⟨(by omega), (by omega), q4_2, q4_3, q4_4, q4_5, p6, p7, p8, p9, p10, p11, p12, p13, q4_6, q4_7, q4_9, (by omega), (by omega)⟩
          · skip
            have e14 := dz_l211555456
            refine dz_Teq (fun h15 => ?_) (fun h15 => ?_)
            · skip
              refine dz_Tb (t98_X5_isRoomForBar fu hfu _ _ _ _ p4 p5 p14 p15) (fun r5 q => ?_)
              obtain ⟨q5_0, q5_1, qo5_0⟩ := q
              refine dz_Teq (fun h16 => ?_) (fun h16 => ?_)
              · skip
                refine dz_Ts ?_
                dsimp only
                exact ⟨(by omega), (by omega), p2, p3, p4, p5, p6, p7, p8, p9, p10, p11, p12, p13, p14, p15, p16, (by omega), (by omega)⟩
              · skip
                refine dz_Tb (t114_X5_readHeld fu hfu _ _ _ _ _ _ _ _ _ _ _ _ _ _ _ _ p0 p1 p6 p7 p10 p11 p2 p3 p4 p5 p14 p15 p16) (fun r6 q => ?_)
                obtain ⟨q6_0, q6_1, q6_2, q6_3, q6_4, q6_5, q6_6, q6_7, q6_8, q6_9, qo6_0⟩ := q
                refine dz_Teq (fun h17 => ?_) (fun h17 => ?_)
                · skip
                  refine dz_Ts ?_
                  dsimp only
                  exact ⟨(by omega), (by omega), q6_2, q6_3, q6_4, q6_5, p6, p7, p8, p9, p10, p11, p12, p13, q6_6, q6_7, q6_9, (by omega), (by omega)⟩
                · skip
                  refine dz_Ts ?_
                  dsimp only
                  exact ⟨(by omega), (by omega), q6_2, q6_3, q6_4, q6_5, p6, p7, p8, p9, p10, p11, p12, p13, q6_6, q6_7, q6_9, (by omega), (by omega)⟩
            · skip
              have e18 := dz_l254268947
              refine dz_Teq (fun h19 => ?_) (fun h19 => ?_)
              · skip
                have e20 := dz_l3
                refine dz_Tb (t97_X5_fail fu hfu _ _ _ _ p4 p5) (fun r7 q => ?_)
                obtain ⟨q7_0, q7_1, qo7_0⟩ := q
                refine dz_Tg (dz_nb (by omega)) ?_
                refine dz_Ts ?_
                dsimp only
                exact ⟨(by first | assumption | omega), q7_1, p2, p3, p4, p5, p6, p7, p8, p9, p10, p11, p12, p13, p14, p15, p16, (by omega), (by omega)⟩
              · skip
                have e21 := dz_l437857280
                refine dz_Teq (fun h22 => ?_) (fun h22 => ?_)
                · skip
                  refine dz_Tb (t116_X5_readMark fu hfu _ _ _ _ _ _ _ _ _ _ _ _ _ p0 p1 p10 p11 p2 p3 p4 p5 p12 p13 p16) (fun r8 q => ?_)
                  obtain ⟨q8_0, q8_1, q8_2, q8_3, q8_4, q8_5, q8_6, q8_7, q8_8, q8_9, qo8_0⟩ := q
                  refine dz_Tg (dz_nb (by omega)) ?_
                  refine dz_Ts ?_
                  dsimp only
                  exact ⟨q8_0, q8_1, q8_2, q8_3, q8_4, q8_5, p6, p7, p8, p9, p10, p11, q8_6, q8_7, p14, p15, q8_9, (by omega), (by omega)⟩
                · skip
                  have e23 := dz_l475731520
                  refine dz_Teq (fun h24 => ?_) (fun h24 => ?_)
                  · skip
                    refine dz_Tb (t98_X5_isRoomForBar fu hfu _ _ _ _ p4 p5 p14 p15) (fun r9 q => ?_)
                    obtain ⟨q9_0, q9_1, qo9_0⟩ := q
                    refine dz_Teq (fun h25 => ?_) (fun h25 => ?_)
                    · skip
                      refine dz_Ts ?_
                      dsimp only
                      exact ⟨(by omega), (by omega), p2, p3, p4, p5, p6, p7, p8, p9, p10, p11, p12, p13, p14, p15, p16, (by omega), (by omega)⟩
                    · skip
                      refine dz_Tb (t114_X5_readHeld fu hfu _ _ _ _ _ _ _ _ _ _ _ _ _ _ _ _ p0 p1 p6 p7 p10 p11 p2 p3 p4 p5 p14 p15 p16) (fun r10 q => ?_)
                      obtain ⟨q10_0, q10_1, q10_2, q10_3, q10_4, q10_5, q10_6, q10_7, q10_8, q10_9, qo10_0⟩ := q
                      refine dz_Teq (fun h26 => ?_) (fun h26 => ?_)
                      · skip
                        refine dz_Ts ?_
                        dsimp only
                        exact ⟨(by omega), (by omega), q10_2, q10_3, q10_4, q10_5, p6, p7, p8, p9, p10, p11, p12, p13, q10_6, q10_7, q10_9, (by omega), (by omega)⟩
                      · skip
                        refine dz_Ts ?_
                        dsimp only
                        exact ⟨(by omega), (by omega), q10_2, q10_3, q10_4, q10_5, p6, p7, p8, p9, p10, p11, p12, p13, q10_6, q10_7, q10_9, (by omega), (by omega)⟩
                  · skip
                    have e27 := dz_l553254912
                    refine dz_Teq (fun h28 => ?_) (fun h28 => ?_)
                    · skip
                      refine dz_Tb (t118_X5_readPot fu hfu _ _ _ _ _ _ _ _ _ _ _ _ _ p0 p1 p6 p7 p2 p3 p4 p5 p8 p9 p10 p11 p16) (fun r11 q => ?_)
                      obtain ⟨q11_0, q11_1, q11_2, q11_3, q11_4, q11_5, q11_6, q11_7, q11_8, q11_9, q11_10, q11_11, q11_12, q11_13, q11_14, q11_15, q11_16, q11_17, q11_18, q11_19, qo11_0, qo11_1⟩ := q
                      refine dz_Tg (dz_nb (by omega)) ?_
                      refine dz_Ts ?_
                      dsimp only
                      exact ⟨q11_4, q11_5, q11_6, q11_7, q11_8, q11_9, p6, p7, q11_10, q11_11, q11_12, q11_13, p12, p13, p14, p15, q11_16, (by omega), (by omega)⟩
                    · skip
                      refine dz_Tb (t97_X5_fail fu hfu _ _ _ _ p4 p5) (fun r12 q => ?_)
                      obtain ⟨q12_0, q12_1, qo12_0⟩ := q
                      refine dz_Tg (dz_nb (by omega)) ?_
                      refine dz_Ts ?_
                      dsimp only
                      exact ⟨(by first | assumption | omega), q12_1, p2, p3, p4, p5, p6, p7, p8, p9, p10, p11, p12, p13, p14, p15, p16, (by omega), (by omega)⟩
      · skip
        exfalso; omega
    · skip
      have e29 := dz_l254268947
      refine dz_Teq (fun h30 => ?_) (fun h30 => ?_)
      · skip
        unfold d120_X5_readUpToStop_2 s120_X5_readUpToStop_2
        refine dz_Teq (fun h31 => ?_) (fun h31 => ?_)
        · skip
          have e32 := dz_l50383488
          refine dz_Teq (fun h33 => ?_) (fun h33 => ?_)
          · skip
            exfalso; omega
          · skip
            have e34 := dz_l54967924
            refine dz_Teq (fun h35 => ?_) (fun h35 => ?_)
            · skip
              exfalso; omega
            · skip
              have e36 := dz_l211555456
              refine dz_Teq (fun h37 => ?_) (fun h37 => ?_)
              · skip
                exfalso; omega
              · skip
                refine dz_Teq (fun h38 => ?_) (fun h38 => ?_)
                · skip
                  have e39 := dz_l3
                  refine dz_Tb (t97_X5_fail fu hfu _ _ _ _ p4 p5) (fun r13 q => ?_)
                  obtain ⟨q13_0, q13_1, qo13_0⟩ := q
                  refine dz_Tg (dz_nb (by omega)) ?_
                  refine dz_Ts ?_
                  dsimp only
                  exact ⟨(by first | assumption | omega), q13_1, p2, p3, p4, p5, p6, p7, p8, p9, p10, p11, p12, p13, p14, p15, p16, (by omega), (by omega)⟩
                · skip
                  exfalso; omega
        · skip
          refine dz_Tb (t119_X5_readGroups fu hfu _ _ _ _ _ _ _ _ _ p0 p1 p2 p3 p4 p5 p6 p7 p16) (fun r14 q => ?_)
          obtain ⟨q14_0, q14_1, q14_2, q14_3, q14_4, q14_5, q14_6, q14_7, q14_8, qo14_0⟩ := q
          refine dz_Tg (dz_nb (by omega)) ?_
          refine dz_Ts ?_
          dsimp only
          exact ⟨q14_0, q14_1, q14_2, q14_3, q14_4, q14_5, q14_6, q14_7, p8, p9, p10, p11, p12, p13, p14, p15, q14_8, (by omega), (by omega)⟩
      · skip
        unfold d120_X5_readUpToStop_1 s120_X5_readUpToStop_1
        refine dz_Tb (t97_X5_fail fu hfu _ _ _ _ p4 p5) (fun r15 q => ?_)
        obtain ⟨q15_0, q15_1, qo15_0⟩ := q
        refine dz_Tg (dz_nb (by omega)) ?_
        refine dz_Ts ?_
        dsimp only
        exact ⟨(by first | assumption | omega), q15_1, p2, p3, p4, p5, p6, p7, p8, p9, p10, p11, p12, p13, p14, p15, p16, (by omega), (by omega)⟩
  · skip
    unfold d120_X5_readUpToStop_1 s120_X5_readUpToStop_1
    refine dz_Tb (t97_X5_fail fu hfu _ _ _ _ p4 p5) (fun r16 q => ?_)
    obtain ⟨q16_0, q16_1, qo16_0⟩ := q
    refine dz_Tg (dz_nb (by omega)) ?_
    refine dz_Ts ?_
    dsimp only
    exact ⟨(by first | assumption | omega), q16_1, p2, p3, p4, p5, p6, p7, p8, p9, p10, p11, p12, p13, p14, p15, p16, (by omega), (by omega)⟩
set_option maxHeartbeats 1000000 in
set_option maxRecDepth 10000 in
theorem t121_X5_readStop (fu : Nat) (hfu : 1000000000000 ≤ fu) (a247 : Nat → Int32) (c254_length : Int32) (c254_fault : Int32) (c254_place : Int32) (c254_at : Int32) (c254_kind : Int32) (c254_start : Int32) (c254_value : Int32) (p0 : c254_length.toInt ≤ 400) (p1 : 0 ≤ c254_length.toInt) (p2 : c254_at.toInt ≤ 400) (p3 : 0 ≤ c254_at.toInt) (p4 : c254_start.toInt ≤ 400) (p5 : 0 ≤ c254_start.toInt) (p6 : c254_at.toInt ≤ c254_length.toInt) : dz_T (f121_X5_readStop fu a247 c254_length c254_fault c254_place c254_at c254_kind c254_start c254_value) (fun r => r.1.toInt ≤ 1 ∧ 0 ≤ r.1.toInt ∧ r.2.2.2.1.toInt ≤ 400 ∧ 0 ≤ r.2.2.2.1.toInt ∧ r.2.2.2.2.2.1.toInt ≤ 400 ∧ 0 ≤ r.2.2.2.2.2.1.toInt ∧ r.2.2.2.1.toInt ≤ c254_length.toInt ∧ (r.1.toInt ≠ 0 ∨ r.2.1.toInt ≠ 0)) := by
  unfold f121_X5_readStop s121_X5_readStop_0
  have e1 := dz_l3
  refine dz_Teq (fun h2 => ?_) (fun h2 => ?_)
  · skip
    refine dz_Tb (t96_X5_step fu hfu _ _ _ _ _ _ p0 p1 p2 p3 p4 p5 p6) (fun r1 q => ?_)
    obtain ⟨q1_0, q1_1, q1_2, q1_3, q1_4⟩ := q
    have e3 := dz_l1
    refine dz_Ts ?_
    dsimp only
    exact ⟨(by omega), (by omega), q1_0, q1_1, q1_2, q1_3, q1_4, (by omega)⟩
  · skip
    have e4 := dz_l1
    refine dz_Tb (t97_X5_fail fu hfu _ _ _ _ p4 p5) (fun r2 q => ?_)
    obtain ⟨q2_0, q2_1, qo2_0⟩ := q
    refine dz_Tg (dz_nb (by omega)) ?_
    refine dz_Ts ?_
    dsimp only
    exact ⟨(by first | assumption | omega), q2_1, p2, p3, p4, p5, p6, (by omega)⟩
set_option maxHeartbeats 1000000 in
set_option maxRecDepth 10000 in
theorem t122_X5_readLine (fu : Nat) (hfu : 1000000000000 ≤ fu) (a247 : Nat → Int32) (c254_length : Int32) (v1 : Int32) (c254_fault : Int32) (c254_place : Int32) (c254_at : Int32) (c254_kind : Int32) (c254_start : Int32) (c254_value : Int32) (c255_groups : Int32) (c255_pots : Int32) (c255_teams : Int32) (c255_marks : Int32) (c255_bars : Int32) (c255_groupsNamed : Int32) (a256 : Nat → Int32) (a257 : Nat → Int32) (a258 : Nat → Int32) (a259 : Nat → Int32) (a260 : Nat → Int32) (p0 : c254_length.toInt ≤ 400) (p1 : 0 ≤ c254_length.toInt) (p2 : c254_at.toInt ≤ 400) (p3 : 0 ≤ c254_at.toInt) (p4 : c254_start.toInt ≤ 400) (p5 : 0 ≤ c254_start.toInt) (p6 : c255_groups.toInt ≤ 4) (p7 : 2 ≤ c255_groups.toInt) (p8 : c255_pots.toInt ≤ 4) (p9 : 0 ≤ c255_pots.toInt) (p10 : c255_teams.toInt ≤ 12) (p11 : 0 ≤ c255_teams.toInt) (p12 : c255_marks.toInt ≤ 6) (p13 : 0 ≤ c255_marks.toInt) (p14 : c255_bars.toInt ≤ 10) (p15 : 0 ≤ c255_bars.toInt) (p16 : c254_at.toInt ≤ c254_length.toInt) (o0 : ((c255_groups.toInt = 2 ∧ c255_teams.toInt = 2 * c255_pots.toInt) ∨ (c255_groups.toInt = 3 ∧ c255_teams.toInt = 3 * c255_pots.toInt) ∨ (c255_groups.toInt = 4 ∧ c255_teams.toInt = 4 * c255_pots.toInt))) (o1 : v1.toInt = 0 ∨ (c255_pots.toInt = 0 ∧ c255_teams.toInt = 0)) : dz_T (f122_X5_readLine fu a247 c254_length v1 c254_fault c254_place c254_at c254_kind c254_start c254_value c255_groups c255_pots c255_teams c255_marks c255_bars c255_groupsNamed a256 a257 a258 a259 a260) (fun r => r.1.toInt ≤ 1 ∧ 0 ≤ r.1.toInt ∧ r.2.2.2.1.toInt ≤ 400 ∧ 0 ≤ r.2.2.2.1.toInt ∧ r.2.2.2.2.2.1.toInt ≤ 400 ∧ 0 ≤ r.2.2.2.2.2.1.toInt ∧ r.2.2.2.2.2.2.2.1.toInt ≤ 4 ∧ 2 ≤ r.2.2.2.2.2.2.2.1.toInt ∧ r.2.2.2.2.2.2.2.2.1.toInt ≤ 4 ∧ 0 ≤ r.2.2.2.2.2.2.2.2.1.toInt ∧ r.2.2.2.2.2.2.2.2.2.1.toInt ≤ 12 ∧ 0 ≤ r.2.2.2.2.2.2.2.2.2.1.toInt ∧ r.2.2.2.2.2.2.2.2.2.2.1.toInt ≤ 6 ∧ 0 ≤ r.2.2.2.2.2.2.2.2.2.2.1.toInt ∧ r.2.2.2.2.2.2.2.2.2.2.2.1.toInt ≤ 10 ∧ 0 ≤ r.2.2.2.2.2.2.2.2.2.2.2.1.toInt ∧ r.2.2.2.1.toInt ≤ c254_length.toInt ∧ (r.2.1.toInt ≠ 0 ∨ ((r.2.2.2.2.2.2.2.1.toInt = 2 ∧ r.2.2.2.2.2.2.2.2.2.1.toInt = 2 * r.2.2.2.2.2.2.2.2.1.toInt) ∨ (r.2.2.2.2.2.2.2.1.toInt = 3 ∧ r.2.2.2.2.2.2.2.2.2.1.toInt = 3 * r.2.2.2.2.2.2.2.2.1.toInt) ∨ (r.2.2.2.2.2.2.2.1.toInt = 4 ∧ r.2.2.2.2.2.2.2.2.2.1.toInt = 4 * r.2.2.2.2.2.2.2.2.1.toInt))) ∧ (r.1.toInt ≠ 0 ∨ r.2.1.toInt ≠ 0)) := by
  unfold f122_X5_readLine s122_X5_readLine_0
  refine dz_Tb (t120_X5_readUpToStop fu hfu _ _ _ _ _ _ _ _ _ _ _ _ _ _ _ _ _ _ _ _ p0 p1 p2 p3 p4 p5 p6 p7 p8 p9 p10 p11 p12 p13 p14 p15 p16 o0 o1) (fun r1 q => ?_)
  obtain ⟨q1_0, q1_1, q1_2, q1_3, q1_4, q1_5, q1_6, q1_7, q1_8, q1_9, q1_10, q1_11, q1_12, q1_13, q1_14, q1_15, q1_16, qo1_0, qo1_1⟩ := q
  have e1 := dz_l0
  refine dz_Teq (fun h2 => ?_) (fun h2 => ?_)
  · skip
    refine dz_Ts ?_
    dsimp only
    exact ⟨(by omega), (by omega), q1_2, q1_3, q1_4, q1_5, q1_6, q1_7, q1_8, q1_9, q1_10, q1_11, q1_12, q1_13, q1_14, q1_15, q1_16, (by omega), (by omega)⟩
  · skip
    refine dz_Tb (t121_X5_readStop fu hfu _ _ _ _ _ _ _ _ p0 p1 q1_2 q1_3 q1_4 q1_5 q1_16) (fun r2 q => ?_)
    obtain ⟨q2_0, q2_1, q2_2, q2_3, q2_4, q2_5, q2_6, qo2_0⟩ := q
    refine dz_Teq (fun h3 => ?_) (fun h3 => ?_)
    · skip
      refine dz_Ts ?_
      dsimp only
      exact ⟨(by omega), (by omega), q2_2, q2_3, q2_4, q2_5, q1_6, q1_7, q1_8, q1_9, q1_10, q1_11, q1_12, q1_13, q1_14, q1_15, q2_6, (by omega), (by omega)⟩
    · skip
      have e4 := dz_l1
      refine dz_Ts ?_
      dsimp only
      exact ⟨(by omega), (by omega), q2_2, q2_3, q2_4, q2_5, q1_6, q1_7, q1_8, q1_9, q1_10, q1_11, q1_12, q1_13, q1_14, q1_15, q2_6, (by omega), (by omega)⟩
abbrev p123_X5_readLines (fu : Nat) (a247 : Nat → Int32) (k : Nat) : Prop :=
  (∀ (v2 : Int32) (v3 : Int32) (c254_fault : Int32) (c254_place : Int32) (c254_length : Int32) (c254_at : Int32) (c254_kind : Int32) (c254_start : Int32) (c254_value : Int32) (c255_groups : Int32) (c255_pots : Int32) (c255_teams : Int32) (c255_marks : Int32) (c255_bars : Int32) (c255_groupsNamed : Int32) (a256 : Nat → Int32) (a257 : Nat → Int32) (a258 : Nat → Int32) (a259 : Nat → Int32) (a260 : Nat → Int32), v2.toInt ≤ 401 → 0 ≤ v2.toInt → v3.toInt ≤ 401 → 0 ≤ v3.toInt → c254_length.toInt ≤ 400 → 0 ≤ c254_length.toInt → c254_at.toInt ≤ 400 → 0 ≤ c254_at.toInt → c254_start.toInt ≤ 400 → 0 ≤ c254_start.toInt → c255_groups.toInt ≤ 4 → 2 ≤ c255_groups.toInt → c255_pots.toInt ≤ 4 → 0 ≤ c255_pots.toInt → c255_teams.toInt ≤ 12 → 0 ≤ c255_teams.toInt → c255_marks.toInt ≤ 6 → 0 ≤ c255_marks.toInt → c255_bars.toInt ≤ 10 → 0 ≤ c255_bars.toInt → c254_at.toInt ≤ c254_length.toInt → v2.toInt ≤ v3.toInt → v2.toInt ≤ c254_length.toInt + 1 → v3.toInt ≤ c254_length.toInt + 1 → c255_groups.toInt ≤ v3.toInt + 3 → c255_pots.toInt ≤ v3.toInt + 3 → c255_marks.toInt ≤ v3.toInt + 5 → c255_bars.toInt ≤ v3.toInt + 9 → c255_teams.toInt ≤ v3.toInt + 11 → c254_fault.toInt ≠ 0 ∨ ((c255_groups.toInt = 2 ∧ c255_teams.toInt = 2 * c255_pots.toInt) ∨ (c255_groups.toInt = 3 ∧ c255_teams.toInt = 3 * c255_pots.toInt) ∨ (c255_groups.toInt = 4 ∧ c255_teams.toInt = 4 * c255_pots.toInt)) → v2.toInt ≠ 0 ∨ c254_fault.toInt ≠ 0 ∨ (c255_pots.toInt = 0 ∧ c255_teams.toInt = 0) → 0 + 0 + (401 - v3.toInt) * 14 + 7 ≤ ((k : Nat) : Int) → dz_T ((F123_X5_readLines fu a247 k).1 v2 v3 c254_fault c254_place c254_length c254_at c254_kind c254_start c254_value c255_groups c255_pots c255_teams c255_marks c255_bars c255_groupsNamed a256 a257 a258 a259 a260) (fun r => r.1.toInt ≤ 401 ∧ 0 ≤ r.1.toInt ∧ r.2.2.2.1.toInt ≤ 400 ∧ 0 ≤ r.2.2.2.1.toInt ∧ r.2.2.2.2.1.toInt ≤ 400 ∧ 0 ≤ r.2.2.2.2.1.toInt ∧ r.2.2.2.2.2.2.1.toInt ≤ 400 ∧ 0 ≤ r.2.2.2.2.2.2.1.toInt ∧ r.2.2.2.2.2.2.2.2.1.toInt ≤ 4 ∧ 2 ≤ r.2.2.2.2.2.2.2.2.1.toInt ∧ r.2.2.2.2.2.2.2.2.2.1.toInt ≤ 4 ∧ 0 ≤ r.2.2.2.2.2.2.2.2.2.1.toInt ∧ r.2.2.2.2.2.2.2.2.2.2.1.toInt ≤ 12 ∧ 0 ≤ r.2.2.2.2.2.2.2.2.2.2.1.toInt ∧ r.2.2.2.2.2.2.2.2.2.2.2.1.toInt ≤ 6 ∧ 0 ≤ r.2.2.2.2.2.2.2.2.2.2.2.1.toInt ∧ r.2.2.2.2.2.2.2.2.2.2.2.2.1.toInt ≤ 10 ∧ 0 ≤ r.2.2.2.2.2.2.2.2.2.2.2.2.1.toInt ∧ r.2.2.2.2.1.toInt ≤ r.2.2.2.1.toInt ∧ r.1.toInt ≤ r.2.2.2.1.toInt + 1 ∧ (r.2.1.toInt ≠ 0 ∨ ((r.2.2.2.2.2.2.2.2.1.toInt = 2 ∧ r.2.2.2.2.2.2.2.2.2.2.1.toInt = 2 * r.2.2.2.2.2.2.2.2.2.1.toInt) ∨ (r.2.2.2.2.2.2.2.2.1.toInt = 3 ∧ r.2.2.2.2.2.2.2.2.2.2.1.toInt = 3 * r.2.2.2.2.2.2.2.2.2.1.toInt) ∨ (r.2.2.2.2.2.2.2.2.1.toInt = 4 ∧ r.2.2.2.2.2.2.2.2.2.2.1.toInt = 4 * r.2.2.2.2.2.2.2.2.2.1.toInt)))))
set_option maxHeartbeats 1000000 in
set_option maxRecDepth 10000 in
theorem t123_X5_readLines_h1 (fu : Nat) (hfu : 1000000000000 ≤ fu) (a247 : Nat → Int32) (k : Nat) (ih : ∀ j9, j9 < k → p123_X5_readLines fu a247 j9) : ∀ (v2 : Int32) (v3 : Int32) (c254_fault : Int32) (c254_place : Int32) (c254_length : Int32) (c254_at : Int32) (c254_kind : Int32) (c254_start : Int32) (c254_value : Int32) (c255_groups : Int32) (c255_pots : Int32) (c255_teams : Int32) (c255_marks : Int32) (c255_bars : Int32) (c255_groupsNamed : Int32) (a256 : Nat → Int32) (a257 : Nat → Int32) (a258 : Nat → Int32) (a259 : Nat → Int32) (a260 : Nat → Int32), v2.toInt ≤ 401 → 0 ≤ v2.toInt → v3.toInt ≤ 401 → 0 ≤ v3.toInt → c254_length.toInt ≤ 400 → 0 ≤ c254_length.toInt → c254_at.toInt ≤ 400 → 0 ≤ c254_at.toInt → c254_start.toInt ≤ 400 → 0 ≤ c254_start.toInt → c255_groups.toInt ≤ 4 → 2 ≤ c255_groups.toInt → c255_pots.toInt ≤ 4 → 0 ≤ c255_pots.toInt → c255_teams.toInt ≤ 12 → 0 ≤ c255_teams.toInt → c255_marks.toInt ≤ 6 → 0 ≤ c255_marks.toInt → c255_bars.toInt ≤ 10 → 0 ≤ c255_bars.toInt → c254_at.toInt ≤ c254_length.toInt → v2.toInt ≤ v3.toInt → v2.toInt ≤ c254_length.toInt + 1 → v3.toInt ≤ c254_length.toInt + 1 → c255_groups.toInt ≤ v3.toInt + 3 → c255_pots.toInt ≤ v3.toInt + 3 → c255_marks.toInt ≤ v3.toInt + 5 → c255_bars.toInt ≤ v3.toInt + 9 → c255_teams.toInt ≤ v3.toInt + 11 → c254_fault.toInt ≠ 0 ∨ ((c255_groups.toInt = 2 ∧ c255_teams.toInt = 2 * c255_pots.toInt) ∨ (c255_groups.toInt = 3 ∧ c255_teams.toInt = 3 * c255_pots.toInt) ∨ (c255_groups.toInt = 4 ∧ c255_teams.toInt = 4 * c255_pots.toInt)) → v2.toInt ≠ 0 ∨ c254_fault.toInt ≠ 0 ∨ (c255_pots.toInt = 0 ∧ c255_teams.toInt = 0) → 0 + 0 + (401 - v3.toInt) * 14 + 7 ≤ ((k : Nat) : Int) → dz_T ((F123_X5_readLines fu a247 k).1 v2 v3 c254_fault c254_place c254_length c254_at c254_kind c254_start c254_value c255_groups c255_pots c255_teams c255_marks c255_bars c255_groupsNamed a256 a257 a258 a259 a260) (fun r => r.1.toInt ≤ 401 ∧ 0 ≤ r.1.toInt ∧ r.2.2.2.1.toInt ≤ 400 ∧ 0 ≤ r.2.2.2.1.toInt ∧ r.2.2.2.2.1.toInt ≤ 400 ∧ 0 ≤ r.2.2.2.2.1.toInt ∧ r.2.2.2.2.2.2.1.toInt ≤ 400 ∧ 0 ≤ r.2.2.2.2.2.2.1.toInt ∧ r.2.2.2.2.2.2.2.2.1.toInt ≤ 4 ∧ 2 ≤ r.2.2.2.2.2.2.2.2.1.toInt ∧ r.2.2.2.2.2.2.2.2.2.1.toInt ≤ 4 ∧ 0 ≤ r.2.2.2.2.2.2.2.2.2.1.toInt ∧ r.2.2.2.2.2.2.2.2.2.2.1.toInt ≤ 12 ∧ 0 ≤ r.2.2.2.2.2.2.2.2.2.2.1.toInt ∧ r.2.2.2.2.2.2.2.2.2.2.2.1.toInt ≤ 6 ∧ 0 ≤ r.2.2.2.2.2.2.2.2.2.2.2.1.toInt ∧ r.2.2.2.2.2.2.2.2.2.2.2.2.1.toInt ≤ 10 ∧ 0 ≤ r.2.2.2.2.2.2.2.2.2.2.2.2.1.toInt ∧ r.2.2.2.2.1.toInt ≤ r.2.2.2.1.toInt ∧ r.1.toInt ≤ r.2.2.2.1.toInt + 1 ∧ (r.2.1.toInt ≠ 0 ∨ ((r.2.2.2.2.2.2.2.2.1.toInt = 2 ∧ r.2.2.2.2.2.2.2.2.2.2.1.toInt = 2 * r.2.2.2.2.2.2.2.2.2.1.toInt) ∨ (r.2.2.2.2.2.2.2.2.1.toInt = 3 ∧ r.2.2.2.2.2.2.2.2.2.2.1.toInt = 3 * r.2.2.2.2.2.2.2.2.2.1.toInt) ∨ (r.2.2.2.2.2.2.2.2.1.toInt = 4 ∧ r.2.2.2.2.2.2.2.2.2.2.1.toInt = 4 * r.2.2.2.2.2.2.2.2.2.1.toInt)))) := by
  intro v2 v3 c254_fault c254_place c254_length c254_at c254_kind c254_start c254_value c255_groups c255_pots c255_teams c255_marks c255_bars c255_groupsNamed a256 a257 a258 a259 a260 i0 i1 i2 i3 i4 i5 i6 i7 i8 i9 i10 i11 i12 i13 i14 i15 i16 i17 i18 i19 i20 i21 i22 i23 i24 i25 i26 i27 i28 x0 x1 hm
  obtain ⟨k0, rfl⟩ : ∃ x, k = x + 1 := ⟨k - 1, by omega⟩
  show dz_T (s123_X5_readLines_1 fu a247 (F123_X5_readLines fu a247 k0).2.1  v2 v3 c254_fault c254_place c254_length c254_at c254_kind c254_start c254_value c255_groups c255_pots c255_teams c255_marks c255_bars c255_groupsNamed a256 a257 a258 a259 a260) _
  unfold s123_X5_readLines_1
  refine dz_Tlt (fun h1 => ?_) (fun h1 => ?_)
  · skip
    refine dz_Ts ?_
    dsimp only
    exact ⟨i0, i1, i4, i5, i6, i7, i8, i9, i10, i11, i12, i13, i14, i15, i16, i17, i18, i19, i20, i22, (by omega)⟩
  · skip
    have e2 := dz_l0
    refine dz_Teq (fun h3 => ?_) (fun h3 => ?_)
    · skip
      refine dz_Ts ?_
      dsimp only
      exact ⟨i0, i1, i4, i5, i6, i7, i8, i9, i10, i11, i12, i13, i14, i15, i16, i17, i18, i19, i20, i22, (by omega)⟩
    · skip
      refine dz_Teq (fun h4 => ?_) (fun h4 => ?_)
      · skip
        refine dz_Teq (fun h5 => ?_) (fun h5 => ?_)
        · skip
          obtain ⟨k1, rfl⟩ : ∃ x, k0 = x + 1 := ⟨k0 - 1, by omega⟩
          show dz_T (s123_X5_readLines_2 fu a247 (F123_X5_readLines fu a247 k1).2.2 v2 v3 (1 : Int32) c254_fault c254_place c254_length c254_at c254_kind c254_start c254_value c255_groups c255_pots c255_teams c255_marks c255_bars c255_groupsNamed a256 a257 a258 a259 a260) _
          unfold s123_X5_readLines_2
          have e6 := dz_l1
          refine dz_Tb (t122_X5_readLine fu hfu _ _ _ _ _ _ _ _ _ _ _ _ _ _ _ _ _ _ _ _ i4 i5 i6 i7 i8 i9 i10 i11 i12 i13 i14 i15 i16 i17 i18 i19 i20 (by first | assumption | omega) (by first | assumption | omega)) (fun r1 q => ?_)
          obtain ⟨q1_0, q1_1, q1_2, q1_3, q1_4, q1_5, q1_6, q1_7, q1_8, q1_9, q1_10, q1_11, q1_12, q1_13, q1_14, q1_15, q1_16, qo1_0, qo1_1⟩ := q
          refine dz_Teq (fun h7 => ?_) (fun h7 => ?_)
          · skip
            obtain ⟨k2, rfl⟩ : ∃ x, k1 = x + 1 := ⟨k1 - 1, by omega⟩
            show dz_T (s123_X5_readLines_3 fu a247 (F123_X5_readLines fu a247 k2).1 v2 v3 r1.2.1 r1.2.2.1 c254_length r1.2.2.2.1 r1.2.2.2.2.1 r1.2.2.2.2.2.1 r1.2.2.2.2.2.2.1 r1.2.2.2.2.2.2.2.1 r1.2.2.2.2.2.2.2.2.1 r1.2.2.2.2.2.2.2.2.2.1 r1.2.2.2.2.2.2.2.2.2.2.1 r1.2.2.2.2.2.2.2.2.2.2.2.1 r1.2.2.2.2.2.2.2.2.2.2.2.2.1 r1.2.2.2.2.2.2.2.2.2.2.2.2.2.1 r1.2.2.2.2.2.2.2.2.2.2.2.2.2.2.1 r1.2.2.2.2.2.2.2.2.2.2.2.2.2.2.2.1 r1.2.2.2.2.2.2.2.2.2.2.2.2.2.2.2.2.1 r1.2.2.2.2.2.2.2.2.2.2.2.2.2.2.2.2.2) _
            unfold s123_X5_readLines_3
            have e8 := dz_add (a := v3) (b := (1 : Int32)) (by omega) (by omega)
            exact (ih k2 (by omega)) v2 (v3 + (1 : Int32)) r1.2.1 r1.2.2.1 c254_length r1.2.2.2.1 r1.2.2.2.2.1 r1.2.2.2.2.2.1 r1.2.2.2.2.2.2.1 r1.2.2.2.2.2.2.2.1 r1.2.2.2.2.2.2.2.2.1 r1.2.2.2.2.2.2.2.2.2.1 r1.2.2.2.2.2.2.2.2.2.2.1 r1.2.2.2.2.2.2.2.2.2.2.2.1 r1.2.2.2.2.2.2.2.2.2.2.2.2.1 r1.2.2.2.2.2.2.2.2.2.2.2.2.2.1 r1.2.2.2.2.2.2.2.2.2.2.2.2.2.2.1 r1.2.2.2.2.2.2.2.2.2.2.2.2.2.2.2.1 r1.2.2.2.2.2.2.2.2.2.2.2.2.2.2.2.2.1 r1.2.2.2.2.2.2.2.2.2.2.2.2.2.2.2.2.2 i0 i1 (by omega) (by omega) i4 i5 q1_2 q1_3 q1_4 q1_5 q1_6 q1_7 q1_8 q1_9 q1_10 q1_11 q1_12 q1_13 q1_14 q1_15 q1_16 (by omega) i22 (by omega) (by omega) (by omega) (by omega) (by omega) (by omega) (by omega) (by omega) (by omega)
          · skip
            obtain ⟨k3, rfl⟩ : ∃ x, k1 = x + 1 := ⟨k1 - 1, by omega⟩
            show dz_T (s123_X5_readLines_3 fu a247 (F123_X5_readLines fu a247 k3).1 (v2 + (1 : Int32)) v3 r1.2.1 r1.2.2.1 c254_length r1.2.2.2.1 r1.2.2.2.2.1 r1.2.2.2.2.2.1 r1.2.2.2.2.2.2.1 r1.2.2.2.2.2.2.2.1 r1.2.2.2.2.2.2.2.2.1 r1.2.2.2.2.2.2.2.2.2.1 r1.2.2.2.2.2.2.2.2.2.2.1 r1.2.2.2.2.2.2.2.2.2.2.2.1 r1.2.2.2.2.2.2.2.2.2.2.2.2.1 r1.2.2.2.2.2.2.2.2.2.2.2.2.2.1 r1.2.2.2.2.2.2.2.2.2.2.2.2.2.2.1 r1.2.2.2.2.2.2.2.2.2.2.2.2.2.2.2.1 r1.2.2.2.2.2.2.2.2.2.2.2.2.2.2.2.2.1 r1.2.2.2.2.2.2.2.2.2.2.2.2.2.2.2.2.2) _
            unfold s123_X5_readLines_3
            have e9 := dz_add (a := v2) (b := (1 : Int32)) (by omega) (by omega)
            have e10 := dz_add (a := v3) (b := (1 : Int32)) (by omega) (by omega)
            exact (ih k3 (by omega)) (v2 + (1 : Int32)) (v3 + (1 : Int32)) r1.2.1 r1.2.2.1 c254_length r1.2.2.2.1 r1.2.2.2.2.1 r1.2.2.2.2.2.1 r1.2.2.2.2.2.2.1 r1.2.2.2.2.2.2.2.1 r1.2.2.2.2.2.2.2.2.1 r1.2.2.2.2.2.2.2.2.2.1 r1.2.2.2.2.2.2.2.2.2.2.1 r1.2.2.2.2.2.2.2.2.2.2.2.1 r1.2.2.2.2.2.2.2.2.2.2.2.2.1 r1.2.2.2.2.2.2.2.2.2.2.2.2.2.1 r1.2.2.2.2.2.2.2.2.2.2.2.2.2.2.1 r1.2.2.2.2.2.2.2.2.2.2.2.2.2.2.2.1 r1.2.2.2.2.2.2.2.2.2.2.2.2.2.2.2.2.1 r1.2.2.2.2.2.2.2.2.2.2.2.2.2.2.2.2.2 (by omega) (by omega) (by omega) (by omega) i4 i5 q1_2 q1_3 q1_4 q1_5 q1_6 q1_7 q1_8 q1_9 q1_10 q1_11 q1_12 q1_13 q1_14 q1_15 q1_16 (by omega) (by omega) (by omega) (by omega) (by omega) (by omega) (by omega) (by omega) (by omega) (by omega) (by omega)
        · skip
          obtain ⟨k4, rfl⟩ : ∃ x, k0 = x + 1 := ⟨k0 - 1, by omega⟩
          show dz_T (s123_X5_readLines_2 fu a247 (F123_X5_readLines fu a247 k4).2.2 v2 v3 (0 : Int32) c254_fault c254_place c254_length c254_at c254_kind c254_start c254_value c255_groups c255_pots c255_teams c255_marks c255_bars c255_groupsNamed a256 a257 a258 a259 a260) _
          unfold s123_X5_readLines_2
          refine dz_Tb (t122_X5_readLine fu hfu _ _ _ _ _ _ _ _ _ _ _ _ _ _ _ _ _ _ _ _ i4 i5 i6 i7 i8 i9 i10 i11 i12 i13 i14 i15 i16 i17 i18 i19 i20 (by first | assumption | omega) (by first | assumption | omega)) (fun r2 q => ?_)
          obtain ⟨q2_0, q2_1, q2_2, q2_3, q2_4, q2_5, q2_6, q2_7, q2_8, q2_9, q2_10, q2_11, q2_12, q2_13, q2_14, q2_15, q2_16, qo2_0, qo2_1⟩ := q
          refine dz_Teq (fun h11 => ?_) (fun h11 => ?_)
          · skip
            obtain ⟨k5, rfl⟩ : ∃ x, k4 = x + 1 := ⟨k4 - 1, by omega⟩
            show dz_T (s123_X5_readLines_3 fu a247 (F123_X5_readLines fu a247 k5).1 v2 v3 r2.2.1 r2.2.2.1 c254_length r2.2.2.2.1 r2.2.2.2.2.1 r2.2.2.2.2.2.1 r2.2.2.2.2.2.2.1 r2.2.2.2.2.2.2.2.1 r2.2.2.2.2.2.2.2.2.1 r2.2.2.2.2.2.2.2.2.2.1 r2.2.2.2.2.2.2.2.2.2.2.1 r2.2.2.2.2.2.2.2.2.2.2.2.1 r2.2.2.2.2.2.2.2.2.2.2.2.2.1 r2.2.2.2.2.2.2.2.2.2.2.2.2.2.1 r2.2.2.2.2.2.2.2.2.2.2.2.2.2.2.1 r2.2.2.2.2.2.2.2.2.2.2.2.2.2.2.2.1 r2.2.2.2.2.2.2.2.2.2.2.2.2.2.2.2.2.1 r2.2.2.2.2.2.2.2.2.2.2.2.2.2.2.2.2.2) _
            unfold s123_X5_readLines_3
            have e12 := dz_l1
            have e13 := dz_add (a := v3) (b := (1 : Int32)) (by omega) (by omega)
            exact (ih k5 (by omega)) v2 (v3 + (1 : Int32)) r2.2.1 r2.2.2.1 c254_length r2.2.2.2.1 r2.2.2.2.2.1 r2.2.2.2.2.2.1 r2.2.2.2.2.2.2.1 r2.2.2.2.2.2.2.2.1 r2.2.2.2.2.2.2.2.2.1 r2.2.2.2.2.2.2.2.2.2.1 r2.2.2.2.2.2.2.2.2.2.2.1 r2.2.2.2.2.2.2.2.2.2.2.2.1 r2.2.2.2.2.2.2.2.2.2.2.2.2.1 r2.2.2.2.2.2.2.2.2.2.2.2.2.2.1 r2.2.2.2.2.2.2.2.2.2.2.2.2.2.2.1 r2.2.2.2.2.2.2.2.2.2.2.2.2.2.2.2.1 r2.2.2.2.2.2.2.2.2.2.2.2.2.2.2.2.2.1 r2.2.2.2.2.2.2.2.2.2.2.2.2.2.2.2.2.2 i0 i1 (by omega) (by omega) i4 i5 q2_2 q2_3 q2_4 q2_5 q2_6 q2_7 q2_8 q2_9 q2_10 q2_11 q2_12 q2_13 q2_14 q2_15 q2_16 (by omega) i22 (by omega) (by omega) (by omega) (by omega) (by omega) (by omega) (by omega) (by omega) (by omega)
          · skip
            obtain ⟨k6, rfl⟩ : ∃ x, k4 = x + 1 := ⟨k4 - 1, by omega⟩
            show dz_T (s123_X5_readLines_3 fu a247 (F123_X5_readLines fu a247 k6).1 (v2 + (1 : Int32)) v3 r2.2.1 r2.2.2.1 c254_length r2.2.2.2.1 r2.2.2.2.2.1 r2.2.2.2.2.2.1 r2.2.2.2.2.2.2.1 r2.2.2.2.2.2.2.2.1 r2.2.2.2.2.2.2.2.2.1 r2.2.2.2.2.2.2.2.2.2.1 r2.2.2.2.2.2.2.2.2.2.2.1 r2.2.2.2.2.2.2.2.2.2.2.2.1 r2.2.2.2.2.2.2.2.2.2.2.2.2.1 r2.2.2.2.2.2.2.2.2.2.2.2.2.2.1 r2.2.2.2.2.2.2.2.2.2.2.2.2.2.2.1 r2.2.2.2.2.2.2.2.2.2.2.2.2.2.2.2.1 r2.2.2.2.2.2.2.2.2.2.2.2.2.2.2.2.2.1 r2.2.2.2.2.2.2.2.2.2.2.2.2.2.2.2.2.2) _
            unfold s123_X5_readLines_3
            have e14 := dz_l1
            have e15 := dz_add (a := v2) (b := (1 : Int32)) (by omega) (by omega)
            have e16 := dz_add (a := v3) (b := (1 : Int32)) (by omega) (by omega)
            exact (ih k6 (by omega)) (v2 + (1 : Int32)) (v3 + (1 : Int32)) r2.2.1 r2.2.2.1 c254_length r2.2.2.2.1 r2.2.2.2.2.1 r2.2.2.2.2.2.1 r2.2.2.2.2.2.2.1 r2.2.2.2.2.2.2.2.1 r2.2.2.2.2.2.2.2.2.1 r2.2.2.2.2.2.2.2.2.2.1 r2.2.2.2.2.2.2.2.2.2.2.1 r2.2.2.2.2.2.2.2.2.2.2.2.1 r2.2.2.2.2.2.2.2.2.2.2.2.2.1 r2.2.2.2.2.2.2.2.2.2.2.2.2.2.1 r2.2.2.2.2.2.2.2.2.2.2.2.2.2.2.1 r2.2.2.2.2.2.2.2.2.2.2.2.2.2.2.2.1 r2.2.2.2.2.2.2.2.2.2.2.2.2.2.2.2.2.1 r2.2.2.2.2.2.2.2.2.2.2.2.2.2.2.2.2.2 (by omega) (by omega) (by omega) (by omega) i4 i5 q2_2 q2_3 q2_4 q2_5 q2_6 q2_7 q2_8 q2_9 q2_10 q2_11 q2_12 q2_13 q2_14 q2_15 q2_16 (by omega) (by omega) (by omega) (by omega) (by omega) (by omega) (by omega) (by omega) (by omega) (by omega) (by omega)
      · skip
        refine dz_Ts ?_
        dsimp only
        exact ⟨i0, i1, i4, i5, i6, i7, i8, i9, i10, i11, i12, i13, i14, i15, i16, i17, i18, i19, i20, i22, (by omega)⟩
theorem t123_X5_readLines_I (fu : Nat) (hfu : 1000000000000 ≤ fu) (a247 : Nat → Int32) (k : Nat) : p123_X5_readLines fu a247 k := by
  induction k using Nat.strongRecOn with
  | _ k ih => exact t123_X5_readLines_h1 fu hfu a247 k ih
set_option maxHeartbeats 1000000 in
set_option maxRecDepth 10000 in
theorem t123_X5_readLines_E (fu : Nat) (hfu : 1000000000000 ≤ fu) (a247 : Nat → Int32) (v1 : Int32) (c254_fault : Int32) (c254_place : Int32) (c254_length : Int32) (c254_at : Int32) (c254_kind : Int32) (c254_start : Int32) (c254_value : Int32) (c255_groups : Int32) (c255_pots : Int32) (c255_teams : Int32) (c255_marks : Int32) (c255_bars : Int32) (c255_groupsNamed : Int32) (a256 : Nat → Int32) (a257 : Nat → Int32) (a258 : Nat → Int32) (a259 : Nat → Int32) (a260 : Nat → Int32) (p0 : c254_length.toInt ≤ 400) (p1 : 0 ≤ c254_length.toInt) (p2 : c254_at.toInt ≤ 400) (p3 : 0 ≤ c254_at.toInt) (p4 : c254_start.toInt ≤ 400) (p5 : 0 ≤ c254_start.toInt) (p6 : c255_groups.toInt ≤ 4) (p7 : 2 ≤ c255_groups.toInt) (p8 : c255_pots.toInt ≤ 4) (p9 : 0 ≤ c255_pots.toInt) (p10 : c255_teams.toInt ≤ 12) (p11 : 0 ≤ c255_teams.toInt) (p12 : c255_marks.toInt ≤ 6) (p13 : 0 ≤ c255_marks.toInt) (p14 : c255_bars.toInt ≤ 10) (p15 : 0 ≤ c255_bars.toInt) (p16 : c254_at.toInt ≤ c254_length.toInt) (p17 : 0 ≤ v1.toInt) (kv : Nat) (hkv : 1000000000000 ≤ kv) : dz_T (s123_X5_readLines_0 fu a247 (F123_X5_readLines fu a247 kv).1  v1 c254_fault c254_place c254_length c254_at c254_kind c254_start c254_value c255_groups c255_pots c255_teams c255_marks c255_bars c255_groupsNamed a256 a257 a258 a259 a260) (fun r => r.1.toInt ≤ 401 ∧ 0 ≤ r.1.toInt ∧ r.2.2.2.1.toInt ≤ 400 ∧ 0 ≤ r.2.2.2.1.toInt ∧ r.2.2.2.2.1.toInt ≤ 400 ∧ 0 ≤ r.2.2.2.2.1.toInt ∧ r.2.2.2.2.2.2.1.toInt ≤ 400 ∧ 0 ≤ r.2.2.2.2.2.2.1.toInt ∧ r.2.2.2.2.2.2.2.2.1.toInt ≤ 4 ∧ 2 ≤ r.2.2.2.2.2.2.2.2.1.toInt ∧ r.2.2.2.2.2.2.2.2.2.1.toInt ≤ 4 ∧ 0 ≤ r.2.2.2.2.2.2.2.2.2.1.toInt ∧ r.2.2.2.2.2.2.2.2.2.2.1.toInt ≤ 12 ∧ 0 ≤ r.2.2.2.2.2.2.2.2.2.2.1.toInt ∧ r.2.2.2.2.2.2.2.2.2.2.2.1.toInt ≤ 6 ∧ 0 ≤ r.2.2.2.2.2.2.2.2.2.2.2.1.toInt ∧ r.2.2.2.2.2.2.2.2.2.2.2.2.1.toInt ≤ 10 ∧ 0 ≤ r.2.2.2.2.2.2.2.2.2.2.2.2.1.toInt ∧ r.2.2.2.2.1.toInt ≤ r.2.2.2.1.toInt ∧ r.1.toInt ≤ r.2.2.2.1.toInt + 1 ∧ (r.2.1.toInt ≠ 0 ∨ ((r.2.2.2.2.2.2.2.2.1.toInt = 2 ∧ r.2.2.2.2.2.2.2.2.2.2.1.toInt = 2 * r.2.2.2.2.2.2.2.2.2.1.toInt) ∨ (r.2.2.2.2.2.2.2.2.1.toInt = 3 ∧ r.2.2.2.2.2.2.2.2.2.2.1.toInt = 3 * r.2.2.2.2.2.2.2.2.2.1.toInt) ∨ (r.2.2.2.2.2.2.2.2.1.toInt = 4 ∧ r.2.2.2.2.2.2.2.2.2.2.1.toInt = 4 * r.2.2.2.2.2.2.2.2.2.1.toInt)))) := by
  unfold s123_X5_readLines_0
  refine dz_Tb (t90_X3_forget fu hfu _ _ _ _ _ _ p6 p7 p8 p9 p10 p11 p12 p13 p14 p15) (fun r1 q => ?_)
  obtain ⟨q1_0, q1_1, q1_2, q1_3, q1_4, q1_5, q1_6, q1_7, q1_8, q1_9⟩ := q
  have e1 := dz_l400
  have e2 := dz_min (a := (400 : Int32)) (b := v1)
  have e3 := dz_l0
  refine dz_Tb (t96_X5_step fu hfu _ _ _ _ _ _ (by omega) (by omega) (by omega) (by omega) p4 p5 (by omega)) (fun r2 q => ?_)
  obtain ⟨q2_0, q2_1, q2_2, q2_3, q2_4⟩ := q
  have e4 := dz_lm1
  exact (t123_X5_readLines_I fu hfu a247 kv) (0 : Int32) (0 : Int32) (0 : Int32) (-(1 : Int32)) (if ((400 : Int32) < v1) then (400 : Int32) else v1) r2.1 r2.2.1 r2.2.2.1 r2.2.2.2 r1.1 r1.2.1 r1.2.2.1 r1.2.2.2.1 r1.2.2.2.2.1 r1.2.2.2.2.2 a256 a257 a258 a259 a260 (by omega) (by omega) (by omega) (by omega) (by omega) (by omega) q2_0 q2_1 q2_2 q2_3 (by first | assumption | omega) q1_1 (by first | assumption | omega) q1_3 (by first | assumption | omega) q1_5 (by first | assumption | omega) q1_7 (by first | assumption | omega) q1_9 q2_4 (by omega) (by omega) (by omega) (by omega) (by omega) (by omega) (by omega) (by omega) (by omega) (by omega) (by omega)
theorem t123_X5_readLines (fu : Nat) (hfu : 1000000000000 ≤ fu) (a247 : Nat → Int32) (v1 : Int32) (c254_fault : Int32) (c254_place : Int32) (c254_length : Int32) (c254_at : Int32) (c254_kind : Int32) (c254_start : Int32) (c254_value : Int32) (c255_groups : Int32) (c255_pots : Int32) (c255_teams : Int32) (c255_marks : Int32) (c255_bars : Int32) (c255_groupsNamed : Int32) (a256 : Nat → Int32) (a257 : Nat → Int32) (a258 : Nat → Int32) (a259 : Nat → Int32) (a260 : Nat → Int32) (p0 : c254_length.toInt ≤ 400) (p1 : 0 ≤ c254_length.toInt) (p2 : c254_at.toInt ≤ 400) (p3 : 0 ≤ c254_at.toInt) (p4 : c254_start.toInt ≤ 400) (p5 : 0 ≤ c254_start.toInt) (p6 : c255_groups.toInt ≤ 4) (p7 : 2 ≤ c255_groups.toInt) (p8 : c255_pots.toInt ≤ 4) (p9 : 0 ≤ c255_pots.toInt) (p10 : c255_teams.toInt ≤ 12) (p11 : 0 ≤ c255_teams.toInt) (p12 : c255_marks.toInt ≤ 6) (p13 : 0 ≤ c255_marks.toInt) (p14 : c255_bars.toInt ≤ 10) (p15 : 0 ≤ c255_bars.toInt) (p16 : c254_at.toInt ≤ c254_length.toInt) (p17 : 0 ≤ v1.toInt) : dz_T (f123_X5_readLines fu a247 v1 c254_fault c254_place c254_length c254_at c254_kind c254_start c254_value c255_groups c255_pots c255_teams c255_marks c255_bars c255_groupsNamed a256 a257 a258 a259 a260) (fun r => r.1.toInt ≤ 401 ∧ 0 ≤ r.1.toInt ∧ r.2.2.2.1.toInt ≤ 400 ∧ 0 ≤ r.2.2.2.1.toInt ∧ r.2.2.2.2.1.toInt ≤ 400 ∧ 0 ≤ r.2.2.2.2.1.toInt ∧ r.2.2.2.2.2.2.1.toInt ≤ 400 ∧ 0 ≤ r.2.2.2.2.2.2.1.toInt ∧ r.2.2.2.2.2.2.2.2.1.toInt ≤ 4 ∧ 2 ≤ r.2.2.2.2.2.2.2.2.1.toInt ∧ r.2.2.2.2.2.2.2.2.2.1.toInt ≤ 4 ∧ 0 ≤ r.2.2.2.2.2.2.2.2.2.1.toInt ∧ r.2.2.2.2.2.2.2.2.2.2.1.toInt ≤ 12 ∧ 0 ≤ r.2.2.2.2.2.2.2.2.2.2.1.toInt ∧ r.2.2.2.2.2.2.2.2.2.2.2.1.toInt ≤ 6 ∧ 0 ≤ r.2.2.2.2.2.2.2.2.2.2.2.1.toInt ∧ r.2.2.2.2.2.2.2.2.2.2.2.2.1.toInt ≤ 10 ∧ 0 ≤ r.2.2.2.2.2.2.2.2.2.2.2.2.1.toInt ∧ r.2.2.2.2.1.toInt ≤ r.2.2.2.1.toInt ∧ r.1.toInt ≤ r.2.2.2.1.toInt + 1 ∧ (r.2.1.toInt ≠ 0 ∨ ((r.2.2.2.2.2.2.2.2.1.toInt = 2 ∧ r.2.2.2.2.2.2.2.2.2.2.1.toInt = 2 * r.2.2.2.2.2.2.2.2.2.1.toInt) ∨ (r.2.2.2.2.2.2.2.2.1.toInt = 3 ∧ r.2.2.2.2.2.2.2.2.2.2.1.toInt = 3 * r.2.2.2.2.2.2.2.2.2.1.toInt) ∨ (r.2.2.2.2.2.2.2.2.1.toInt = 4 ∧ r.2.2.2.2.2.2.2.2.2.2.1.toInt = 4 * r.2.2.2.2.2.2.2.2.2.1.toInt)))) :=
  t123_X5_readLines_E fu hfu a247 v1 c254_fault c254_place c254_length c254_at c254_kind c254_start c254_value c255_groups c255_pots c255_teams c255_marks c255_bars c255_groupsNamed a256 a257 a258 a259 a260 p0 p1 p2 p3 p4 p5 p6 p7 p8 p9 p10 p11 p12 p13 p14 p15 p16 p17 fu hfu
