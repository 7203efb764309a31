abbrev p29_X12_fewest (fu : Nat) (c2_bars : Int32) (a51 : Nat → Int32) (k : Nat) : Prop :=
  (∀ (v1 : Int32) (v2 : Int32), v1.toInt ≤ 1023 → 0 ≤ v1.toInt → v2.toInt ≤ 1024 → 1 ≤ v2.toInt → v1.toInt + 1 ≤ v2.toInt → 0 + 0 + (1024 - v2.toInt) * 22594 + 11 ≤ ((k : Nat) : Int) → dz_T ((F29_X12_fewest fu c2_bars a51 k).1 v1 v2) (fun r => r.toInt ≤ 1023 ∧ 0 ≤ r.toInt)) ∧ (∀ (v1 : Int32) (v2 : Int32) (v3 : Int32) (v4 : Int32), v1.toInt ≤ 1022 → 0 ≤ v1.toInt → v2.toInt ≤ 1023 → 1 ≤ v2.toInt → v3.toInt ≤ 1 → 0 ≤ v3.toInt → v4.toInt ≤ 1024 → 0 ≤ v4.toInt → v1.toInt + 1 ≤ v2.toInt → 0 + 0 + ((1024 - v2.toInt) - 1) * 22594 + 0 + (1024 - v4.toInt) * 22 + 22 ≤ ((k : Nat) : Int) → dz_T ((F29_X12_fewest fu c2_bars a51 k).2.2.2.1 v1 v2 v3 v4) (fun r => r.toInt ≤ 1023 ∧ 0 ≤ r.toInt))
set_option maxHeartbeats 4000000 in
set_option maxRecDepth 10000 in
theorem t29_X12_fewest_h1 (fu : Nat) (hfu : 1000000000000 ≤ fu) (c2_bars : Int32) (a51 : Nat → Int32) (p0 : c2_bars.toInt ≤ 10) (p1 : 0 ≤ c2_bars.toInt) (k : Nat) (ih : ∀ j9, j9 < k → p29_X12_fewest fu c2_bars a51 j9) : ∀ (v1 : Int32) (v2 : Int32), v1.toInt ≤ 1023 → 0 ≤ v1.toInt → v2.toInt ≤ 1024 → 1 ≤ v2.toInt → v1.toInt + 1 ≤ v2.toInt → 0 + 0 + (1024 - v2.toInt) * 22594 + 11 ≤ ((k : Nat) : Int) → dz_T ((F29_X12_fewest fu c2_bars a51 k).1 v1 v2) (fun r => r.toInt ≤ 1023 ∧ 0 ≤ r.toInt) := by
  intro v1 v2 i0 i1 i2 i3 i4 hm
  obtain ⟨k0, rfl⟩ : ∃ x, k = x + 1 := ⟨k - 1, by omega⟩
  show dz_T (s29_X12_fewest_1 fu c2_bars a51 (F29_X12_fewest fu c2_bars a51 k0).2.1 (F29_X12_fewest fu c2_bars a51 k0).2.2.1  v1 v2) _
  unfold s29_X12_fewest_1
  have e1 := dz_l1
  have e2 := dz_l31
  have e3 := dz_andr (a := c2_bars) (b := (31 : Int32)) (by omega)
  have e4 := dz_andl (a := c2_bars) (b := (31 : Int32)) (by omega)
  have e5 := dz_shl1 (b := c2_bars) 0 10 (by omega) (by omega) (by omega)
  refine dz_Tle (fun h6 => ?_) (fun h6 => ?_)
  · skip
    exact dz_Ts ⟨i0, i1⟩
  · skip
    have e7 := dz_l0
    refine dz_Teq (fun h8 => ?_) (fun h8 => ?_)
    · skip
      obtain ⟨k1, rfl⟩ : ∃ x, k0 = x + 1 := ⟨k0 - 1, by omega⟩
      show dz_T (s29_X12_fewest_2 fu c2_bars a51 (F29_X12_fewest fu c2_bars a51 k1).2.2.2.1 v1 v2) _
      unfold s29_X12_fewest_2
      exact (ih k1 (by omega)).2 v1 v2 (1 : Int32) (0 : Int32) (by first | assumption | omega) i1 (by first | assumption | omega) i3 (by omega) (by omega) (by omega) (by omega) i4 (by omega)
    · skip
      refine dz_Tb (t28_X12_many fu hfu _ ) (fun r1 q => ?_)
      obtain ⟨q1_0, q1_1⟩ := q
      refine dz_Tb (t28_X12_many fu hfu _ ) (fun r2 q => ?_)
      obtain ⟨q2_0, q2_1⟩ := q
      refine dz_Tlt (fun h9 => ?_) (fun h9 => ?_)
      · skip
        obtain ⟨k2, rfl⟩ : ∃ x, k0 = x + 1 := ⟨k0 - 1, by omega⟩
        show dz_T (s29_X12_fewest_2 fu c2_bars a51 (F29_X12_fewest fu c2_bars a51 k2).2.2.2.1 v1 v2) _
        unfold s29_X12_fewest_2
        exact (ih k2 (by omega)).2 v1 v2 (1 : Int32) (0 : Int32) (by first | assumption | omega) i1 (by first | assumption | omega) i3 (by omega) (by omega) (by omega) (by omega) i4 (by omega)
      · skip
        obtain ⟨k3, rfl⟩ : ∃ x, k0 = x + 1 := ⟨k0 - 1, by omega⟩
        show dz_T (s29_X12_fewest_3 fu c2_bars a51 (F29_X12_fewest fu c2_bars a51 k3).1 v1 v2) _
        unfold s29_X12_fewest_3
        have e10 := dz_add (a := v2) (b := (1 : Int32)) (by omega) (by omega)
        exact (ih k3 (by omega)).1 v1 (v2 + (1 : Int32)) i0 i1 (by omega) (by omega) (by omega) (by omega)
set_option maxHeartbeats 4000000 in
set_option maxRecDepth 10000 in
theorem t29_X12_fewest_h4 (fu : Nat) (hfu : 1000000000000 ≤ fu) (c2_bars : Int32) (a51 : Nat → Int32) (p0 : c2_bars.toInt ≤ 10) (p1 : 0 ≤ c2_bars.toInt) (k : Nat) (ih : ∀ j9, j9 < k → p29_X12_fewest fu c2_bars a51 j9) : ∀ (v1 : Int32) (v2 : Int32) (v3 : Int32) (v4 : Int32), v1.toInt ≤ 1022 → 0 ≤ v1.toInt → v2.toInt ≤ 1023 → 1 ≤ v2.toInt → v3.toInt ≤ 1 → 0 ≤ v3.toInt → v4.toInt ≤ 1024 → 0 ≤ v4.toInt → v1.toInt + 1 ≤ v2.toInt → 0 + 0 + ((1024 - v2.toInt) - 1) * 22594 + 0 + (1024 - v4.toInt) * 22 + 22 ≤ ((k : Nat) : Int) → dz_T ((F29_X12_fewest fu c2_bars a51 k).2.2.2.1 v1 v2 v3 v4) (fun r => r.toInt ≤ 1023 ∧ 0 ≤ r.toInt) := by
  intro v1 v2 v3 v4 i0 i1 i2 i3 i4 i5 i6 i7 i8 hm
  obtain ⟨k0, rfl⟩ : ∃ x, k = x + 1 := ⟨k - 1, by omega⟩
  show dz_T (s29_X12_fewest_4 fu c2_bars a51 (F29_X12_fewest fu c2_bars a51 k0).2.2.2.2.1 (F29_X12_fewest fu c2_bars a51 k0).2.2.2.2.2.1 (F29_X12_fewest fu c2_bars a51 k0).2.2.2.2.2.2  v1 v2 v3 v4) _
  unfold s29_X12_fewest_4
  have e1 := dz_l1
  have e2 := dz_l31
  have e3 := dz_andr (a := c2_bars) (b := (31 : Int32)) (by omega)
  have e4 := dz_andl (a := c2_bars) (b := (31 : Int32)) (by omega)
  have e5 := dz_shl1 (b := c2_bars) 0 10 (by omega) (by omega) (by omega)
  refine dz_Tle (fun h6 => ?_) (fun h6 => ?_)
  · skip
    obtain ⟨k1, rfl⟩ : ∃ x, k0 = x + 1 := ⟨k0 - 1, by omega⟩
    show dz_T (s29_X12_fewest_5 fu c2_bars a51 (F29_X12_fewest fu c2_bars a51 k1).2.2.1 v1 v2 v3) _
    unfold s29_X12_fewest_5
    have e7 := dz_l0
    refine dz_Teq (fun h8 => ?_) (fun h8 => ?_)
    · skip
      obtain ⟨k2, rfl⟩ : ∃ x, k1 = x + 1 := ⟨k1 - 1, by omega⟩
      show dz_T (s29_X12_fewest_3 fu c2_bars a51 (F29_X12_fewest fu c2_bars a51 k2).1 v1 v2) _
      unfold s29_X12_fewest_3
      have e9 := dz_add (a := v2) (b := (1 : Int32)) (by omega) (by omega)
      exact (ih k2 (by omega)).1 v1 (v2 + (1 : Int32)) (by first | assumption | omega) i1 (by omega) (by omega) (by omega) (by omega)
    · skip
      obtain ⟨k3, rfl⟩ : ∃ x, k1 = x + 1 := ⟨k1 - 1, by omega⟩
      show dz_T (s29_X12_fewest_3 fu c2_bars a51 (F29_X12_fewest fu c2_bars a51 k3).1 v2 v2) _
      unfold s29_X12_fewest_3
      have e10 := dz_add (a := v2) (b := (1 : Int32)) (by omega) (by omega)
      exact (ih k3 (by omega)).1 v2 (v2 + (1 : Int32)) i2 (by first | assumption | omega) (by omega) (by omega) (by omega) (by omega)
  · skip
    have e11 := dz_l0
    refine dz_Teq (fun h12 => ?_) (fun h12 => ?_)
    · skip
      obtain ⟨k4, rfl⟩ : ∃ x, k0 = x + 1 := ⟨k0 - 1, by omega⟩
      show dz_T (s29_X12_fewest_5 fu c2_bars a51 (F29_X12_fewest fu c2_bars a51 k4).2.2.1 v1 v2 v3) _
      unfold s29_X12_fewest_5
      refine dz_Teq (fun h13 => ?_) (fun h13 => ?_)
      · skip
        obtain ⟨k5, rfl⟩ : ∃ x, k4 = x + 1 := ⟨k4 - 1, by omega⟩
        show dz_T (s29_X12_fewest_3 fu c2_bars a51 (F29_X12_fewest fu c2_bars a51 k5).1 v1 v2) _
        unfold s29_X12_fewest_3
        have e14 := dz_add (a := v2) (b := (1 : Int32)) (by omega) (by omega)
        exact (ih k5 (by omega)).1 v1 (v2 + (1 : Int32)) (by first | assumption | omega) i1 (by omega) (by omega) (by omega) (by omega)
      · skip
        exfalso; omega
    · skip
      refine dz_Tin (by omega) (by omega) ?_
      refine dz_Teq (fun h15 => ?_) (fun h15 => ?_)
      · skip
        obtain ⟨k6, rfl⟩ : ∃ x, k0 = x + 1 := ⟨k0 - 1, by omega⟩
        show dz_T (s29_X12_fewest_6 fu c2_bars a51 (F29_X12_fewest fu c2_bars a51 k6).2.2.2.2.2.2 v1 v2 v4) _
        unfold s29_X12_fewest_6
        obtain ⟨k7, rfl⟩ : ∃ x, k6 = x + 1 := ⟨k6 - 1, by omega⟩
        show dz_T (s29_X12_fewest_7 fu c2_bars a51 (F29_X12_fewest fu c2_bars a51 k7).2.2.2.1 v1 v2 v4 (1 : Int32)) _
        unfold s29_X12_fewest_7
        have e16 := dz_add (a := v4) (b := (1 : Int32)) (by omega) (by omega)
        exact (ih k7 (by omega)).2 v1 v2 (1 : Int32) (v4 + (1 : Int32)) i0 i1 i2 i3 (by omega) (by omega) (by omega) (by omega) i8 (by omega)
      · skip
        have e17 := dz_andr (a := v4) (b := v2) (by omega)
        have e18 := dz_andl (a := v4) (b := v2) (by omega)
        refine dz_Teq (fun h19 => ?_) (fun h19 => ?_)
        · skip
          obtain ⟨k8, rfl⟩ : ∃ x, k0 = x + 1 := ⟨k0 - 1, by omega⟩
          show dz_T (s29_X12_fewest_7 fu c2_bars a51 (F29_X12_fewest fu c2_bars a51 k8).2.2.2.1 v1 v2 v4 (0 : Int32)) _
          unfold s29_X12_fewest_7
          have e20 := dz_add (a := v4) (b := (1 : Int32)) (by omega) (by omega)
          exact (ih k8 (by omega)).2 v1 v2 (0 : Int32) (v4 + (1 : Int32)) i0 i1 i2 i3 (by omega) (by omega) (by omega) (by omega) i8 (by omega)
        · skip
          obtain ⟨k9, rfl⟩ : ∃ x, k0 = x + 1 := ⟨k0 - 1, by omega⟩
          show dz_T (s29_X12_fewest_6 fu c2_bars a51 (F29_X12_fewest fu c2_bars a51 k9).2.2.2.2.2.2 v1 v2 v4) _
          unfold s29_X12_fewest_6
          obtain ⟨k10, rfl⟩ : ∃ x, k9 = x + 1 := ⟨k9 - 1, by omega⟩
          show dz_T (s29_X12_fewest_7 fu c2_bars a51 (F29_X12_fewest fu c2_bars a51 k10).2.2.2.1 v1 v2 v4 (1 : Int32)) _
          unfold s29_X12_fewest_7
          have e21 := dz_add (a := v4) (b := (1 : Int32)) (by omega) (by omega)
          exact (ih k10 (by omega)).2 v1 v2 (1 : Int32) (v4 + (1 : Int32)) i0 i1 i2 i3 (by omega) (by omega) (by omega) (by omega) i8 (by omega)
theorem t29_X12_fewest_I (fu : Nat) (hfu : 1000000000000 ≤ fu) (c2_bars : Int32) (a51 : Nat → Int32) (p0 : c2_bars.toInt ≤ 10) (p1 : 0 ≤ c2_bars.toInt) (k : Nat) : p29_X12_fewest fu c2_bars a51 k := by
  induction k using Nat.strongRecOn with
  | _ k ih => exact ⟨t29_X12_fewest_h1 fu hfu c2_bars a51 p0 p1 k ih, t29_X12_fewest_h4 fu hfu c2_bars a51 p0 p1 k ih⟩
set_option maxHeartbeats 4000000 in
set_option maxRecDepth 10000 in
theorem t29_X12_fewest_E (fu : Nat) (hfu : 1000000000000 ≤ fu) (c2_bars : Int32) (a51 : Nat → Int32) (p0 : c2_bars.toInt ≤ 10) (p1 : 0 ≤ c2_bars.toInt) (kv : Nat) (hkv : 1000000000000 ≤ kv) : dz_T (s29_X12_fewest_0 fu c2_bars a51 (F29_X12_fewest fu c2_bars a51 kv).1 ) (fun r => r.toInt ≤ 1023 ∧ 0 ≤ r.toInt) := by
  unfold s29_X12_fewest_0
  have e1 := dz_l0
  refine dz_Tin (by omega) (by omega) ?_
  refine dz_Teq (fun h2 => ?_) (fun h2 => ?_)
  · skip
    have e3 := dz_l1
    exact (t29_X12_fewest_I fu hfu c2_bars a51 p0 p1 kv).1 (0 : Int32) (1 : Int32) (by omega) (by omega) (by omega) (by omega) (by omega) (by omega)
  · skip
    exact dz_Ts ⟨(by omega), (by omega)⟩
theorem t29_X12_fewest (fu : Nat) (hfu : 1000000000000 ≤ fu) (c2_bars : Int32) (a51 : Nat → Int32) (p0 : c2_bars.toInt ≤ 10) (p1 : 0 ≤ c2_bars.toInt) : dz_T (f29_X12_fewest fu c2_bars a51) (fun r => r.toInt ≤ 1023 ∧ 0 ≤ r.toInt) :=
  t29_X12_fewest_E fu hfu c2_bars a51 p0 p1 fu hfu
abbrev p43_X12_blame_s (fu : Nat) (κ : Nat) (c2_groups : Int32) (c2_bars : Int32) (c2_draws : Int32) (c2_out : Int32) (a49 : Nat → Int32) (a50 : Nat → Int32) (a53 : Nat → Int32) (a54 : Nat → Int32) (a55 : Nat → Int32) (k : Nat) : Prop :=
  (∀ (v1 : Int32) (v2 : Int32) (c2_thrown : Int32) (a51 : Nat → Int32), 1 ≤ c2_out.toInt → v2.toInt ≤ 1024 → 0 ≤ v2.toInt → c2_thrown.toInt ≤ 0 → 0 ≤ c2_thrown.toInt → 0 + 193557 + (1024 - v2.toInt) * 14 + 7 ≤ ((k : Nat) : Int) → dz_T ((F43_X12_blame fu c2_groups c2_bars c2_draws c2_out a49 a50 a53 a54 a55 k).1 v1 v2 c2_thrown a51) (fun r => r.1.toInt ≤ 1023 ∧ (-1) ≤ r.1.toInt)) ∧ (∀ (v1 : Int32) (v2 : Int32) (c2_thrown : Int32) (a51 : Nat → Int32), 1 ≤ c2_out.toInt → v2.toInt ≤ 13824 → 0 ≤ v2.toInt → c2_thrown.toInt ≤ 0 → 0 ≤ c2_thrown.toInt → v2.toInt ≤ c2_draws.toInt → 0 + 0 + (13824 - v2.toInt) * 14 + 7 ≤ ((k : Nat) : Int) → dz_T ((F43_X12_blame fu c2_groups c2_bars c2_draws c2_out a49 a50 a53 a54 a55 k).2.1 v1 v2 c2_thrown a51) (fun r => r.1.toInt ≤ 1023 ∧ (-1) ≤ r.1.toInt))
set_option maxHeartbeats 4000000 in
set_option maxRecDepth 10000 in
theorem t43_X12_blame_h1_s (fu : Nat) (hfu : 1000000000000 ≤ fu) (κ : Nat) (hκ : κ < 14) (c2_groups : Int32) (c2_bars : Int32) (c2_draws : Int32) (c2_out : Int32) (a49 : Nat → Int32) (a50 : Nat → Int32) (a53 : Nat → Int32) (a54 : Nat → Int32) (a55 : Nat → Int32) (p0 : c2_groups.toInt ≤ 4) (p1 : 2 ≤ c2_groups.toInt) (p2 : c2_bars.toInt ≤ 10) (p3 : 0 ≤ c2_bars.toInt) (p4 : c2_draws.toInt ≤ 13824) (p5 : 1 ≤ c2_draws.toInt) (p6 : c2_out.toInt ≤ 12) (p7 : 0 ≤ c2_out.toInt) (hr_a49 : dz_rg a49 13824 0 1023) (hr_a50 : dz_rg a50 165888 0 3) (hr_a53 : dz_rg a53 4 0 3) (hr_a54 : dz_rg a54 12 0 11) (hr_a55 : dz_rg a55 12 0 3) (o0 : dz_pm a53 (dz_kg κ)) (o1 : c2_groups.toInt = ((dz_kg κ : Nat) : Int)) (o2 : c2_draws.toInt = ((dz_kt κ : Nat) : Int)) (k : Nat) (ih : ∀ j9, j9 < k → p43_X12_blame_s fu κ c2_groups c2_bars c2_draws c2_out a49 a50 a53 a54 a55 j9) : ∀ (v1 : Int32) (v2 : Int32) (c2_thrown : Int32) (a51 : Nat → Int32), 1 ≤ c2_out.toInt → v2.toInt ≤ 1024 → 0 ≤ v2.toInt → c2_thrown.toInt ≤ 0 → 0 ≤ c2_thrown.toInt → 0 + 193557 + (1024 - v2.toInt) * 14 + 7 ≤ ((k : Nat) : Int) → dz_T ((F43_X12_blame fu c2_groups c2_bars c2_draws c2_out a49 a50 a53 a54 a55 k).1 v1 v2 c2_thrown a51) (fun r => r.1.toInt ≤ 1023 ∧ (-1) ≤ r.1.toInt) := by
  intro v1 v2 c2_thrown a51 i0 i1 i2 i3 i4 hm
  obtain ⟨k0, rfl⟩ : ∃ x, k = x + 1 := ⟨k - 1, by omega⟩
  show dz_T (s43_X12_blame_1 fu c2_groups c2_bars c2_draws c2_out a49 a50 a53 a54 a55 (F43_X12_blame fu c2_groups c2_bars c2_draws c2_out a49 a50 a53 a54 a55 k0).1 (F43_X12_blame fu c2_groups c2_bars c2_draws c2_out a49 a50 a53 a54 a55 k0).2.1  v1 v2 c2_thrown a51) _
  unfold s43_X12_blame_1
  have e1 := dz_l1024
  refine dz_Tle (fun h2 => ?_) (fun h2 => ?_)
  · skip
    have e3 := dz_l0
    exact (ih k0 (by omega)).2 v1 (0 : Int32) c2_thrown a51 i0 (by omega) (by omega) i3 i4 (by omega) (by omega)
  · skip
    refine dz_Tin (by omega) (by omega) ?_
    have e4 := dz_l1
    have e5 := dz_add (a := v2) (b := (1 : Int32)) (by omega) (by omega)
    exact (ih k0 (by omega)).1 v1 (v2 + (1 : Int32)) c2_thrown (upd a51 v2.toNatClampNeg (vp_nar .boolean (0 : Int32))) i0 (by omega) (by omega) i3 i4 (by omega)
set_option maxHeartbeats 4000000 in
set_option maxRecDepth 10000 in
theorem t43_X12_blame_h2_s (fu : Nat) (hfu : 1000000000000 ≤ fu) (κ : Nat) (hκ : κ < 14) (c2_groups : Int32) (c2_bars : Int32) (c2_draws : Int32) (c2_out : Int32) (a49 : Nat → Int32) (a50 : Nat → Int32) (a53 : Nat → Int32) (a54 : Nat → Int32) (a55 : Nat → Int32) (p0 : c2_groups.toInt ≤ 4) (p1 : 2 ≤ c2_groups.toInt) (p2 : c2_bars.toInt ≤ 10) (p3 : 0 ≤ c2_bars.toInt) (p4 : c2_draws.toInt ≤ 13824) (p5 : 1 ≤ c2_draws.toInt) (p6 : c2_out.toInt ≤ 12) (p7 : 0 ≤ c2_out.toInt) (hr_a49 : dz_rg a49 13824 0 1023) (hr_a50 : dz_rg a50 165888 0 3) (hr_a53 : dz_rg a53 4 0 3) (hr_a54 : dz_rg a54 12 0 11) (hr_a55 : dz_rg a55 12 0 3) (o0 : dz_pm a53 (dz_kg κ)) (o1 : c2_groups.toInt = ((dz_kg κ : Nat) : Int)) (o2 : c2_draws.toInt = ((dz_kt κ : Nat) : Int)) (k : Nat) (ih : ∀ j9, j9 < k → p43_X12_blame_s fu κ c2_groups c2_bars c2_draws c2_out a49 a50 a53 a54 a55 j9) : ∀ (v1 : Int32) (v2 : Int32) (c2_thrown : Int32) (a51 : Nat → Int32), 1 ≤ c2_out.toInt → v2.toInt ≤ 13824 → 0 ≤ v2.toInt → c2_thrown.toInt ≤ 0 → 0 ≤ c2_thrown.toInt → v2.toInt ≤ c2_draws.toInt → 0 + 0 + (13824 - v2.toInt) * 14 + 7 ≤ ((k : Nat) : Int) → dz_T ((F43_X12_blame fu c2_groups c2_bars c2_draws c2_out a49 a50 a53 a54 a55 k).2.1 v1 v2 c2_thrown a51) (fun r => r.1.toInt ≤ 1023 ∧ (-1) ≤ r.1.toInt) := by
  intro v1 v2 c2_thrown a51 i0 i1 i2 i3 i4 i5 hm
  obtain ⟨k0, rfl⟩ : ∃ x, k = x + 1 := ⟨k - 1, by omega⟩
  show dz_T (s43_X12_blame_2 fu c2_groups c2_bars c2_draws c2_out a49 a50 a53 a54 a55 (F43_X12_blame fu c2_groups c2_bars c2_draws c2_out a49 a50 a53 a54 a55 k0).2.2  v1 v2 c2_thrown a51) _
  unfold s43_X12_blame_2
  refine dz_Tle (fun h1 => ?_) (fun h1 => ?_)
  · skip
    refine dz_Tb (t29_X12_fewest fu hfu _ _ p2 p3) (fun r1 q => ?_)
    obtain ⟨q1_0, q1_1⟩ := q
    refine dz_Ts ?_
    dsimp only
    exact ⟨q1_0, (by first | assumption | omega)⟩
  · skip
    have e2 := dz_l1
    have e3 := dz_sub (a := c2_out) (b := (1 : Int32)) (by omega) (by omega)
    refine dz_Tin (by omega) (by omega) ?_
    have e4 := dz_l12
    have e5 := dz_mull (a := (12 : Int32)) (b := v2) 12 (by omega) (by omega) (by omega)
    have e6 := dz_rgat (hr_a54) (i := (c2_out - (1 : Int32))) (by omega) (by omega)
    have e7 := dz_add (a := ((12 : Int32) * v2)) (b := (a54 (c2_out - (1 : Int32)).toNatClampNeg)) (by omega) (by omega)
    refine dz_Tin (by omega) (by omega) ?_
    have e8 := dz_rgat (hr_a50) (i := (((12 : Int32) * v2) + (a54 (c2_out - (1 : Int32)).toNatClampNeg))) (by omega) (by omega)
    refine dz_Teq (fun h9 => ?_) (fun h9 => ?_)
    · skip
      refine dz_Tb (t38_X12_isAsPlaced fu hfu _ _ _ _ _ i2 (by first | assumption | omega) (by omega) (by omega) (hr_a50) (hr_a54) (hr_a55)) (fun r2 q => ?_)
      obtain ⟨q2_0, q2_1, qo2_0, qo2_1⟩ := q
      have e10 := dz_l0
      refine dz_Teq (fun h11 => ?_) (fun h11 => ?_)
      · skip
        obtain ⟨k1, rfl⟩ : ∃ x, k0 = x + 1 := ⟨k0 - 1, by omega⟩
        show dz_T (s43_X12_blame_3 fu c2_groups c2_bars c2_draws c2_out a49 a50 a53 a54 a55 (F43_X12_blame fu c2_groups c2_bars c2_draws c2_out a49 a50 a53 a54 a55 k1).2.1 v1 v2 c2_thrown a51) _
        unfold s43_X12_blame_3
        have e12 := dz_add (a := v2) (b := (1 : Int32)) (by omega) (by omega)
        exact (ih k1 (by omega)).2 v1 (v2 + (1 : Int32)) c2_thrown a51 i0 (by omega) (by omega) i3 i4 (by omega) (by omega)
      · skip
        refine dz_Tin (by omega) (by omega) ?_
        have e13 := dz_rgat (hr_a49) (i := v2) (by omega) (by omega)
        refine dz_Tin (by omega) (by omega) ?_
        obtain ⟨k2, rfl⟩ : ∃ x, k0 = x + 1 := ⟨k0 - 1, by omega⟩
        show dz_T (s43_X12_blame_3 fu c2_groups c2_bars c2_draws c2_out a49 a50 a53 a54 a55 (F43_X12_blame fu c2_groups c2_bars c2_draws c2_out a49 a50 a53 a54 a55 k2).2.1 v1 v2 c2_thrown (upd a51 (a49 v2.toNatClampNeg).toNatClampNeg (vp_nar .boolean (1 : Int32)))) _
        unfold s43_X12_blame_3
        have e14 := dz_add (a := v2) (b := (1 : Int32)) (by omega) (by omega)
        exact (ih k2 (by omega)).2 v1 (v2 + (1 : Int32)) c2_thrown (upd a51 (a49 v2.toNatClampNeg).toNatClampNeg (vp_nar .boolean (1 : Int32))) i0 (by omega) (by omega) i3 i4 (by omega) (by omega)
    · skip
      obtain ⟨k3, rfl⟩ : ∃ x, k0 = x + 1 := ⟨k0 - 1, by omega⟩
      show dz_T (s43_X12_blame_3 fu c2_groups c2_bars c2_draws c2_out a49 a50 a53 a54 a55 (F43_X12_blame fu c2_groups c2_bars c2_draws c2_out a49 a50 a53 a54 a55 k3).2.1 v1 v2 c2_thrown a51) _
      unfold s43_X12_blame_3
      have e15 := dz_add (a := v2) (b := (1 : Int32)) (by omega) (by omega)
      exact (ih k3 (by omega)).2 v1 (v2 + (1 : Int32)) c2_thrown a51 i0 (by omega) (by omega) i3 i4 (by omega) (by omega)
theorem t43_X12_blame_I_s (fu : Nat) (hfu : 1000000000000 ≤ fu) (κ : Nat) (hκ : κ < 14) (c2_groups : Int32) (c2_bars : Int32) (c2_draws : Int32) (c2_out : Int32) (a49 : Nat → Int32) (a50 : Nat → Int32) (a53 : Nat → Int32) (a54 : Nat → Int32) (a55 : Nat → Int32) (p0 : c2_groups.toInt ≤ 4) (p1 : 2 ≤ c2_groups.toInt) (p2 : c2_bars.toInt ≤ 10) (p3 : 0 ≤ c2_bars.toInt) (p4 : c2_draws.toInt ≤ 13824) (p5 : 1 ≤ c2_draws.toInt) (p6 : c2_out.toInt ≤ 12) (p7 : 0 ≤ c2_out.toInt) (hr_a49 : dz_rg a49 13824 0 1023) (hr_a50 : dz_rg a50 165888 0 3) (hr_a53 : dz_rg a53 4 0 3) (hr_a54 : dz_rg a54 12 0 11) (hr_a55 : dz_rg a55 12 0 3) (o0 : dz_pm a53 (dz_kg κ)) (o1 : c2_groups.toInt = ((dz_kg κ : Nat) : Int)) (o2 : c2_draws.toInt = ((dz_kt κ : Nat) : Int)) (k : Nat) : p43_X12_blame_s fu κ c2_groups c2_bars c2_draws c2_out a49 a50 a53 a54 a55 k := by
  induction k using Nat.strongRecOn with
  | _ k ih => exact ⟨t43_X12_blame_h1_s fu hfu κ hκ c2_groups c2_bars c2_draws c2_out a49 a50 a53 a54 a55 p0 p1 p2 p3 p4 p5 p6 p7 hr_a49 hr_a50 hr_a53 hr_a54 hr_a55 o0 o1 o2 k ih, t43_X12_blame_h2_s fu hfu κ hκ c2_groups c2_bars c2_draws c2_out a49 a50 a53 a54 a55 p0 p1 p2 p3 p4 p5 p6 p7 hr_a49 hr_a50 hr_a53 hr_a54 hr_a55 o0 o1 o2 k ih⟩
set_option maxHeartbeats 4000000 in
set_option maxRecDepth 10000 in
theorem t43_X12_blame_E_s (fu : Nat) (hfu : 1000000000000 ≤ fu) (κ : Nat) (hκ : κ < 14) (c2_groups : Int32) (c2_bars : Int32) (c2_draws : Int32) (c2_out : Int32) (a49 : Nat → Int32) (a50 : Nat → Int32) (a53 : Nat → Int32) (a54 : Nat → Int32) (a55 : Nat → Int32) (v1 : Int32) (c2_thrown : Int32) (a51 : Nat → Int32) (p0 : c2_groups.toInt ≤ 4) (p1 : 2 ≤ c2_groups.toInt) (p2 : c2_bars.toInt ≤ 10) (p3 : 0 ≤ c2_bars.toInt) (p4 : c2_draws.toInt ≤ 13824) (p5 : 1 ≤ c2_draws.toInt) (p6 : c2_out.toInt ≤ 12) (p7 : 0 ≤ c2_out.toInt) (hr_a49 : dz_rg a49 13824 0 1023) (hr_a50 : dz_rg a50 165888 0 3) (hr_a53 : dz_rg a53 4 0 3) (hr_a54 : dz_rg a54 12 0 11) (hr_a55 : dz_rg a55 12 0 3) (o0 : dz_pm a53 (dz_kg κ)) (o1 : c2_groups.toInt = ((dz_kg κ : Nat) : Int)) (o2 : c2_draws.toInt = ((dz_kt κ : Nat) : Int)) (kv : Nat) (hkv : 1000000000000 ≤ kv) : dz_T (s43_X12_blame_0 fu c2_groups c2_bars c2_draws c2_out a49 a50 a53 a54 a55 (F43_X12_blame fu c2_groups c2_bars c2_draws c2_out a49 a50 a53 a54 a55 kv).1  v1 c2_thrown a51) (fun r => r.1.toInt ≤ 1023 ∧ (-1) ≤ r.1.toInt) := by
  unfold s43_X12_blame_0
  refine dz_Tb (t41_X12_whyOf_s fu hfu κ hκ _ _ _ _ _ _ _ _ _ p0 p1 p4 p5 p6 p7 (hr_a49) (hr_a50) (hr_a53) (hr_a54) (hr_a55) o0 o1 o2) (fun r1 q => ?_)
  obtain ⟨q1_0, q1_1, q1_2, qo1_0⟩ := q
  have e1 := dz_l2
  refine dz_Teq (fun h2 => ?_) (fun h2 => ?_)
  · skip
    have e3 := dz_l0
    exact (t43_X12_blame_I_s fu hfu κ hκ c2_groups c2_bars c2_draws c2_out a49 a50 a53 a54 a55 p0 p1 p2 p3 p4 p5 p6 p7 hr_a49 hr_a50 hr_a53 hr_a54 hr_a55 o0 o1 o2 kv).1 v1 (0 : Int32) (0 : Int32) a51 (by first | assumption | omega) (by omega) (by omega) (by omega) (by omega) (by omega)
  · skip
    have e4 := dz_lm1
    have e5 := dz_l0
    refine dz_Ts ?_
    dsimp only
    exact ⟨(by omega), (by omega)⟩
theorem t43_X12_blame_s (fu : Nat) (hfu : 1000000000000 ≤ fu) (κ : Nat) (hκ : κ < 14) (c2_groups : Int32) (c2_bars : Int32) (c2_draws : Int32) (c2_out : Int32) (a49 : Nat → Int32) (a50 : Nat → Int32) (a53 : Nat → Int32) (a54 : Nat → Int32) (a55 : Nat → Int32) (v1 : Int32) (c2_thrown : Int32) (a51 : Nat → Int32) (p0 : c2_groups.toInt ≤ 4) (p1 : 2 ≤ c2_groups.toInt) (p2 : c2_bars.toInt ≤ 10) (p3 : 0 ≤ c2_bars.toInt) (p4 : c2_draws.toInt ≤ 13824) (p5 : 1 ≤ c2_draws.toInt) (p6 : c2_out.toInt ≤ 12) (p7 : 0 ≤ c2_out.toInt) (hr_a49 : dz_rg a49 13824 0 1023) (hr_a50 : dz_rg a50 165888 0 3) (hr_a53 : dz_rg a53 4 0 3) (hr_a54 : dz_rg a54 12 0 11) (hr_a55 : dz_rg a55 12 0 3) (o0 : dz_pm a53 (dz_kg κ)) (o1 : c2_groups.toInt = ((dz_kg κ : Nat) : Int)) (o2 : c2_draws.toInt = ((dz_kt κ : Nat) : Int)) : dz_T (f43_X12_blame fu c2_groups c2_bars c2_draws c2_out a49 a50 a53 a54 a55 v1 c2_thrown a51) (fun r => r.1.toInt ≤ 1023 ∧ (-1) ≤ r.1.toInt) :=
  t43_X12_blame_E_s fu hfu κ hκ c2_groups c2_bars c2_draws c2_out a49 a50 a53 a54 a55 v1 c2_thrown a51 p0 p1 p2 p3 p4 p5 p6 p7 hr_a49 hr_a50 hr_a53 hr_a54 hr_a55 o0 o1 o2 fu hfu
set_option maxHeartbeats 4000000 in
set_option maxRecDepth 10000 in
theorem t44_X12_clear (fu : Nat) (hfu : 1000000000000 ≤ fu) (c2_thrown : Int32) (c2_out : Int32) (c2_laid : Int32) (p0 : c2_out.toInt ≤ 12) (p1 : 0 ≤ c2_out.toInt) : dz_T (f44_X12_clear fu c2_thrown c2_out c2_laid) (fun r => r.1.toInt ≤ 12 ∧ 0 ≤ r.1.toInt ∧ r.2.2.1.toInt ≤ 0 ∧ 0 ≤ r.2.2.1.toInt ∧ r.1.toInt ≤ c2_out.toInt ∧ c2_out.toInt ≤ r.1.toInt) := by
  unfold f44_X12_clear s44_X12_clear_0
  have e1 := dz_l0
  have e2 := dz_lm1
  refine dz_Ts ?_
  dsimp only
  exact ⟨p0, p1, (by omega), (by omega), (by first | assumption | omega), (by first | assumption | omega)⟩
set_option maxHeartbeats 4000000 in
set_option maxRecDepth 10000 in
theorem t45_X12_undo (fu : Nat) (hfu : 1000000000000 ≤ fu) (c2_thrown : Int32) (c2_out : Int32) (c2_laid : Int32) (p0 : c2_out.toInt ≤ 12) (p1 : 0 ≤ c2_out.toInt) : dz_T (f45_X12_undo fu c2_thrown c2_out c2_laid) (fun r => r.1.toInt ≤ 11 ∧ (-1) ≤ r.1.toInt ∧ r.2.2.1.toInt ≤ 11 ∧ 0 ≤ r.2.2.1.toInt ∧ r.1.toInt + 1 ≤ c2_out.toInt ∧ r.1.toInt ≤ r.2.2.1.toInt ∧ r.2.2.1.toInt ≤ r.1.toInt + 1 ∧ c2_out.toInt ≤ r.1.toInt + 1) := by
  unfold f45_X12_undo s45_X12_undo_0
  have e1 := dz_l0
  refine dz_Teq (fun h2 => ?_) (fun h2 => ?_)
  · skip
    have e3 := dz_lm1
    refine dz_Ts ?_
    dsimp only
    exact ⟨(by omega), (by omega), (by first | assumption | omega), p1, (by omega), (by omega), (by omega), (by omega)⟩
  · skip
    have e4 := dz_l1
    have e5 := dz_sub (a := c2_out) (b := (1 : Int32)) (by omega) (by omega)
    have e6 := dz_lm1
    refine dz_Ts ?_
    dsimp only
    exact ⟨(by omega), (by omega), (by omega), (by omega), (by omega), (by omega), (by omega), (by omega)⟩
set_option maxHeartbeats 4000000 in
set_option maxRecDepth 10000 in
theorem t46_X12_placed_s (fu : Nat) (hfu : 1000000000000 ≤ fu) (κ : Nat) (hκ : κ < 14) (c2_groups : Int32) (c2_pots : Int32) (c2_out : Int32) (a54 : Nat → Int32) (a55 : Nat → Int32) (v1 : Int32) (c2_thrown : Int32) (p0 : c2_groups.toInt ≤ 4) (p1 : 2 ≤ c2_groups.toInt) (p2 : c2_pots.toInt ≤ 4) (p3 : 0 ≤ c2_pots.toInt) (p4 : c2_out.toInt ≤ 12) (p5 : 0 ≤ c2_out.toInt) (hr_a54 : dz_rg a54 12 0 11) (hr_a55 : dz_rg a55 12 0 3) (o0 : c2_groups.toInt = ((dz_kg κ : Nat) : Int)) (o1 : c2_pots.toInt = ((dz_kp κ : Nat) : Int)) : dz_T (f46_X12_placed fu c2_groups c2_pots c2_out a54 a55 v1 c2_thrown) (fun r => r.1.toInt ≤ 3 ∧ (-1) ≤ r.1.toInt) := by
  unfold f46_X12_placed s46_X12_placed_0
  refine dz_Tbe (show f31_X12_isTeam fu c2_groups c2_pots v1 = (if (v1 < (0 : Int32)) then (some (0 : Int32)) else (Option.bind (f9_X12_teams fu c2_groups c2_pots) (fun b2 => (if (b2 ≤ v1) then (some (0 : Int32)) else (some (1 : Int32)))))) from rfl) ?_
  have e1 := dz_l0
  refine dz_Tltb (fun h2 => ?_) (fun h2 => ?_)
  · skip
    refine dz_Tsb ?_
    refine dz_Teq (fun h3 => ?_) (fun h3 => ?_)
    · skip
      have e4 := dz_lm1
      refine dz_Ts ?_
      dsimp only
      exact ⟨(by omega), (by omega)⟩
    · skip
      exfalso; omega
  · skip
    refine dz_Tba ?_
    refine dz_Tb (t9_X12_teams_s fu hfu κ hκ _ _ p0 p1 p2 p3 o0 o1) (fun r3 q => ?_)
    obtain ⟨q3_0, q3_1, q3_2, qo3_0⟩ := q
    refine dz_Tleb (fun h5 => ?_) (fun h5 => ?_)
    · skip
      refine dz_Tsb ?_
      refine dz_Teq (fun h6 => ?_) (fun h6 => ?_)
      · skip
        have e7 := dz_lm1
        refine dz_Ts ?_
        dsimp only
        exact ⟨(by omega), (by omega)⟩
      · skip
        exfalso; omega
    · skip
      refine dz_Tsb ?_
      have e8 := dz_l1
      refine dz_Teq (fun h9 => ?_) (fun h9 => ?_)
      · skip
        exfalso; omega
      · skip
        refine dz_Tb (t37_X12_placedIn fu hfu _ _ _ _ p5 p4 (hr_a54) (hr_a55)) (fun r4 q => ?_)
        obtain ⟨q4_0, q4_1, qo4_0⟩ := q
        refine dz_Ts ?_
        dsimp only
        exact ⟨q4_0, q4_1⟩
abbrev p47_X12_ends_s (fu : Nat) (κ : Nat) (c2_groups : Int32) (c2_pots : Int32) (c2_draws : Int32) (c2_out : Int32) (a49 : Nat → Int32) (a50 : Nat → Int32) (a54 : Nat → Int32) (a55 : Nat → Int32) (k : Nat) : Prop :=
  (∀ (v1 : Int32) (v2 : Int32) (c2_thrown : Int32), v1.toInt ≤ 11 → 0 ≤ v1.toInt → v2.toInt ≤ 13824 → 0 ≤ v2.toInt → c2_thrown.toInt ≤ 0 → 0 ≤ c2_thrown.toInt → v2.toInt ≤ c2_draws.toInt → v1.toInt ≤ c2_groups.toInt + 8 → 0 + 0 + (13824 - v2.toInt) * 12 + 6 ≤ ((k : Nat) : Int) → dz_T ((F47_X12_ends fu c2_groups c2_pots c2_draws c2_out a49 a50 a54 a55 k).1 v1 v2 c2_thrown) (fun r => r.1.toInt ≤ 3 ∧ (-1) ≤ r.1.toInt))
set_option maxHeartbeats 4000000 in
set_option maxRecDepth 10000 in
theorem t47_X12_ends_h1_s (fu : Nat) (hfu : 1000000000000 ≤ fu) (κ : Nat) (hκ : κ < 14) (c2_groups : Int32) (c2_pots : Int32) (c2_draws : Int32) (c2_out : Int32) (a49 : Nat → Int32) (a50 : Nat → Int32) (a54 : Nat → Int32) (a55 : Nat → Int32) (p0 : c2_groups.toInt ≤ 4) (p1 : 2 ≤ c2_groups.toInt) (p2 : c2_pots.toInt ≤ 4) (p3 : 0 ≤ c2_pots.toInt) (p4 : c2_draws.toInt ≤ 13824) (p5 : 1 ≤ c2_draws.toInt) (p6 : c2_out.toInt ≤ 12) (p7 : 0 ≤ c2_out.toInt) (hr_a49 : dz_rg a49 13824 0 1023) (hr_a50 : dz_rg a50 165888 0 3) (hr_a54 : dz_rg a54 12 0 11) (hr_a55 : dz_rg a55 12 0 3) (o0 : c2_groups.toInt = ((dz_kg κ : Nat) : Int)) (o1 : c2_pots.toInt = ((dz_kp κ : Nat) : Int)) (o2 : c2_draws.toInt = ((dz_kt κ : Nat) : Int)) (k : Nat) (ih : ∀ j9, j9 < k → p47_X12_ends_s fu κ c2_groups c2_pots c2_draws c2_out a49 a50 a54 a55 j9) : ∀ (v1 : Int32) (v2 : Int32) (c2_thrown : Int32), v1.toInt ≤ 11 → 0 ≤ v1.toInt → v2.toInt ≤ 13824 → 0 ≤ v2.toInt → c2_thrown.toInt ≤ 0 → 0 ≤ c2_thrown.toInt → v2.toInt ≤ c2_draws.toInt → v1.toInt ≤ c2_groups.toInt + 8 → 0 + 0 + (13824 - v2.toInt) * 12 + 6 ≤ ((k : Nat) : Int) → dz_T ((F47_X12_ends fu c2_groups c2_pots c2_draws c2_out a49 a50 a54 a55 k).1 v1 v2 c2_thrown) (fun r => r.1.toInt ≤ 3 ∧ (-1) ≤ r.1.toInt) := by
  intro v1 v2 c2_thrown i0 i1 i2 i3 i4 i5 i6 i7 hm
  obtain ⟨k0, rfl⟩ : ∃ x, k = x + 1 := ⟨k - 1, by omega⟩
  show dz_T (s47_X12_ends_1 fu c2_groups c2_pots c2_draws c2_out a49 a50 a54 a55 (F47_X12_ends fu c2_groups c2_pots c2_draws c2_out a49 a50 a54 a55 k0).2  v1 v2 c2_thrown) _
  unfold s47_X12_ends_1
  refine dz_Tle (fun h1 => ?_) (fun h1 => ?_)
  · skip
    have e2 := dz_lm1
    refine dz_Ts ?_
    dsimp only
    exact ⟨(by omega), (by omega)⟩
  · skip
    refine dz_Tin (by omega) (by omega) ?_
    have e3 := dz_rgat (hr_a49) (i := v2) (by omega) (by omega)
    have e4 := dz_l0
    refine dz_Teq (fun h5 => ?_) (fun h5 => ?_)
    · skip
      refine dz_Tb (t38_X12_isAsPlaced fu hfu _ _ _ _ _ i3 (by first | assumption | omega) p7 p6 (hr_a50) (hr_a54) (hr_a55)) (fun r1 q => ?_)
      obtain ⟨q1_0, q1_1, qo1_0, qo1_1⟩ := q
      refine dz_Teq (fun h6 => ?_) (fun h6 => ?_)
      · skip
        obtain ⟨k1, rfl⟩ : ∃ x, k0 = x + 1 := ⟨k0 - 1, by omega⟩
        show dz_T (s47_X12_ends_2 fu c2_groups c2_pots c2_draws c2_out a49 a50 a54 a55 (F47_X12_ends fu c2_groups c2_pots c2_draws c2_out a49 a50 a54 a55 k1).1 v1 v2 c2_thrown) _
        unfold s47_X12_ends_2
        have e7 := dz_l1
        have e8 := dz_add (a := v2) (b := (1 : Int32)) (by omega) (by omega)
        exact (ih k1 (by omega)) v1 (v2 + (1 : Int32)) c2_thrown i0 i1 (by omega) (by omega) i4 i5 (by omega) i7 (by omega)
      · skip
        have e9 := dz_l12
        have e10 := dz_mull (a := (12 : Int32)) (b := v2) 12 (by omega) (by omega) (by omega)
        have e11 := dz_add (a := ((12 : Int32) * v2)) (b := v1) (by omega) (by omega)
        refine dz_Tin (by omega) (by omega) ?_
        have e12 := dz_rgat (hr_a50) (i := (((12 : Int32) * v2) + v1)) (by omega) (by omega)
        refine dz_Ts ?_
        dsimp only
        exact ⟨(by omega), (by omega)⟩
    · skip
      obtain ⟨k2, rfl⟩ : ∃ x, k0 = x + 1 := ⟨k0 - 1, by omega⟩
      show dz_T (s47_X12_ends_2 fu c2_groups c2_pots c2_draws c2_out a49 a50 a54 a55 (F47_X12_ends fu c2_groups c2_pots c2_draws c2_out a49 a50 a54 a55 k2).1 v1 v2 c2_thrown) _
      unfold s47_X12_ends_2
      have e13 := dz_l1
      have e14 := dz_add (a := v2) (b := (1 : Int32)) (by omega) (by omega)
      exact (ih k2 (by omega)) v1 (v2 + (1 : Int32)) c2_thrown i0 i1 (by omega) (by omega) i4 i5 (by omega) i7 (by omega)
theorem t47_X12_ends_I_s (fu : Nat) (hfu : 1000000000000 ≤ fu) (κ : Nat) (hκ : κ < 14) (c2_groups : Int32) (c2_pots : Int32) (c2_draws : Int32) (c2_out : Int32) (a49 : Nat → Int32) (a50 : Nat → Int32) (a54 : Nat → Int32) (a55 : Nat → Int32) (p0 : c2_groups.toInt ≤ 4) (p1 : 2 ≤ c2_groups.toInt) (p2 : c2_pots.toInt ≤ 4) (p3 : 0 ≤ c2_pots.toInt) (p4 : c2_draws.toInt ≤ 13824) (p5 : 1 ≤ c2_draws.toInt) (p6 : c2_out.toInt ≤ 12) (p7 : 0 ≤ c2_out.toInt) (hr_a49 : dz_rg a49 13824 0 1023) (hr_a50 : dz_rg a50 165888 0 3) (hr_a54 : dz_rg a54 12 0 11) (hr_a55 : dz_rg a55 12 0 3) (o0 : c2_groups.toInt = ((dz_kg κ : Nat) : Int)) (o1 : c2_pots.toInt = ((dz_kp κ : Nat) : Int)) (o2 : c2_draws.toInt = ((dz_kt κ : Nat) : Int)) (k : Nat) : p47_X12_ends_s fu κ c2_groups c2_pots c2_draws c2_out a49 a50 a54 a55 k := by
  induction k using Nat.strongRecOn with
  | _ k ih => exact t47_X12_ends_h1_s fu hfu κ hκ c2_groups c2_pots c2_draws c2_out a49 a50 a54 a55 p0 p1 p2 p3 p4 p5 p6 p7 hr_a49 hr_a50 hr_a54 hr_a55 o0 o1 o2 k ih
set_option maxHeartbeats 4000000 in
set_option maxRecDepth 10000 in
theorem t47_X12_ends_E_s (fu : Nat) (hfu : 1000000000000 ≤ fu) (κ : Nat) (hκ : κ < 14) (c2_groups : Int32) (c2_pots : Int32) (c2_draws : Int32) (c2_out : Int32) (a49 : Nat → Int32) (a50 : Nat → Int32) (a54 : Nat → Int32) (a55 : Nat → Int32) (v1 : Int32) (c2_thrown : Int32) (p0 : c2_groups.toInt ≤ 4) (p1 : 2 ≤ c2_groups.toInt) (p2 : c2_pots.toInt ≤ 4) (p3 : 0 ≤ c2_pots.toInt) (p4 : c2_draws.toInt ≤ 13824) (p5 : 1 ≤ c2_draws.toInt) (p6 : c2_out.toInt ≤ 12) (p7 : 0 ≤ c2_out.toInt) (hr_a49 : dz_rg a49 13824 0 1023) (hr_a50 : dz_rg a50 165888 0 3) (hr_a54 : dz_rg a54 12 0 11) (hr_a55 : dz_rg a55 12 0 3) (o0 : c2_groups.toInt = ((dz_kg κ : Nat) : Int)) (o1 : c2_pots.toInt = ((dz_kp κ : Nat) : Int)) (o2 : c2_draws.toInt = ((dz_kt κ : Nat) : Int)) (kv : Nat) (hkv : 1000000000000 ≤ kv) : dz_T (s47_X12_ends_0 fu c2_groups c2_pots c2_draws c2_out a49 a50 a54 a55 (F47_X12_ends fu c2_groups c2_pots c2_draws c2_out a49 a50 a54 a55 kv).1  v1 c2_thrown) (fun r => r.1.toInt ≤ 3 ∧ (-1) ≤ r.1.toInt) := by
  unfold s47_X12_ends_0
  refine dz_Tbe (show f31_X12_isTeam fu c2_groups c2_pots v1 = (if (v1 < (0 : Int32)) then (some (0 : Int32)) else (Option.bind (f9_X12_teams fu c2_groups c2_pots) (fun b2 => (if (b2 ≤ v1) then (some (0 : Int32)) else (some (1 : Int32)))))) from rfl) ?_
  have e1 := dz_l0
  refine dz_Tltb (fun h2 => ?_) (fun h2 => ?_)
  · skip
    refine dz_Tsb ?_
    refine dz_Teq (fun h3 => ?_) (fun h3 => ?_)
    · skip
      have e4 := dz_lm1
      refine dz_Ts ?_
      dsimp only
      exact ⟨(by omega), (by omega)⟩
    · skip
      exfalso; omega
  · skip
    refine dz_Tba ?_
    refine dz_Tb (t9_X12_teams_s fu hfu κ hκ _ _ p0 p1 p2 p3 o0 o1) (fun r3 q => ?_)
    obtain ⟨q3_0, q3_1, q3_2, qo3_0⟩ := q
    refine dz_Tleb (fun h5 => ?_) (fun h5 => ?_)
    · skip
      refine dz_Tsb ?_
      refine dz_Teq (fun h6 => ?_) (fun h6 => ?_)
      · skip
        have e7 := dz_lm1
        refine dz_Ts ?_
        dsimp only
        exact ⟨(by omega), (by omega)⟩
      · skip
        exfalso; omega
    · skip
      refine dz_Tsb ?_
      have e8 := dz_l1
      refine dz_Teq (fun h9 => ?_) (fun h9 => ?_)
      · skip
        exfalso; omega
      · skip
        exact (t47_X12_ends_I_s fu hfu κ hκ c2_groups c2_pots c2_draws c2_out a49 a50 a54 a55 p0 p1 p2 p3 p4 p5 p6 p7 hr_a49 hr_a50 hr_a54 hr_a55 o0 o1 o2 kv) v1 (0 : Int32) (0 : Int32) (by first | assumption | omega) (by first | assumption | omega) (by omega) (by omega) (by omega) (by omega) (by omega) (by first | assumption | omega) (by omega)
theorem t47_X12_ends_s (fu : Nat) (hfu : 1000000000000 ≤ fu) (κ : Nat) (hκ : κ < 14) (c2_groups : Int32) (c2_pots : Int32) (c2_draws : Int32) (c2_out : Int32) (a49 : Nat → Int32) (a50 : Nat → Int32) (a54 : Nat → Int32) (a55 : Nat → Int32) (v1 : Int32) (c2_thrown : Int32) (p0 : c2_groups.toInt ≤ 4) (p1 : 2 ≤ c2_groups.toInt) (p2 : c2_pots.toInt ≤ 4) (p3 : 0 ≤ c2_pots.toInt) (p4 : c2_draws.toInt ≤ 13824) (p5 : 1 ≤ c2_draws.toInt) (p6 : c2_out.toInt ≤ 12) (p7 : 0 ≤ c2_out.toInt) (hr_a49 : dz_rg a49 13824 0 1023) (hr_a50 : dz_rg a50 165888 0 3) (hr_a54 : dz_rg a54 12 0 11) (hr_a55 : dz_rg a55 12 0 3) (o0 : c2_groups.toInt = ((dz_kg κ : Nat) : Int)) (o1 : c2_pots.toInt = ((dz_kp κ : Nat) : Int)) (o2 : c2_draws.toInt = ((dz_kt κ : Nat) : Int)) : dz_T (f47_X12_ends fu c2_groups c2_pots c2_draws c2_out a49 a50 a54 a55 v1 c2_thrown) (fun r => r.1.toInt ≤ 3 ∧ (-1) ≤ r.1.toInt) :=
  t47_X12_ends_E_s fu hfu κ hκ c2_groups c2_pots c2_draws c2_out a49 a50 a54 a55 v1 c2_thrown p0 p1 p2 p3 p4 p5 p6 p7 hr_a49 hr_a50 hr_a54 hr_a55 o0 o1 o2 fu hfu
