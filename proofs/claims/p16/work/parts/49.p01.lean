abbrev p72_X12_isEven_s (fu : Nat) (κ : Nat) (c2_groups : Int32) (c2_pots : Int32) (c2_draws : Int32) (a49 : Nat → Int32) (a50 : Nat → Int32) (k : Nat) : Prop :=
  (∀ (v1 : Int32) (v2 : Int32) (v3 : Int64) (v5 : Int32) (c2_laid : Int32) (a65 : Nat → Int64), v5.toInt ≤ 13824 → 0 ≤ v5.toInt → c2_laid.toInt ≤ (-1) → (-1) ≤ c2_laid.toInt → v5.toInt ≤ c2_draws.toInt → 0 + 3285 + (13824 - v5.toInt) * 18 + 9 ≤ ((k : Nat) : Int) → dz_T ((F72_X12_isEven fu c2_groups c2_pots c2_draws a49 a50 k).1 v1 v2 v3 v5 c2_laid a65) (fun r => r.1.toInt ≤ 1 ∧ 0 ≤ r.1.toInt)) ∧ (∀ (v2 : Int32) (v3 : Int64) (v5 : Int32) (c2_laid : Int32) (a65 : Nat → Int64), v5.toInt ≤ 12 → 0 ≤ v5.toInt → c2_laid.toInt ≤ (-1) → (-1) ≤ c2_laid.toInt → v5.toInt ≤ c2_groups.toInt + 9 → 0 + 0 + (12 - v5.toInt) * 252 + 9 ≤ ((k : Nat) : Int) → dz_T ((F72_X12_isEven fu c2_groups c2_pots c2_draws a49 a50 k).2.1 v2 v3 v5 c2_laid a65) (fun r => r.1.toInt ≤ 1 ∧ 0 ≤ r.1.toInt)) ∧ (∀ (v2 : Int32) (v3 : Int64) (v5 : Int32) (v6 : Int32) (c2_laid : Int32) (a65 : Nat → Int64), v5.toInt ≤ 11 → 0 ≤ v5.toInt → v6.toInt ≤ 12 → 1 ≤ v6.toInt → c2_laid.toInt ≤ (-1) → (-1) ≤ c2_laid.toInt → v5.toInt + 1 ≤ v6.toInt → v5.toInt ≤ c2_groups.toInt + 8 → v6.toInt ≤ c2_groups.toInt + 9 → 0 + 0 + ((12 - v5.toInt) - 1) * 252 + 0 + (12 - v6.toInt) * 18 + 18 ≤ ((k : Nat) : Int) → dz_T ((F72_X12_isEven fu c2_groups c2_pots c2_draws a49 a50 k).2.2.2.1 v2 v3 v5 v6 c2_laid a65) (fun r => r.1.toInt ≤ 1 ∧ 0 ≤ r.1.toInt))
set_option maxHeartbeats 4000000 in
set_option maxRecDepth 10000 in
theorem t72_X12_isEven_h1_s (fu : Nat) (hfu : 1000000000000 ≤ fu) (κ : Nat) (hκ : κ < 14) (c2_groups : Int32) (c2_pots : Int32) (c2_draws : Int32) (a49 : Nat → Int32) (a50 : Nat → Int32) (p0 : c2_groups.toInt ≤ 4) (p1 : 2 ≤ c2_groups.toInt) (p2 : c2_pots.toInt ≤ 4) (p3 : 0 ≤ c2_pots.toInt) (p4 : c2_draws.toInt ≤ 13824) (p5 : 1 ≤ c2_draws.toInt) (hr_a49 : dz_rg a49 13824 0 1023) (hr_a50 : dz_rg a50 165888 0 3) (o0 : c2_groups.toInt = ((dz_kg κ : Nat) : Int)) (o1 : c2_pots.toInt = ((dz_kp κ : Nat) : Int)) (o2 : c2_draws.toInt = ((dz_kt κ : Nat) : Int)) (k : Nat) (ih : ∀ j9, j9 < k → p72_X12_isEven_s fu κ c2_groups c2_pots c2_draws a49 a50 j9) : ∀ (v1 : Int32) (v2 : Int32) (v3 : Int64) (v5 : Int32) (c2_laid : Int32) (a65 : Nat → Int64), v5.toInt ≤ 13824 → 0 ≤ v5.toInt → c2_laid.toInt ≤ (-1) → (-1) ≤ c2_laid.toInt → v5.toInt ≤ c2_draws.toInt → 0 + 3285 + (13824 - v5.toInt) * 18 + 9 ≤ ((k : Nat) : Int) → dz_T ((F72_X12_isEven fu c2_groups c2_pots c2_draws a49 a50 k).1 v1 v2 v3 v5 c2_laid a65) (fun r => r.1.toInt ≤ 1 ∧ 0 ≤ r.1.toInt) := by
  intro v1 v2 v3 v5 c2_laid a65 i0 i1 i2 i3 i4 hm
  obtain ⟨k0, rfl⟩ : ∃ x, k = x + 1 := ⟨k - 1, by omega⟩
  show dz_T (s72_X12_isEven_1 fu c2_groups c2_pots c2_draws a49 a50 (F72_X12_isEven fu c2_groups c2_pots c2_draws a49 a50 k0).2.1 (F72_X12_isEven fu c2_groups c2_pots c2_draws a49 a50 k0).2.2.1  v1 v2 v3 v5 c2_laid a65) _
  unfold s72_X12_isEven_1
  refine dz_Tle (fun h1 => ?_) (fun h1 => ?_)
  · skip
    have e2 := dz_l0
    exact (ih k0 (by omega)).2.1 v2 v3 (0 : Int32) c2_laid a65 (by omega) (by omega) i2 i3 (by omega) (by omega)
  · skip
    refine dz_Tin (by omega) (by omega) ?_
    have e3 := dz_rgat (hr_a49) (i := v5) (by omega) (by omega)
    have e4 := dz_lm1
    have e5 := dz_andl (a := (a49 v5.toNatClampNeg)) (b := (v1 ^^^ (-(1 : Int32)))) (by omega)
    have e6 := dz_l0
    refine dz_Teq (fun h7 => ?_) (fun h7 => ?_)
    · skip
      obtain ⟨k1, rfl⟩ : ∃ x, k0 = x + 1 := ⟨k0 - 1, by omega⟩
      show dz_T (s72_X12_isEven_3 fu c2_groups c2_pots c2_draws a49 a50 (F72_X12_isEven fu c2_groups c2_pots c2_draws a49 a50 k1).1 v1 v2 v3 v5 (1 : Int64) v5 c2_laid a65) _
      unfold s72_X12_isEven_3
      refine dz_Tin (by omega) (by omega) ?_
      have e8 := dz_l1
      have e9 := dz_add (a := v5) (b := (1 : Int32)) (by omega) (by omega)
      exact (ih k1 (by omega)).1 v1 v2 v3 (v5 + (1 : Int32)) c2_laid (vp_updL a65 v5.toNatClampNeg 1) (by omega) (by omega) i2 i3 (by omega) (by omega)
    · skip
      obtain ⟨k2, rfl⟩ : ∃ x, k0 = x + 1 := ⟨k0 - 1, by omega⟩
      show dz_T (s72_X12_isEven_3 fu c2_groups c2_pots c2_draws a49 a50 (F72_X12_isEven fu c2_groups c2_pots c2_draws a49 a50 k2).1 v1 v2 v3 v5 (0 : Int64) v5 c2_laid a65) _
      unfold s72_X12_isEven_3
      refine dz_Tin (by omega) (by omega) ?_
      have e10 := dz_l1
      have e11 := dz_add (a := v5) (b := (1 : Int32)) (by omega) (by omega)
      exact (ih k2 (by omega)).1 v1 v2 v3 (v5 + (1 : Int32)) c2_laid (vp_updL a65 v5.toNatClampNeg 0) (by omega) (by omega) i2 i3 (by omega) (by omega)
set_option maxHeartbeats 4000000 in
set_option maxRecDepth 10000 in
theorem t72_X12_isEven_h2_s (fu : Nat) (hfu : 1000000000000 ≤ fu) (κ : Nat) (hκ : κ < 14) (c2_groups : Int32) (c2_pots : Int32) (c2_draws : Int32) (a49 : Nat → Int32) (a50 : Nat → Int32) (p0 : c2_groups.toInt ≤ 4) (p1 : 2 ≤ c2_groups.toInt) (p2 : c2_pots.toInt ≤ 4) (p3 : 0 ≤ c2_pots.toInt) (p4 : c2_draws.toInt ≤ 13824) (p5 : 1 ≤ c2_draws.toInt) (hr_a49 : dz_rg a49 13824 0 1023) (hr_a50 : dz_rg a50 165888 0 3) (o0 : c2_groups.toInt = ((dz_kg κ : Nat) : Int)) (o1 : c2_pots.toInt = ((dz_kp κ : Nat) : Int)) (o2 : c2_draws.toInt = ((dz_kt κ : Nat) : Int)) (k : Nat) (ih : ∀ j9, j9 < k → p72_X12_isEven_s fu κ c2_groups c2_pots c2_draws a49 a50 j9) : ∀ (v2 : Int32) (v3 : Int64) (v5 : Int32) (c2_laid : Int32) (a65 : Nat → Int64), v5.toInt ≤ 12 → 0 ≤ v5.toInt → c2_laid.toInt ≤ (-1) → (-1) ≤ c2_laid.toInt → v5.toInt ≤ c2_groups.toInt + 9 → 0 + 0 + (12 - v5.toInt) * 252 + 9 ≤ ((k : Nat) : Int) → dz_T ((F72_X12_isEven fu c2_groups c2_pots c2_draws a49 a50 k).2.1 v2 v3 v5 c2_laid a65) (fun r => r.1.toInt ≤ 1 ∧ 0 ≤ r.1.toInt) := by
  intro v2 v3 v5 c2_laid a65 i0 i1 i2 i3 i4 hm
  obtain ⟨k0, rfl⟩ : ∃ x, k = x + 1 := ⟨k - 1, by omega⟩
  show dz_T (s72_X12_isEven_2 fu c2_groups c2_pots c2_draws a49 a50 (F72_X12_isEven fu c2_groups c2_pots c2_draws a49 a50 k0).2.2.2.1  v2 v3 v5 c2_laid a65) _
  unfold s72_X12_isEven_2
  refine dz_Tb (t9_X12_teams_s fu hfu κ hκ _ _ p0 p1 p2 p3 o0 o1) (fun r1 q => ?_)
  obtain ⟨q1_0, q1_1, q1_2, qo1_0⟩ := q
  refine dz_Tle (fun h1 => ?_) (fun h1 => ?_)
  · skip
    have e2 := dz_l1
    refine dz_Ts ?_
    dsimp only
    exact ⟨(by omega), (by omega)⟩
  · skip
    have e3 := dz_l1
    have e4 := dz_add (a := v5) (b := (1 : Int32)) (by omega) (by omega)
    exact (ih k0 (by omega)).2.2 v2 v3 v5 (v5 + (1 : Int32)) c2_laid a65 (by first | assumption | omega) i1 (by omega) (by omega) i2 i3 (by omega) (by first | assumption | omega) (by omega) (by omega)
set_option maxHeartbeats 4000000 in
set_option maxRecDepth 10000 in
theorem t72_X12_isEven_h4_s (fu : Nat) (hfu : 1000000000000 ≤ fu) (κ : Nat) (hκ : κ < 14) (c2_groups : Int32) (c2_pots : Int32) (c2_draws : Int32) (a49 : Nat → Int32) (a50 : Nat → Int32) (p0 : c2_groups.toInt ≤ 4) (p1 : 2 ≤ c2_groups.toInt) (p2 : c2_pots.toInt ≤ 4) (p3 : 0 ≤ c2_pots.toInt) (p4 : c2_draws.toInt ≤ 13824) (p5 : 1 ≤ c2_draws.toInt) (hr_a49 : dz_rg a49 13824 0 1023) (hr_a50 : dz_rg a50 165888 0 3) (o0 : c2_groups.toInt = ((dz_kg κ : Nat) : Int)) (o1 : c2_pots.toInt = ((dz_kp κ : Nat) : Int)) (o2 : c2_draws.toInt = ((dz_kt κ : Nat) : Int)) (k : Nat) (ih : ∀ j9, j9 < k → p72_X12_isEven_s fu κ c2_groups c2_pots c2_draws a49 a50 j9) : ∀ (v2 : Int32) (v3 : Int64) (v5 : Int32) (v6 : Int32) (c2_laid : Int32) (a65 : Nat → Int64), v5.toInt ≤ 11 → 0 ≤ v5.toInt → v6.toInt ≤ 12 → 1 ≤ v6.toInt → c2_laid.toInt ≤ (-1) → (-1) ≤ c2_laid.toInt → v5.toInt + 1 ≤ v6.toInt → v5.toInt ≤ c2_groups.toInt + 8 → v6.toInt ≤ c2_groups.toInt + 9 → 0 + 0 + ((12 - v5.toInt) - 1) * 252 + 0 + (12 - v6.toInt) * 18 + 18 ≤ ((k : Nat) : Int) → dz_T ((F72_X12_isEven fu c2_groups c2_pots c2_draws a49 a50 k).2.2.2.1 v2 v3 v5 v6 c2_laid a65) (fun r => r.1.toInt ≤ 1 ∧ 0 ≤ r.1.toInt) := by
  intro v2 v3 v5 v6 c2_laid a65 i0 i1 i2 i3 i4 i5 i6 i7 i8 hm
  obtain ⟨k0, rfl⟩ : ∃ x, k = x + 1 := ⟨k - 1, by omega⟩
  show dz_T (s72_X12_isEven_4 fu c2_groups c2_pots c2_draws a49 a50 (F72_X12_isEven fu c2_groups c2_pots c2_draws a49 a50 k0).2.1 (F72_X12_isEven fu c2_groups c2_pots c2_draws a49 a50 k0).2.2.2.2  v2 v3 v5 v6 c2_laid a65) _
  unfold s72_X12_isEven_4
  refine dz_Tb (t9_X12_teams_s fu hfu κ hκ _ _ p0 p1 p2 p3 o0 o1) (fun r1 q => ?_)
  obtain ⟨q1_0, q1_1, q1_2, qo1_0⟩ := q
  refine dz_Tle (fun h1 => ?_) (fun h1 => ?_)
  · skip
    have e2 := dz_l1
    have e3 := dz_add (a := v5) (b := (1 : Int32)) (by omega) (by omega)
    exact (ih k0 (by omega)).2.1 v2 v3 (v5 + (1 : Int32)) c2_laid a65 (by omega) (by omega) i4 i5 (by omega) (by omega)
  · skip
    refine dz_Tz (by omega) ?_
    refine dz_Tz (by omega) ?_
    have e4 := dz_divq (a := v5) (b := c2_groups) 2 10 (by omega) (by omega) (by omega) (by omega)
    have e5 := dz_divq (a := v6) (b := c2_groups) 2 11 (by omega) (by omega) (by omega) (by omega)
    refine dz_Teq (fun h6 => ?_) (fun h6 => ?_)
    · skip
      obtain ⟨k1, rfl⟩ : ∃ x, k0 = x + 1 := ⟨k0 - 1, by omega⟩
      show dz_T (s72_X12_isEven_5 fu c2_groups c2_pots c2_draws a49 a50 (F72_X12_isEven fu c2_groups c2_pots c2_draws a49 a50 k1).2.2.2.1 v2 v3 v5 v6 c2_laid a65) _
      unfold s72_X12_isEven_5
      have e7 := dz_l1
      have e8 := dz_add (a := v6) (b := (1 : Int32)) (by omega) (by omega)
      exact (ih k1 (by omega)).2.2 v2 v3 v5 (v6 + (1 : Int32)) c2_laid a65 i0 i1 (by omega) (by omega) i4 i5 (by omega) i7 (by omega) (by omega)
    · skip
      refine dz_Tb (t60_X12_pairRows_s fu hfu κ hκ _ _ _ _ _ p4 p5 i1 i0 (by first | assumption | omega) (by first | assumption | omega) (hr_a50) o2) (fun r2 _ => ?_)
      have e9 := dz_l0
      refine dz_Tle (fun h10 => ?_) (fun h10 => ?_)
      · skip
        obtain ⟨k2, rfl⟩ : ∃ x, k0 = x + 1 := ⟨k0 - 1, by omega⟩
        show dz_T (s72_X12_isEven_5 fu c2_groups c2_pots c2_draws a49 a50 (F72_X12_isEven fu c2_groups c2_pots c2_draws a49 a50 k2).2.2.2.1 v2 v3 v5 v6 c2_laid a65) _
        unfold s72_X12_isEven_5
        have e11 := dz_l1
        have e12 := dz_add (a := v6) (b := (1 : Int32)) (by omega) (by omega)
        exact (ih k2 (by omega)).2.2 v2 v3 v5 (v6 + (1 : Int32)) c2_laid a65 i0 i1 (by omega) (by omega) i4 i5 (by omega) i7 (by omega) (by omega)
      · skip
        refine dz_Ts ?_
        dsimp only
        exact ⟨(by omega), (by omega)⟩
theorem t72_X12_isEven_I_s (fu : Nat) (hfu : 1000000000000 ≤ fu) (κ : Nat) (hκ : κ < 14) (c2_groups : Int32) (c2_pots : Int32) (c2_draws : Int32) (a49 : Nat → Int32) (a50 : Nat → Int32) (p0 : c2_groups.toInt ≤ 4) (p1 : 2 ≤ c2_groups.toInt) (p2 : c2_pots.toInt ≤ 4) (p3 : 0 ≤ c2_pots.toInt) (p4 : c2_draws.toInt ≤ 13824) (p5 : 1 ≤ c2_draws.toInt) (hr_a49 : dz_rg a49 13824 0 1023) (hr_a50 : dz_rg a50 165888 0 3) (o0 : c2_groups.toInt = ((dz_kg κ : Nat) : Int)) (o1 : c2_pots.toInt = ((dz_kp κ : Nat) : Int)) (o2 : c2_draws.toInt = ((dz_kt κ : Nat) : Int)) (k : Nat) : p72_X12_isEven_s fu κ c2_groups c2_pots c2_draws a49 a50 k := by
  induction k using Nat.strongRecOn with
  | _ k ih => exact ⟨t72_X12_isEven_h1_s fu hfu κ hκ c2_groups c2_pots c2_draws a49 a50 p0 p1 p2 p3 p4 p5 hr_a49 hr_a50 o0 o1 o2 k ih, t72_X12_isEven_h2_s fu hfu κ hκ c2_groups c2_pots c2_draws a49 a50 p0 p1 p2 p3 p4 p5 hr_a49 hr_a50 o0 o1 o2 k ih, t72_X12_isEven_h4_s fu hfu κ hκ c2_groups c2_pots c2_draws a49 a50 p0 p1 p2 p3 p4 p5 hr_a49 hr_a50 o0 o1 o2 k ih⟩
set_option maxHeartbeats 4000000 in
set_option maxRecDepth 10000 in
theorem t72_X12_isEven_E_s (fu : Nat) (hfu : 1000000000000 ≤ fu) (κ : Nat) (hκ : κ < 14) (c2_groups : Int32) (c2_pots : Int32) (c2_draws : Int32) (a49 : Nat → Int32) (a50 : Nat → Int32) (v1 : Int32) (v2 : Int32) (c2_laid : Int32) (a65 : Nat → Int64) (p0 : c2_groups.toInt ≤ 4) (p1 : 2 ≤ c2_groups.toInt) (p2 : c2_pots.toInt ≤ 4) (p3 : 0 ≤ c2_pots.toInt) (p4 : c2_draws.toInt ≤ 13824) (p5 : 1 ≤ c2_draws.toInt) (hr_a49 : dz_rg a49 13824 0 1023) (hr_a50 : dz_rg a50 165888 0 3) (o0 : c2_groups.toInt = ((dz_kg κ : Nat) : Int)) (o1 : c2_pots.toInt = ((dz_kp κ : Nat) : Int)) (o2 : c2_draws.toInt = ((dz_kt κ : Nat) : Int)) (kv : Nat) (hkv : 1000000000000 ≤ kv) : dz_T (s72_X12_isEven_0 fu c2_groups c2_pots c2_draws a49 a50 (F72_X12_isEven fu c2_groups c2_pots c2_draws a49 a50 kv).1  v1 v2 c2_laid a65) (fun r => r.1.toInt ≤ 1 ∧ 0 ≤ r.1.toInt) := by
  unfold s72_X12_isEven_0
  refine dz_Tb (t26_X12_lawfulBut_s fu hfu κ hκ _ _ _ p4 p5 (hr_a49) o2) (fun r1 q => ?_)
  obtain ⟨q1_0, q1_1, q1_2⟩ := q
  have e1 := dz_l0
  refine dz_Teq (fun h2 => ?_) (fun h2 => ?_)
  · skip
    refine dz_Ts ?_
    dsimp only
    exact ⟨(by omega), (by omega)⟩
  · skip
    have e3 := dz_lm1
    exact (t72_X12_isEven_I_s fu hfu κ hκ c2_groups c2_pots c2_draws a49 a50 p0 p1 p2 p3 p4 p5 hr_a49 hr_a50 o0 o1 o2 kv).1 v1 v2 r1.toInt64 (0 : Int32) (-(1 : Int32)) a65 (by omega) (by omega) (by omega) (by omega) (by omega) (by omega)
theorem t72_X12_isEven_s (fu : Nat) (hfu : 1000000000000 ≤ fu) (κ : Nat) (hκ : κ < 14) (c2_groups : Int32) (c2_pots : Int32) (c2_draws : Int32) (a49 : Nat → Int32) (a50 : Nat → Int32) (v1 : Int32) (v2 : Int32) (c2_laid : Int32) (a65 : Nat → Int64) (p0 : c2_groups.toInt ≤ 4) (p1 : 2 ≤ c2_groups.toInt) (p2 : c2_pots.toInt ≤ 4) (p3 : 0 ≤ c2_pots.toInt) (p4 : c2_draws.toInt ≤ 13824) (p5 : 1 ≤ c2_draws.toInt) (hr_a49 : dz_rg a49 13824 0 1023) (hr_a50 : dz_rg a50 165888 0 3) (o0 : c2_groups.toInt = ((dz_kg κ : Nat) : Int)) (o1 : c2_pots.toInt = ((dz_kp κ : Nat) : Int)) (o2 : c2_draws.toInt = ((dz_kt κ : Nat) : Int)) : dz_T (f72_X12_isEven fu c2_groups c2_pots c2_draws a49 a50 v1 v2 c2_laid a65) (fun r => r.1.toInt ≤ 1 ∧ 0 ≤ r.1.toInt) :=
  t72_X12_isEven_E_s fu hfu κ hκ c2_groups c2_pots c2_draws a49 a50 v1 v2 c2_laid a65 p0 p1 p2 p3 p4 p5 hr_a49 hr_a50 o0 o1 o2 fu hfu
abbrev p73_X12_leave_s (fu : Nat) (κ : Nat) (c2_groups : Int32) (c2_pots : Int32) (c2_bars : Int32) (c2_draws : Int32) (a49 : Nat → Int32) (a50 : Nat → Int32) (k : Nat) : Prop :=
  (∀ (v1 : Int32) (v2 : Int32) (c2_thrown : Int32) (c2_laid : Int32) (a65 : Nat → Int64), v1.toInt ≤ 100 → 0 ≤ v1.toInt → v2.toInt ≤ 3 → 0 ≤ v2.toInt → c2_thrown.toInt ≤ 0 → 0 ≤ c2_thrown.toInt → 0 + 0 + (3 - v2.toInt) * 14378 + 7 ≤ ((k : Nat) : Int) → dz_T ((F73_X12_leave fu c2_groups c2_pots c2_bars c2_draws a49 a50 k).1 v1 v2 c2_thrown c2_laid a65) (fun r => r.1.toInt ≤ 1023 ∧ (-1) ≤ r.1.toInt)) ∧ (∀ (v1 : Int32) (v2 : Int32) (v3 : Int32) (c2_thrown : Int32) (c2_laid : Int32) (a65 : Nat → Int64), v1.toInt ≤ 100 → 0 ≤ v1.toInt → v2.toInt ≤ 2 → 0 ≤ v2.toInt → v3.toInt ≤ 1024 → 0 ≤ v3.toInt → c2_thrown.toInt ≤ 0 → 0 ≤ c2_thrown.toInt → 0 + 0 + ((3 - v2.toInt) - 1) * 14378 + 0 + (1024 - v3.toInt) * 14 + 14 ≤ ((k : Nat) : Int) → dz_T ((F73_X12_leave fu c2_groups c2_pots c2_bars c2_draws a49 a50 k).2.1 v1 v2 v3 c2_thrown c2_laid a65) (fun r => r.1.toInt ≤ 1023 ∧ (-1) ≤ r.1.toInt))
set_option maxHeartbeats 4000000 in
set_option maxRecDepth 10000 in
theorem t73_X12_leave_h1_s (fu : Nat) (hfu : 1000000000000 ≤ fu) (κ : Nat) (hκ : κ < 14) (c2_groups : Int32) (c2_pots : Int32) (c2_bars : Int32) (c2_draws : Int32) (a49 : Nat → Int32) (a50 : Nat → Int32) (p0 : c2_groups.toInt ≤ 4) (p1 : 2 ≤ c2_groups.toInt) (p2 : c2_pots.toInt ≤ 4) (p3 : 0 ≤ c2_pots.toInt) (p4 : c2_bars.toInt ≤ 10) (p5 : 0 ≤ c2_bars.toInt) (p6 : c2_draws.toInt ≤ 13824) (p7 : 1 ≤ c2_draws.toInt) (hr_a49 : dz_rg a49 13824 0 1023) (hr_a50 : dz_rg a50 165888 0 3) (o0 : c2_groups.toInt = ((dz_kg κ : Nat) : Int)) (o1 : c2_pots.toInt = ((dz_kp κ : Nat) : Int)) (o2 : c2_draws.toInt = ((dz_kt κ : Nat) : Int)) (k : Nat) (ih : ∀ j9, j9 < k → p73_X12_leave_s fu κ c2_groups c2_pots c2_bars c2_draws a49 a50 j9) : ∀ (v1 : Int32) (v2 : Int32) (c2_thrown : Int32) (c2_laid : Int32) (a65 : Nat → Int64), v1.toInt ≤ 100 → 0 ≤ v1.toInt → v2.toInt ≤ 3 → 0 ≤ v2.toInt → c2_thrown.toInt ≤ 0 → 0 ≤ c2_thrown.toInt → 0 + 0 + (3 - v2.toInt) * 14378 + 7 ≤ ((k : Nat) : Int) → dz_T ((F73_X12_leave fu c2_groups c2_pots c2_bars c2_draws a49 a50 k).1 v1 v2 c2_thrown c2_laid a65) (fun r => r.1.toInt ≤ 1023 ∧ (-1) ≤ r.1.toInt) := by
  intro v1 v2 c2_thrown c2_laid a65 i0 i1 i2 i3 i4 i5 hm
  obtain ⟨k0, rfl⟩ : ∃ x, k = x + 1 := ⟨k - 1, by omega⟩
  show dz_T (s73_X12_leave_1 fu c2_groups c2_pots c2_bars c2_draws a49 a50 (F73_X12_leave fu c2_groups c2_pots c2_bars c2_draws a49 a50 k0).2.1  v1 v2 c2_thrown c2_laid a65) _
  unfold s73_X12_leave_1
  have e1 := dz_l3
  refine dz_Tle (fun h2 => ?_) (fun h2 => ?_)
  · skip
    have e3 := dz_lm1
    refine dz_Ts ?_
    dsimp only
    exact ⟨(by omega), (by omega)⟩
  · skip
    have e4 := dz_l0
    exact (ih k0 (by omega)).2 v1 v2 (0 : Int32) c2_thrown c2_laid a65 i0 i1 (by first | assumption | omega) i3 (by omega) (by omega) i4 i5 (by omega)
set_option maxHeartbeats 4000000 in
set_option maxRecDepth 10000 in
theorem t73_X12_leave_h2_s (fu : Nat) (hfu : 1000000000000 ≤ fu) (κ : Nat) (hκ : κ < 14) (c2_groups : Int32) (c2_pots : Int32) (c2_bars : Int32) (c2_draws : Int32) (a49 : Nat → Int32) (a50 : Nat → Int32) (p0 : c2_groups.toInt ≤ 4) (p1 : 2 ≤ c2_groups.toInt) (p2 : c2_pots.toInt ≤ 4) (p3 : 0 ≤ c2_pots.toInt) (p4 : c2_bars.toInt ≤ 10) (p5 : 0 ≤ c2_bars.toInt) (p6 : c2_draws.toInt ≤ 13824) (p7 : 1 ≤ c2_draws.toInt) (hr_a49 : dz_rg a49 13824 0 1023) (hr_a50 : dz_rg a50 165888 0 3) (o0 : c2_groups.toInt = ((dz_kg κ : Nat) : Int)) (o1 : c2_pots.toInt = ((dz_kp κ : Nat) : Int)) (o2 : c2_draws.toInt = ((dz_kt κ : Nat) : Int)) (k : Nat) (ih : ∀ j9, j9 < k → p73_X12_leave_s fu κ c2_groups c2_pots c2_bars c2_draws a49 a50 j9) : ∀ (v1 : Int32) (v2 : Int32) (v3 : Int32) (c2_thrown : Int32) (c2_laid : Int32) (a65 : Nat → Int64), v1.toInt ≤ 100 → 0 ≤ v1.toInt → v2.toInt ≤ 2 → 0 ≤ v2.toInt → v3.toInt ≤ 1024 → 0 ≤ v3.toInt → c2_thrown.toInt ≤ 0 → 0 ≤ c2_thrown.toInt → 0 + 0 + ((3 - v2.toInt) - 1) * 14378 + 0 + (1024 - v3.toInt) * 14 + 14 ≤ ((k : Nat) : Int) → dz_T ((F73_X12_leave fu c2_groups c2_pots c2_bars c2_draws a49 a50 k).2.1 v1 v2 v3 c2_thrown c2_laid a65) (fun r => r.1.toInt ≤ 1023 ∧ (-1) ≤ r.1.toInt) := by
  intro v1 v2 v3 c2_thrown c2_laid a65 i0 i1 i2 i3 i4 i5 i6 i7 hm
  obtain ⟨k0, rfl⟩ : ∃ x, k = x + 1 := ⟨k - 1, by omega⟩
  show dz_T (s73_X12_leave_2 fu c2_groups c2_pots c2_bars c2_draws a49 a50 (F73_X12_leave fu c2_groups c2_pots c2_bars c2_draws a49 a50 k0).1 (F73_X12_leave fu c2_groups c2_pots c2_bars c2_draws a49 a50 k0).2.2  v1 v2 v3 c2_thrown c2_laid a65) _
  unfold s73_X12_leave_2
  have e1 := dz_l1
  have e2 := dz_l31
  have e3 := dz_andr (a := c2_bars) (b := (31 : Int32)) (by omega)
  have e4 := dz_andl (a := c2_bars) (b := (31 : Int32)) (by omega)
  have e5 := dz_shl1 (b := c2_bars) 0 10 (by omega) (by omega) (by omega)
  refine dz_Tle (fun h6 => ?_) (fun h6 => ?_)
  · skip
    have e7 := dz_add (a := v2) (b := (1 : Int32)) (by omega) (by omega)
    exact (ih k0 (by omega)).1 v1 (v2 + (1 : Int32)) c2_thrown c2_laid a65 i0 i1 (by omega) (by omega) i6 i7 (by omega)
  · skip
    refine dz_Tb (t28_X12_many fu hfu _ ) (fun r1 q => ?_)
    obtain ⟨q1_0, q1_1⟩ := q
    refine dz_Teq (fun h8 => ?_) (fun h8 => ?_)
    · skip
      refine dz_Tb (t72_X12_isEven_s fu hfu κ hκ _ _ _ _ _ _ _ _ _ p0 p1 p2 p3 p6 p7 (hr_a49) (hr_a50) o0 o1 o2) (fun r2 q => ?_)
      obtain ⟨q2_0, q2_1⟩ := q
      have e9 := dz_l0
      refine dz_Teq (fun h10 => ?_) (fun h10 => ?_)
      · skip
        obtain ⟨k1, rfl⟩ : ∃ x, k0 = x + 1 := ⟨k0 - 1, by omega⟩
        show dz_T (s73_X12_leave_3 fu c2_groups c2_pots c2_bars c2_draws a49 a50 (F73_X12_leave fu c2_groups c2_pots c2_bars c2_draws a49 a50 k1).2.1 v1 v2 v3 c2_thrown r2.2.1 r2.2.2) _
        unfold s73_X12_leave_3
        have e11 := dz_add (a := v3) (b := (1 : Int32)) (by omega) (by omega)
        exact (ih k1 (by omega)).2 v1 v2 (v3 + (1 : Int32)) c2_thrown r2.2.1 r2.2.2 i0 i1 i2 i3 (by omega) (by omega) i6 i7 (by omega)
      · skip
        refine dz_Ts ?_
        dsimp only
        exact ⟨(by first | assumption | omega), (by first | assumption | omega)⟩
    · skip
      obtain ⟨k2, rfl⟩ : ∃ x, k0 = x + 1 := ⟨k0 - 1, by omega⟩
      show dz_T (s73_X12_leave_3 fu c2_groups c2_pots c2_bars c2_draws a49 a50 (F73_X12_leave fu c2_groups c2_pots c2_bars c2_draws a49 a50 k2).2.1 v1 v2 v3 c2_thrown c2_laid a65) _
      unfold s73_X12_leave_3
      have e12 := dz_add (a := v3) (b := (1 : Int32)) (by omega) (by omega)
      exact (ih k2 (by omega)).2 v1 v2 (v3 + (1 : Int32)) c2_thrown c2_laid a65 i0 i1 i2 i3 (by omega) (by omega) i6 i7 (by omega)
theorem t73_X12_leave_I_s (fu : Nat) (hfu : 1000000000000 ≤ fu) (κ : Nat) (hκ : κ < 14) (c2_groups : Int32) (c2_pots : Int32) (c2_bars : Int32) (c2_draws : Int32) (a49 : Nat → Int32) (a50 : Nat → Int32) (p0 : c2_groups.toInt ≤ 4) (p1 : 2 ≤ c2_groups.toInt) (p2 : c2_pots.toInt ≤ 4) (p3 : 0 ≤ c2_pots.toInt) (p4 : c2_bars.toInt ≤ 10) (p5 : 0 ≤ c2_bars.toInt) (p6 : c2_draws.toInt ≤ 13824) (p7 : 1 ≤ c2_draws.toInt) (hr_a49 : dz_rg a49 13824 0 1023) (hr_a50 : dz_rg a50 165888 0 3) (o0 : c2_groups.toInt = ((dz_kg κ : Nat) : Int)) (o1 : c2_pots.toInt = ((dz_kp κ : Nat) : Int)) (o2 : c2_draws.toInt = ((dz_kt κ : Nat) : Int)) (k : Nat) : p73_X12_leave_s fu κ c2_groups c2_pots c2_bars c2_draws a49 a50 k := by
  induction k using Nat.strongRecOn with
  | _ k ih => exact ⟨t73_X12_leave_h1_s fu hfu κ hκ c2_groups c2_pots c2_bars c2_draws a49 a50 p0 p1 p2 p3 p4 p5 p6 p7 hr_a49 hr_a50 o0 o1 o2 k ih, t73_X12_leave_h2_s fu hfu κ hκ c2_groups c2_pots c2_bars c2_draws a49 a50 p0 p1 p2 p3 p4 p5 p6 p7 hr_a49 hr_a50 o0 o1 o2 k ih⟩
set_option maxHeartbeats 4000000 in
set_option maxRecDepth 10000 in
theorem t73_X12_leave_E_s (fu : Nat) (hfu : 1000000000000 ≤ fu) (κ : Nat) (hκ : κ < 14) (c2_groups : Int32) (c2_pots : Int32) (c2_bars : Int32) (c2_draws : Int32) (a49 : Nat → Int32) (a50 : Nat → Int32) (v1 : Int32) (c2_thrown : Int32) (c2_laid : Int32) (a65 : Nat → Int64) (p0 : c2_groups.toInt ≤ 4) (p1 : 2 ≤ c2_groups.toInt) (p2 : c2_pots.toInt ≤ 4) (p3 : 0 ≤ c2_pots.toInt) (p4 : c2_bars.toInt ≤ 10) (p5 : 0 ≤ c2_bars.toInt) (p6 : c2_draws.toInt ≤ 13824) (p7 : 1 ≤ c2_draws.toInt) (hr_a49 : dz_rg a49 13824 0 1023) (hr_a50 : dz_rg a50 165888 0 3) (o0 : c2_groups.toInt = ((dz_kg κ : Nat) : Int)) (o1 : c2_pots.toInt = ((dz_kp κ : Nat) : Int)) (o2 : c2_draws.toInt = ((dz_kt κ : Nat) : Int)) (kv : Nat) (hkv : 1000000000000 ≤ kv) : dz_T (s73_X12_leave_0 fu c2_groups c2_pots c2_bars c2_draws a49 a50 (F73_X12_leave fu c2_groups c2_pots c2_bars c2_draws a49 a50 kv).1  v1 c2_thrown c2_laid a65) (fun r => r.1.toInt ≤ 1023 ∧ (-1) ≤ r.1.toInt) := by
  unfold s73_X12_leave_0
  refine dz_Tbe (show f1_X12_isIn fu v1 (0 : Int32) (100 : Int32) = (if (v1 < (0 : Int32)) then (some (0 : Int32)) else (if ((100 : Int32) < v1) then (some (0 : Int32)) else (some (1 : Int32)))) from rfl) ?_
  have e1 := dz_l0
  refine dz_Tltb (fun h2 => ?_) (fun h2 => ?_)
  · skip
    refine dz_Tsb ?_
    refine dz_Teq (fun h3 => ?_) (fun h3 => ?_)
    · skip
      have e4 := dz_lm1
      refine dz_Ts ?_
      dsimp only
      exact ⟨(by omega), (by omega)⟩
    · skip
      exfalso; omega
  · skip
    have e5 := dz_l100
    refine dz_Tltb (fun h6 => ?_) (fun h6 => ?_)
    · skip
      refine dz_Tsb ?_
      refine dz_Teq (fun h7 => ?_) (fun h7 => ?_)
      · skip
        have e8 := dz_lm1
        refine dz_Ts ?_
        dsimp only
        exact ⟨(by omega), (by omega)⟩
      · skip
        exfalso; omega
    · skip
      refine dz_Tsb ?_
      have e9 := dz_l1
      refine dz_Teq (fun h10 => ?_) (fun h10 => ?_)
      · skip
        exfalso; omega
      · skip
        exact (t73_X12_leave_I_s fu hfu κ hκ c2_groups c2_pots c2_bars c2_draws a49 a50 p0 p1 p2 p3 p4 p5 p6 p7 hr_a49 hr_a50 o0 o1 o2 kv).1 v1 (0 : Int32) (0 : Int32) c2_laid a65 (by first | assumption | omega) (by first | assumption | omega) (by omega) (by omega) (by omega) (by omega) (by omega)
theorem t73_X12_leave_s (fu : Nat) (hfu : 1000000000000 ≤ fu) (κ : Nat) (hκ : κ < 14) (c2_groups : Int32) (c2_pots : Int32) (c2_bars : Int32) (c2_draws : Int32) (a49 : Nat → Int32) (a50 : Nat → Int32) (v1 : Int32) (c2_thrown : Int32) (c2_laid : Int32) (a65 : Nat → Int64) (p0 : c2_groups.toInt ≤ 4) (p1 : 2 ≤ c2_groups.toInt) (p2 : c2_pots.toInt ≤ 4) (p3 : 0 ≤ c2_pots.toInt) (p4 : c2_bars.toInt ≤ 10) (p5 : 0 ≤ c2_bars.toInt) (p6 : c2_draws.toInt ≤ 13824) (p7 : 1 ≤ c2_draws.toInt) (hr_a49 : dz_rg a49 13824 0 1023) (hr_a50 : dz_rg a50 165888 0 3) (o0 : c2_groups.toInt = ((dz_kg κ : Nat) : Int)) (o1 : c2_pots.toInt = ((dz_kp κ : Nat) : Int)) (o2 : c2_draws.toInt = ((dz_kt κ : Nat) : Int)) : dz_T (f73_X12_leave fu c2_groups c2_pots c2_bars c2_draws a49 a50 v1 c2_thrown c2_laid a65) (fun r => r.1.toInt ≤ 1023 ∧ (-1) ≤ r.1.toInt) :=
  t73_X12_leave_E_s fu hfu κ hκ c2_groups c2_pots c2_bars c2_draws a49 a50 v1 c2_thrown c2_laid a65 p0 p1 p2 p3 p4 p5 p6 p7 hr_a49 hr_a50 o0 o1 o2 fu hfu
set_option maxHeartbeats 4000000 in
set_option maxRecDepth 10000 in
theorem t85_X12_fails (fu : Nat) (hfu : 1000000000000 ≤ fu) (v1 : Int32) (c2_thrown : Int32) : dz_T (f85_X12_fails fu v1 c2_thrown) (fun r => r.1.toInt ≤ 0 ∧ 0 ≤ r.1.toInt) := by
  unfold f85_X12_fails s85_X12_fails_0
  have e1 := dz_l0
  refine dz_Ts ?_
  dsimp only
  exact ⟨(by omega), (by omega)⟩
abbrev p86_X12_look_s (fu : Nat) (κ : Nat) (c2_groups : Int32) (c2_pots : Int32) (c2_marks : Int32) (a42 : Nat → Int32) (k : Nat) : Prop :=
  (∀ (v1 : Int32) (v2 : Int32) (v3 : Int32) (v4 : Int32) (c2_thrown : Int32), v1.toInt ≤ 11 → 0 ≤ v1.toInt → v2.toInt ≤ 1 → 0 ≤ v2.toInt → v3.toInt ≤ 63 → 0 ≤ v3.toInt → v4.toInt ≤ 6 → 0 ≤ v4.toInt → c2_thrown.toInt ≤ 0 → 0 ≤ c2_thrown.toInt → v4.toInt ≤ c2_marks.toInt → v1.toInt ≤ c2_groups.toInt + 8 → 0 + 0 + (6 - v4.toInt) * 10 + 5 ≤ ((k : Nat) : Int) → dz_T ((F86_X12_look fu c2_groups c2_pots c2_marks a42 k) v1 v2 v3 v4 c2_thrown) (fun r => r.1.toInt ≤ 63 ∧ 0 ≤ r.1.toInt))
set_option maxHeartbeats 4000000 in
set_option maxRecDepth 10000 in
theorem t86_X12_look_h1_s (fu : Nat) (hfu : 1000000000000 ≤ fu) (κ : Nat) (hκ : κ < 14) (c2_groups : Int32) (c2_pots : Int32) (c2_marks : Int32) (a42 : Nat → Int32) (p0 : c2_groups.toInt ≤ 4) (p1 : 2 ≤ c2_groups.toInt) (p2 : c2_pots.toInt ≤ 4) (p3 : 0 ≤ c2_pots.toInt) (p4 : c2_marks.toInt ≤ 6) (p5 : 0 ≤ c2_marks.toInt) (o0 : c2_groups.toInt = ((dz_kg κ : Nat) : Int)) (o1 : c2_pots.toInt = ((dz_kp κ : Nat) : Int)) (k : Nat) (ih : ∀ j9, j9 < k → p86_X12_look_s fu κ c2_groups c2_pots c2_marks a42 j9) : ∀ (v1 : Int32) (v2 : Int32) (v3 : Int32) (v4 : Int32) (c2_thrown : Int32), v1.toInt ≤ 11 → 0 ≤ v1.toInt → v2.toInt ≤ 1 → 0 ≤ v2.toInt → v3.toInt ≤ 63 → 0 ≤ v3.toInt → v4.toInt ≤ 6 → 0 ≤ v4.toInt → c2_thrown.toInt ≤ 0 → 0 ≤ c2_thrown.toInt → v4.toInt ≤ c2_marks.toInt → v1.toInt ≤ c2_groups.toInt + 8 → 0 + 0 + (6 - v4.toInt) * 10 + 5 ≤ ((k : Nat) : Int) → dz_T ((F86_X12_look fu c2_groups c2_pots c2_marks a42 k) v1 v2 v3 v4 c2_thrown) (fun r => r.1.toInt ≤ 63 ∧ 0 ≤ r.1.toInt) := by
  intro v1 v2 v3 v4 c2_thrown i0 i1 i2 i3 i4 i5 i6 i7 i8 i9 i10 i11 hm
  obtain ⟨k0, rfl⟩ : ∃ x, k = x + 1 := ⟨k - 1, by omega⟩
  show dz_T (s86_X12_look_1 fu c2_groups c2_pots c2_marks a42 (F86_X12_look fu c2_groups c2_pots c2_marks a42 k0)  v1 v2 v3 v4 c2_thrown) _
  unfold s86_X12_look_1
  refine dz_Tle (fun h1 => ?_) (fun h1 => ?_)
  · skip
    have e2 := dz_l0
    refine dz_Teq (fun h3 => ?_) (fun h3 => ?_)
    · skip
      refine dz_Tz (by omega) ?_
      have e4 := dz_divq (a := v1) (b := c2_groups) 2 11 (by omega) (by omega) (by omega) (by omega)
      refine dz_Ts ?_
      dsimp only
      exact ⟨(by omega), (by omega)⟩
    · skip
      refine dz_Ts ?_
      dsimp only
      exact ⟨i4, i5⟩
  · skip
    refine dz_Tin (by omega) (by omega) ?_
    have e5 := dz_l31
    have e6 := dz_andr (a := v1) (b := (31 : Int32)) (by omega)
    have e7 := dz_andl (a := v1) (b := (31 : Int32)) (by omega)
    have e8 := dz_l1
    have e9 := dz_andr (a := ((a42 v4.toNatClampNeg) >>> (v1 &&& (31 : Int32)))) (b := (1 : Int32)) (by omega)
    have e10 := dz_andr (a := v4) (b := (31 : Int32)) (by omega)
    have e11 := dz_andl (a := v4) (b := (31 : Int32)) (by omega)
    have e12 := dz_shlb (a := (((a42 v4.toNatClampNeg) >>> (v1 &&& (31 : Int32))) &&& (1 : Int32))) (b := v4) 1 5 (by omega) (by omega) (by omega) (by omega) (by decide)
    have e13 := dz_orb (a := v3) (b := ((((a42 v4.toNatClampNeg) >>> (v1 &&& (31 : Int32))) &&& (1 : Int32)) <<< (v4 &&& (31 : Int32)))) 6 (by omega) (by omega) (by omega) (by omega) (by omega)
    have e14 := dz_add (a := v4) (b := (1 : Int32)) (by omega) (by omega)
    exact (ih k0 (by omega)) v1 v2 (v3 ||| ((((a42 v4.toNatClampNeg) >>> (v1 &&& (31 : Int32))) &&& (1 : Int32)) <<< (v4 &&& (31 : Int32)))) (v4 + (1 : Int32)) c2_thrown i0 i1 i2 i3 (by omega) (by omega) (by omega) (by omega) i8 i9 (by omega) i11 (by omega)
theorem t86_X12_look_I_s (fu : Nat) (hfu : 1000000000000 ≤ fu) (κ : Nat) (hκ : κ < 14) (c2_groups : Int32) (c2_pots : Int32) (c2_marks : Int32) (a42 : Nat → Int32) (p0 : c2_groups.toInt ≤ 4) (p1 : 2 ≤ c2_groups.toInt) (p2 : c2_pots.toInt ≤ 4) (p3 : 0 ≤ c2_pots.toInt) (p4 : c2_marks.toInt ≤ 6) (p5 : 0 ≤ c2_marks.toInt) (o0 : c2_groups.toInt = ((dz_kg κ : Nat) : Int)) (o1 : c2_pots.toInt = ((dz_kp κ : Nat) : Int)) (k : Nat) : p86_X12_look_s fu κ c2_groups c2_pots c2_marks a42 k := by
  induction k using Nat.strongRecOn with
  | _ k ih => exact t86_X12_look_h1_s fu hfu κ hκ c2_groups c2_pots c2_marks a42 p0 p1 p2 p3 p4 p5 o0 o1 k ih
set_option maxHeartbeats 4000000 in
set_option maxRecDepth 10000 in
theorem t86_X12_look_E_s (fu : Nat) (hfu : 1000000000000 ≤ fu) (κ : Nat) (hκ : κ < 14) (c2_groups : Int32) (c2_pots : Int32) (c2_marks : Int32) (a42 : Nat → Int32) (v1 : Int32) (v2 : Int32) (c2_thrown : Int32) (p0 : c2_groups.toInt ≤ 4) (p1 : 2 ≤ c2_groups.toInt) (p2 : c2_pots.toInt ≤ 4) (p3 : 0 ≤ c2_pots.toInt) (p4 : c2_marks.toInt ≤ 6) (p5 : 0 ≤ c2_marks.toInt) (o0 : c2_groups.toInt = ((dz_kg κ : Nat) : Int)) (o1 : c2_pots.toInt = ((dz_kp κ : Nat) : Int)) (kv : Nat) (hkv : 1000000000000 ≤ kv) : dz_T (s86_X12_look_0 fu c2_groups c2_pots c2_marks a42 (F86_X12_look fu c2_groups c2_pots c2_marks a42 kv)  v1 v2 c2_thrown) (fun r => r.1.toInt ≤ 63 ∧ 0 ≤ r.1.toInt) := by
  unfold s86_X12_look_0
  refine dz_Tbe (show f31_X12_isTeam fu c2_groups c2_pots v1 = (if (v1 < (0 : Int32)) then (some (0 : Int32)) else (Option.bind (f9_X12_teams fu c2_groups c2_pots) (fun b2 => (if (b2 ≤ v1) then (some (0 : Int32)) else (some (1 : Int32)))))) from rfl) ?_
  have e1 := dz_l0
  refine dz_Tltb (fun h2 => ?_) (fun h2 => ?_)
  · skip
    refine dz_Tsb ?_
    refine dz_Teq (fun h3 => ?_) (fun h3 => ?_)
    · skip
      have e4 := dz_l1
      refine dz_Tb (t85_X12_fails fu hfu _ _ ) (fun r3 q => ?_)
      obtain ⟨q3_0, q3_1⟩ := q
      refine dz_Ts ?_
      dsimp only
      exact ⟨(by first | assumption | omega), q3_1⟩
    · skip
      exfalso; omega
  · skip
    refine dz_Tba ?_
    refine dz_Tb (t9_X12_teams_s fu hfu κ hκ _ _ p0 p1 p2 p3 o0 o1) (fun r4 q => ?_)
    obtain ⟨q4_0, q4_1, q4_2, qo4_0⟩ := q
    refine dz_Tleb (fun h5 => ?_) (fun h5 => ?_)
    · skip
      refine dz_Tsb ?_
      refine dz_Teq (fun h6 => ?_) (fun h6 => ?_)
      · skip
        have e7 := dz_l1
        refine dz_Tb (t85_X12_fails fu hfu _ _ ) (fun r5 q => ?_)
        obtain ⟨q5_0, q5_1⟩ := q
        refine dz_Ts ?_
        dsimp only
        exact ⟨(by first | assumption | omega), q5_1⟩
      · skip
        exfalso; omega
    · skip
      refine dz_Tsb ?_
      have e8 := dz_l1
      refine dz_Teq (fun h9 => ?_) (fun h9 => ?_)
      · skip
        exfalso; omega
      · skip
        refine dz_Tbe (show f1_X12_isIn fu v2 (0 : Int32) (1 : Int32) = (if (v2 < (0 : Int32)) then (some (0 : Int32)) else (if ((1 : Int32) < v2) then (some (0 : Int32)) else (some (1 : Int32)))) from rfl) ?_
        refine dz_Tltb (fun h10 => ?_) (fun h10 => ?_)
        · skip
          refine dz_Tsb ?_
          refine dz_Teq (fun h11 => ?_) (fun h11 => ?_)
          · skip
            have e12 := dz_l2
            refine dz_Tb (t85_X12_fails fu hfu _ _ ) (fun r7 q => ?_)
            obtain ⟨q7_0, q7_1⟩ := q
            refine dz_Ts ?_
            dsimp only
            exact ⟨(by first | assumption | omega), q7_1⟩
          · skip
            exfalso; omega
        · skip
          refine dz_Tltb (fun h13 => ?_) (fun h13 => ?_)
          · skip
            refine dz_Tsb ?_
            refine dz_Teq (fun h14 => ?_) (fun h14 => ?_)
            · skip
              have e15 := dz_l2
              refine dz_Tb (t85_X12_fails fu hfu _ _ ) (fun r8 q => ?_)
              obtain ⟨q8_0, q8_1⟩ := q
              refine dz_Ts ?_
              dsimp only
              exact ⟨(by first | assumption | omega), q8_1⟩
            · skip
              exfalso; omega
          · skip
            refine dz_Tsb ?_
            refine dz_Teq (fun h16 => ?_) (fun h16 => ?_)
            · skip
              exfalso; omega
            · skip
              exact (t86_X12_look_I_s fu hfu κ hκ c2_groups c2_pots c2_marks a42 p0 p1 p2 p3 p4 p5 o0 o1 kv) v1 v2 (0 : Int32) (0 : Int32) (0 : Int32) (by first | assumption | omega) (by first | assumption | omega) (by first | assumption | omega) (by first | assumption | omega) (by omega) (by omega) (by omega) (by omega) (by omega) (by omega) (by omega) (by first | assumption | omega) (by omega)
theorem t86_X12_look_s (fu : Nat) (hfu : 1000000000000 ≤ fu) (κ : Nat) (hκ : κ < 14) (c2_groups : Int32) (c2_pots : Int32) (c2_marks : Int32) (a42 : Nat → Int32) (v1 : Int32) (v2 : Int32) (c2_thrown : Int32) (p0 : c2_groups.toInt ≤ 4) (p1 : 2 ≤ c2_groups.toInt) (p2 : c2_pots.toInt ≤ 4) (p3 : 0 ≤ c2_pots.toInt) (p4 : c2_marks.toInt ≤ 6) (p5 : 0 ≤ c2_marks.toInt) (o0 : c2_groups.toInt = ((dz_kg κ : Nat) : Int)) (o1 : c2_pots.toInt = ((dz_kp κ : Nat) : Int)) : dz_T (f86_X12_look fu c2_groups c2_pots c2_marks a42 v1 v2 c2_thrown) (fun r => r.1.toInt ≤ 63 ∧ 0 ≤ r.1.toInt) :=
  t86_X12_look_E_s fu hfu κ hκ c2_groups c2_pots c2_marks a42 v1 v2 c2_thrown p0 p1 p2 p3 p4 p5 o0 o1 fu hfu
set_option maxHeartbeats 4000000 in
set_option maxRecDepth 10000 in
theorem t87_X12_count_s (fu : Nat) (hfu : 1000000000000 ≤ fu) (κ : Nat) (hκ : κ < 14) (c2_groups : Int32) (c2_pots : Int32) (c2_marks : Int32) (c2_bars : Int32) (c2_draws : Int32) (c2_out : Int32) (v1 : Int32) (c2_thrown : Int32) (p0 : c2_groups.toInt ≤ 4) (p1 : 2 ≤ c2_groups.toInt) (p2 : c2_pots.toInt ≤ 4) (p3 : 0 ≤ c2_pots.toInt) (p4 : c2_marks.toInt ≤ 6) (p5 : 0 ≤ c2_marks.toInt) (p6 : c2_bars.toInt ≤ 10) (p7 : 0 ≤ c2_bars.toInt) (p8 : c2_draws.toInt ≤ 13824) (p9 : 1 ≤ c2_draws.toInt) (p10 : c2_out.toInt ≤ 12) (p11 : 0 ≤ c2_out.toInt) (o0 : c2_groups.toInt = ((dz_kg κ : Nat) : Int)) (o1 : c2_pots.toInt = ((dz_kp κ : Nat) : Int)) (o2 : c2_draws.toInt = ((dz_kt κ : Nat) : Int)) : dz_T (f87_X12_count fu c2_groups c2_pots c2_marks c2_bars c2_draws c2_out v1 c2_thrown) (fun r => r.1.toInt ≤ 13824 ∧ (-1) ≤ r.1.toInt ∧ r.1.toInt ≤ c2_draws.toInt + 11) := by
  unfold f87_X12_count s87_X12_count_0
  have e1 := dz_l0
  refine dz_Teq (fun h2 => ?_) (fun h2 => ?_)
  · skip
    refine dz_Ts ?_
    dsimp only
    exact ⟨(by first | assumption | omega), (by first | assumption | omega), (by first | assumption | omega)⟩
  · skip
    have e3 := dz_l1
    refine dz_Teq (fun h4 => ?_) (fun h4 => ?_)
    · skip
      refine dz_Ts ?_
      dsimp only
      exact ⟨(by first | assumption | omega), (by first | assumption | omega), (by first | assumption | omega)⟩
    · skip
      have e5 := dz_l2
      refine dz_Teq (fun h6 => ?_) (fun h6 => ?_)
      · skip
        refine dz_Tb (t9_X12_teams_s fu hfu κ hκ _ _ p0 p1 p2 p3 o0 o1) (fun r1 q => ?_)
        obtain ⟨q1_0, q1_1, q1_2, qo1_0⟩ := q
        refine dz_Ts ?_
        dsimp only
        exact ⟨(by first | assumption | omega), (by first | assumption | omega), (by first | assumption | omega)⟩
      · skip
        have e7 := dz_l3
        refine dz_Teq (fun h8 => ?_) (fun h8 => ?_)
        · skip
          refine dz_Ts ?_
          dsimp only
          exact ⟨(by first | assumption | omega), (by first | assumption | omega), (by first | assumption | omega)⟩
        · skip
          have e9 := dz_l4
          refine dz_Teq (fun h10 => ?_) (fun h10 => ?_)
          · skip
            refine dz_Ts ?_
            dsimp only
            exact ⟨(by first | assumption | omega), (by first | assumption | omega), (by first | assumption | omega)⟩
          · skip
            have e11 := dz_l5
            refine dz_Teq (fun h12 => ?_) (fun h12 => ?_)
            · skip
              refine dz_Ts ?_
              dsimp only
              exact ⟨(by first | assumption | omega), (by first | assumption | omega), (by first | assumption | omega)⟩
            · skip
              have e13 := dz_l6
              refine dz_Teq (fun h14 => ?_) (fun h14 => ?_)
              · skip
                refine dz_Ts ?_
                dsimp only
                exact ⟨p8, (by first | assumption | omega), (by first | assumption | omega)⟩
              · skip
                have e15 := dz_lm1
                refine dz_Ts ?_
                dsimp only
                exact ⟨(by omega), (by omega), (by omega)⟩
