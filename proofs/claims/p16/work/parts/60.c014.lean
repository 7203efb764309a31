abbrev p227_X7_skip_s (fu : Nat) (κ : Nat) (c261_groups : Int32) (a264 : Nat → Int32) (a296 : Nat → Int32) (k : Nat) : Prop :=
  (∀ (v1 : Int32) (v2 : Int32) (v3 : Int32) (v4 : Int32) (a297 : Nat → Int64), v1.toInt ≤ 16777215 → 1 ≤ v1.toInt → v2.toInt ≤ 15 → 0 ≤ v2.toInt → v3.toInt ≤ 1 → 1 ≤ v3.toInt → v4.toInt ≤ 4 → 0 ≤ v4.toInt → v4.toInt ≤ c261_groups.toInt → 0 + 0 + (4 - v4.toInt) * 14 + 7 ≤ ((k : Nat) : Int) → dz_T ((F227_X7_skip fu c261_groups a264 a296 k).2.1 v1 v2 v3 v4 a297) (fun r => True))
set_option maxHeartbeats 1000000 in
set_option maxRecDepth 10000 in
theorem t227_X7_skip_h2_s (fu : Nat) (hfu : 1000000000000 ≤ fu) (κ : Nat) (hκ : κ < 14) (c261_groups : Int32) (a264 : Nat → Int32) (a296 : Nat → Int32) (p0 : c261_groups.toInt ≤ 4) (p1 : 0 ≤ c261_groups.toInt) (hr_a264 : dz_rg a264 16 0 16777215) (hr_a296 : dz_rg a296 4 0 3) (o0 : c261_groups.toInt = ((dz_kg κ : Nat) : Int)) (k : Nat) (ih : ∀ j9, j9 < k → p227_X7_skip_s fu κ c261_groups a264 a296 j9) : ∀ (v1 : Int32) (v2 : Int32) (v3 : Int32) (v4 : Int32) (a297 : Nat → Int64), v1.toInt ≤ 16777215 → 1 ≤ v1.toInt → v2.toInt ≤ 15 → 0 ≤ v2.toInt → v3.toInt ≤ 1 → 1 ≤ v3.toInt → v4.toInt ≤ 4 → 0 ≤ v4.toInt → v4.toInt ≤ c261_groups.toInt → 0 + 0 + (4 - v4.toInt) * 14 + 7 ≤ ((k : Nat) : Int) → dz_T ((F227_X7_skip fu c261_groups a264 a296 k).2.1 v1 v2 v3 v4 a297) (fun r => True) := by
  intro v1 v2 v3 v4 a297 i0 i1 i2 i3 i4 i5 i6 i7 i8 hm
  obtain ⟨k0, rfl⟩ : ∃ x, k = x + 1 := ⟨k - 1, by omega⟩
  show dz_T (s227_X7_skip_2 fu c261_groups a264 a296 (F227_X7_skip fu c261_groups a264 a296 k0).2.2  v1 v2 v3 v4 a297) _
  unfold s227_X7_skip_2
  refine dz_Tle (fun h1 => ?_) (fun h1 => ?_)
  · skip
    exact dz_Ts trivial
  · skip
    have e2 := dz_ushp (a := v2) (b := v4) (by omega)
    have e3 := dz_l1
    have e4 := dz_andr (a := (dz_ush v2 v4)) (b := (1 : Int32)) (by omega)
    have e5 := dz_andl (a := (dz_ush v2 v4)) (b := (1 : Int32)) (by omega)
    have e6 := dz_l0
    refine dz_Teq (fun h7 => ?_) (fun h7 => ?_)
    · skip
      obtain ⟨k1, rfl⟩ : ∃ x, k0 = x + 1 := ⟨k0 - 1, by omega⟩
      show dz_T (s227_X7_skip_3 fu c261_groups a264 a296 (F227_X7_skip fu c261_groups a264 a296 k1).2.1 v1 v2 v3 v4 a297) _
      unfold s227_X7_skip_3
      have e8 := dz_add (a := v4) (b := (1 : Int32)) (by omega) (by omega)
      exact (ih k1 (by omega)) v1 v2 v3 (v4 + (1 : Int32)) a297 i0 i1 i2 i3 i4 i5 (by omega) (by omega) (by omega) (by omega)
    · skip
      refine dz_Tb (t181_X4_firstOpen_s fu hfu κ hκ _ _ _ _ _ p0 p1 i7 (by first | assumption | omega) (by first | assumption | omega) i0 (hr_a264) (hr_a296) o0) (fun r1 q => ?_)
      obtain ⟨q1_0, q1_1⟩ := q
      have e9 := dz_l31
      have e10 := dz_andr (a := v4) (b := (31 : Int32)) (by omega)
      have e11 := dz_andl (a := v4) (b := (31 : Int32)) (by omega)
      have e12 := dz_shl1 (b := v4) 0 3 (by omega) (by omega) (by omega)
      have e13 := dz_lm1
      have e14 := dz_andl (a := v2) (b := (((1 : Int32) <<< (v4 &&& (31 : Int32))) ^^^ (-(1 : Int32)))) (by omega)
      have e15 := dz_sub (a := v3) (b := (1 : Int32)) (by omega) (by omega)
      refine dz_Tb (t226_X7_skip_s fu hfu κ hκ _ _ _ _ _ _ _ p0 p1 q1_1 q1_0 (by omega) (by omega) (by omega) (by omega) (hr_a264) (hr_a296) o0) (fun r2 _ => ?_)
      obtain ⟨k2, rfl⟩ : ∃ x, k0 = x + 1 := ⟨k0 - 1, by omega⟩
      show dz_T (s227_X7_skip_3 fu c261_groups a264 a296 (F227_X7_skip fu c261_groups a264 a296 k2).2.1 v1 v2 v3 v4 r2) _
      unfold s227_X7_skip_3
      have e16 := dz_add (a := v4) (b := (1 : Int32)) (by omega) (by omega)
      exact (ih k2 (by omega)) v1 v2 v3 (v4 + (1 : Int32)) r2 i0 i1 i2 i3 i4 i5 (by omega) (by omega) (by omega) (by omega)
theorem t227_X7_skip_I_s (fu : Nat) (hfu : 1000000000000 ≤ fu) (κ : Nat) (hκ : κ < 14) (c261_groups : Int32) (a264 : Nat → Int32) (a296 : Nat → Int32) (p0 : c261_groups.toInt ≤ 4) (p1 : 0 ≤ c261_groups.toInt) (hr_a264 : dz_rg a264 16 0 16777215) (hr_a296 : dz_rg a296 4 0 3) (o0 : c261_groups.toInt = ((dz_kg κ : Nat) : Int)) (k : Nat) : p227_X7_skip_s fu κ c261_groups a264 a296 k := by
  induction k using Nat.strongRecOn with
  | _ k ih => exact t227_X7_skip_h2_s fu hfu κ hκ c261_groups a264 a296 p0 p1 hr_a264 hr_a296 o0 k ih
set_option maxHeartbeats 1000000 in
set_option maxRecDepth 10000 in
theorem t227_X7_skip_E_s (fu : Nat) (hfu : 1000000000000 ≤ fu) (κ : Nat) (hκ : κ < 14) (c261_groups : Int32) (a264 : Nat → Int32) (a296 : Nat → Int32) (v1 : Int32) (v2 : Int32) (v3 : Int32) (a297 : Nat → Int64) (p0 : c261_groups.toInt ≤ 4) (p1 : 0 ≤ c261_groups.toInt) (p2 : 0 ≤ v1.toInt) (p3 : v1.toInt ≤ 16777215) (p4 : 0 ≤ v2.toInt) (p5 : v2.toInt ≤ 15) (p6 : 0 ≤ v3.toInt) (p7 : v3.toInt ≤ 1) (hr_a264 : dz_rg a264 16 0 16777215) (hr_a296 : dz_rg a296 4 0 3) (o0 : c261_groups.toInt = ((dz_kg κ : Nat) : Int)) (kv : Nat) (hkv : 1000000000000 ≤ kv) : dz_T (s227_X7_skip_0 fu c261_groups a264 a296 (F227_X7_skip fu c261_groups a264 a296 kv).1 (F227_X7_skip fu c261_groups a264 a296 kv).2.1  v1 v2 v3 a297) (fun r => True) := by
  unfold s227_X7_skip_0
  have e1 := dz_l1
  have e2 := dz_sub (a := v1) (b := (1 : Int32)) (by omega) (by omega)
  have e3 := dz_andl (a := v1) (b := (v1 - (1 : Int32))) (by omega)
  have e4 := dz_l0
  refine dz_Teq (fun h5 => ?_) (fun h5 => ?_)
  · skip
    obtain ⟨k1, rfl⟩ : ∃ x, kv = x + 1 := ⟨kv - 1, by omega⟩
    show dz_T (s227_X7_skip_1 fu c261_groups a264 a296 v1 v3 a297) _
    unfold s227_X7_skip_1
    refine dz_Tb (t129_X4_only fu hfu _ 24 (by omega) (by omega) (by decide)) (fun r1 q => ?_)
    obtain ⟨q1_0, q1_1⟩ := q
    refine dz_Tin (by omega) (by omega) ?_
    refine dz_Tin (by omega) (by omega) ?_
    refine dz_Tin (by omega) (by omega) ?_
    exact dz_Ts trivial
  · skip
    refine dz_Tlt (fun h6 => ?_) (fun h6 => ?_)
    · skip
      exact (t227_X7_skip_I_s fu hfu κ hκ c261_groups a264 a296 p0 p1 hr_a264 hr_a296 o0 kv) v1 v2 v3 (0 : Int32) a297 p3 (by first | assumption | omega) p5 p4 p7 (by first | assumption | omega) (by omega) (by omega) (by omega) (by omega)
    · skip
      obtain ⟨k2, rfl⟩ : ∃ x, kv = x + 1 := ⟨kv - 1, by omega⟩
      show dz_T (s227_X7_skip_1 fu c261_groups a264 a296 v1 v3 a297) _
      unfold s227_X7_skip_1
      refine dz_Tb (t129_X4_only fu hfu _ 24 (by omega) (by omega) (by decide)) (fun r2 q => ?_)
      obtain ⟨q2_0, q2_1⟩ := q
      refine dz_Tin (by omega) (by omega) ?_
      refine dz_Tin (by omega) (by omega) ?_
      refine dz_Tin (by omega) (by omega) ?_
      exact dz_Ts trivial
theorem t227_X7_skip_s (fu : Nat) (hfu : 1000000000000 ≤ fu) (κ : Nat) (hκ : κ < 14) (c261_groups : Int32) (a264 : Nat → Int32) (a296 : Nat → Int32) (v1 : Int32) (v2 : Int32) (v3 : Int32) (a297 : Nat → Int64) (p0 : c261_groups.toInt ≤ 4) (p1 : 0 ≤ c261_groups.toInt) (p2 : 0 ≤ v1.toInt) (p3 : v1.toInt ≤ 16777215) (p4 : 0 ≤ v2.toInt) (p5 : v2.toInt ≤ 15) (p6 : 0 ≤ v3.toInt) (p7 : v3.toInt ≤ 1) (hr_a264 : dz_rg a264 16 0 16777215) (hr_a296 : dz_rg a296 4 0 3) (o0 : c261_groups.toInt = ((dz_kg κ : Nat) : Int)) : dz_T (f227_X7_skip fu c261_groups a264 a296 v1 v2 v3 a297) (fun r => True) :=
  t227_X7_skip_E_s fu hfu κ hκ c261_groups a264 a296 v1 v2 v3 a297 p0 p1 p2 p3 p4 p5 p6 p7 hr_a264 hr_a296 o0 fu hfu
abbrev p228_X7_skip_s (fu : Nat) (κ : Nat) (c261_groups : Int32) (a264 : Nat → Int32) (a296 : Nat → Int32) (k : Nat) : Prop :=
  (∀ (v1 : Int32) (v2 : Int32) (v3 : Int32) (v4 : Int32) (a297 : Nat → Int64), v1.toInt ≤ 16777215 → 1 ≤ v1.toInt → v2.toInt ≤ 15 → 0 ≤ v2.toInt → v3.toInt ≤ 2 → 1 ≤ v3.toInt → v4.toInt ≤ 4 → 0 ≤ v4.toInt → v4.toInt ≤ c261_groups.toInt → 0 + 0 + (4 - v4.toInt) * 14 + 7 ≤ ((k : Nat) : Int) → dz_T ((F228_X7_skip fu c261_groups a264 a296 k).2.1 v1 v2 v3 v4 a297) (fun r => True))
set_option maxHeartbeats 1000000 in
set_option maxRecDepth 10000 in
theorem t228_X7_skip_h2_s (fu : Nat) (hfu : 1000000000000 ≤ fu) (κ : Nat) (hκ : κ < 14) (c261_groups : Int32) (a264 : Nat → Int32) (a296 : Nat → Int32) (p0 : c261_groups.toInt ≤ 4) (p1 : 0 ≤ c261_groups.toInt) (hr_a264 : dz_rg a264 16 0 16777215) (hr_a296 : dz_rg a296 4 0 3) (o0 : c261_groups.toInt = ((dz_kg κ : Nat) : Int)) (k : Nat) (ih : ∀ j9, j9 < k → p228_X7_skip_s fu κ c261_groups a264 a296 j9) : ∀ (v1 : Int32) (v2 : Int32) (v3 : Int32) (v4 : Int32) (a297 : Nat → Int64), v1.toInt ≤ 16777215 → 1 ≤ v1.toInt → v2.toInt ≤ 15 → 0 ≤ v2.toInt → v3.toInt ≤ 2 → 1 ≤ v3.toInt → v4.toInt ≤ 4 → 0 ≤ v4.toInt → v4.toInt ≤ c261_groups.toInt → 0 + 0 + (4 - v4.toInt) * 14 + 7 ≤ ((k : Nat) : Int) → dz_T ((F228_X7_skip fu c261_groups a264 a296 k).2.1 v1 v2 v3 v4 a297) (fun r => True) := by
  intro v1 v2 v3 v4 a297 i0 i1 i2 i3 i4 i5 i6 i7 i8 hm
  obtain ⟨k0, rfl⟩ : ∃ x, k = x + 1 := ⟨k - 1, by omega⟩
  show dz_T (s228_X7_skip_2 fu c261_groups a264 a296 (F228_X7_skip fu c261_groups a264 a296 k0).2.2  v1 v2 v3 v4 a297) _
  unfold s228_X7_skip_2
  refine dz_Tle (fun h1 => ?_) (fun h1 => ?_)
  · skip
    exact dz_Ts trivial
  · skip
    have e2 := dz_ushp (a := v2) (b := v4) (by omega)
    have e3 := dz_l1
    have e4 := dz_andr (a := (dz_ush v2 v4)) (b := (1 : Int32)) (by omega)
    have e5 := dz_andl (a := (dz_ush v2 v4)) (b := (1 : Int32)) (by omega)
    have e6 := dz_l0
    refine dz_Teq (fun h7 => ?_) (fun h7 => ?_)
    · skip
      obtain ⟨k1, rfl⟩ : ∃ x, k0 = x + 1 := ⟨k0 - 1, by omega⟩
      show dz_T (s228_X7_skip_3 fu c261_groups a264 a296 (F228_X7_skip fu c261_groups a264 a296 k1).2.1 v1 v2 v3 v4 a297) _
      unfold s228_X7_skip_3
      have e8 := dz_add (a := v4) (b := (1 : Int32)) (by omega) (by omega)
      exact (ih k1 (by omega)) v1 v2 v3 (v4 + (1 : Int32)) a297 i0 i1 i2 i3 i4 i5 (by omega) (by omega) (by omega) (by omega)
    · skip
      refine dz_Tb (t181_X4_firstOpen_s fu hfu κ hκ _ _ _ _ _ p0 p1 i7 (by first | assumption | omega) (by first | assumption | omega) i0 (hr_a264) (hr_a296) o0) (fun r1 q => ?_)
      obtain ⟨q1_0, q1_1⟩ := q
      have e9 := dz_l31
      have e10 := dz_andr (a := v4) (b := (31 : Int32)) (by omega)
      have e11 := dz_andl (a := v4) (b := (31 : Int32)) (by omega)
      have e12 := dz_shl1 (b := v4) 0 3 (by omega) (by omega) (by omega)
      have e13 := dz_lm1
      have e14 := dz_andl (a := v2) (b := (((1 : Int32) <<< (v4 &&& (31 : Int32))) ^^^ (-(1 : Int32)))) (by omega)
      have e15 := dz_sub (a := v3) (b := (1 : Int32)) (by omega) (by omega)
      refine dz_Tb (t227_X7_skip_s fu hfu κ hκ _ _ _ _ _ _ _ p0 p1 q1_1 q1_0 (by omega) (by omega) (by omega) (by omega) (hr_a264) (hr_a296) o0) (fun r2 _ => ?_)
      obtain ⟨k2, rfl⟩ : ∃ x, k0 = x + 1 := ⟨k0 - 1, by omega⟩
      show dz_T (s228_X7_skip_3 fu c261_groups a264 a296 (F228_X7_skip fu c261_groups a264 a296 k2).2.1 v1 v2 v3 v4 r2) _
      unfold s228_X7_skip_3
      have e16 := dz_add (a := v4) (b := (1 : Int32)) (by omega) (by omega)
      exact (ih k2 (by omega)) v1 v2 v3 (v4 + (1 : Int32)) r2 i0 i1 i2 i3 i4 i5 (by omega) (by omega) (by omega) (by omega)
theorem t228_X7_skip_I_s (fu : Nat) (hfu : 1000000000000 ≤ fu) (κ : Nat) (hκ : κ < 14) (c261_groups : Int32) (a264 : Nat → Int32) (a296 : Nat → Int32) (p0 : c261_groups.toInt ≤ 4) (p1 : 0 ≤ c261_groups.toInt) (hr_a264 : dz_rg a264 16 0 16777215) (hr_a296 : dz_rg a296 4 0 3) (o0 : c261_groups.toInt = ((dz_kg κ : Nat) : Int)) (k : Nat) : p228_X7_skip_s fu κ c261_groups a264 a296 k := by
  induction k using Nat.strongRecOn with
  | _ k ih => exact t228_X7_skip_h2_s fu hfu κ hκ c261_groups a264 a296 p0 p1 hr_a264 hr_a296 o0 k ih
set_option maxHeartbeats 1000000 in
set_option maxRecDepth 10000 in
theorem t228_X7_skip_E_s (fu : Nat) (hfu : 1000000000000 ≤ fu) (κ : Nat) (hκ : κ < 14) (c261_groups : Int32) (a264 : Nat → Int32) (a296 : Nat → Int32) (v1 : Int32) (v2 : Int32) (v3 : Int32) (a297 : Nat → Int64) (p0 : c261_groups.toInt ≤ 4) (p1 : 0 ≤ c261_groups.toInt) (p2 : 0 ≤ v1.toInt) (p3 : v1.toInt ≤ 16777215) (p4 : 0 ≤ v2.toInt) (p5 : v2.toInt ≤ 15) (p6 : 0 ≤ v3.toInt) (p7 : v3.toInt ≤ 2) (hr_a264 : dz_rg a264 16 0 16777215) (hr_a296 : dz_rg a296 4 0 3) (o0 : c261_groups.toInt = ((dz_kg κ : Nat) : Int)) (kv : Nat) (hkv : 1000000000000 ≤ kv) : dz_T (s228_X7_skip_0 fu c261_groups a264 a296 (F228_X7_skip fu c261_groups a264 a296 kv).1 (F228_X7_skip fu c261_groups a264 a296 kv).2.1  v1 v2 v3 a297) (fun r => True) := by
  unfold s228_X7_skip_0
  have e1 := dz_l1
  have e2 := dz_sub (a := v1) (b := (1 : Int32)) (by omega) (by omega)
  have e3 := dz_andl (a := v1) (b := (v1 - (1 : Int32))) (by omega)
  have e4 := dz_l0
  refine dz_Teq (fun h5 => ?_) (fun h5 => ?_)
  · skip
    obtain ⟨k1, rfl⟩ : ∃ x, kv = x + 1 := ⟨kv - 1, by omega⟩
    show dz_T (s228_X7_skip_1 fu c261_groups a264 a296 v1 v3 a297) _
    unfold s228_X7_skip_1
    refine dz_Tb (t129_X4_only fu hfu _ 24 (by omega) (by omega) (by decide)) (fun r1 q => ?_)
    obtain ⟨q1_0, q1_1⟩ := q
    refine dz_Tin (by omega) (by omega) ?_
    refine dz_Tin (by omega) (by omega) ?_
    refine dz_Tin (by omega) (by omega) ?_
    exact dz_Ts trivial
  · skip
    refine dz_Tlt (fun h6 => ?_) (fun h6 => ?_)
    · skip
      exact (t228_X7_skip_I_s fu hfu κ hκ c261_groups a264 a296 p0 p1 hr_a264 hr_a296 o0 kv) v1 v2 v3 (0 : Int32) a297 p3 (by first | assumption | omega) p5 p4 p7 (by first | assumption | omega) (by omega) (by omega) (by omega) (by omega)
    · skip
      obtain ⟨k2, rfl⟩ : ∃ x, kv = x + 1 := ⟨kv - 1, by omega⟩
      show dz_T (s228_X7_skip_1 fu c261_groups a264 a296 v1 v3 a297) _
      unfold s228_X7_skip_1
      refine dz_Tb (t129_X4_only fu hfu _ 24 (by omega) (by omega) (by decide)) (fun r2 q => ?_)
      obtain ⟨q2_0, q2_1⟩ := q
      refine dz_Tin (by omega) (by omega) ?_
      refine dz_Tin (by omega) (by omega) ?_
      refine dz_Tin (by omega) (by omega) ?_
      exact dz_Ts trivial
theorem t228_X7_skip_s (fu : Nat) (hfu : 1000000000000 ≤ fu) (κ : Nat) (hκ : κ < 14) (c261_groups : Int32) (a264 : Nat → Int32) (a296 : Nat → Int32) (v1 : Int32) (v2 : Int32) (v3 : Int32) (a297 : Nat → Int64) (p0 : c261_groups.toInt ≤ 4) (p1 : 0 ≤ c261_groups.toInt) (p2 : 0 ≤ v1.toInt) (p3 : v1.toInt ≤ 16777215) (p4 : 0 ≤ v2.toInt) (p5 : v2.toInt ≤ 15) (p6 : 0 ≤ v3.toInt) (p7 : v3.toInt ≤ 2) (hr_a264 : dz_rg a264 16 0 16777215) (hr_a296 : dz_rg a296 4 0 3) (o0 : c261_groups.toInt = ((dz_kg κ : Nat) : Int)) : dz_T (f228_X7_skip fu c261_groups a264 a296 v1 v2 v3 a297) (fun r => True) :=
  t228_X7_skip_E_s fu hfu κ hκ c261_groups a264 a296 v1 v2 v3 a297 p0 p1 p2 p3 p4 p5 p6 p7 hr_a264 hr_a296 o0 fu hfu
abbrev p229_X7_skip_s (fu : Nat) (κ : Nat) (c261_groups : Int32) (a264 : Nat → Int32) (a296 : Nat → Int32) (k : Nat) : Prop :=
  (∀ (v1 : Int32) (v2 : Int32) (v3 : Int32) (v4 : Int32) (a297 : Nat → Int64), v1.toInt ≤ 16777215 → 1 ≤ v1.toInt → v2.toInt ≤ 15 → 0 ≤ v2.toInt → v3.toInt ≤ 3 → 1 ≤ v3.toInt → v4.toInt ≤ 4 → 0 ≤ v4.toInt → v4.toInt ≤ c261_groups.toInt → 0 + 0 + (4 - v4.toInt) * 14 + 7 ≤ ((k : Nat) : Int) → dz_T ((F229_X7_skip fu c261_groups a264 a296 k).2.1 v1 v2 v3 v4 a297) (fun r => True))
set_option maxHeartbeats 1000000 in
set_option maxRecDepth 10000 in
theorem t229_X7_skip_h2_s (fu : Nat) (hfu : 1000000000000 ≤ fu) (κ : Nat) (hκ : κ < 14) (c261_groups : Int32) (a264 : Nat → Int32) (a296 : Nat → Int32) (p0 : c261_groups.toInt ≤ 4) (p1 : 0 ≤ c261_groups.toInt) (hr_a264 : dz_rg a264 16 0 16777215) (hr_a296 : dz_rg a296 4 0 3) (o0 : c261_groups.toInt = ((dz_kg κ : Nat) : Int)) (k : Nat) (ih : ∀ j9, j9 < k → p229_X7_skip_s fu κ c261_groups a264 a296 j9) : ∀ (v1 : Int32) (v2 : Int32) (v3 : Int32) (v4 : Int32) (a297 : Nat → Int64), v1.toInt ≤ 16777215 → 1 ≤ v1.toInt → v2.toInt ≤ 15 → 0 ≤ v2.toInt → v3.toInt ≤ 3 → 1 ≤ v3.toInt → v4.toInt ≤ 4 → 0 ≤ v4.toInt → v4.toInt ≤ c261_groups.toInt → 0 + 0 + (4 - v4.toInt) * 14 + 7 ≤ ((k : Nat) : Int) → dz_T ((F229_X7_skip fu c261_groups a264 a296 k).2.1 v1 v2 v3 v4 a297) (fun r => True) := by
  intro v1 v2 v3 v4 a297 i0 i1 i2 i3 i4 i5 i6 i7 i8 hm
  obtain ⟨k0, rfl⟩ : ∃ x, k = x + 1 := ⟨k - 1, by omega⟩
  show dz_T (s229_X7_skip_2 fu c261_groups a264 a296 (F229_X7_skip fu c261_groups a264 a296 k0).2.2  v1 v2 v3 v4 a297) _
  unfold s229_X7_skip_2
  refine dz_Tle (fun h1 => ?_) (fun h1 => ?_)
  · skip
    exact dz_Ts trivial
  · skip
    have e2 := dz_ushp (a := v2) (b := v4) (by omega)
    have e3 := dz_l1
    have e4 := dz_andr (a := (dz_ush v2 v4)) (b := (1 : Int32)) (by omega)
    have e5 := dz_andl (a := (dz_ush v2 v4)) (b := (1 : Int32)) (by omega)
    have e6 := dz_l0
    refine dz_Teq (fun h7 => ?_) (fun h7 => ?_)
    · skip
      obtain ⟨k1, rfl⟩ : ∃ x, k0 = x + 1 := ⟨k0 - 1, by omega⟩
      show dz_T (s229_X7_skip_3 fu c261_groups a264 a296 (F229_X7_skip fu c261_groups a264 a296 k1).2.1 v1 v2 v3 v4 a297) _
      unfold s229_X7_skip_3
      have e8 := dz_add (a := v4) (b := (1 : Int32)) (by omega) (by omega)
      exact (ih k1 (by omega)) v1 v2 v3 (v4 + (1 : Int32)) a297 i0 i1 i2 i3 i4 i5 (by omega) (by omega) (by omega) (by omega)
    · skip
      refine dz_Tb (t181_X4_firstOpen_s fu hfu κ hκ _ _ _ _ _ p0 p1 i7 (by first | assumption | omega) (by first | assumption | omega) i0 (hr_a264) (hr_a296) o0) (fun r1 q => ?_)
      obtain ⟨q1_0, q1_1⟩ := q
      have e9 := dz_l31
      have e10 := dz_andr (a := v4) (b := (31 : Int32)) (by omega)
      have e11 := dz_andl (a := v4) (b := (31 : Int32)) (by omega)
      have e12 := dz_shl1 (b := v4) 0 3 (by omega) (by omega) (by omega)
      have e13 := dz_lm1
      have e14 := dz_andl (a := v2) (b := (((1 : Int32) <<< (v4 &&& (31 : Int32))) ^^^ (-(1 : Int32)))) (by omega)
      have e15 := dz_sub (a := v3) (b := (1 : Int32)) (by omega) (by omega)
      refine dz_Tb (t228_X7_skip_s fu hfu κ hκ _ _ _ _ _ _ _ p0 p1 q1_1 q1_0 (by omega) (by omega) (by omega) (by omega) (hr_a264) (hr_a296) o0) (fun r2 _ => ?_)
      obtain ⟨k2, rfl⟩ : ∃ x, k0 = x + 1 := ⟨k0 - 1, by omega⟩
      show dz_T (s229_X7_skip_3 fu c261_groups a264 a296 (F229_X7_skip fu c261_groups a264 a296 k2).2.1 v1 v2 v3 v4 r2) _
      unfold s229_X7_skip_3
      have e16 := dz_add (a := v4) (b := (1 : Int32)) (by omega) (by omega)
      exact (ih k2 (by omega)) v1 v2 v3 (v4 + (1 : Int32)) r2 i0 i1 i2 i3 i4 i5 (by omega) (by omega) (by omega) (by omega)
theorem t229_X7_skip_I_s (fu : Nat) (hfu : 1000000000000 ≤ fu) (κ : Nat) (hκ : κ < 14) (c261_groups : Int32) (a264 : Nat → Int32) (a296 : Nat → Int32) (p0 : c261_groups.toInt ≤ 4) (p1 : 0 ≤ c261_groups.toInt) (hr_a264 : dz_rg a264 16 0 16777215) (hr_a296 : dz_rg a296 4 0 3) (o0 : c261_groups.toInt = ((dz_kg κ : Nat) : Int)) (k : Nat) : p229_X7_skip_s fu κ c261_groups a264 a296 k := by
  induction k using Nat.strongRecOn with
  | _ k ih => exact t229_X7_skip_h2_s fu hfu κ hκ c261_groups a264 a296 p0 p1 hr_a264 hr_a296 o0 k ih
set_option maxHeartbeats 1000000 in
set_option maxRecDepth 10000 in
theorem t229_X7_skip_E_s (fu : Nat) (hfu : 1000000000000 ≤ fu) (κ : Nat) (hκ : κ < 14) (c261_groups : Int32) (a264 : Nat → Int32) (a296 : Nat → Int32) (v1 : Int32) (v2 : Int32) (v3 : Int32) (a297 : Nat → Int64) (p0 : c261_groups.toInt ≤ 4) (p1 : 0 ≤ c261_groups.toInt) (p2 : 0 ≤ v1.toInt) (p3 : v1.toInt ≤ 16777215) (p4 : 0 ≤ v2.toInt) (p5 : v2.toInt ≤ 15) (p6 : 0 ≤ v3.toInt) (p7 : v3.toInt ≤ 3) (hr_a264 : dz_rg a264 16 0 16777215) (hr_a296 : dz_rg a296 4 0 3) (o0 : c261_groups.toInt = ((dz_kg κ : Nat) : Int)) (kv : Nat) (hkv : 1000000000000 ≤ kv) : dz_T (s229_X7_skip_0 fu c261_groups a264 a296 (F229_X7_skip fu c261_groups a264 a296 kv).1 (F229_X7_skip fu c261_groups a264 a296 kv).2.1  v1 v2 v3 a297) (fun r => True) := by
  unfold s229_X7_skip_0
  have e1 := dz_l1
  have e2 := dz_sub (a := v1) (b := (1 : Int32)) (by omega) (by omega)
  have e3 := dz_andl (a := v1) (b := (v1 - (1 : Int32))) (by omega)
  have e4 := dz_l0
  refine dz_Teq (fun h5 => ?_) (fun h5 => ?_)
  · skip
    obtain ⟨k1, rfl⟩ : ∃ x, kv = x + 1 := ⟨kv - 1, by omega⟩
    show dz_T (s229_X7_skip_1 fu c261_groups a264 a296 v1 v3 a297) _
    unfold s229_X7_skip_1
    refine dz_Tb (t129_X4_only fu hfu _ 24 (by omega) (by omega) (by decide)) (fun r1 q => ?_)
    obtain ⟨q1_0, q1_1⟩ := q
    refine dz_Tin (by omega) (by omega) ?_
    refine dz_Tin (by omega) (by omega) ?_
    refine dz_Tin (by omega) (by omega) ?_
    exact dz_Ts trivial
  · skip
    refine dz_Tlt (fun h6 => ?_) (fun h6 => ?_)
    · skip
      exact (t229_X7_skip_I_s fu hfu κ hκ c261_groups a264 a296 p0 p1 hr_a264 hr_a296 o0 kv) v1 v2 v3 (0 : Int32) a297 p3 (by first | assumption | omega) p5 p4 p7 (by first | assumption | omega) (by omega) (by omega) (by omega) (by omega)
    · skip
      obtain ⟨k2, rfl⟩ : ∃ x, kv = x + 1 := ⟨kv - 1, by omega⟩
      show dz_T (s229_X7_skip_1 fu c261_groups a264 a296 v1 v3 a297) _
      unfold s229_X7_skip_1
      refine dz_Tb (t129_X4_only fu hfu _ 24 (by omega) (by omega) (by decide)) (fun r2 q => ?_)
      obtain ⟨q2_0, q2_1⟩ := q
      refine dz_Tin (by omega) (by omega) ?_
      refine dz_Tin (by omega) (by omega) ?_
      refine dz_Tin (by omega) (by omega) ?_
      exact dz_Ts trivial
theorem t229_X7_skip_s (fu : Nat) (hfu : 1000000000000 ≤ fu) (κ : Nat) (hκ : κ < 14) (c261_groups : Int32) (a264 : Nat → Int32) (a296 : Nat → Int32) (v1 : Int32) (v2 : Int32) (v3 : Int32) (a297 : Nat → Int64) (p0 : c261_groups.toInt ≤ 4) (p1 : 0 ≤ c261_groups.toInt) (p2 : 0 ≤ v1.toInt) (p3 : v1.toInt ≤ 16777215) (p4 : 0 ≤ v2.toInt) (p5 : v2.toInt ≤ 15) (p6 : 0 ≤ v3.toInt) (p7 : v3.toInt ≤ 3) (hr_a264 : dz_rg a264 16 0 16777215) (hr_a296 : dz_rg a296 4 0 3) (o0 : c261_groups.toInt = ((dz_kg κ : Nat) : Int)) : dz_T (f229_X7_skip fu c261_groups a264 a296 v1 v2 v3 a297) (fun r => True) :=
  t229_X7_skip_E_s fu hfu κ hκ c261_groups a264 a296 v1 v2 v3 a297 p0 p1 p2 p3 p4 p5 p6 p7 hr_a264 hr_a296 o0 fu hfu
abbrev p230_X7_skip_s (fu : Nat) (κ : Nat) (c261_groups : Int32) (a264 : Nat → Int32) (a296 : Nat → Int32) (k : Nat) : Prop :=
  (∀ (v1 : Int32) (v2 : Int32) (v3 : Int32) (v4 : Int32) (a297 : Nat → Int64), v1.toInt ≤ 16777215 → 1 ≤ v1.toInt → v2.toInt ≤ 15 → 0 ≤ v2.toInt → v3.toInt ≤ 4 → 1 ≤ v3.toInt → v4.toInt ≤ 4 → 0 ≤ v4.toInt → v4.toInt ≤ c261_groups.toInt → 0 + 0 + (4 - v4.toInt) * 14 + 7 ≤ ((k : Nat) : Int) → dz_T ((F230_X7_skip fu c261_groups a264 a296 k).2.1 v1 v2 v3 v4 a297) (fun r => True))
set_option maxHeartbeats 1000000 in
set_option maxRecDepth 10000 in
theorem t230_X7_skip_h2_s (fu : Nat) (hfu : 1000000000000 ≤ fu) (κ : Nat) (hκ : κ < 14) (c261_groups : Int32) (a264 : Nat → Int32) (a296 : Nat → Int32) (p0 : c261_groups.toInt ≤ 4) (p1 : 0 ≤ c261_groups.toInt) (hr_a264 : dz_rg a264 16 0 16777215) (hr_a296 : dz_rg a296 4 0 3) (o0 : c261_groups.toInt = ((dz_kg κ : Nat) : Int)) (k : Nat) (ih : ∀ j9, j9 < k → p230_X7_skip_s fu κ c261_groups a264 a296 j9) : ∀ (v1 : Int32) (v2 : Int32) (v3 : Int32) (v4 : Int32) (a297 : Nat → Int64), v1.toInt ≤ 16777215 → 1 ≤ v1.toInt → v2.toInt ≤ 15 → 0 ≤ v2.toInt → v3.toInt ≤ 4 → 1 ≤ v3.toInt → v4.toInt ≤ 4 → 0 ≤ v4.toInt → v4.toInt ≤ c261_groups.toInt → 0 + 0 + (4 - v4.toInt) * 14 + 7 ≤ ((k : Nat) : Int) → dz_T ((F230_X7_skip fu c261_groups a264 a296 k).2.1 v1 v2 v3 v4 a297) (fun r => True) := by
  intro v1 v2 v3 v4 a297 i0 i1 i2 i3 i4 i5 i6 i7 i8 hm
  obtain ⟨k0, rfl⟩ : ∃ x, k = x + 1 := ⟨k - 1, by omega⟩
  show dz_T (s230_X7_skip_2 fu c261_groups a264 a296 (F230_X7_skip fu c261_groups a264 a296 k0).2.2  v1 v2 v3 v4 a297) _
  unfold s230_X7_skip_2
  refine dz_Tle (fun h1 => ?_) (fun h1 => ?_)
  · skip
    exact dz_Ts trivial
  · skip
    have e2 := dz_ushp (a := v2) (b := v4) (by omega)
    have e3 := dz_l1
    have e4 := dz_andr (a := (dz_ush v2 v4)) (b := (1 : Int32)) (by omega)
    have e5 := dz_andl (a := (dz_ush v2 v4)) (b := (1 : Int32)) (by omega)
    have e6 := dz_l0
    refine dz_Teq (fun h7 => ?_) (fun h7 => ?_)
    · skip
      obtain ⟨k1, rfl⟩ : ∃ x, k0 = x + 1 := ⟨k0 - 1, by omega⟩
      show dz_T (s230_X7_skip_3 fu c261_groups a264 a296 (F230_X7_skip fu c261_groups a264 a296 k1).2.1 v1 v2 v3 v4 a297) _
      unfold s230_X7_skip_3
      have e8 := dz_add (a := v4) (b := (1 : Int32)) (by omega) (by omega)
      exact (ih k1 (by omega)) v1 v2 v3 (v4 + (1 : Int32)) a297 i0 i1 i2 i3 i4 i5 (by omega) (by omega) (by omega) (by omega)
    · skip
      refine dz_Tb (t181_X4_firstOpen_s fu hfu κ hκ _ _ _ _ _ p0 p1 i7 (by first | assumption | omega) (by first | assumption | omega) i0 (hr_a264) (hr_a296) o0) (fun r1 q => ?_)
      obtain ⟨q1_0, q1_1⟩ := q
      have e9 := dz_l31
      have e10 := dz_andr (a := v4) (b := (31 : Int32)) (by omega)
      have e11 := dz_andl (a := v4) (b := (31 : Int32)) (by omega)
      have e12 := dz_shl1 (b := v4) 0 3 (by omega) (by omega) (by omega)
      have e13 := dz_lm1
      have e14 := dz_andl (a := v2) (b := (((1 : Int32) <<< (v4 &&& (31 : Int32))) ^^^ (-(1 : Int32)))) (by omega)
      have e15 := dz_sub (a := v3) (b := (1 : Int32)) (by omega) (by omega)
      refine dz_Tb (t229_X7_skip_s fu hfu κ hκ _ _ _ _ _ _ _ p0 p1 q1_1 q1_0 (by omega) (by omega) (by omega) (by omega) (hr_a264) (hr_a296) o0) (fun r2 _ => ?_)
      obtain ⟨k2, rfl⟩ : ∃ x, k0 = x + 1 := ⟨k0 - 1, by omega⟩
      show dz_T (s230_X7_skip_3 fu c261_groups a264 a296 (F230_X7_skip fu c261_groups a264 a296 k2).2.1 v1 v2 v3 v4 r2) _
      unfold s230_X7_skip_3
      have e16 := dz_add (a := v4) (b := (1 : Int32)) (by omega) (by omega)
      exact (ih k2 (by omega)) v1 v2 v3 (v4 + (1 : Int32)) r2 i0 i1 i2 i3 i4 i5 (by omega) (by omega) (by omega) (by omega)
theorem t230_X7_skip_I_s (fu : Nat) (hfu : 1000000000000 ≤ fu) (κ : Nat) (hκ : κ < 14) (c261_groups : Int32) (a264 : Nat → Int32) (a296 : Nat → Int32) (p0 : c261_groups.toInt ≤ 4) (p1 : 0 ≤ c261_groups.toInt) (hr_a264 : dz_rg a264 16 0 16777215) (hr_a296 : dz_rg a296 4 0 3) (o0 : c261_groups.toInt = ((dz_kg κ : Nat) : Int)) (k : Nat) : p230_X7_skip_s fu κ c261_groups a264 a296 k := by
  induction k using Nat.strongRecOn with
  | _ k ih => exact t230_X7_skip_h2_s fu hfu κ hκ c261_groups a264 a296 p0 p1 hr_a264 hr_a296 o0 k ih
set_option maxHeartbeats 1000000 in
set_option maxRecDepth 10000 in
theorem t230_X7_skip_E_s (fu : Nat) (hfu : 1000000000000 ≤ fu) (κ : Nat) (hκ : κ < 14) (c261_groups : Int32) (a264 : Nat → Int32) (a296 : Nat → Int32) (v1 : Int32) (v2 : Int32) (v3 : Int32) (a297 : Nat → Int64) (p0 : c261_groups.toInt ≤ 4) (p1 : 0 ≤ c261_groups.toInt) (p2 : 0 ≤ v1.toInt) (p3 : v1.toInt ≤ 16777215) (p4 : 0 ≤ v2.toInt) (p5 : v2.toInt ≤ 15) (p6 : 0 ≤ v3.toInt) (p7 : v3.toInt ≤ 4) (hr_a264 : dz_rg a264 16 0 16777215) (hr_a296 : dz_rg a296 4 0 3) (o0 : c261_groups.toInt = ((dz_kg κ : Nat) : Int)) (kv : Nat) (hkv : 1000000000000 ≤ kv) : dz_T (s230_X7_skip_0 fu c261_groups a264 a296 (F230_X7_skip fu c261_groups a264 a296 kv).1 (F230_X7_skip fu c261_groups a264 a296 kv).2.1  v1 v2 v3 a297) (fun r => True) := by
  unfold s230_X7_skip_0
  have e1 := dz_l1
  have e2 := dz_sub (a := v1) (b := (1 : Int32)) (by omega) (by omega)
  have e3 := dz_andl (a := v1) (b := (v1 - (1 : Int32))) (by omega)
  have e4 := dz_l0
  refine dz_Teq (fun h5 => ?_) (fun h5 => ?_)
  · skip
    obtain ⟨k1, rfl⟩ : ∃ x, kv = x + 1 := ⟨kv - 1, by omega⟩
    show dz_T (s230_X7_skip_1 fu c261_groups a264 a296 v1 v3 a297) _
    unfold s230_X7_skip_1
    refine dz_Tb (t129_X4_only fu hfu _ 24 (by omega) (by omega) (by decide)) (fun r1 q => ?_)
    obtain ⟨q1_0, q1_1⟩ := q
    refine dz_Tin (by omega) (by omega) ?_
    refine dz_Tin (by omega) (by omega) ?_
    refine dz_Tin (by omega) (by omega) ?_
    exact dz_Ts trivial
  · skip
    refine dz_Tlt (fun h6 => ?_) (fun h6 => ?_)
    · skip
      exact (t230_X7_skip_I_s fu hfu κ hκ c261_groups a264 a296 p0 p1 hr_a264 hr_a296 o0 kv) v1 v2 v3 (0 : Int32) a297 p3 (by first | assumption | omega) p5 p4 p7 (by first | assumption | omega) (by omega) (by omega) (by omega) (by omega)
    · skip
      obtain ⟨k2, rfl⟩ : ∃ x, kv = x + 1 := ⟨kv - 1, by omega⟩
      show dz_T (s230_X7_skip_1 fu c261_groups a264 a296 v1 v3 a297) _
      unfold s230_X7_skip_1
      refine dz_Tb (t129_X4_only fu hfu _ 24 (by omega) (by omega) (by decide)) (fun r2 q => ?_)
      obtain ⟨q2_0, q2_1⟩ := q
      refine dz_Tin (by omega) (by omega) ?_
      refine dz_Tin (by omega) (by omega) ?_
      refine dz_Tin (by omega) (by omega) ?_
      exact dz_Ts trivial
theorem t230_X7_skip_s (fu : Nat) (hfu : 1000000000000 ≤ fu) (κ : Nat) (hκ : κ < 14) (c261_groups : Int32) (a264 : Nat → Int32) (a296 : Nat → Int32) (v1 : Int32) (v2 : Int32) (v3 : Int32) (a297 : Nat → Int64) (p0 : c261_groups.toInt ≤ 4) (p1 : 0 ≤ c261_groups.toInt) (p2 : 0 ≤ v1.toInt) (p3 : v1.toInt ≤ 16777215) (p4 : 0 ≤ v2.toInt) (p5 : v2.toInt ≤ 15) (p6 : 0 ≤ v3.toInt) (p7 : v3.toInt ≤ 4) (hr_a264 : dz_rg a264 16 0 16777215) (hr_a296 : dz_rg a296 4 0 3) (o0 : c261_groups.toInt = ((dz_kg κ : Nat) : Int)) : dz_T (f230_X7_skip fu c261_groups a264 a296 v1 v2 v3 a297) (fun r => True) :=
  t230_X7_skip_E_s fu hfu κ hκ c261_groups a264 a296 v1 v2 v3 a297 p0 p1 p2 p3 p4 p5 p6 p7 hr_a264 hr_a296 o0 fu hfu
abbrev p231_X7_fillRows_s (fu : Nat) (κ : Nat) (c261_groups : Int32) (c261_many : Int32) (a264 : Nat → Int32) (c295_way : Int32) (a296 : Nat → Int32) (k : Nat) : Prop :=
  (∀ (v1 : Int32) (v4 : Int32) (a297 : Nat → Int64), c295_way.toInt ≤ 1 → 1 ≤ c295_way.toInt → v1.toInt ≤ 16777215 → 0 ≤ v1.toInt → v4.toInt ≤ 24 → 0 ≤ v4.toInt → v4.toInt ≤ c261_many.toInt → 0 + 0 + (24 - v4.toInt) * 10 + 5 ≤ ((k : Nat) : Int) → dz_T ((F231_X7_fillRows fu c261_groups c261_many a264 c295_way a296 k) v1 v4 a297) (fun r => True))
set_option maxHeartbeats 1000000 in
set_option maxRecDepth 10000 in
theorem t231_X7_fillRows_h1_s (fu : Nat) (hfu : 1000000000000 ≤ fu) (κ : Nat) (hκ : κ < 14) (c261_groups : Int32) (c261_many : Int32) (a264 : Nat → Int32) (c295_way : Int32) (a296 : Nat → Int32) (p0 : c261_groups.toInt ≤ 4) (p1 : 0 ≤ c261_groups.toInt) (p2 : c261_many.toInt ≤ 24) (p3 : 0 ≤ c261_many.toInt) (hr_a264 : dz_rg a264 16 0 16777215) (hr_a296 : dz_rg a296 4 0 3) (o0 : c261_groups.toInt = ((dz_kg κ : Nat) : Int)) (o1 : c261_many.toInt = ((dz_kr κ : Nat) : Int)) (k : Nat) (ih : ∀ j9, j9 < k → p231_X7_fillRows_s fu κ c261_groups c261_many a264 c295_way a296 j9) : ∀ (v1 : Int32) (v4 : Int32) (a297 : Nat → Int64), c295_way.toInt ≤ 1 → 1 ≤ c295_way.toInt → v1.toInt ≤ 16777215 → 0 ≤ v1.toInt → v4.toInt ≤ 24 → 0 ≤ v4.toInt → v4.toInt ≤ c261_many.toInt → 0 + 0 + (24 - v4.toInt) * 10 + 5 ≤ ((k : Nat) : Int) → dz_T ((F231_X7_fillRows fu c261_groups c261_many a264 c295_way a296 k) v1 v4 a297) (fun r => True) := by
  intro v1 v4 a297 i0 i1 i2 i3 i4 i5 i6 hm
  obtain ⟨k0, rfl⟩ : ∃ x, k = x + 1 := ⟨k - 1, by omega⟩
  show dz_T (s231_X7_fillRows_1 fu c261_groups c261_many a264 c295_way a296 (F231_X7_fillRows fu c261_groups c261_many a264 c295_way a296 k0)  v1 v4 a297) _
  unfold s231_X7_fillRows_1
  refine dz_Tle (fun h1 => ?_) (fun h1 => ?_)
  · skip
    exact dz_Ts trivial
  · skip
    refine dz_Tin (by omega) (by omega) ?_
    have e2 := dz_l1
    have e3 := dz_add (a := v4) (b := (1 : Int32)) (by omega) (by omega)
    exact (ih k0 (by omega)) v1 (v4 + (1 : Int32)) (vp_updL a297 v4.toNatClampNeg ((dz_ush v1 v4) &&& (1 : Int32)).toInt64) i0 i1 i2 i3 (by omega) (by omega) (by omega) (by omega)
theorem t231_X7_fillRows_I_s (fu : Nat) (hfu : 1000000000000 ≤ fu) (κ : Nat) (hκ : κ < 14) (c261_groups : Int32) (c261_many : Int32) (a264 : Nat → Int32) (c295_way : Int32) (a296 : Nat → Int32) (p0 : c261_groups.toInt ≤ 4) (p1 : 0 ≤ c261_groups.toInt) (p2 : c261_many.toInt ≤ 24) (p3 : 0 ≤ c261_many.toInt) (hr_a264 : dz_rg a264 16 0 16777215) (hr_a296 : dz_rg a296 4 0 3) (o0 : c261_groups.toInt = ((dz_kg κ : Nat) : Int)) (o1 : c261_many.toInt = ((dz_kr κ : Nat) : Int)) (k : Nat) : p231_X7_fillRows_s fu κ c261_groups c261_many a264 c295_way a296 k := by
  induction k using Nat.strongRecOn with
  | _ k ih => exact t231_X7_fillRows_h1_s fu hfu κ hκ c261_groups c261_many a264 c295_way a296 p0 p1 p2 p3 hr_a264 hr_a296 o0 o1 k ih
set_option maxHeartbeats 1000000 in
set_option maxRecDepth 10000 in
theorem t231_X7_fillRows_E_s (fu : Nat) (hfu : 1000000000000 ≤ fu) (κ : Nat) (hκ : κ < 14) (c261_groups : Int32) (c261_many : Int32) (a264 : Nat → Int32) (c295_way : Int32) (a296 : Nat → Int32) (v1 : Int32) (v2 : Int32) (a297 : Nat → Int64) (p0 : c261_groups.toInt ≤ 4) (p1 : 0 ≤ c261_groups.toInt) (p2 : c261_many.toInt ≤ 24) (p3 : 0 ≤ c261_many.toInt) (p4 : 0 ≤ v1.toInt) (p5 : v1.toInt ≤ 16777215) (p6 : 0 ≤ v2.toInt) (p7 : v2.toInt ≤ 15) (hr_a264 : dz_rg a264 16 0 16777215) (hr_a296 : dz_rg a296 4 0 3) (o0 : c261_groups.toInt = ((dz_kg κ : Nat) : Int)) (o1 : c261_many.toInt = ((dz_kr κ : Nat) : Int)) (kv : Nat) (hkv : 1000000000000 ≤ kv) : dz_T (s231_X7_fillRows_0 fu c261_groups c261_many a264 c295_way a296 (F231_X7_fillRows fu c261_groups c261_many a264 c295_way a296 kv)  v1 v2 a297) (fun r => True) := by
  unfold s231_X7_fillRows_0
  refine dz_Tb (t209_J7_fill_d0a16 fu hfu _ _ ) (fun r1 _ => ?_)
  refine dz_Tb (t128_J6_bitCount_15 fu hfu _ (by omega) (by omega)) (fun r2 q => ?_)
  obtain ⟨q2_0, q2_1⟩ := q
  have e1 := dz_l1
  refine dz_Teq (fun h2 => ?_) (fun h2 => ?_)
  · skip
    have e3 := dz_l0
    exact (t231_X7_fillRows_I_s fu hfu κ hκ c261_groups c261_many a264 c295_way a296 p0 p1 p2 p3 hr_a264 hr_a296 o0 o1 kv) v1 (0 : Int32) r1 (by first | assumption | omega) (by first | assumption | omega) p5 p4 (by omega) (by omega) (by omega) (by omega)
  · skip
    have e4 := dz_l0
    refine dz_Teq (fun h5 => ?_) (fun h5 => ?_)
    · skip
      refine dz_Tb (t230_X7_skip_s fu hfu κ hκ _ _ _ _ _ _ _ p0 p1 p4 p5 p6 p7 q2_1 q2_0 (hr_a264) (hr_a296) o0) (fun r3 _ => ?_)
      exact dz_Ts trivial
    · skip
      refine dz_Tb (t223_X7_field_s fu hfu κ hκ _ _ _ _ _ _ _ p0 p1 p4 p5 p6 p7 q2_1 q2_0 (hr_a264) o0) (fun r4 _ => ?_)
      exact dz_Ts trivial
theorem t231_X7_fillRows_s (fu : Nat) (hfu : 1000000000000 ≤ fu) (κ : Nat) (hκ : κ < 14) (c261_groups : Int32) (c261_many : Int32) (a264 : Nat → Int32) (c295_way : Int32) (a296 : Nat → Int32) (v1 : Int32) (v2 : Int32) (a297 : Nat → Int64) (p0 : c261_groups.toInt ≤ 4) (p1 : 0 ≤ c261_groups.toInt) (p2 : c261_many.toInt ≤ 24) (p3 : 0 ≤ c261_many.toInt) (p4 : 0 ≤ v1.toInt) (p5 : v1.toInt ≤ 16777215) (p6 : 0 ≤ v2.toInt) (p7 : v2.toInt ≤ 15) (hr_a264 : dz_rg a264 16 0 16777215) (hr_a296 : dz_rg a296 4 0 3) (o0 : c261_groups.toInt = ((dz_kg κ : Nat) : Int)) (o1 : c261_many.toInt = ((dz_kr κ : Nat) : Int)) : dz_T (f231_X7_fillRows fu c261_groups c261_many a264 c295_way a296 v1 v2 a297) (fun r => True) :=
  t231_X7_fillRows_E_s fu hfu κ hκ c261_groups c261_many a264 c295_way a296 v1 v2 a297 p0 p1 p2 p3 p4 p5 p6 p7 hr_a264 hr_a296 o0 o1 fu hfu
abbrev p234_J7_fill_bad5a (fu : Nat) (k : Nat) : Prop :=
  (∀ (v2 : Int32) (v3 : Int64) (v5 : Int32) (a299 : Nat → Int64), v2.toInt ≤ 1040 → 0 ≤ v2.toInt → v5.toInt ≤ 1040 → 0 ≤ v5.toInt → v5.toInt ≤ v2.toInt → 0 + 0 + (1040 - v5.toInt) * 10 + 5 ≤ ((k : Nat) : Int) → dz_T ((F234_J7_fill_bad5a fu k) v2 v3 v5 a299) (fun r => True))
set_option maxHeartbeats 1000000 in
set_option maxRecDepth 10000 in
theorem t234_J7_fill_bad5a_h1 (fu : Nat) (hfu : 1000000000000 ≤ fu) (k : Nat) (ih : ∀ j9, j9 < k → p234_J7_fill_bad5a fu j9) : ∀ (v2 : Int32) (v3 : Int64) (v5 : Int32) (a299 : Nat → Int64), v2.toInt ≤ 1040 → 0 ≤ v2.toInt → v5.toInt ≤ 1040 → 0 ≤ v5.toInt → v5.toInt ≤ v2.toInt → 0 + 0 + (1040 - v5.toInt) * 10 + 5 ≤ ((k : Nat) : Int) → dz_T ((F234_J7_fill_bad5a fu k) v2 v3 v5 a299) (fun r => True) := by
  intro v2 v3 v5 a299 i0 i1 i2 i3 i4 hm
  obtain ⟨k0, rfl⟩ : ∃ x, k = x + 1 := ⟨k - 1, by omega⟩
  show dz_T (s234_J7_fill_bad5a_1 fu (F234_J7_fill_bad5a fu k0)  v2 v3 v5 a299) _
  unfold s234_J7_fill_bad5a_1
  refine dz_Tle (fun h1 => ?_) (fun h1 => ?_)
  · skip
    exact dz_Ts trivial
  · skip
    refine dz_Tin (by omega) (by omega) ?_
    have e2 := dz_l1
    have e3 := dz_add (a := v5) (b := (1 : Int32)) (by omega) (by omega)
    exact (ih k0 (by omega)) v2 v3 (v5 + (1 : Int32)) (vp_updL a299 v5.toNatClampNeg v3) i0 i1 (by omega) (by omega) (by omega) (by omega)
theorem t234_J7_fill_bad5a_I (fu : Nat) (hfu : 1000000000000 ≤ fu) (k : Nat) : p234_J7_fill_bad5a fu k := by
  induction k using Nat.strongRecOn with
  | _ k ih => exact t234_J7_fill_bad5a_h1 fu hfu k ih
set_option maxHeartbeats 1000000 in
set_option maxRecDepth 10000 in
theorem t234_J7_fill_bad5a_E (fu : Nat) (hfu : 1000000000000 ≤ fu) (v1 : Int32) (v2 : Int32) (v3 : Int64) (a299 : Nat → Int64) (p0 : 0 ≤ v1.toInt) (p1 : v1.toInt ≤ v2.toInt) (p2 : v2.toInt ≤ 1040) (kv : Nat) (hkv : 1000000000000 ≤ kv) : dz_T (s234_J7_fill_bad5a_0 fu (F234_J7_fill_bad5a fu kv)  v1 v2 v3 a299) (fun r => True) := by
  unfold s234_J7_fill_bad5a_0
  have e1 := dz_l1040
  refine dz_Tb (t134_J7_rangeCheck_23922 fu hfu _ _ _ p0 p1 (by omega)) (fun r1 _ => ?_)
  exact (t234_J7_fill_bad5a_I fu hfu kv) v2 v3 v1 a299 p2 (by first | assumption | omega) (by first | assumption | omega) p0 p1 (by omega)
theorem t234_J7_fill_bad5a (fu : Nat) (hfu : 1000000000000 ≤ fu) (v1 : Int32) (v2 : Int32) (v3 : Int64) (a299 : Nat → Int64) (p0 : 0 ≤ v1.toInt) (p1 : v1.toInt ≤ v2.toInt) (p2 : v2.toInt ≤ 1040) : dz_T (f234_J7_fill_bad5a fu v1 v2 v3 a299) (fun r => True) :=
  t234_J7_fill_bad5a_E fu hfu v1 v2 v3 a299 p0 p1 p2 fu hfu
abbrev p235_X7_keepRows_s (fu : Nat) (κ : Nat) (c261_groups : Int32) (c261_many : Int32) (a262 : Nat → Int32) (a297 : Nat → Int64) (k : Nat) : Prop :=
  (∀ (v3 : Int32) (v4 : Int32) (a298 : Nat → Int32) (a299 : Nat → Int64), v3.toInt ≤ 1024 → 0 ≤ v3.toInt → v4.toInt ≤ 24 → 0 ≤ v4.toInt → v4.toInt ≤ c261_many.toInt → 0 + 0 + (24 - v4.toInt) * 112 + 8 ≤ ((k : Nat) : Int) → dz_T ((F235_X7_keepRows fu c261_groups c261_many a262 a297 k).2.1 v3 v4 a298 a299) (fun r => True)) ∧ (∀ (v3 : Int32) (v4 : Int32) (v5 : Int32) (a298 : Nat → Int32) (a299 : Nat → Int64), 1 ≤ c261_many.toInt → v3.toInt ≤ 1024 → 0 ≤ v3.toInt → v4.toInt ≤ 23 → 0 ≤ v4.toInt → v5.toInt ≤ 4 → 0 ≤ v5.toInt → v4.toInt + 1 ≤ c261_many.toInt → v5.toInt ≤ c261_groups.toInt → 0 + 0 + ((24 - v4.toInt) - 1) * 112 + 0 + (4 - v5.toInt) * 16 + 16 ≤ ((k : Nat) : Int) → dz_T ((F235_X7_keepRows fu c261_groups c261_many a262 a297 k).2.2.2 v3 v4 v5 a298 a299) (fun r => True))
set_option maxHeartbeats 1000000 in
set_option maxRecDepth 10000 in
theorem t235_X7_keepRows_h2_s (fu : Nat) (hfu : 1000000000000 ≤ fu) (κ : Nat) (hκ : κ < 14) (c261_groups : Int32) (c261_many : Int32) (a262 : Nat → Int32) (a297 : Nat → Int64) (p0 : c261_groups.toInt ≤ 4) (p1 : 0 ≤ c261_groups.toInt) (p2 : c261_many.toInt ≤ 24) (p3 : 0 ≤ c261_many.toInt) (hr_a262 : dz_rg a262 96 0 3) (o0 : c261_groups.toInt = ((dz_kg κ : Nat) : Int)) (o1 : c261_many.toInt = ((dz_kr κ : Nat) : Int)) (k : Nat) (ih : ∀ j9, j9 < k → p235_X7_keepRows_s fu κ c261_groups c261_many a262 a297 j9) : ∀ (v3 : Int32) (v4 : Int32) (a298 : Nat → Int32) (a299 : Nat → Int64), v3.toInt ≤ 1024 → 0 ≤ v3.toInt → v4.toInt ≤ 24 → 0 ≤ v4.toInt → v4.toInt ≤ c261_many.toInt → 0 + 0 + (24 - v4.toInt) * 112 + 8 ≤ ((k : Nat) : Int) → dz_T ((F235_X7_keepRows fu c261_groups c261_many a262 a297 k).2.1 v3 v4 a298 a299) (fun r => True) := by
  intro v3 v4 a298 a299 i0 i1 i2 i3 i4 hm
  obtain ⟨k0, rfl⟩ : ∃ x, k = x + 1 := ⟨k - 1, by omega⟩
  show dz_T (s235_X7_keepRows_2 fu c261_groups c261_many a262 a297 (F235_X7_keepRows fu c261_groups c261_many a262 a297 k0).2.2.1 (F235_X7_keepRows fu c261_groups c261_many a262 a297 k0).2.2.2  v3 v4 a298 a299) _
  unfold s235_X7_keepRows_2
  refine dz_Tle (fun h1 => ?_) (fun h1 => ?_)
  · skip
    exact dz_Ts trivial
  · skip
    refine dz_Tin (by omega) (by omega) ?_
    have e2 := dz_l0
    refine dz_Teq (fun h3 => ?_) (fun h3 => ?_)
    · skip
      obtain ⟨k1, rfl⟩ : ∃ x, k0 = x + 1 := ⟨k0 - 1, by omega⟩
      show dz_T (s235_X7_keepRows_3 fu c261_groups c261_many a262 a297 (F235_X7_keepRows fu c261_groups c261_many a262 a297 k1).2.1 v3 v4 a298 a299) _
      unfold s235_X7_keepRows_3
      have e4 := dz_l1
      have e5 := dz_add (a := v4) (b := (1 : Int32)) (by omega) (by omega)
      exact (ih k1 (by omega)).1 v3 (v4 + (1 : Int32)) a298 a299 i0 i1 (by omega) (by omega) (by omega) (by omega)
    · skip
      exact (ih k0 (by omega)).2 v3 v4 (0 : Int32) a298 a299 (by first | assumption | omega) i0 i1 (by first | assumption | omega) i3 (by omega) (by omega) (by first | assumption | omega) (by omega) (by omega)
set_option maxHeartbeats 1000000 in
set_option maxRecDepth 10000 in
theorem t235_X7_keepRows_h4_s (fu : Nat) (hfu : 1000000000000 ≤ fu) (κ : Nat) (hκ : κ < 14) (c261_groups : Int32) (c261_many : Int32) (a262 : Nat → Int32) (a297 : Nat → Int64) (p0 : c261_groups.toInt ≤ 4) (p1 : 0 ≤ c261_groups.toInt) (p2 : c261_many.toInt ≤ 24) (p3 : 0 ≤ c261_many.toInt) (hr_a262 : dz_rg a262 96 0 3) (o0 : c261_groups.toInt = ((dz_kg κ : Nat) : Int)) (o1 : c261_many.toInt = ((dz_kr κ : Nat) : Int)) (k : Nat) (ih : ∀ j9, j9 < k → p235_X7_keepRows_s fu κ c261_groups c261_many a262 a297 j9) : ∀ (v3 : Int32) (v4 : Int32) (v5 : Int32) (a298 : Nat → Int32) (a299 : Nat → Int64), 1 ≤ c261_many.toInt → v3.toInt ≤ 1024 → 0 ≤ v3.toInt → v4.toInt ≤ 23 → 0 ≤ v4.toInt → v5.toInt ≤ 4 → 0 ≤ v5.toInt → v4.toInt + 1 ≤ c261_many.toInt → v5.toInt ≤ c261_groups.toInt → 0 + 0 + ((24 - v4.toInt) - 1) * 112 + 0 + (4 - v5.toInt) * 16 + 16 ≤ ((k : Nat) : Int) → dz_T ((F235_X7_keepRows fu c261_groups c261_many a262 a297 k).2.2.2 v3 v4 v5 a298 a299) (fun r => True) := by
  intro v3 v4 v5 a298 a299 i0 i1 i2 i3 i4 i5 i6 i7 i8 hm
  obtain ⟨k0, rfl⟩ : ∃ x, k = x + 1 := ⟨k - 1, by omega⟩
  show dz_T (s235_X7_keepRows_4 fu c261_groups c261_many a262 a297 (F235_X7_keepRows fu c261_groups c261_many a262 a297 k0).2.2.1 (F235_X7_keepRows fu c261_groups c261_many a262 a297 k0).2.2.2  v3 v4 v5 a298 a299) _
  unfold s235_X7_keepRows_4
  refine dz_Tle (fun h1 => ?_) (fun h1 => ?_)
  · skip
    obtain ⟨k1, rfl⟩ : ∃ x, k0 = x + 1 := ⟨k0 - 1, by omega⟩
    show dz_T (s235_X7_keepRows_3 fu c261_groups c261_many a262 a297 (F235_X7_keepRows fu c261_groups c261_many a262 a297 k1).2.1 v3 v4 a298 a299) _
    unfold s235_X7_keepRows_3
    have e2 := dz_l1
    have e3 := dz_add (a := v4) (b := (1 : Int32)) (by omega) (by omega)
    exact (ih k1 (by omega)).1 v3 (v4 + (1 : Int32)) a298 a299 i1 i2 (by omega) (by omega) (by omega) (by omega)
  · skip
    refine dz_Tb (t130_X4_groupAt fu hfu _ _ _ i4 i3 i6 (by first | assumption | omega) (hr_a262)) (fun r1 q => ?_)
    obtain ⟨q1_0, q1_1⟩ := q
    have e4 := dz_l4
    have e5 := dz_mulr (a := v5) (b := (4 : Int32)) 4 (by omega) (by omega) (by omega)
    have e6 := dz_add (a := v3) (b := (v5 * (4 : Int32))) (by omega) (by omega)
    have e7 := dz_add (a := (v3 + (v5 * (4 : Int32)))) (b := r1) (by omega) (by omega)
    refine dz_Tin (by omega) (by omega) ?_
    refine dz_Tin (by omega) (by omega) ?_
    refine dz_Tin (by omega) (by omega) ?_
    have e8 := dz_l1
    have e9 := dz_add (a := v5) (b := (1 : Int32)) (by omega) (by omega)
    exact (ih k0 (by omega)).2 v3 v4 (v5 + (1 : Int32)) a298 (vp_updL a299 ((v3 + (v5 * (4 : Int32))) + r1).toNatClampNeg ((a299 ((v3 + (v5 * (4 : Int32))) + r1).toNatClampNeg) + (a297 v4.toNatClampNeg))) i0 i1 i2 i3 i4 (by omega) (by omega) i7 (by omega) (by omega)
theorem t235_X7_keepRows_I_s (fu : Nat) (hfu : 1000000000000 ≤ fu) (κ : Nat) (hκ : κ < 14) (c261_groups : Int32) (c261_many : Int32) (a262 : Nat → Int32) (a297 : Nat → Int64) (p0 : c261_groups.toInt ≤ 4) (p1 : 0 ≤ c261_groups.toInt) (p2 : c261_many.toInt ≤ 24) (p3 : 0 ≤ c261_many.toInt) (hr_a262 : dz_rg a262 96 0 3) (o0 : c261_groups.toInt = ((dz_kg κ : Nat) : Int)) (o1 : c261_many.toInt = ((dz_kr κ : Nat) : Int)) (k : Nat) : p235_X7_keepRows_s fu κ c261_groups c261_many a262 a297 k := by
  induction k using Nat.strongRecOn with
  | _ k ih => exact ⟨t235_X7_keepRows_h2_s fu hfu κ hκ c261_groups c261_many a262 a297 p0 p1 p2 p3 hr_a262 o0 o1 k ih, t235_X7_keepRows_h4_s fu hfu κ hκ c261_groups c261_many a262 a297 p0 p1 p2 p3 hr_a262 o0 o1 k ih⟩
set_option maxHeartbeats 1000000 in
set_option maxRecDepth 10000 in
theorem t235_X7_keepRows_E_s (fu : Nat) (hfu : 1000000000000 ≤ fu) (κ : Nat) (hκ : κ < 14) (c261_groups : Int32) (c261_many : Int32) (a262 : Nat → Int32) (a297 : Nat → Int64) (v1 : Int32) (v2 : Int32) (a298 : Nat → Int32) (a299 : Nat → Int64) (p0 : c261_groups.toInt ≤ 4) (p1 : 0 ≤ c261_groups.toInt) (p2 : c261_many.toInt ≤ 24) (p3 : 0 ≤ c261_many.toInt) (p4 : 0 ≤ v1.toInt) (p5 : v1.toInt ≤ 64) (hr_a262 : dz_rg a262 96 0 3) (o0 : c261_groups.toInt = ((dz_kg κ : Nat) : Int)) (o1 : c261_many.toInt = ((dz_kr κ : Nat) : Int)) (kv : Nat) (hkv : 1000000000000 ≤ kv) : dz_T (s235_X7_keepRows_0 fu c261_groups c261_many a262 a297 (F235_X7_keepRows fu c261_groups c261_many a262 a297 kv).1  v1 v2 a298 a299) (fun r => True) := by
  unfold s235_X7_keepRows_0
  have e1 := dz_l64
  refine dz_Tle (fun h2 => ?_) (fun h2 => ?_)
  · skip
    obtain ⟨k1, rfl⟩ : ∃ x, kv = x + 1 := ⟨kv - 1, by omega⟩
    show dz_T (s235_X7_keepRows_1 fu c261_groups c261_many a262 a297 (F235_X7_keepRows fu c261_groups c261_many a262 a297 k1).2.1 v1 a298 a299) _
    unfold s235_X7_keepRows_1
    have e3 := dz_l16
    have e4 := dz_mull (a := v1) (b := (16 : Int32)) 64 (by omega) (by omega) (by omega)
    have e5 := dz_add (a := (v1 * (16 : Int32))) (b := (16 : Int32)) (by omega) (by omega)
    refine dz_Tb (t234_J7_fill_bad5a fu hfu _ _ _ _ (by omega) (by omega) (by omega)) (fun r1 _ => ?_)
    have e6 := dz_l0
    exact (t235_X7_keepRows_I_s fu hfu κ hκ c261_groups c261_many a262 a297 p0 p1 p2 p3 hr_a262 o0 o1 k1).1 (v1 * (16 : Int32)) (0 : Int32) a298 r1 (by omega) (by omega) (by omega) (by omega) (by omega) (by omega)
  · skip
    refine dz_Tin (by omega) (by omega) ?_
    obtain ⟨k2, rfl⟩ : ∃ x, kv = x + 1 := ⟨kv - 1, by omega⟩
    show dz_T (s235_X7_keepRows_1 fu c261_groups c261_many a262 a297 (F235_X7_keepRows fu c261_groups c261_many a262 a297 k2).2.1 v1 (upd a298 v1.toNatClampNeg v2) a299) _
    unfold s235_X7_keepRows_1
    have e7 := dz_l16
    have e8 := dz_mulr (a := v1) (b := (16 : Int32)) 16 (by omega) (by omega) (by omega)
    have e9 := dz_add (a := (v1 * (16 : Int32))) (b := (16 : Int32)) (by omega) (by omega)
    refine dz_Tb (t234_J7_fill_bad5a fu hfu _ _ _ _ (by omega) (by omega) (by omega)) (fun r2 _ => ?_)
    have e10 := dz_l0
    exact (t235_X7_keepRows_I_s fu hfu κ hκ c261_groups c261_many a262 a297 p0 p1 p2 p3 hr_a262 o0 o1 k2).1 (v1 * (16 : Int32)) (0 : Int32) (upd a298 v1.toNatClampNeg v2) r2 (by omega) (by omega) (by omega) (by omega) (by omega) (by omega)
theorem t235_X7_keepRows_s (fu : Nat) (hfu : 1000000000000 ≤ fu) (κ : Nat) (hκ : κ < 14) (c261_groups : Int32) (c261_many : Int32) (a262 : Nat → Int32) (a297 : Nat → Int64) (v1 : Int32) (v2 : Int32) (a298 : Nat → Int32) (a299 : Nat → Int64) (p0 : c261_groups.toInt ≤ 4) (p1 : 0 ≤ c261_groups.toInt) (p2 : c261_many.toInt ≤ 24) (p3 : 0 ≤ c261_many.toInt) (p4 : 0 ≤ v1.toInt) (p5 : v1.toInt ≤ 64) (hr_a262 : dz_rg a262 96 0 3) (o0 : c261_groups.toInt = ((dz_kg κ : Nat) : Int)) (o1 : c261_many.toInt = ((dz_kr κ : Nat) : Int)) : dz_T (f235_X7_keepRows fu c261_groups c261_many a262 a297 v1 v2 a298 a299) (fun r => True) :=
  t235_X7_keepRows_E_s fu hfu κ hκ c261_groups c261_many a262 a297 v1 v2 a298 a299 p0 p1 p2 p3 p4 p5 hr_a262 o0 o1 fu hfu
abbrev p237_X6_addLast_g21 (fu : Nat) (c248_groups : Int32) (c248_pots : Int32) (a263 : Nat → Int32) (a283 : Nat → Int32) (a293 : Nat → Int32) (a299 : Nat → Int64) (k : Nat) : Prop :=
  (∀ (v3 : Int64) (v5 : Int32) (v6 : Int32) (v7 : Int32) (v8 : Int64) (v10 : Int32) (c313_rows : Int64) (a314 : Nat → Int64) (a315 : Nat → Int64), v5.toInt ≤ 1024 → 0 ≤ v5.toInt → v6.toInt ≤ 0 → 0 ≤ v6.toInt → v7.toInt ≤ 0 → 0 ≤ v7.toInt → v10.toInt ≤ 2 → 0 ≤ v10.toInt → 0 + 0 + (2 - v10.toInt) * 200 + 8 ≤ ((k : Nat) : Int) → dz_T ((F237_X6_addLast fu c248_groups c248_pots a263 a283 a293 a299 k).1 v3 v5 v6 v7 v8 v10 c313_rows a314 a315) (fun r => True)) ∧ (∀ (v3 : Int64) (v5 : Int32) (v6 : Int32) (v7 : Int32) (v8 : Int64) (v10 : Int32) (v11 : Int32) (c313_rows : Int64) (a314 : Nat → Int64) (a315 : Nat → Int64), v5.toInt ≤ 1024 → 0 ≤ v5.toInt → v6.toInt ≤ 0 → 0 ≤ v6.toInt → v7.toInt ≤ 0 → 0 ≤ v7.toInt → v10.toInt ≤ 1 → 0 ≤ v10.toInt → v11.toInt ≤ 2 → 0 ≤ v11.toInt → 0 + 0 + ((2 - v10.toInt) - 1) * 200 + 0 + (2 - v11.toInt) * 56 + 16 ≤ ((k : Nat) : Int) → dz_T ((F237_X6_addLast fu c248_groups c248_pots a263 a283 a293 a299 k).2.1 v3 v5 v6 v7 v8 v10 v11 c313_rows a314 a315) (fun r => True)) ∧ (∀ (v3 : Int64) (v5 : Int32) (v6 : Int32) (v7 : Int32) (v8 : Int64) (v10 : Int32) (v11 : Int32) (v12 : Int64) (v14 : Int32) (c313_rows : Int64) (a314 : Nat → Int64) (a315 : Nat → Int64), v5.toInt ≤ 1024 → 0 ≤ v5.toInt → v6.toInt ≤ 0 → 0 ≤ v6.toInt → v7.toInt ≤ 0 → 0 ≤ v7.toInt → v10.toInt ≤ 1 → 0 ≤ v10.toInt → v11.toInt ≤ 1 → 0 ≤ v11.toInt → v14.toInt ≤ 0 → 0 ≤ v14.toInt → 0 + 0 + ((2 - v10.toInt) - 1) * 200 + 0 + ((2 - v11.toInt) - 1) * 56 + 0 + (0 - v14.toInt) * 16 + 24 ≤ ((k : Nat) : Int) → dz_T ((F237_X6_addLast fu c248_groups c248_pots a263 a283 a293 a299 k).2.2.2 v3 v5 v6 v7 v8 v10 v11 v12 v14 c313_rows a314 a315) (fun r => True))
set_option maxHeartbeats 1000000 in
set_option maxRecDepth 10000 in
theorem t237_X6_addLast_h1_g21 (fu : Nat) (hfu : 1000000000000 ≤ fu) (c248_groups : Int32) (c248_pots : Int32) (a263 : Nat → Int32) (a283 : Nat → Int32) (a293 : Nat → Int32) (a299 : Nat → Int64) (p0 : c248_groups.toInt ≤ 2) (p1 : 2 ≤ c248_groups.toInt) (p2 : c248_pots.toInt ≤ 1) (p3 : 1 ≤ c248_pots.toInt) (p4 : 1 ≤ c248_pots.toInt) (hr_a263 : dz_rq a263 2 2 0 1) (hr_a283 : dz_pm a283 1) (hr_a293 : dz_rg a293 0 0 1) (k : Nat) (ih : ∀ j9, j9 < k → p237_X6_addLast_g21 fu c248_groups c248_pots a263 a283 a293 a299 j9) : ∀ (v3 : Int64) (v5 : Int32) (v6 : Int32) (v7 : Int32) (v8 : Int64) (v10 : Int32) (c313_rows : Int64) (a314 : Nat → Int64) (a315 : Nat → Int64), v5.toInt ≤ 1024 → 0 ≤ v5.toInt → v6.toInt ≤ 0 → 0 ≤ v6.toInt → v7.toInt ≤ 0 → 0 ≤ v7.toInt → v10.toInt ≤ 2 → 0 ≤ v10.toInt → 0 + 0 + (2 - v10.toInt) * 200 + 8 ≤ ((k : Nat) : Int) → dz_T ((F237_X6_addLast fu c248_groups c248_pots a263 a283 a293 a299 k).1 v3 v5 v6 v7 v8 v10 c313_rows a314 a315) (fun r => True) := by
  intro v3 v5 v6 v7 v8 v10 c313_rows a314 a315 i0 i1 i2 i3 i4 i5 i6 i7 hm
  obtain ⟨k0, rfl⟩ : ∃ x, k = x + 1 := ⟨k - 1, by omega⟩
  show dz_T (s237_X6_addLast_1 fu c248_groups c248_pots a263 a283 a293 a299 (F237_X6_addLast fu c248_groups c248_pots a263 a283 a293 a299 k0).2.1  v3 v5 v6 v7 v8 v10 c313_rows a314 a315) _
  unfold s237_X6_addLast_1
  refine dz_Tle (fun h1 => ?_) (fun h1 => ?_)
  · skip
    refine dz_Tb (t208_X6_addAhead_g21 fu hfu _ _ _ _ _ _ _ _ _ p0 p1 i3 (by first | assumption | omega) (hr_a263) (hr_a283) (dz_rgz (by omega))) (fun r1 _ => ?_)
    exact dz_Ts trivial
  · skip
    have e2 := dz_add (a := v5) (b := v10) (by omega) (by omega)
    refine dz_Tin (by omega) (by omega) ?_
    have e3 := dz_l0
    exact (ih k0 (by omega)).2.1 v3 v5 v6 v7 (v8 + (a299 (v5 + v10).toNatClampNeg)) v10 (0 : Int32) c313_rows a314 a315 i0 i1 i2 i3 i4 i5 (by first | assumption | omega) i7 (by omega) (by omega) (by omega)
set_option maxHeartbeats 1000000 in
set_option maxRecDepth 10000 in
theorem t237_X6_addLast_h2_g21 (fu : Nat) (hfu : 1000000000000 ≤ fu) (c248_groups : Int32) (c248_pots : Int32) (a263 : Nat → Int32) (a283 : Nat → Int32) (a293 : Nat → Int32) (a299 : Nat → Int64) (p0 : c248_groups.toInt ≤ 2) (p1 : 2 ≤ c248_groups.toInt) (p2 : c248_pots.toInt ≤ 1) (p3 : 1 ≤ c248_pots.toInt) (p4 : 1 ≤ c248_pots.toInt) (hr_a263 : dz_rq a263 2 2 0 1) (hr_a283 : dz_pm a283 1) (hr_a293 : dz_rg a293 0 0 1) (k : Nat) (ih : ∀ j9, j9 < k → p237_X6_addLast_g21 fu c248_groups c248_pots a263 a283 a293 a299 j9) : ∀ (v3 : Int64) (v5 : Int32) (v6 : Int32) (v7 : Int32) (v8 : Int64) (v10 : Int32) (v11 : Int32) (c313_rows : Int64) (a314 : Nat → Int64) (a315 : Nat → Int64), v5.toInt ≤ 1024 → 0 ≤ v5.toInt → v6.toInt ≤ 0 → 0 ≤ v6.toInt → v7.toInt ≤ 0 → 0 ≤ v7.toInt → v10.toInt ≤ 1 → 0 ≤ v10.toInt → v11.toInt ≤ 2 → 0 ≤ v11.toInt → 0 + 0 + ((2 - v10.toInt) - 1) * 200 + 0 + (2 - v11.toInt) * 56 + 16 ≤ ((k : Nat) : Int) → dz_T ((F237_X6_addLast fu c248_groups c248_pots a263 a283 a293 a299 k).2.1 v3 v5 v6 v7 v8 v10 v11 c313_rows a314 a315) (fun r => True) := by
  intro v3 v5 v6 v7 v8 v10 v11 c313_rows a314 a315 i0 i1 i2 i3 i4 i5 i6 i7 i8 i9 hm
  obtain ⟨k0, rfl⟩ : ∃ x, k = x + 1 := ⟨k - 1, by omega⟩
  show dz_T (s237_X6_addLast_2 fu c248_groups c248_pots a263 a283 a293 a299 (F237_X6_addLast fu c248_groups c248_pots a263 a283 a293 a299 k0).1 (F237_X6_addLast fu c248_groups c248_pots a263 a283 a293 a299 k0).2.2.1 (F237_X6_addLast fu c248_groups c248_pots a263 a283 a293 a299 k0).2.2.2  v3 v5 v6 v7 v8 v10 v11 c313_rows a314 a315) _
  unfold s237_X6_addLast_2
  refine dz_Tle (fun h1 => ?_) (fun h1 => ?_)
  · skip
    have e2 := dz_l1
    have e3 := dz_add (a := v10) (b := (1 : Int32)) (by omega) (by omega)
    exact (ih k0 (by omega)).1 v3 v5 v6 v7 v8 (v10 + (1 : Int32)) c313_rows a314 a315 i0 i1 i2 i3 i4 i5 (by omega) (by omega) (by omega)
  · skip
    have e4 := dz_l4
    have e5 := dz_mulr (a := v11) (b := (4 : Int32)) 4 (by omega) (by omega) (by omega)
    have e6 := dz_add (a := v5) (b := (v11 * (4 : Int32))) (by omega) (by omega)
    have e7 := dz_add (a := (v5 + (v11 * (4 : Int32)))) (b := v10) (by omega) (by omega)
    refine dz_Tin (by omega) (by omega) ?_
    have e8 := dz_l0
    refine dz_Teq (fun h9 => ?_) (fun h9 => ?_)
    · skip
      obtain ⟨k1, rfl⟩ : ∃ x, k0 = x + 1 := ⟨k0 - 1, by omega⟩
      show dz_T (s237_X6_addLast_3 fu c248_groups c248_pots a263 a283 a293 a299 (F237_X6_addLast fu c248_groups c248_pots a263 a283 a293 a299 k1).2.1 v3 v5 v6 v7 v8 v10 v11 c313_rows a314 a315) _
      unfold s237_X6_addLast_3
      have e10 := dz_l1
      have e11 := dz_add (a := v11) (b := (1 : Int32)) (by omega) (by omega)
      exact (ih k1 (by omega)).2.1 v3 v5 v6 v7 v8 v10 (v11 + (1 : Int32)) c313_rows a314 a315 i0 i1 i2 i3 i4 i5 i6 i7 (by omega) (by omega) (by omega)
    · skip
      have e12 := dz_add (a := v7) (b := v11) (by omega) (by omega)
      have e13 := dz_mulr (a := (v7 + v11)) (b := (4 : Int32)) 4 (by omega) (by omega) (by omega)
      have e14 := dz_add (a := ((v7 + v11) * (4 : Int32))) (b := v10) (by omega) (by omega)
      refine dz_Tin (by omega) (by omega) ?_
      refine dz_Tin (by omega) (by omega) ?_
      exact (ih k0 (by omega)).2.2 v3 v5 v6 v7 v8 v10 v11 (v3 * (a299 ((v5 + (v11 * (4 : Int32))) + v10).toNatClampNeg)) (0 : Int32) c313_rows a314 (vp_updL a315 (((v7 + v11) * (4 : Int32)) + v10).toNatClampNeg ((a315 (((v7 + v11) * (4 : Int32)) + v10).toNatClampNeg) + (v3 * (a299 ((v5 + (v11 * (4 : Int32))) + v10).toNatClampNeg)))) i0 i1 i2 i3 i4 i5 i6 i7 (by first | assumption | omega) i9 (by omega) (by omega) (by omega)
set_option maxHeartbeats 1000000 in
set_option maxRecDepth 10000 in
theorem t237_X6_addLast_h4_g21 (fu : Nat) (hfu : 1000000000000 ≤ fu) (c248_groups : Int32) (c248_pots : Int32) (a263 : Nat → Int32) (a283 : Nat → Int32) (a293 : Nat → Int32) (a299 : Nat → Int64) (p0 : c248_groups.toInt ≤ 2) (p1 : 2 ≤ c248_groups.toInt) (p2 : c248_pots.toInt ≤ 1) (p3 : 1 ≤ c248_pots.toInt) (p4 : 1 ≤ c248_pots.toInt) (hr_a263 : dz_rq a263 2 2 0 1) (hr_a283 : dz_pm a283 1) (hr_a293 : dz_rg a293 0 0 1) (k : Nat) (ih : ∀ j9, j9 < k → p237_X6_addLast_g21 fu c248_groups c248_pots a263 a283 a293 a299 j9) : ∀ (v3 : Int64) (v5 : Int32) (v6 : Int32) (v7 : Int32) (v8 : Int64) (v10 : Int32) (v11 : Int32) (v12 : Int64) (v14 : Int32) (c313_rows : Int64) (a314 : Nat → Int64) (a315 : Nat → Int64), v5.toInt ≤ 1024 → 0 ≤ v5.toInt → v6.toInt ≤ 0 → 0 ≤ v6.toInt → v7.toInt ≤ 0 → 0 ≤ v7.toInt → v10.toInt ≤ 1 → 0 ≤ v10.toInt → v11.toInt ≤ 1 → 0 ≤ v11.toInt → v14.toInt ≤ 0 → 0 ≤ v14.toInt → 0 + 0 + ((2 - v10.toInt) - 1) * 200 + 0 + ((2 - v11.toInt) - 1) * 56 + 0 + (0 - v14.toInt) * 16 + 24 ≤ ((k : Nat) : Int) → dz_T ((F237_X6_addLast fu c248_groups c248_pots a263 a283 a293 a299 k).2.2.2 v3 v5 v6 v7 v8 v10 v11 v12 v14 c313_rows a314 a315) (fun r => True) := by
  intro v3 v5 v6 v7 v8 v10 v11 v12 v14 c313_rows a314 a315 i0 i1 i2 i3 i4 i5 i6 i7 i8 i9 i10 i11 hm
  obtain ⟨k0, rfl⟩ : ∃ x, k = x + 1 := ⟨k - 1, by omega⟩
  show dz_T (s237_X6_addLast_4 fu c248_groups c248_pots a263 a283 a293 a299 (F237_X6_addLast fu c248_groups c248_pots a263 a283 a293 a299 k0).2.2.1 (F237_X6_addLast fu c248_groups c248_pots a263 a283 a293 a299 k0).2.2.2  v3 v5 v6 v7 v8 v10 v11 v12 v14 c313_rows a314 a315) _
  unfold s237_X6_addLast_4
  refine dz_Tle (fun h1 => ?_) (fun h1 => ?_)
  · skip
    obtain ⟨k1, rfl⟩ : ∃ x, k0 = x + 1 := ⟨k0 - 1, by omega⟩
    show dz_T (s237_X6_addLast_3 fu c248_groups c248_pots a263 a283 a293 a299 (F237_X6_addLast fu c248_groups c248_pots a263 a283 a293 a299 k1).2.1 v3 v5 v6 v7 v8 v10 v11 c313_rows a314 a315) _
    unfold s237_X6_addLast_3
    have e2 := dz_l1
    have e3 := dz_add (a := v11) (b := (1 : Int32)) (by omega) (by omega)
    exact (ih k1 (by omega)).2.1 v3 v5 v6 v7 v8 v10 (v11 + (1 : Int32)) c313_rows a314 a315 i0 i1 i2 i3 i4 i5 i6 i7 (by omega) (by omega) (by omega)
  · skip
    exfalso; omega
theorem t237_X6_addLast_I_g21 (fu : Nat) (hfu : 1000000000000 ≤ fu) (c248_groups : Int32) (c248_pots : Int32) (a263 : Nat → Int32) (a283 : Nat → Int32) (a293 : Nat → Int32) (a299 : Nat → Int64) (p0 : c248_groups.toInt ≤ 2) (p1 : 2 ≤ c248_groups.toInt) (p2 : c248_pots.toInt ≤ 1) (p3 : 1 ≤ c248_pots.toInt) (p4 : 1 ≤ c248_pots.toInt) (hr_a263 : dz_rq a263 2 2 0 1) (hr_a283 : dz_pm a283 1) (hr_a293 : dz_rg a293 0 0 1) (k : Nat) : p237_X6_addLast_g21 fu c248_groups c248_pots a263 a283 a293 a299 k := by
  induction k using Nat.strongRecOn with
  | _ k ih => exact ⟨t237_X6_addLast_h1_g21 fu hfu c248_groups c248_pots a263 a283 a293 a299 p0 p1 p2 p3 p4 hr_a263 hr_a283 hr_a293 k ih, t237_X6_addLast_h2_g21 fu hfu c248_groups c248_pots a263 a283 a293 a299 p0 p1 p2 p3 p4 hr_a263 hr_a283 hr_a293 k ih, t237_X6_addLast_h4_g21 fu hfu c248_groups c248_pots a263 a283 a293 a299 p0 p1 p2 p3 p4 hr_a263 hr_a283 hr_a293 k ih⟩
set_option maxHeartbeats 1000000 in
set_option maxRecDepth 10000 in
theorem t237_X6_addLast_E_g21 (fu : Nat) (hfu : 1000000000000 ≤ fu) (c248_groups : Int32) (c248_pots : Int32) (a263 : Nat → Int32) (a283 : Nat → Int32) (a293 : Nat → Int32) (a299 : Nat → Int64) (v3 : Int64) (v5 : Int32) (c313_rows : Int64) (a314 : Nat → Int64) (a315 : Nat → Int64) (p0 : c248_groups.toInt ≤ 2) (p1 : 2 ≤ c248_groups.toInt) (p2 : c248_pots.toInt ≤ 1) (p3 : 1 ≤ c248_pots.toInt) (p4 : 0 ≤ v5.toInt) (p5 : v5.toInt ≤ 1024) (p6 : 1 ≤ c248_pots.toInt) (hr_a263 : dz_rq a263 2 2 0 1) (hr_a283 : dz_pm a283 1) (hr_a293 : dz_rg a293 0 0 1) (kv : Nat) (hkv : 1000000000000 ≤ kv) : dz_T (s237_X6_addLast_0 fu c248_groups c248_pots a263 a283 a293 a299 (F237_X6_addLast fu c248_groups c248_pots a263 a283 a293 a299 kv).1  v3 v5 c313_rows a314 a315) (fun r => True) := by
  unfold s237_X6_addLast_0
  have e1 := dz_l1
  have e2 := dz_sub (a := c248_pots) (b := (1 : Int32)) (by omega) (by omega)
  refine dz_Tin (by omega) (by omega) ?_
  have e3 := dz_pmat (hr_a283) (i := (c248_pots - (1 : Int32))) (by decide) (by omega) (by omega)
  have e4 := dz_mull (a := (a283 (c248_pots - (1 : Int32)).toNatClampNeg)) (b := c248_groups) 0 (by omega) (by omega) (by omega)
  have e5 := dz_l0
  exact (t237_X6_addLast_I_g21 fu hfu c248_groups c248_pots a263 a283 a293 a299 p0 p1 p2 p3 p6 hr_a263 hr_a283 hr_a293 kv).1 v3 v5 (c248_pots - (1 : Int32)) ((a283 (c248_pots - (1 : Int32)).toNatClampNeg) * c248_groups) (0 : Int64) (0 : Int32) c313_rows a314 a315 p5 p4 (by omega) (by omega) (by omega) (by omega) (by omega) (by omega) (by omega)
theorem t237_X6_addLast_g21 (fu : Nat) (hfu : 1000000000000 ≤ fu) (c248_groups : Int32) (c248_pots : Int32) (a263 : Nat → Int32) (a283 : Nat → Int32) (a293 : Nat → Int32) (a299 : Nat → Int64) (v3 : Int64) (v5 : Int32) (c313_rows : Int64) (a314 : Nat → Int64) (a315 : Nat → Int64) (p0 : c248_groups.toInt ≤ 2) (p1 : 2 ≤ c248_groups.toInt) (p2 : c248_pots.toInt ≤ 1) (p3 : 1 ≤ c248_pots.toInt) (p4 : 0 ≤ v5.toInt) (p5 : v5.toInt ≤ 1024) (p6 : 1 ≤ c248_pots.toInt) (hr_a263 : dz_rq a263 2 2 0 1) (hr_a283 : dz_pm a283 1) (hr_a293 : dz_rg a293 0 0 1) : dz_T (f237_X6_addLast fu c248_groups c248_pots a263 a283 a293 a299 v3 v5 c313_rows a314 a315) (fun r => True) :=
  t237_X6_addLast_E_g21 fu hfu c248_groups c248_pots a263 a283 a293 a299 v3 v5 c313_rows a314 a315 p0 p1 p2 p3 p4 p5 p6 hr_a263 hr_a283 hr_a293 fu hfu
abbrev p237_X6_addLast_g22 (fu : Nat) (c248_groups : Int32) (c248_pots : Int32) (a263 : Nat → Int32) (a283 : Nat → Int32) (a293 : Nat → Int32) (a299 : Nat → Int64) (k : Nat) : Prop :=
  (∀ (v3 : Int64) (v5 : Int32) (v6 : Int32) (v7 : Int32) (v8 : Int64) (v10 : Int32) (c313_rows : Int64) (a314 : Nat → Int64) (a315 : Nat → Int64), v5.toInt ≤ 1024 → 0 ≤ v5.toInt → v6.toInt ≤ 1 → 1 ≤ v6.toInt → v7.toInt ≤ 2 → 0 ≤ v7.toInt → v10.toInt ≤ 2 → 0 ≤ v10.toInt → 0 + 0 + (2 - v10.toInt) * 248 + 8 ≤ ((k : Nat) : Int) → dz_T ((F237_X6_addLast fu c248_groups c248_pots a263 a283 a293 a299 k).1 v3 v5 v6 v7 v8 v10 c313_rows a314 a315) (fun r => True)) ∧ (∀ (v3 : Int64) (v5 : Int32) (v6 : Int32) (v7 : Int32) (v8 : Int64) (v10 : Int32) (v11 : Int32) (c313_rows : Int64) (a314 : Nat → Int64) (a315 : Nat → Int64), v5.toInt ≤ 1024 → 0 ≤ v5.toInt → v6.toInt ≤ 1 → 1 ≤ v6.toInt → v7.toInt ≤ 2 → 0 ≤ v7.toInt → v10.toInt ≤ 1 → 0 ≤ v10.toInt → v11.toInt ≤ 2 → 0 ≤ v11.toInt → 0 + 0 + ((2 - v10.toInt) - 1) * 248 + 0 + (2 - v11.toInt) * 72 + 16 ≤ ((k : Nat) : Int) → dz_T ((F237_X6_addLast fu c248_groups c248_pots a263 a283 a293 a299 k).2.1 v3 v5 v6 v7 v8 v10 v11 c313_rows a314 a315) (fun r => True)) ∧ (∀ (v3 : Int64) (v5 : Int32) (v6 : Int32) (v7 : Int32) (v8 : Int64) (v10 : Int32) (v11 : Int32) (v12 : Int64) (v14 : Int32) (c313_rows : Int64) (a314 : Nat → Int64) (a315 : Nat → Int64), v5.toInt ≤ 1024 → 0 ≤ v5.toInt → v6.toInt ≤ 1 → 1 ≤ v6.toInt → v7.toInt ≤ 2 → 0 ≤ v7.toInt → v10.toInt ≤ 1 → 0 ≤ v10.toInt → v11.toInt ≤ 1 → 0 ≤ v11.toInt → v14.toInt ≤ 1 → 0 ≤ v14.toInt → 0 + 0 + ((2 - v10.toInt) - 1) * 248 + 0 + ((2 - v11.toInt) - 1) * 72 + 0 + (1 - v14.toInt) * 16 + 24 ≤ ((k : Nat) : Int) → dz_T ((F237_X6_addLast fu c248_groups c248_pots a263 a283 a293 a299 k).2.2.2 v3 v5 v6 v7 v8 v10 v11 v12 v14 c313_rows a314 a315) (fun r => True))
set_option maxHeartbeats 1000000 in
set_option maxRecDepth 10000 in
theorem t237_X6_addLast_h1_g22 (fu : Nat) (hfu : 1000000000000 ≤ fu) (c248_groups : Int32) (c248_pots : Int32) (a263 : Nat → Int32) (a283 : Nat → Int32) (a293 : Nat → Int32) (a299 : Nat → Int64) (p0 : c248_groups.toInt ≤ 2) (p1 : 2 ≤ c248_groups.toInt) (p2 : c248_pots.toInt ≤ 2) (p3 : 2 ≤ c248_pots.toInt) (p4 : 1 ≤ c248_pots.toInt) (hr_a263 : dz_rq a263 2 2 0 1) (hr_a283 : dz_pm a283 2) (hr_a293 : dz_rg a293 1 0 1) (k : Nat) (ih : ∀ j9, j9 < k → p237_X6_addLast_g22 fu c248_groups c248_pots a263 a283 a293 a299 j9) : ∀ (v3 : Int64) (v5 : Int32) (v6 : Int32) (v7 : Int32) (v8 : Int64) (v10 : Int32) (c313_rows : Int64) (a314 : Nat → Int64) (a315 : Nat → Int64), v5.toInt ≤ 1024 → 0 ≤ v5.toInt → v6.toInt ≤ 1 → 1 ≤ v6.toInt → v7.toInt ≤ 2 → 0 ≤ v7.toInt → v10.toInt ≤ 2 → 0 ≤ v10.toInt → 0 + 0 + (2 - v10.toInt) * 248 + 8 ≤ ((k : Nat) : Int) → dz_T ((F237_X6_addLast fu c248_groups c248_pots a263 a283 a293 a299 k).1 v3 v5 v6 v7 v8 v10 c313_rows a314 a315) (fun r => True) := by
  intro v3 v5 v6 v7 v8 v10 c313_rows a314 a315 i0 i1 i2 i3 i4 i5 i6 i7 hm
  obtain ⟨k0, rfl⟩ : ∃ x, k = x + 1 := ⟨k - 1, by omega⟩
  show dz_T (s237_X6_addLast_1 fu c248_groups c248_pots a263 a283 a293 a299 (F237_X6_addLast fu c248_groups c248_pots a263 a283 a293 a299 k0).2.1  v3 v5 v6 v7 v8 v10 c313_rows a314 a315) _
  unfold s237_X6_addLast_1
  refine dz_Tle (fun h1 => ?_) (fun h1 => ?_)
  · skip
    refine dz_Tb (t208_X6_addAhead_g22 fu hfu _ _ _ _ _ _ _ _ _ p0 p1 (by first | assumption | omega) (by first | assumption | omega) (hr_a263) (hr_a283) (dz_rgs (hr_a293) (by omega))) (fun r1 _ => ?_)
    exact dz_Ts trivial
  · skip
    have e2 := dz_add (a := v5) (b := v10) (by omega) (by omega)
    refine dz_Tin (by omega) (by omega) ?_
    have e3 := dz_l0
    exact (ih k0 (by omega)).2.1 v3 v5 v6 v7 (v8 + (a299 (v5 + v10).toNatClampNeg)) v10 (0 : Int32) c313_rows a314 a315 i0 i1 i2 i3 i4 i5 (by first | assumption | omega) i7 (by omega) (by omega) (by omega)
set_option maxHeartbeats 1000000 in
set_option maxRecDepth 10000 in
theorem t237_X6_addLast_h2_g22 (fu : Nat) (hfu : 1000000000000 ≤ fu) (c248_groups : Int32) (c248_pots : Int32) (a263 : Nat → Int32) (a283 : Nat → Int32) (a293 : Nat → Int32) (a299 : Nat → Int64) (p0 : c248_groups.toInt ≤ 2) (p1 : 2 ≤ c248_groups.toInt) (p2 : c248_pots.toInt ≤ 2) (p3 : 2 ≤ c248_pots.toInt) (p4 : 1 ≤ c248_pots.toInt) (hr_a263 : dz_rq a263 2 2 0 1) (hr_a283 : dz_pm a283 2) (hr_a293 : dz_rg a293 1 0 1) (k : Nat) (ih : ∀ j9, j9 < k → p237_X6_addLast_g22 fu c248_groups c248_pots a263 a283 a293 a299 j9) : ∀ (v3 : Int64) (v5 : Int32) (v6 : Int32) (v7 : Int32) (v8 : Int64) (v10 : Int32) (v11 : Int32) (c313_rows : Int64) (a314 : Nat → Int64) (a315 : Nat → Int64), v5.toInt ≤ 1024 → 0 ≤ v5.toInt → v6.toInt ≤ 1 → 1 ≤ v6.toInt → v7.toInt ≤ 2 → 0 ≤ v7.toInt → v10.toInt ≤ 1 → 0 ≤ v10.toInt → v11.toInt ≤ 2 → 0 ≤ v11.toInt → 0 + 0 + ((2 - v10.toInt) - 1) * 248 + 0 + (2 - v11.toInt) * 72 + 16 ≤ ((k : Nat) : Int) → dz_T ((F237_X6_addLast fu c248_groups c248_pots a263 a283 a293 a299 k).2.1 v3 v5 v6 v7 v8 v10 v11 c313_rows a314 a315) (fun r => True) := by
  intro v3 v5 v6 v7 v8 v10 v11 c313_rows a314 a315 i0 i1 i2 i3 i4 i5 i6 i7 i8 i9 hm
  obtain ⟨k0, rfl⟩ : ∃ x, k = x + 1 := ⟨k - 1, by omega⟩
  show dz_T (s237_X6_addLast_2 fu c248_groups c248_pots a263 a283 a293 a299 (F237_X6_addLast fu c248_groups c248_pots a263 a283 a293 a299 k0).1 (F237_X6_addLast fu c248_groups c248_pots a263 a283 a293 a299 k0).2.2.1 (F237_X6_addLast fu c248_groups c248_pots a263 a283 a293 a299 k0).2.2.2  v3 v5 v6 v7 v8 v10 v11 c313_rows a314 a315) _
  unfold s237_X6_addLast_2
  refine dz_Tle (fun h1 => ?_) (fun h1 => ?_)
  · skip
    have e2 := dz_l1
    have e3 := dz_add (a := v10) (b := (1 : Int32)) (by omega) (by omega)
    exact (ih k0 (by omega)).1 v3 v5 v6 v7 v8 (v10 + (1 : Int32)) c313_rows a314 a315 i0 i1 i2 i3 i4 i5 (by omega) (by omega) (by omega)
  · skip
    have e4 := dz_l4
    have e5 := dz_mulr (a := v11) (b := (4 : Int32)) 4 (by omega) (by omega) (by omega)
    have e6 := dz_add (a := v5) (b := (v11 * (4 : Int32))) (by omega) (by omega)
    have e7 := dz_add (a := (v5 + (v11 * (4 : Int32)))) (b := v10) (by omega) (by omega)
    refine dz_Tin (by omega) (by omega) ?_
    have e8 := dz_l0
    refine dz_Teq (fun h9 => ?_) (fun h9 => ?_)
    · skip
      obtain ⟨k1, rfl⟩ : ∃ x, k0 = x + 1 := ⟨k0 - 1, by omega⟩
      show dz_T (s237_X6_addLast_3 fu c248_groups c248_pots a263 a283 a293 a299 (F237_X6_addLast fu c248_groups c248_pots a263 a283 a293 a299 k1).2.1 v3 v5 v6 v7 v8 v10 v11 c313_rows a314 a315) _
      unfold s237_X6_addLast_3
      have e10 := dz_l1
      have e11 := dz_add (a := v11) (b := (1 : Int32)) (by omega) (by omega)
      exact (ih k1 (by omega)).2.1 v3 v5 v6 v7 v8 v10 (v11 + (1 : Int32)) c313_rows a314 a315 i0 i1 i2 i3 i4 i5 i6 i7 (by omega) (by omega) (by omega)
    · skip
      have e12 := dz_add (a := v7) (b := v11) (by omega) (by omega)
      have e13 := dz_mulr (a := (v7 + v11)) (b := (4 : Int32)) 4 (by omega) (by omega) (by omega)
      have e14 := dz_add (a := ((v7 + v11) * (4 : Int32))) (b := v10) (by omega) (by omega)
      refine dz_Tin (by omega) (by omega) ?_
      refine dz_Tin (by omega) (by omega) ?_
      exact (ih k0 (by omega)).2.2 v3 v5 v6 v7 v8 v10 v11 (v3 * (a299 ((v5 + (v11 * (4 : Int32))) + v10).toNatClampNeg)) (0 : Int32) c313_rows a314 (vp_updL a315 (((v7 + v11) * (4 : Int32)) + v10).toNatClampNeg ((a315 (((v7 + v11) * (4 : Int32)) + v10).toNatClampNeg) + (v3 * (a299 ((v5 + (v11 * (4 : Int32))) + v10).toNatClampNeg)))) i0 i1 i2 i3 i4 i5 i6 i7 (by first | assumption | omega) i9 (by omega) (by omega) (by omega)
set_option maxHeartbeats 1000000 in
set_option maxRecDepth 10000 in
theorem t237_X6_addLast_h4_g22 (fu : Nat) (hfu : 1000000000000 ≤ fu) (c248_groups : Int32) (c248_pots : Int32) (a263 : Nat → Int32) (a283 : Nat → Int32) (a293 : Nat → Int32) (a299 : Nat → Int64) (p0 : c248_groups.toInt ≤ 2) (p1 : 2 ≤ c248_groups.toInt) (p2 : c248_pots.toInt ≤ 2) (p3 : 2 ≤ c248_pots.toInt) (p4 : 1 ≤ c248_pots.toInt) (hr_a263 : dz_rq a263 2 2 0 1) (hr_a283 : dz_pm a283 2) (hr_a293 : dz_rg a293 1 0 1) (k : Nat) (ih : ∀ j9, j9 < k → p237_X6_addLast_g22 fu c248_groups c248_pots a263 a283 a293 a299 j9) : ∀ (v3 : Int64) (v5 : Int32) (v6 : Int32) (v7 : Int32) (v8 : Int64) (v10 : Int32) (v11 : Int32) (v12 : Int64) (v14 : Int32) (c313_rows : Int64) (a314 : Nat → Int64) (a315 : Nat → Int64), v5.toInt ≤ 1024 → 0 ≤ v5.toInt → v6.toInt ≤ 1 → 1 ≤ v6.toInt → v7.toInt ≤ 2 → 0 ≤ v7.toInt → v10.toInt ≤ 1 → 0 ≤ v10.toInt → v11.toInt ≤ 1 → 0 ≤ v11.toInt → v14.toInt ≤ 1 → 0 ≤ v14.toInt → 0 + 0 + ((2 - v10.toInt) - 1) * 248 + 0 + ((2 - v11.toInt) - 1) * 72 + 0 + (1 - v14.toInt) * 16 + 24 ≤ ((k : Nat) : Int) → dz_T ((F237_X6_addLast fu c248_groups c248_pots a263 a283 a293 a299 k).2.2.2 v3 v5 v6 v7 v8 v10 v11 v12 v14 c313_rows a314 a315) (fun r => True) := by
  intro v3 v5 v6 v7 v8 v10 v11 v12 v14 c313_rows a314 a315 i0 i1 i2 i3 i4 i5 i6 i7 i8 i9 i10 i11 hm
  obtain ⟨k0, rfl⟩ : ∃ x, k = x + 1 := ⟨k - 1, by omega⟩
  show dz_T (s237_X6_addLast_4 fu c248_groups c248_pots a263 a283 a293 a299 (F237_X6_addLast fu c248_groups c248_pots a263 a283 a293 a299 k0).2.2.1 (F237_X6_addLast fu c248_groups c248_pots a263 a283 a293 a299 k0).2.2.2  v3 v5 v6 v7 v8 v10 v11 v12 v14 c313_rows a314 a315) _
  unfold s237_X6_addLast_4
  refine dz_Tle (fun h1 => ?_) (fun h1 => ?_)
  · skip
    obtain ⟨k1, rfl⟩ : ∃ x, k0 = x + 1 := ⟨k0 - 1, by omega⟩
    show dz_T (s237_X6_addLast_3 fu c248_groups c248_pots a263 a283 a293 a299 (F237_X6_addLast fu c248_groups c248_pots a263 a283 a293 a299 k1).2.1 v3 v5 v6 v7 v8 v10 v11 c313_rows a314 a315) _
    unfold s237_X6_addLast_3
    have e2 := dz_l1
    have e3 := dz_add (a := v11) (b := (1 : Int32)) (by omega) (by omega)
    exact (ih k1 (by omega)).2.1 v3 v5 v6 v7 v8 v10 (v11 + (1 : Int32)) c313_rows a314 a315 i0 i1 i2 i3 i4 i5 i6 i7 (by omega) (by omega) (by omega)
  · skip
    refine dz_Tin (by omega) (by omega) ?_
    have e4 := dz_rgat (hr_a293) (i := v14) (by omega) (by omega)
    have e5 := dz_l4
    have e6 := dz_mulr (a := (a293 v14.toNatClampNeg)) (b := (4 : Int32)) 4 (by omega) (by omega) (by omega)
    have e7 := dz_add (a := ((a293 v14.toNatClampNeg) * (4 : Int32))) (b := v10) (by omega) (by omega)
    refine dz_Tin (by omega) (by omega) ?_
    refine dz_Tin (by omega) (by omega) ?_
    have e8 := dz_pmat (hr_a283) (i := v14) (by decide) (by omega) (by omega)
    have e9 := dz_mulr (a := (a283 v14.toNatClampNeg)) (b := c248_groups) 2 (by omega) (by omega) (by omega)
    have e10 := dz_rqat (hr_a263) (x := (a293 v14.toNatClampNeg)) (y := v10) (by omega) (by omega) (by omega) (by omega) (by omega)
    have e11 := dz_add (a := ((a283 v14.toNatClampNeg) * c248_groups)) (b := (a263 (((a293 v14.toNatClampNeg) * (4 : Int32)) + v10).toNatClampNeg)) (by omega) (by omega)
    have e12 := dz_l12
    have e13 := dz_mulr (a := (((a283 v14.toNatClampNeg) * c248_groups) + (a263 (((a293 v14.toNatClampNeg) * (4 : Int32)) + v10).toNatClampNeg))) (b := (12 : Int32)) 12 (by omega) (by omega) (by omega)
    have e14 := dz_add (a := ((((a283 v14.toNatClampNeg) * c248_groups) + (a263 (((a293 v14.toNatClampNeg) * (4 : Int32)) + v10).toNatClampNeg)) * (12 : Int32))) (b := v7) (by omega) (by omega)
    have e15 := dz_add (a := (((((a283 v14.toNatClampNeg) * c248_groups) + (a263 (((a293 v14.toNatClampNeg) * (4 : Int32)) + v10).toNatClampNeg)) * (12 : Int32)) + v7)) (b := v11) (by omega) (by omega)
    refine dz_Tin (by omega) (by omega) ?_
    refine dz_Tin (by omega) (by omega) ?_
    have e16 := dz_l1
    have e17 := dz_add (a := v14) (b := (1 : Int32)) (by omega) (by omega)
    exact (ih k0 (by omega)).2.2 v3 v5 v6 v7 v8 v10 v11 v12 (v14 + (1 : Int32)) c313_rows (vp_updL a314 ((((((a283 v14.toNatClampNeg) * c248_groups) + (a263 (((a293 v14.toNatClampNeg) * (4 : Int32)) + v10).toNatClampNeg)) * (12 : Int32)) + v7) + v11).toNatClampNeg ((a314 ((((((a283 v14.toNatClampNeg) * c248_groups) + (a263 (((a293 v14.toNatClampNeg) * (4 : Int32)) + v10).toNatClampNeg)) * (12 : Int32)) + v7) + v11).toNatClampNeg) + v12)) a315 i0 i1 i2 i3 i4 i5 i6 i7 i8 i9 (by omega) (by omega) (by omega)
theorem t237_X6_addLast_I_g22 (fu : Nat) (hfu : 1000000000000 ≤ fu) (c248_groups : Int32) (c248_pots : Int32) (a263 : Nat → Int32) (a283 : Nat → Int32) (a293 : Nat → Int32) (a299 : Nat → Int64) (p0 : c248_groups.toInt ≤ 2) (p1 : 2 ≤ c248_groups.toInt) (p2 : c248_pots.toInt ≤ 2) (p3 : 2 ≤ c248_pots.toInt) (p4 : 1 ≤ c248_pots.toInt) (hr_a263 : dz_rq a263 2 2 0 1) (hr_a283 : dz_pm a283 2) (hr_a293 : dz_rg a293 1 0 1) (k : Nat) : p237_X6_addLast_g22 fu c248_groups c248_pots a263 a283 a293 a299 k := by
  induction k using Nat.strongRecOn with
  | _ k ih => exact ⟨t237_X6_addLast_h1_g22 fu hfu c248_groups c248_pots a263 a283 a293 a299 p0 p1 p2 p3 p4 hr_a263 hr_a283 hr_a293 k ih, t237_X6_addLast_h2_g22 fu hfu c248_groups c248_pots a263 a283 a293 a299 p0 p1 p2 p3 p4 hr_a263 hr_a283 hr_a293 k ih, t237_X6_addLast_h4_g22 fu hfu c248_groups c248_pots a263 a283 a293 a299 p0 p1 p2 p3 p4 hr_a263 hr_a283 hr_a293 k ih⟩
set_option maxHeartbeats 1000000 in
set_option maxRecDepth 10000 in
theorem t237_X6_addLast_E_g22 (fu : Nat) (hfu : 1000000000000 ≤ fu) (c248_groups : Int32) (c248_pots : Int32) (a263 : Nat → Int32) (a283 : Nat → Int32) (a293 : Nat → Int32) (a299 : Nat → Int64) (v3 : Int64) (v5 : Int32) (c313_rows : Int64) (a314 : Nat → Int64) (a315 : Nat → Int64) (p0 : c248_groups.toInt ≤ 2) (p1 : 2 ≤ c248_groups.toInt) (p2 : c248_pots.toInt ≤ 2) (p3 : 2 ≤ c248_pots.toInt) (p4 : 0 ≤ v5.toInt) (p5 : v5.toInt ≤ 1024) (p6 : 1 ≤ c248_pots.toInt) (hr_a263 : dz_rq a263 2 2 0 1) (hr_a283 : dz_pm a283 2) (hr_a293 : dz_rg a293 1 0 1) (kv : Nat) (hkv : 1000000000000 ≤ kv) : dz_T (s237_X6_addLast_0 fu c248_groups c248_pots a263 a283 a293 a299 (F237_X6_addLast fu c248_groups c248_pots a263 a283 a293 a299 kv).1  v3 v5 c313_rows a314 a315) (fun r => True) := by
  unfold s237_X6_addLast_0
  have e1 := dz_l1
  have e2 := dz_sub (a := c248_pots) (b := (1 : Int32)) (by omega) (by omega)
  refine dz_Tin (by omega) (by omega) ?_
  have e3 := dz_pmat (hr_a283) (i := (c248_pots - (1 : Int32))) (by decide) (by omega) (by omega)
  have e4 := dz_mulr (a := (a283 (c248_pots - (1 : Int32)).toNatClampNeg)) (b := c248_groups) 2 (by omega) (by omega) (by omega)
  have e5 := dz_l0
  exact (t237_X6_addLast_I_g22 fu hfu c248_groups c248_pots a263 a283 a293 a299 p0 p1 p2 p3 p6 hr_a263 hr_a283 hr_a293 kv).1 v3 v5 (c248_pots - (1 : Int32)) ((a283 (c248_pots - (1 : Int32)).toNatClampNeg) * c248_groups) (0 : Int64) (0 : Int32) c313_rows a314 a315 p5 p4 (by omega) (by omega) (by omega) (by omega) (by omega) (by omega) (by omega)
theorem t237_X6_addLast_g22 (fu : Nat) (hfu : 1000000000000 ≤ fu) (c248_groups : Int32) (c248_pots : Int32) (a263 : Nat → Int32) (a283 : Nat → Int32) (a293 : Nat → Int32) (a299 : Nat → Int64) (v3 : Int64) (v5 : Int32) (c313_rows : Int64) (a314 : Nat → Int64) (a315 : Nat → Int64) (p0 : c248_groups.toInt ≤ 2) (p1 : 2 ≤ c248_groups.toInt) (p2 : c248_pots.toInt ≤ 2) (p3 : 2 ≤ c248_pots.toInt) (p4 : 0 ≤ v5.toInt) (p5 : v5.toInt ≤ 1024) (p6 : 1 ≤ c248_pots.toInt) (hr_a263 : dz_rq a263 2 2 0 1) (hr_a283 : dz_pm a283 2) (hr_a293 : dz_rg a293 1 0 1) : dz_T (f237_X6_addLast fu c248_groups c248_pots a263 a283 a293 a299 v3 v5 c313_rows a314 a315) (fun r => True) :=
  t237_X6_addLast_E_g22 fu hfu c248_groups c248_pots a263 a283 a293 a299 v3 v5 c313_rows a314 a315 p0 p1 p2 p3 p4 p5 p6 hr_a263 hr_a283 hr_a293 fu hfu
abbrev p237_X6_addLast_g23 (fu : Nat) (c248_groups : Int32) (c248_pots : Int32) (a263 : Nat → Int32) (a283 : Nat → Int32) (a293 : Nat → Int32) (a299 : Nat → Int64) (k : Nat) : Prop :=
  (∀ (v3 : Int64) (v5 : Int32) (v6 : Int32) (v7 : Int32) (v8 : Int64) (v10 : Int32) (c313_rows : Int64) (a314 : Nat → Int64) (a315 : Nat → Int64), v5.toInt ≤ 1024 → 0 ≤ v5.toInt → v6.toInt ≤ 2 → 2 ≤ v6.toInt → v7.toInt ≤ 4 → 0 ≤ v7.toInt → v10.toInt ≤ 2 → 0 ≤ v10.toInt → 0 + 0 + (2 - v10.toInt) * 296 + 8 ≤ ((k : Nat) : Int) → dz_T ((F237_X6_addLast fu c248_groups c248_pots a263 a283 a293 a299 k).1 v3 v5 v6 v7 v8 v10 c313_rows a314 a315) (fun r => True)) ∧ (∀ (v3 : Int64) (v5 : Int32) (v6 : Int32) (v7 : Int32) (v8 : Int64) (v10 : Int32) (v11 : Int32) (c313_rows : Int64) (a314 : Nat → Int64) (a315 : Nat → Int64), v5.toInt ≤ 1024 → 0 ≤ v5.toInt → v6.toInt ≤ 2 → 2 ≤ v6.toInt → v7.toInt ≤ 4 → 0 ≤ v7.toInt → v10.toInt ≤ 1 → 0 ≤ v10.toInt → v11.toInt ≤ 2 → 0 ≤ v11.toInt → 0 + 0 + ((2 - v10.toInt) - 1) * 296 + 0 + (2 - v11.toInt) * 88 + 16 ≤ ((k : Nat) : Int) → dz_T ((F237_X6_addLast fu c248_groups c248_pots a263 a283 a293 a299 k).2.1 v3 v5 v6 v7 v8 v10 v11 c313_rows a314 a315) (fun r => True)) ∧ (∀ (v3 : Int64) (v5 : Int32) (v6 : Int32) (v7 : Int32) (v8 : Int64) (v10 : Int32) (v11 : Int32) (v12 : Int64) (v14 : Int32) (c313_rows : Int64) (a314 : Nat → Int64) (a315 : Nat → Int64), v5.toInt ≤ 1024 → 0 ≤ v5.toInt → v6.toInt ≤ 2 → 2 ≤ v6.toInt → v7.toInt ≤ 4 → 0 ≤ v7.toInt → v10.toInt ≤ 1 → 0 ≤ v10.toInt → v11.toInt ≤ 1 → 0 ≤ v11.toInt → v14.toInt ≤ 2 → 0 ≤ v14.toInt → 0 + 0 + ((2 - v10.toInt) - 1) * 296 + 0 + ((2 - v11.toInt) - 1) * 88 + 0 + (2 - v14.toInt) * 16 + 24 ≤ ((k : Nat) : Int) → dz_T ((F237_X6_addLast fu c248_groups c248_pots a263 a283 a293 a299 k).2.2.2 v3 v5 v6 v7 v8 v10 v11 v12 v14 c313_rows a314 a315) (fun r => True))
set_option maxHeartbeats 1000000 in
set_option maxRecDepth 10000 in
theorem t237_X6_addLast_h1_g23 (fu : Nat) (hfu : 1000000000000 ≤ fu) (c248_groups : Int32) (c248_pots : Int32) (a263 : Nat → Int32) (a283 : Nat → Int32) (a293 : Nat → Int32) (a299 : Nat → Int64) (p0 : c248_groups.toInt ≤ 2) (p1 : 2 ≤ c248_groups.toInt) (p2 : c248_pots.toInt ≤ 3) (p3 : 3 ≤ c248_pots.toInt) (p4 : 1 ≤ c248_pots.toInt) (hr_a263 : dz_rq a263 2 2 0 1) (hr_a283 : dz_pm a283 3) (hr_a293 : dz_rg a293 2 0 1) (k : Nat) (ih : ∀ j9, j9 < k → p237_X6_addLast_g23 fu c248_groups c248_pots a263 a283 a293 a299 j9) : ∀ (v3 : Int64) (v5 : Int32) (v6 : Int32) (v7 : Int32) (v8 : Int64) (v10 : Int32) (c313_rows : Int64) (a314 : Nat → Int64) (a315 : Nat → Int64), v5.toInt ≤ 1024 → 0 ≤ v5.toInt → v6.toInt ≤ 2 → 2 ≤ v6.toInt → v7.toInt ≤ 4 → 0 ≤ v7.toInt → v10.toInt ≤ 2 → 0 ≤ v10.toInt → 0 + 0 + (2 - v10.toInt) * 296 + 8 ≤ ((k : Nat) : Int) → dz_T ((F237_X6_addLast fu c248_groups c248_pots a263 a283 a293 a299 k).1 v3 v5 v6 v7 v8 v10 c313_rows a314 a315) (fun r => True) := by
  intro v3 v5 v6 v7 v8 v10 c313_rows a314 a315 i0 i1 i2 i3 i4 i5 i6 i7 hm
  obtain ⟨k0, rfl⟩ : ∃ x, k = x + 1 := ⟨k - 1, by omega⟩
  show dz_T (s237_X6_addLast_1 fu c248_groups c248_pots a263 a283 a293 a299 (F237_X6_addLast fu c248_groups c248_pots a263 a283 a293 a299 k0).2.1  v3 v5 v6 v7 v8 v10 c313_rows a314 a315) _
  unfold s237_X6_addLast_1
  refine dz_Tle (fun h1 => ?_) (fun h1 => ?_)
  · skip
    refine dz_Tb (t208_X6_addAhead_g23 fu hfu _ _ _ _ _ _ _ _ _ p0 p1 (by first | assumption | omega) (by first | assumption | omega) (hr_a263) (hr_a283) (dz_rgs (hr_a293) (by omega))) (fun r1 _ => ?_)
    exact dz_Ts trivial
  · skip
    have e2 := dz_add (a := v5) (b := v10) (by omega) (by omega)
    refine dz_Tin (by omega) (by omega) ?_
    have e3 := dz_l0
    exact (ih k0 (by omega)).2.1 v3 v5 v6 v7 (v8 + (a299 (v5 + v10).toNatClampNeg)) v10 (0 : Int32) c313_rows a314 a315 i0 i1 i2 i3 i4 i5 (by first | assumption | omega) i7 (by omega) (by omega) (by omega)
set_option maxHeartbeats 1000000 in
set_option maxRecDepth 10000 in
theorem t237_X6_addLast_h2_g23 (fu : Nat) (hfu : 1000000000000 ≤ fu) (c248_groups : Int32) (c248_pots : Int32) (a263 : Nat → Int32) (a283 : Nat → Int32) (a293 : Nat → Int32) (a299 : Nat → Int64) (p0 : c248_groups.toInt ≤ 2) (p1 : 2 ≤ c248_groups.toInt) (p2 : c248_pots.toInt ≤ 3) (p3 : 3 ≤ c248_pots.toInt) (p4 : 1 ≤ c248_pots.toInt) (hr_a263 : dz_rq a263 2 2 0 1) (hr_a283 : dz_pm a283 3) (hr_a293 : dz_rg a293 2 0 1) (k : Nat) (ih : ∀ j9, j9 < k → p237_X6_addLast_g23 fu c248_groups c248_pots a263 a283 a293 a299 j9) : ∀ (v3 : Int64) (v5 : Int32) (v6 : Int32) (v7 : Int32) (v8 : Int64) (v10 : Int32) (v11 : Int32) (c313_rows : Int64) (a314 : Nat → Int64) (a315 : Nat → Int64), v5.toInt ≤ 1024 → 0 ≤ v5.toInt → v6.toInt ≤ 2 → 2 ≤ v6.toInt → v7.toInt ≤ 4 → 0 ≤ v7.toInt → v10.toInt ≤ 1 → 0 ≤ v10.toInt → v11.toInt ≤ 2 → 0 ≤ v11.toInt → 0 + 0 + ((2 - v10.toInt) - 1) * 296 + 0 + (2 - v11.toInt) * 88 + 16 ≤ ((k : Nat) : Int) → dz_T ((F237_X6_addLast fu c248_groups c248_pots a263 a283 a293 a299 k).2.1 v3 v5 v6 v7 v8 v10 v11 c313_rows a314 a315) (fun r => True) := by
  intro v3 v5 v6 v7 v8 v10 v11 c313_rows a314 a315 i0 i1 i2 i3 i4 i5 i6 i7 i8 i9 hm
  obtain ⟨k0, rfl⟩ : ∃ x, k = x + 1 := ⟨k - 1, by omega⟩
  show dz_T (s237_X6_addLast_2 fu c248_groups c248_pots a263 a283 a293 a299 (F237_X6_addLast fu c248_groups c248_pots a263 a283 a293 a299 k0).1 (F237_X6_addLast fu c248_groups c248_pots a263 a283 a293 a299 k0).2.2.1 (F237_X6_addLast fu c248_groups c248_pots a263 a283 a293 a299 k0).2.2.2  v3 v5 v6 v7 v8 v10 v11 c313_rows a314 a315) _
  unfold s237_X6_addLast_2
  refine dz_Tle (fun h1 => ?_) (fun h1 => ?_)
  · skip
    have e2 := dz_l1
    have e3 := dz_add (a := v10) (b := (1 : Int32)) (by omega) (by omega)
    exact (ih k0 (by omega)).1 v3 v5 v6 v7 v8 (v10 + (1 : Int32)) c313_rows a314 a315 i0 i1 i2 i3 i4 i5 (by omega) (by omega) (by omega)
  · skip
    have e4 := dz_l4
    have e5 := dz_mulr (a := v11) (b := (4 : Int32)) 4 (by omega) (by omega) (by omega)
    have e6 := dz_add (a := v5) (b := (v11 * (4 : Int32))) (by omega) (by omega)
    have e7 := dz_add (a := (v5 + (v11 * (4 : Int32)))) (b := v10) (by omega) (by omega)
    refine dz_Tin (by omega) (by omega) ?_
    have e8 := dz_l0
    refine dz_Teq (fun h9 => ?_) (fun h9 => ?_)
    · skip
      obtain ⟨k1, rfl⟩ : ∃ x, k0 = x + 1 := ⟨k0 - 1, by omega⟩
      show dz_T (s237_X6_addLast_3 fu c248_groups c248_pots a263 a283 a293 a299 (F237_X6_addLast fu c248_groups c248_pots a263 a283 a293 a299 k1).2.1 v3 v5 v6 v7 v8 v10 v11 c313_rows a314 a315) _
      unfold s237_X6_addLast_3
      have e10 := dz_l1
      have e11 := dz_add (a := v11) (b := (1 : Int32)) (by omega) (by omega)
      exact (ih k1 (by omega)).2.1 v3 v5 v6 v7 v8 v10 (v11 + (1 : Int32)) c313_rows a314 a315 i0 i1 i2 i3 i4 i5 i6 i7 (by omega) (by omega) (by omega)
    · skip
      have e12 := dz_add (a := v7) (b := v11) (by omega) (by omega)
      have e13 := dz_mulr (a := (v7 + v11)) (b := (4 : Int32)) 4 (by omega) (by omega) (by omega)
      have e14 := dz_add (a := ((v7 + v11) * (4 : Int32))) (b := v10) (by omega) (by omega)
      refine dz_Tin (by omega) (by omega) ?_
      refine dz_Tin (by omega) (by omega) ?_
      exact (ih k0 (by omega)).2.2 v3 v5 v6 v7 v8 v10 v11 (v3 * (a299 ((v5 + (v11 * (4 : Int32))) + v10).toNatClampNeg)) (0 : Int32) c313_rows a314 (vp_updL a315 (((v7 + v11) * (4 : Int32)) + v10).toNatClampNeg ((a315 (((v7 + v11) * (4 : Int32)) + v10).toNatClampNeg) + (v3 * (a299 ((v5 + (v11 * (4 : Int32))) + v10).toNatClampNeg)))) i0 i1 i2 i3 i4 i5 i6 i7 (by first | assumption | omega) i9 (by omega) (by omega) (by omega)
set_option maxHeartbeats 1000000 in
set_option maxRecDepth 10000 in
theorem t237_X6_addLast_h4_g23 (fu : Nat) (hfu : 1000000000000 ≤ fu) (c248_groups : Int32) (c248_pots : Int32) (a263 : Nat → Int32) (a283 : Nat → Int32) (a293 : Nat → Int32) (a299 : Nat → Int64) (p0 : c248_groups.toInt ≤ 2) (p1 : 2 ≤ c248_groups.toInt) (p2 : c248_pots.toInt ≤ 3) (p3 : 3 ≤ c248_pots.toInt) (p4 : 1 ≤ c248_pots.toInt) (hr_a263 : dz_rq a263 2 2 0 1) (hr_a283 : dz_pm a283 3) (hr_a293 : dz_rg a293 2 0 1) (k : Nat) (ih : ∀ j9, j9 < k → p237_X6_addLast_g23 fu c248_groups c248_pots a263 a283 a293 a299 j9) : ∀ (v3 : Int64) (v5 : Int32) (v6 : Int32) (v7 : Int32) (v8 : Int64) (v10 : Int32) (v11 : Int32) (v12 : Int64) (v14 : Int32) (c313_rows : Int64) (a314 : Nat → Int64) (a315 : Nat → Int64), v5.toInt ≤ 1024 → 0 ≤ v5.toInt → v6.toInt ≤ 2 → 2 ≤ v6.toInt → v7.toInt ≤ 4 → 0 ≤ v7.toInt → v10.toInt ≤ 1 → 0 ≤ v10.toInt → v11.toInt ≤ 1 → 0 ≤ v11.toInt → v14.toInt ≤ 2 → 0 ≤ v14.toInt → 0 + 0 + ((2 - v10.toInt) - 1) * 296 + 0 + ((2 - v11.toInt) - 1) * 88 + 0 + (2 - v14.toInt) * 16 + 24 ≤ ((k : Nat) : Int) → dz_T ((F237_X6_addLast fu c248_groups c248_pots a263 a283 a293 a299 k).2.2.2 v3 v5 v6 v7 v8 v10 v11 v12 v14 c313_rows a314 a315) (fun r => True) := by
  intro v3 v5 v6 v7 v8 v10 v11 v12 v14 c313_rows a314 a315 i0 i1 i2 i3 i4 i5 i6 i7 i8 i9 i10 i11 hm
  obtain ⟨k0, rfl⟩ : ∃ x, k = x + 1 := ⟨k - 1, by omega⟩
  show dz_T (s237_X6_addLast_4 fu c248_groups c248_pots a263 a283 a293 a299 (F237_X6_addLast fu c248_groups c248_pots a263 a283 a293 a299 k0).2.2.1 (F237_X6_addLast fu c248_groups c248_pots a263 a283 a293 a299 k0).2.2.2  v3 v5 v6 v7 v8 v10 v11 v12 v14 c313_rows a314 a315) _
  unfold s237_X6_addLast_4
  refine dz_Tle (fun h1 => ?_) (fun h1 => ?_)
  · skip
    obtain ⟨k1, rfl⟩ : ∃ x, k0 = x + 1 := ⟨k0 - 1, by omega⟩
    show dz_T (s237_X6_addLast_3 fu c248_groups c248_pots a263 a283 a293 a299 (F237_X6_addLast fu c248_groups c248_pots a263 a283 a293 a299 k1).2.1 v3 v5 v6 v7 v8 v10 v11 c313_rows a314 a315) _
    unfold s237_X6_addLast_3
    have e2 := dz_l1
    have e3 := dz_add (a := v11) (b := (1 : Int32)) (by omega) (by omega)
    exact (ih k1 (by omega)).2.1 v3 v5 v6 v7 v8 v10 (v11 + (1 : Int32)) c313_rows a314 a315 i0 i1 i2 i3 i4 i5 i6 i7 (by omega) (by omega) (by omega)
  · skip
    refine dz_Tin (by omega) (by omega) ?_
    have e4 := dz_rgat (hr_a293) (i := v14) (by omega) (by omega)
    have e5 := dz_l4
    have e6 := dz_mulr (a := (a293 v14.toNatClampNeg)) (b := (4 : Int32)) 4 (by omega) (by omega) (by omega)
    have e7 := dz_add (a := ((a293 v14.toNatClampNeg) * (4 : Int32))) (b := v10) (by omega) (by omega)
    refine dz_Tin (by omega) (by omega) ?_
    refine dz_Tin (by omega) (by omega) ?_
    have e8 := dz_pmat (hr_a283) (i := v14) (by decide) (by omega) (by omega)
    have e9 := dz_mulr (a := (a283 v14.toNatClampNeg)) (b := c248_groups) 2 (by omega) (by omega) (by omega)
    have e10 := dz_rqat (hr_a263) (x := (a293 v14.toNatClampNeg)) (y := v10) (by omega) (by omega) (by omega) (by omega) (by omega)
    have e11 := dz_add (a := ((a283 v14.toNatClampNeg) * c248_groups)) (b := (a263 (((a293 v14.toNatClampNeg) * (4 : Int32)) + v10).toNatClampNeg)) (by omega) (by omega)
    have e12 := dz_l12
    have e13 := dz_mulr (a := (((a283 v14.toNatClampNeg) * c248_groups) + (a263 (((a293 v14.toNatClampNeg) * (4 : Int32)) + v10).toNatClampNeg))) (b := (12 : Int32)) 12 (by omega) (by omega) (by omega)
    have e14 := dz_add (a := ((((a283 v14.toNatClampNeg) * c248_groups) + (a263 (((a293 v14.toNatClampNeg) * (4 : Int32)) + v10).toNatClampNeg)) * (12 : Int32))) (b := v7) (by omega) (by omega)
    have e15 := dz_add (a := (((((a283 v14.toNatClampNeg) * c248_groups) + (a263 (((a293 v14.toNatClampNeg) * (4 : Int32)) + v10).toNatClampNeg)) * (12 : Int32)) + v7)) (b := v11) (by omega) (by omega)
    refine dz_Tin (by omega) (by omega) ?_
    refine dz_Tin (by omega) (by omega) ?_
    have e16 := dz_l1
    have e17 := dz_add (a := v14) (b := (1 : Int32)) (by omega) (by omega)
    exact (ih k0 (by omega)).2.2 v3 v5 v6 v7 v8 v10 v11 v12 (v14 + (1 : Int32)) c313_rows (vp_updL a314 ((((((a283 v14.toNatClampNeg) * c248_groups) + (a263 (((a293 v14.toNatClampNeg) * (4 : Int32)) + v10).toNatClampNeg)) * (12 : Int32)) + v7) + v11).toNatClampNeg ((a314 ((((((a283 v14.toNatClampNeg) * c248_groups) + (a263 (((a293 v14.toNatClampNeg) * (4 : Int32)) + v10).toNatClampNeg)) * (12 : Int32)) + v7) + v11).toNatClampNeg) + v12)) a315 i0 i1 i2 i3 i4 i5 i6 i7 i8 i9 (by omega) (by omega) (by omega)
theorem t237_X6_addLast_I_g23 (fu : Nat) (hfu : 1000000000000 ≤ fu) (c248_groups : Int32) (c248_pots : Int32) (a263 : Nat → Int32) (a283 : Nat → Int32) (a293 : Nat → Int32) (a299 : Nat → Int64) (p0 : c248_groups.toInt ≤ 2) (p1 : 2 ≤ c248_groups.toInt) (p2 : c248_pots.toInt ≤ 3) (p3 : 3 ≤ c248_pots.toInt) (p4 : 1 ≤ c248_pots.toInt) (hr_a263 : dz_rq a263 2 2 0 1) (hr_a283 : dz_pm a283 3) (hr_a293 : dz_rg a293 2 0 1) (k : Nat) : p237_X6_addLast_g23 fu c248_groups c248_pots a263 a283 a293 a299 k := by
  induction k using Nat.strongRecOn with
  | _ k ih => exact ⟨t237_X6_addLast_h1_g23 fu hfu c248_groups c248_pots a263 a283 a293 a299 p0 p1 p2 p3 p4 hr_a263 hr_a283 hr_a293 k ih, t237_X6_addLast_h2_g23 fu hfu c248_groups c248_pots a263 a283 a293 a299 p0 p1 p2 p3 p4 hr_a263 hr_a283 hr_a293 k ih, t237_X6_addLast_h4_g23 fu hfu c248_groups c248_pots a263 a283 a293 a299 p0 p1 p2 p3 p4 hr_a263 hr_a283 hr_a293 k ih⟩
set_option maxHeartbeats 1000000 in
set_option maxRecDepth 10000 in
theorem t237_X6_addLast_E_g23 (fu : Nat) (hfu : 1000000000000 ≤ fu) (c248_groups : Int32) (c248_pots : Int32) (a263 : Nat → Int32) (a283 : Nat → Int32) (a293 : Nat → Int32) (a299 : Nat → Int64) (v3 : Int64) (v5 : Int32) (c313_rows : Int64) (a314 : Nat → Int64) (a315 : Nat → Int64) (p0 : c248_groups.toInt ≤ 2) (p1 : 2 ≤ c248_groups.toInt) (p2 : c248_pots.toInt ≤ 3) (p3 : 3 ≤ c248_pots.toInt) (p4 : 0 ≤ v5.toInt) (p5 : v5.toInt ≤ 1024) (p6 : 1 ≤ c248_pots.toInt) (hr_a263 : dz_rq a263 2 2 0 1) (hr_a283 : dz_pm a283 3) (hr_a293 : dz_rg a293 2 0 1) (kv : Nat) (hkv : 1000000000000 ≤ kv) : dz_T (s237_X6_addLast_0 fu c248_groups c248_pots a263 a283 a293 a299 (F237_X6_addLast fu c248_groups c248_pots a263 a283 a293 a299 kv).1  v3 v5 c313_rows a314 a315) (fun r => True) := by
  unfold s237_X6_addLast_0
  have e1 := dz_l1
  have e2 := dz_sub (a := c248_pots) (b := (1 : Int32)) (by omega) (by omega)
  refine dz_Tin (by omega) (by omega) ?_
  have e3 := dz_pmat (hr_a283) (i := (c248_pots - (1 : Int32))) (by decide) (by omega) (by omega)
  have e4 := dz_mulr (a := (a283 (c248_pots - (1 : Int32)).toNatClampNeg)) (b := c248_groups) 2 (by omega) (by omega) (by omega)
  have e5 := dz_l0
  exact (t237_X6_addLast_I_g23 fu hfu c248_groups c248_pots a263 a283 a293 a299 p0 p1 p2 p3 p6 hr_a263 hr_a283 hr_a293 kv).1 v3 v5 (c248_pots - (1 : Int32)) ((a283 (c248_pots - (1 : Int32)).toNatClampNeg) * c248_groups) (0 : Int64) (0 : Int32) c313_rows a314 a315 p5 p4 (by omega) (by omega) (by omega) (by omega) (by omega) (by omega) (by omega)
theorem t237_X6_addLast_g23 (fu : Nat) (hfu : 1000000000000 ≤ fu) (c248_groups : Int32) (c248_pots : Int32) (a263 : Nat → Int32) (a283 : Nat → Int32) (a293 : Nat → Int32) (a299 : Nat → Int64) (v3 : Int64) (v5 : Int32) (c313_rows : Int64) (a314 : Nat → Int64) (a315 : Nat → Int64) (p0 : c248_groups.toInt ≤ 2) (p1 : 2 ≤ c248_groups.toInt) (p2 : c248_pots.toInt ≤ 3) (p3 : 3 ≤ c248_pots.toInt) (p4 : 0 ≤ v5.toInt) (p5 : v5.toInt ≤ 1024) (p6 : 1 ≤ c248_pots.toInt) (hr_a263 : dz_rq a263 2 2 0 1) (hr_a283 : dz_pm a283 3) (hr_a293 : dz_rg a293 2 0 1) : dz_T (f237_X6_addLast fu c248_groups c248_pots a263 a283 a293 a299 v3 v5 c313_rows a314 a315) (fun r => True) :=
  t237_X6_addLast_E_g23 fu hfu c248_groups c248_pots a263 a283 a293 a299 v3 v5 c313_rows a314 a315 p0 p1 p2 p3 p4 p5 p6 hr_a263 hr_a283 hr_a293 fu hfu
abbrev p237_X6_addLast_g24 (fu : Nat) (c248_groups : Int32) (c248_pots : Int32) (a263 : Nat → Int32) (a283 : Nat → Int32) (a293 : Nat → Int32) (a299 : Nat → Int64) (k : Nat) : Prop :=
  (∀ (v3 : Int64) (v5 : Int32) (v6 : Int32) (v7 : Int32) (v8 : Int64) (v10 : Int32) (c313_rows : Int64) (a314 : Nat → Int64) (a315 : Nat → Int64), v5.toInt ≤ 1024 → 0 ≤ v5.toInt → v6.toInt ≤ 3 → 3 ≤ v6.toInt → v7.toInt ≤ 6 → 0 ≤ v7.toInt → v10.toInt ≤ 2 → 0 ≤ v10.toInt → 0 + 0 + (2 - v10.toInt) * 344 + 8 ≤ ((k : Nat) : Int) → dz_T ((F237_X6_addLast fu c248_groups c248_pots a263 a283 a293 a299 k).1 v3 v5 v6 v7 v8 v10 c313_rows a314 a315) (fun r => True)) ∧ (∀ (v3 : Int64) (v5 : Int32) (v6 : Int32) (v7 : Int32) (v8 : Int64) (v10 : Int32) (v11 : Int32) (c313_rows : Int64) (a314 : Nat → Int64) (a315 : Nat → Int64), v5.toInt ≤ 1024 → 0 ≤ v5.toInt → v6.toInt ≤ 3 → 3 ≤ v6.toInt → v7.toInt ≤ 6 → 0 ≤ v7.toInt → v10.toInt ≤ 1 → 0 ≤ v10.toInt → v11.toInt ≤ 2 → 0 ≤ v11.toInt → 0 + 0 + ((2 - v10.toInt) - 1) * 344 + 0 + (2 - v11.toInt) * 104 + 16 ≤ ((k : Nat) : Int) → dz_T ((F237_X6_addLast fu c248_groups c248_pots a263 a283 a293 a299 k).2.1 v3 v5 v6 v7 v8 v10 v11 c313_rows a314 a315) (fun r => True)) ∧ (∀ (v3 : Int64) (v5 : Int32) (v6 : Int32) (v7 : Int32) (v8 : Int64) (v10 : Int32) (v11 : Int32) (v12 : Int64) (v14 : Int32) (c313_rows : Int64) (a314 : Nat → Int64) (a315 : Nat → Int64), v5.toInt ≤ 1024 → 0 ≤ v5.toInt → v6.toInt ≤ 3 → 3 ≤ v6.toInt → v7.toInt ≤ 6 → 0 ≤ v7.toInt → v10.toInt ≤ 1 → 0 ≤ v10.toInt → v11.toInt ≤ 1 → 0 ≤ v11.toInt → v14.toInt ≤ 3 → 0 ≤ v14.toInt → 0 + 0 + ((2 - v10.toInt) - 1) * 344 + 0 + ((2 - v11.toInt) - 1) * 104 + 0 + (3 - v14.toInt) * 16 + 24 ≤ ((k : Nat) : Int) → dz_T ((F237_X6_addLast fu c248_groups c248_pots a263 a283 a293 a299 k).2.2.2 v3 v5 v6 v7 v8 v10 v11 v12 v14 c313_rows a314 a315) (fun r => True))
set_option maxHeartbeats 1000000 in
set_option maxRecDepth 10000 in
theorem t237_X6_addLast_h1_g24 (fu : Nat) (hfu : 1000000000000 ≤ fu) (c248_groups : Int32) (c248_pots : Int32) (a263 : Nat → Int32) (a283 : Nat → Int32) (a293 : Nat → Int32) (a299 : Nat → Int64) (p0 : c248_groups.toInt ≤ 2) (p1 : 2 ≤ c248_groups.toInt) (p2 : c248_pots.toInt ≤ 4) (p3 : 4 ≤ c248_pots.toInt) (p4 : 1 ≤ c248_pots.toInt) (hr_a263 : dz_rq a263 2 2 0 1) (hr_a283 : dz_pm a283 4) (hr_a293 : dz_rg a293 3 0 1) (k : Nat) (ih : ∀ j9, j9 < k → p237_X6_addLast_g24 fu c248_groups c248_pots a263 a283 a293 a299 j9) : ∀ (v3 : Int64) (v5 : Int32) (v6 : Int32) (v7 : Int32) (v8 : Int64) (v10 : Int32) (c313_rows : Int64) (a314 : Nat → Int64) (a315 : Nat → Int64), v5.toInt ≤ 1024 → 0 ≤ v5.toInt → v6.toInt ≤ 3 → 3 ≤ v6.toInt → v7.toInt ≤ 6 → 0 ≤ v7.toInt → v10.toInt ≤ 2 → 0 ≤ v10.toInt → 0 + 0 + (2 - v10.toInt) * 344 + 8 ≤ ((k : Nat) : Int) → dz_T ((F237_X6_addLast fu c248_groups c248_pots a263 a283 a293 a299 k).1 v3 v5 v6 v7 v8 v10 c313_rows a314 a315) (fun r => True) := by
  intro v3 v5 v6 v7 v8 v10 c313_rows a314 a315 i0 i1 i2 i3 i4 i5 i6 i7 hm
  obtain ⟨k0, rfl⟩ : ∃ x, k = x + 1 := ⟨k - 1, by omega⟩
  show dz_T (s237_X6_addLast_1 fu c248_groups c248_pots a263 a283 a293 a299 (F237_X6_addLast fu c248_groups c248_pots a263 a283 a293 a299 k0).2.1  v3 v5 v6 v7 v8 v10 c313_rows a314 a315) _
  unfold s237_X6_addLast_1
  refine dz_Tle (fun h1 => ?_) (fun h1 => ?_)
  · skip
    refine dz_Tb (t208_X6_addAhead_g24 fu hfu _ _ _ _ _ _ _ _ _ p0 p1 (by first | assumption | omega) (by first | assumption | omega) (hr_a263) (hr_a283) (dz_rgs (hr_a293) (by omega))) (fun r1 _ => ?_)
    exact dz_Ts trivial
  · skip
    have e2 := dz_add (a := v5) (b := v10) (by omega) (by omega)
    refine dz_Tin (by omega) (by omega) ?_
    have e3 := dz_l0
    exact (ih k0 (by omega)).2.1 v3 v5 v6 v7 (v8 + (a299 (v5 + v10).toNatClampNeg)) v10 (0 : Int32) c313_rows a314 a315 i0 i1 i2 i3 i4 i5 (by first | assumption | omega) i7 (by omega) (by omega) (by omega)
set_option maxHeartbeats 1000000 in
set_option maxRecDepth 10000 in
theorem t237_X6_addLast_h2_g24 (fu : Nat) (hfu : 1000000000000 ≤ fu) (c248_groups : Int32) (c248_pots : Int32) (a263 : Nat → Int32) (a283 : Nat → Int32) (a293 : Nat → Int32) (a299 : Nat → Int64) (p0 : c248_groups.toInt ≤ 2) (p1 : 2 ≤ c248_groups.toInt) (p2 : c248_pots.toInt ≤ 4) (p3 : 4 ≤ c248_pots.toInt) (p4 : 1 ≤ c248_pots.toInt) (hr_a263 : dz_rq a263 2 2 0 1) (hr_a283 : dz_pm a283 4) (hr_a293 : dz_rg a293 3 0 1) (k : Nat) (ih : ∀ j9, j9 < k → p237_X6_addLast_g24 fu c248_groups c248_pots a263 a283 a293 a299 j9) : ∀ (v3 : Int64) (v5 : Int32) (v6 : Int32) (v7 : Int32) (v8 : Int64) (v10 : Int32) (v11 : Int32) (c313_rows : Int64) (a314 : Nat → Int64) (a315 : Nat → Int64), v5.toInt ≤ 1024 → 0 ≤ v5.toInt → v6.toInt ≤ 3 → 3 ≤ v6.toInt → v7.toInt ≤ 6 → 0 ≤ v7.toInt → v10.toInt ≤ 1 → 0 ≤ v10.toInt → v11.toInt ≤ 2 → 0 ≤ v11.toInt → 0 + 0 + ((2 - v10.toInt) - 1) * 344 + 0 + (2 - v11.toInt) * 104 + 16 ≤ ((k : Nat) : Int) → dz_T ((F237_X6_addLast fu c248_groups c248_pots a263 a283 a293 a299 k).2.1 v3 v5 v6 v7 v8 v10 v11 c313_rows a314 a315) (fun r => True) := by
  intro v3 v5 v6 v7 v8 v10 v11 c313_rows a314 a315 i0 i1 i2 i3 i4 i5 i6 i7 i8 i9 hm
  obtain ⟨k0, rfl⟩ : ∃ x, k = x + 1 := ⟨k - 1, by omega⟩
  show dz_T (s237_X6_addLast_2 fu c248_groups c248_pots a263 a283 a293 a299 (F237_X6_addLast fu c248_groups c248_pots a263 a283 a293 a299 k0).1 (F237_X6_addLast fu c248_groups c248_pots a263 a283 a293 a299 k0).2.2.1 (F237_X6_addLast fu c248_groups c248_pots a263 a283 a293 a299 k0).2.2.2  v3 v5 v6 v7 v8 v10 v11 c313_rows a314 a315) _
  unfold s237_X6_addLast_2
  refine dz_Tle (fun h1 => ?_) (fun h1 => ?_)
  · skip
    have e2 := dz_l1
    have e3 := dz_add (a := v10) (b := (1 : Int32)) (by omega) (by omega)
    exact (ih k0 (by omega)).1 v3 v5 v6 v7 v8 (v10 + (1 : Int32)) c313_rows a314 a315 i0 i1 i2 i3 i4 i5 (by omega) (by omega) (by omega)
  · skip
    have e4 := dz_l4
    have e5 := dz_mulr (a := v11) (b := (4 : Int32)) 4 (by omega) (by omega) (by omega)
    have e6 := dz_add (a := v5) (b := (v11 * (4 : Int32))) (by omega) (by omega)
    have e7 := dz_add (a := (v5 + (v11 * (4 : Int32)))) (b := v10) (by omega) (by omega)
    refine dz_Tin (by omega) (by omega) ?_
    have e8 := dz_l0
    refine dz_Teq (fun h9 => ?_) (fun h9 => ?_)
    · skip
      obtain ⟨k1, rfl⟩ : ∃ x, k0 = x + 1 := ⟨k0 - 1, by omega⟩
      show dz_T (s237_X6_addLast_3 fu c248_groups c248_pots a263 a283 a293 a299 (F237_X6_addLast fu c248_groups c248_pots a263 a283 a293 a299 k1).2.1 v3 v5 v6 v7 v8 v10 v11 c313_rows a314 a315) _
      unfold s237_X6_addLast_3
      have e10 := dz_l1
      have e11 := dz_add (a := v11) (b := (1 : Int32)) (by omega) (by omega)
      exact (ih k1 (by omega)).2.1 v3 v5 v6 v7 v8 v10 (v11 + (1 : Int32)) c313_rows a314 a315 i0 i1 i2 i3 i4 i5 i6 i7 (by omega) (by omega) (by omega)
    · skip
      have e12 := dz_add (a := v7) (b := v11) (by omega) (by omega)
      have e13 := dz_mulr (a := (v7 + v11)) (b := (4 : Int32)) 4 (by omega) (by omega) (by omega)
      have e14 := dz_add (a := ((v7 + v11) * (4 : Int32))) (b := v10) (by omega) (by omega)
      refine dz_Tin (by omega) (by omega) ?_
      refine dz_Tin (by omega) (by omega) ?_
      exact (ih k0 (by omega)).2.2 v3 v5 v6 v7 v8 v10 v11 (v3 * (a299 ((v5 + (v11 * (4 : Int32))) + v10).toNatClampNeg)) (0 : Int32) c313_rows a314 (vp_updL a315 (((v7 + v11) * (4 : Int32)) + v10).toNatClampNeg ((a315 (((v7 + v11) * (4 : Int32)) + v10).toNatClampNeg) + (v3 * (a299 ((v5 + (v11 * (4 : Int32))) + v10).toNatClampNeg)))) i0 i1 i2 i3 i4 i5 i6 i7 (by first | assumption | omega) i9 (by omega) (by omega) (by omega)
set_option maxHeartbeats 1000000 in
set_option maxRecDepth 10000 in
theorem t237_X6_addLast_h4_g24 (fu : Nat) (hfu : 1000000000000 ≤ fu) (c248_groups : Int32) (c248_pots : Int32) (a263 : Nat → Int32) (a283 : Nat → Int32) (a293 : Nat → Int32) (a299 : Nat → Int64) (p0 : c248_groups.toInt ≤ 2) (p1 : 2 ≤ c248_groups.toInt) (p2 : c248_pots.toInt ≤ 4) (p3 : 4 ≤ c248_pots.toInt) (p4 : 1 ≤ c248_pots.toInt) (hr_a263 : dz_rq a263 2 2 0 1) (hr_a283 : dz_pm a283 4) (hr_a293 : dz_rg a293 3 0 1) (k : Nat) (ih : ∀ j9, j9 < k → p237_X6_addLast_g24 fu c248_groups c248_pots a263 a283 a293 a299 j9) : ∀ (v3 : Int64) (v5 : Int32) (v6 : Int32) (v7 : Int32) (v8 : Int64) (v10 : Int32) (v11 : Int32) (v12 : Int64) (v14 : Int32) (c313_rows : Int64) (a314 : Nat → Int64) (a315 : Nat → Int64), v5.toInt ≤ 1024 → 0 ≤ v5.toInt → v6.toInt ≤ 3 → 3 ≤ v6.toInt → v7.toInt ≤ 6 → 0 ≤ v7.toInt → v10.toInt ≤ 1 → 0 ≤ v10.toInt → v11.toInt ≤ 1 → 0 ≤ v11.toInt → v14.toInt ≤ 3 → 0 ≤ v14.toInt → 0 + 0 + ((2 - v10.toInt) - 1) * 344 + 0 + ((2 - v11.toInt) - 1) * 104 + 0 + (3 - v14.toInt) * 16 + 24 ≤ ((k : Nat) : Int) → dz_T ((F237_X6_addLast fu c248_groups c248_pots a263 a283 a293 a299 k).2.2.2 v3 v5 v6 v7 v8 v10 v11 v12 v14 c313_rows a314 a315) (fun r => True) := by
  intro v3 v5 v6 v7 v8 v10 v11 v12 v14 c313_rows a314 a315 i0 i1 i2 i3 i4 i5 i6 i7 i8 i9 i10 i11 hm
  obtain ⟨k0, rfl⟩ : ∃ x, k = x + 1 := ⟨k - 1, by omega⟩
  show dz_T (s237_X6_addLast_4 fu c248_groups c248_pots a263 a283 a293 a299 (F237_X6_addLast fu c248_groups c248_pots a263 a283 a293 a299 k0).2.2.1 (F237_X6_addLast fu c248_groups c248_pots a263 a283 a293 a299 k0).2.2.2  v3 v5 v6 v7 v8 v10 v11 v12 v14 c313_rows a314 a315) _
  unfold s237_X6_addLast_4
  refine dz_Tle (fun h1 => ?_) (fun h1 => ?_)
  · skip
    obtain ⟨k1, rfl⟩ : ∃ x, k0 = x + 1 := ⟨k0 - 1, by omega⟩
    show dz_T (s237_X6_addLast_3 fu c248_groups c248_pots a263 a283 a293 a299 (F237_X6_addLast fu c248_groups c248_pots a263 a283 a293 a299 k1).2.1 v3 v5 v6 v7 v8 v10 v11 c313_rows a314 a315) _
    unfold s237_X6_addLast_3
    have e2 := dz_l1
    have e3 := dz_add (a := v11) (b := (1 : Int32)) (by omega) (by omega)
    exact (ih k1 (by omega)).2.1 v3 v5 v6 v7 v8 v10 (v11 + (1 : Int32)) c313_rows a314 a315 i0 i1 i2 i3 i4 i5 i6 i7 (by omega) (by omega) (by omega)
  · skip
    refine dz_Tin (by omega) (by omega) ?_
    have e4 := dz_rgat (hr_a293) (i := v14) (by omega) (by omega)
    have e5 := dz_l4
    have e6 := dz_mulr (a := (a293 v14.toNatClampNeg)) (b := (4 : Int32)) 4 (by omega) (by omega) (by omega)
    have e7 := dz_add (a := ((a293 v14.toNatClampNeg) * (4 : Int32))) (b := v10) (by omega) (by omega)
    refine dz_Tin (by omega) (by omega) ?_
    refine dz_Tin (by omega) (by omega) ?_
    have e8 := dz_pmat (hr_a283) (i := v14) (by decide) (by omega) (by omega)
    have e9 := dz_mulr (a := (a283 v14.toNatClampNeg)) (b := c248_groups) 2 (by omega) (by omega) (by omega)
    have e10 := dz_rqat (hr_a263) (x := (a293 v14.toNatClampNeg)) (y := v10) (by omega) (by omega) (by omega) (by omega) (by omega)
    have e11 := dz_add (a := ((a283 v14.toNatClampNeg) * c248_groups)) (b := (a263 (((a293 v14.toNatClampNeg) * (4 : Int32)) + v10).toNatClampNeg)) (by omega) (by omega)
    have e12 := dz_l12
    have e13 := dz_mulr (a := (((a283 v14.toNatClampNeg) * c248_groups) + (a263 (((a293 v14.toNatClampNeg) * (4 : Int32)) + v10).toNatClampNeg))) (b := (12 : Int32)) 12 (by omega) (by omega) (by omega)
    have e14 := dz_add (a := ((((a283 v14.toNatClampNeg) * c248_groups) + (a263 (((a293 v14.toNatClampNeg) * (4 : Int32)) + v10).toNatClampNeg)) * (12 : Int32))) (b := v7) (by omega) (by omega)
    have e15 := dz_add (a := (((((a283 v14.toNatClampNeg) * c248_groups) + (a263 (((a293 v14.toNatClampNeg) * (4 : Int32)) + v10).toNatClampNeg)) * (12 : Int32)) + v7)) (b := v11) (by omega) (by omega)
    refine dz_Tin (by omega) (by omega) ?_
    refine dz_Tin (by omega) (by omega) ?_
    have e16 := dz_l1
    have e17 := dz_add (a := v14) (b := (1 : Int32)) (by omega) (by omega)
    exact (ih k0 (by omega)).2.2 v3 v5 v6 v7 v8 v10 v11 v12 (v14 + (1 : Int32)) c313_rows (vp_updL a314 ((((((a283 v14.toNatClampNeg) * c248_groups) + (a263 (((a293 v14.toNatClampNeg) * (4 : Int32)) + v10).toNatClampNeg)) * (12 : Int32)) + v7) + v11).toNatClampNeg ((a314 ((((((a283 v14.toNatClampNeg) * c248_groups) + (a263 (((a293 v14.toNatClampNeg) * (4 : Int32)) + v10).toNatClampNeg)) * (12 : Int32)) + v7) + v11).toNatClampNeg) + v12)) a315 i0 i1 i2 i3 i4 i5 i6 i7 i8 i9 (by omega) (by omega) (by omega)
theorem t237_X6_addLast_I_g24 (fu : Nat) (hfu : 1000000000000 ≤ fu) (c248_groups : Int32) (c248_pots : Int32) (a263 : Nat → Int32) (a283 : Nat → Int32) (a293 : Nat → Int32) (a299 : Nat → Int64) (p0 : c248_groups.toInt ≤ 2) (p1 : 2 ≤ c248_groups.toInt) (p2 : c248_pots.toInt ≤ 4) (p3 : 4 ≤ c248_pots.toInt) (p4 : 1 ≤ c248_pots.toInt) (hr_a263 : dz_rq a263 2 2 0 1) (hr_a283 : dz_pm a283 4) (hr_a293 : dz_rg a293 3 0 1) (k : Nat) : p237_X6_addLast_g24 fu c248_groups c248_pots a263 a283 a293 a299 k := by
  induction k using Nat.strongRecOn with
  | _ k ih => exact ⟨t237_X6_addLast_h1_g24 fu hfu c248_groups c248_pots a263 a283 a293 a299 p0 p1 p2 p3 p4 hr_a263 hr_a283 hr_a293 k ih, t237_X6_addLast_h2_g24 fu hfu c248_groups c248_pots a263 a283 a293 a299 p0 p1 p2 p3 p4 hr_a263 hr_a283 hr_a293 k ih, t237_X6_addLast_h4_g24 fu hfu c248_groups c248_pots a263 a283 a293 a299 p0 p1 p2 p3 p4 hr_a263 hr_a283 hr_a293 k ih⟩
set_option maxHeartbeats 1000000 in
set_option maxRecDepth 10000 in
theorem t237_X6_addLast_E_g24 (fu : Nat) (hfu : 1000000000000 ≤ fu) (c248_groups : Int32) (c248_pots : Int32) (a263 : Nat → Int32) (a283 : Nat → Int32) (a293 : Nat → Int32) (a299 : Nat → Int64) (v3 : Int64) (v5 : Int32) (c313_rows : Int64) (a314 : Nat → Int64) (a315 : Nat → Int64) (p0 : c248_groups.toInt ≤ 2) (p1 : 2 ≤ c248_groups.toInt) (p2 : c248_pots.toInt ≤ 4) (p3 : 4 ≤ c248_pots.toInt) (p4 : 0 ≤ v5.toInt) (p5 : v5.toInt ≤ 1024) (p6 : 1 ≤ c248_pots.toInt) (hr_a263 : dz_rq a263 2 2 0 1) (hr_a283 : dz_pm a283 4) (hr_a293 : dz_rg a293 3 0 1) (kv : Nat) (hkv : 1000000000000 ≤ kv) : dz_T (s237_X6_addLast_0 fu c248_groups c248_pots a263 a283 a293 a299 (F237_X6_addLast fu c248_groups c248_pots a263 a283 a293 a299 kv).1  v3 v5 c313_rows a314 a315) (fun r => True) := by
  unfold s237_X6_addLast_0
  have e1 := dz_l1
  have e2 := dz_sub (a := c248_pots) (b := (1 : Int32)) (by omega) (by omega)
  refine dz_Tin (by omega) (by omega) ?_
  have e3 := dz_pmat (hr_a283) (i := (c248_pots - (1 : Int32))) (by decide) (by omega) (by omega)
  have e4 := dz_mulr (a := (a283 (c248_pots - (1 : Int32)).toNatClampNeg)) (b := c248_groups) 2 (by omega) (by omega) (by omega)
  have e5 := dz_l0
  exact (t237_X6_addLast_I_g24 fu hfu c248_groups c248_pots a263 a283 a293 a299 p0 p1 p2 p3 p6 hr_a263 hr_a283 hr_a293 kv).1 v3 v5 (c248_pots - (1 : Int32)) ((a283 (c248_pots - (1 : Int32)).toNatClampNeg) * c248_groups) (0 : Int64) (0 : Int32) c313_rows a314 a315 p5 p4 (by omega) (by omega) (by omega) (by omega) (by omega) (by omega) (by omega)
theorem t237_X6_addLast_g24 (fu : Nat) (hfu : 1000000000000 ≤ fu) (c248_groups : Int32) (c248_pots : Int32) (a263 : Nat → Int32) (a283 : Nat → Int32) (a293 : Nat → Int32) (a299 : Nat → Int64) (v3 : Int64) (v5 : Int32) (c313_rows : Int64) (a314 : Nat → Int64) (a315 : Nat → Int64) (p0 : c248_groups.toInt ≤ 2) (p1 : 2 ≤ c248_groups.toInt) (p2 : c248_pots.toInt ≤ 4) (p3 : 4 ≤ c248_pots.toInt) (p4 : 0 ≤ v5.toInt) (p5 : v5.toInt ≤ 1024) (p6 : 1 ≤ c248_pots.toInt) (hr_a263 : dz_rq a263 2 2 0 1) (hr_a283 : dz_pm a283 4) (hr_a293 : dz_rg a293 3 0 1) : dz_T (f237_X6_addLast fu c248_groups c248_pots a263 a283 a293 a299 v3 v5 c313_rows a314 a315) (fun r => True) :=
  t237_X6_addLast_E_g24 fu hfu c248_groups c248_pots a263 a283 a293 a299 v3 v5 c313_rows a314 a315 p0 p1 p2 p3 p4 p5 p6 hr_a263 hr_a283 hr_a293 fu hfu
abbrev p237_X6_addLast_g31 (fu : Nat) (c248_groups : Int32) (c248_pots : Int32) (a263 : Nat → Int32) (a283 : Nat → Int32) (a293 : Nat → Int32) (a299 : Nat → Int64) (k : Nat) : Prop :=
  (∀ (v3 : Int64) (v5 : Int32) (v6 : Int32) (v7 : Int32) (v8 : Int64) (v10 : Int32) (c313_rows : Int64) (a314 : Nat → Int64) (a315 : Nat → Int64), v5.toInt ≤ 1024 → 0 ≤ v5.toInt → v6.toInt ≤ 0 → 0 ≤ v6.toInt → v7.toInt ≤ 0 → 0 ≤ v7.toInt → v10.toInt ≤ 3 → 0 ≤ v10.toInt → 0 + 0 + (3 - v10.toInt) * 256 + 8 ≤ ((k : Nat) : Int) → dz_T ((F237_X6_addLast fu c248_groups c248_pots a263 a283 a293 a299 k).1 v3 v5 v6 v7 v8 v10 c313_rows a314 a315) (fun r => True)) ∧ (∀ (v3 : Int64) (v5 : Int32) (v6 : Int32) (v7 : Int32) (v8 : Int64) (v10 : Int32) (v11 : Int32) (c313_rows : Int64) (a314 : Nat → Int64) (a315 : Nat → Int64), v5.toInt ≤ 1024 → 0 ≤ v5.toInt → v6.toInt ≤ 0 → 0 ≤ v6.toInt → v7.toInt ≤ 0 → 0 ≤ v7.toInt → v10.toInt ≤ 2 → 0 ≤ v10.toInt → v11.toInt ≤ 3 → 0 ≤ v11.toInt → 0 + 0 + ((3 - v10.toInt) - 1) * 256 + 0 + (3 - v11.toInt) * 56 + 16 ≤ ((k : Nat) : Int) → dz_T ((F237_X6_addLast fu c248_groups c248_pots a263 a283 a293 a299 k).2.1 v3 v5 v6 v7 v8 v10 v11 c313_rows a314 a315) (fun r => True)) ∧ (∀ (v3 : Int64) (v5 : Int32) (v6 : Int32) (v7 : Int32) (v8 : Int64) (v10 : Int32) (v11 : Int32) (v12 : Int64) (v14 : Int32) (c313_rows : Int64) (a314 : Nat → Int64) (a315 : Nat → Int64), v5.toInt ≤ 1024 → 0 ≤ v5.toInt → v6.toInt ≤ 0 → 0 ≤ v6.toInt → v7.toInt ≤ 0 → 0 ≤ v7.toInt → v10.toInt ≤ 2 → 0 ≤ v10.toInt → v11.toInt ≤ 2 → 0 ≤ v11.toInt → v14.toInt ≤ 0 → 0 ≤ v14.toInt → 0 + 0 + ((3 - v10.toInt) - 1) * 256 + 0 + ((3 - v11.toInt) - 1) * 56 + 0 + (0 - v14.toInt) * 16 + 24 ≤ ((k : Nat) : Int) → dz_T ((F237_X6_addLast fu c248_groups c248_pots a263 a283 a293 a299 k).2.2.2 v3 v5 v6 v7 v8 v10 v11 v12 v14 c313_rows a314 a315) (fun r => True))
set_option maxHeartbeats 1000000 in
set_option maxRecDepth 10000 in
theorem t237_X6_addLast_h1_g31 (fu : Nat) (hfu : 1000000000000 ≤ fu) (c248_groups : Int32) (c248_pots : Int32) (a263 : Nat → Int32) (a283 : Nat → Int32) (a293 : Nat → Int32) (a299 : Nat → Int64) (p0 : c248_groups.toInt ≤ 3) (p1 : 3 ≤ c248_groups.toInt) (p2 : c248_pots.toInt ≤ 1) (p3 : 1 ≤ c248_pots.toInt) (p4 : 1 ≤ c248_pots.toInt) (hr_a263 : dz_rq a263 6 3 0 2) (hr_a283 : dz_pm a283 1) (hr_a293 : dz_rg a293 0 0 5) (k : Nat) (ih : ∀ j9, j9 < k → p237_X6_addLast_g31 fu c248_groups c248_pots a263 a283 a293 a299 j9) : ∀ (v3 : Int64) (v5 : Int32) (v6 : Int32) (v7 : Int32) (v8 : Int64) (v10 : Int32) (c313_rows : Int64) (a314 : Nat → Int64) (a315 : Nat → Int64), v5.toInt ≤ 1024 → 0 ≤ v5.toInt → v6.toInt ≤ 0 → 0 ≤ v6.toInt → v7.toInt ≤ 0 → 0 ≤ v7.toInt → v10.toInt ≤ 3 → 0 ≤ v10.toInt → 0 + 0 + (3 - v10.toInt) * 256 + 8 ≤ ((k : Nat) : Int) → dz_T ((F237_X6_addLast fu c248_groups c248_pots a263 a283 a293 a299 k).1 v3 v5 v6 v7 v8 v10 c313_rows a314 a315) (fun r => True) := by
  intro v3 v5 v6 v7 v8 v10 c313_rows a314 a315 i0 i1 i2 i3 i4 i5 i6 i7 hm
  obtain ⟨k0, rfl⟩ : ∃ x, k = x + 1 := ⟨k - 1, by omega⟩
  show dz_T (s237_X6_addLast_1 fu c248_groups c248_pots a263 a283 a293 a299 (F237_X6_addLast fu c248_groups c248_pots a263 a283 a293 a299 k0).2.1  v3 v5 v6 v7 v8 v10 c313_rows a314 a315) _
  unfold s237_X6_addLast_1
  refine dz_Tle (fun h1 => ?_) (fun h1 => ?_)
  · skip
    refine dz_Tb (t208_X6_addAhead_g31 fu hfu _ _ _ _ _ _ _ _ _ p0 p1 i3 (by first | assumption | omega) (hr_a263) (hr_a283) (dz_rgz (by omega))) (fun r1 _ => ?_)
    exact dz_Ts trivial
  · skip
    have e2 := dz_add (a := v5) (b := v10) (by omega) (by omega)
    refine dz_Tin (by omega) (by omega) ?_
    have e3 := dz_l0
    exact (ih k0 (by omega)).2.1 v3 v5 v6 v7 (v8 + (a299 (v5 + v10).toNatClampNeg)) v10 (0 : Int32) c313_rows a314 a315 i0 i1 i2 i3 i4 i5 (by first | assumption | omega) i7 (by omega) (by omega) (by omega)
set_option maxHeartbeats 1000000 in
set_option maxRecDepth 10000 in
theorem t237_X6_addLast_h2_g31 (fu : Nat) (hfu : 1000000000000 ≤ fu) (c248_groups : Int32) (c248_pots : Int32) (a263 : Nat → Int32) (a283 : Nat → Int32) (a293 : Nat → Int32) (a299 : Nat → Int64) (p0 : c248_groups.toInt ≤ 3) (p1 : 3 ≤ c248_groups.toInt) (p2 : c248_pots.toInt ≤ 1) (p3 : 1 ≤ c248_pots.toInt) (p4 : 1 ≤ c248_pots.toInt) (hr_a263 : dz_rq a263 6 3 0 2) (hr_a283 : dz_pm a283 1) (hr_a293 : dz_rg a293 0 0 5) (k : Nat) (ih : ∀ j9, j9 < k → p237_X6_addLast_g31 fu c248_groups c248_pots a263 a283 a293 a299 j9) : ∀ (v3 : Int64) (v5 : Int32) (v6 : Int32) (v7 : Int32) (v8 : Int64) (v10 : Int32) (v11 : Int32) (c313_rows : Int64) (a314 : Nat → Int64) (a315 : Nat → Int64), v5.toInt ≤ 1024 → 0 ≤ v5.toInt → v6.toInt ≤ 0 → 0 ≤ v6.toInt → v7.toInt ≤ 0 → 0 ≤ v7.toInt → v10.toInt ≤ 2 → 0 ≤ v10.toInt → v11.toInt ≤ 3 → 0 ≤ v11.toInt → 0 + 0 + ((3 - v10.toInt) - 1) * 256 + 0 + (3 - v11.toInt) * 56 + 16 ≤ ((k : Nat) : Int) → dz_T ((F237_X6_addLast fu c248_groups c248_pots a263 a283 a293 a299 k).2.1 v3 v5 v6 v7 v8 v10 v11 c313_rows a314 a315) (fun r => True) := by
  intro v3 v5 v6 v7 v8 v10 v11 c313_rows a314 a315 i0 i1 i2 i3 i4 i5 i6 i7 i8 i9 hm
  obtain ⟨k0, rfl⟩ : ∃ x, k = x + 1 := ⟨k - 1, by omega⟩
  show dz_T (s237_X6_addLast_2 fu c248_groups c248_pots a263 a283 a293 a299 (F237_X6_addLast fu c248_groups c248_pots a263 a283 a293 a299 k0).1 (F237_X6_addLast fu c248_groups c248_pots a263 a283 a293 a299 k0).2.2.1 (F237_X6_addLast fu c248_groups c248_pots a263 a283 a293 a299 k0).2.2.2  v3 v5 v6 v7 v8 v10 v11 c313_rows a314 a315) _
  unfold s237_X6_addLast_2
  refine dz_Tle (fun h1 => ?_) (fun h1 => ?_)
  · skip
    have e2 := dz_l1
    have e3 := dz_add (a := v10) (b := (1 : Int32)) (by omega) (by omega)
    exact (ih k0 (by omega)).1 v3 v5 v6 v7 v8 (v10 + (1 : Int32)) c313_rows a314 a315 i0 i1 i2 i3 i4 i5 (by omega) (by omega) (by omega)
  · skip
    have e4 := dz_l4
    have e5 := dz_mulr (a := v11) (b := (4 : Int32)) 4 (by omega) (by omega) (by omega)
    have e6 := dz_add (a := v5) (b := (v11 * (4 : Int32))) (by omega) (by omega)
    have e7 := dz_add (a := (v5 + (v11 * (4 : Int32)))) (b := v10) (by omega) (by omega)
    refine dz_Tin (by omega) (by omega) ?_
    have e8 := dz_l0
    refine dz_Teq (fun h9 => ?_) (fun h9 => ?_)
    · skip
      obtain ⟨k1, rfl⟩ : ∃ x, k0 = x + 1 := ⟨k0 - 1, by omega⟩
      show dz_T (s237_X6_addLast_3 fu c248_groups c248_pots a263 a283 a293 a299 (F237_X6_addLast fu c248_groups c248_pots a263 a283 a293 a299 k1).2.1 v3 v5 v6 v7 v8 v10 v11 c313_rows a314 a315) _
      unfold s237_X6_addLast_3
      have e10 := dz_l1
      have e11 := dz_add (a := v11) (b := (1 : Int32)) (by omega) (by omega)
      exact (ih k1 (by omega)).2.1 v3 v5 v6 v7 v8 v10 (v11 + (1 : Int32)) c313_rows a314 a315 i0 i1 i2 i3 i4 i5 i6 i7 (by omega) (by omega) (by omega)
    · skip
      have e12 := dz_add (a := v7) (b := v11) (by omega) (by omega)
      have e13 := dz_mulr (a := (v7 + v11)) (b := (4 : Int32)) 4 (by omega) (by omega) (by omega)
      have e14 := dz_add (a := ((v7 + v11) * (4 : Int32))) (b := v10) (by omega) (by omega)
      refine dz_Tin (by omega) (by omega) ?_
      refine dz_Tin (by omega) (by omega) ?_
      exact (ih k0 (by omega)).2.2 v3 v5 v6 v7 v8 v10 v11 (v3 * (a299 ((v5 + (v11 * (4 : Int32))) + v10).toNatClampNeg)) (0 : Int32) c313_rows a314 (vp_updL a315 (((v7 + v11) * (4 : Int32)) + v10).toNatClampNeg ((a315 (((v7 + v11) * (4 : Int32)) + v10).toNatClampNeg) + (v3 * (a299 ((v5 + (v11 * (4 : Int32))) + v10).toNatClampNeg)))) i0 i1 i2 i3 i4 i5 i6 i7 (by first | assumption | omega) i9 (by omega) (by omega) (by omega)
set_option maxHeartbeats 1000000 in
set_option maxRecDepth 10000 in
theorem t237_X6_addLast_h4_g31 (fu : Nat) (hfu : 1000000000000 ≤ fu) (c248_groups : Int32) (c248_pots : Int32) (a263 : Nat → Int32) (a283 : Nat → Int32) (a293 : Nat → Int32) (a299 : Nat → Int64) (p0 : c248_groups.toInt ≤ 3) (p1 : 3 ≤ c248_groups.toInt) (p2 : c248_pots.toInt ≤ 1) (p3 : 1 ≤ c248_pots.toInt) (p4 : 1 ≤ c248_pots.toInt) (hr_a263 : dz_rq a263 6 3 0 2) (hr_a283 : dz_pm a283 1) (hr_a293 : dz_rg a293 0 0 5) (k : Nat) (ih : ∀ j9, j9 < k → p237_X6_addLast_g31 fu c248_groups c248_pots a263 a283 a293 a299 j9) : ∀ (v3 : Int64) (v5 : Int32) (v6 : Int32) (v7 : Int32) (v8 : Int64) (v10 : Int32) (v11 : Int32) (v12 : Int64) (v14 : Int32) (c313_rows : Int64) (a314 : Nat → Int64) (a315 : Nat → Int64), v5.toInt ≤ 1024 → 0 ≤ v5.toInt → v6.toInt ≤ 0 → 0 ≤ v6.toInt → v7.toInt ≤ 0 → 0 ≤ v7.toInt → v10.toInt ≤ 2 → 0 ≤ v10.toInt → v11.toInt ≤ 2 → 0 ≤ v11.toInt → v14.toInt ≤ 0 → 0 ≤ v14.toInt → 0 + 0 + ((3 - v10.toInt) - 1) * 256 + 0 + ((3 - v11.toInt) - 1) * 56 + 0 + (0 - v14.toInt) * 16 + 24 ≤ ((k : Nat) : Int) → dz_T ((F237_X6_addLast fu c248_groups c248_pots a263 a283 a293 a299 k).2.2.2 v3 v5 v6 v7 v8 v10 v11 v12 v14 c313_rows a314 a315) (fun r => True) := by
  intro v3 v5 v6 v7 v8 v10 v11 v12 v14 c313_rows a314 a315 i0 i1 i2 i3 i4 i5 i6 i7 i8 i9 i10 i11 hm
  obtain ⟨k0, rfl⟩ : ∃ x, k = x + 1 := ⟨k - 1, by omega⟩
  show dz_T (s237_X6_addLast_4 fu c248_groups c248_pots a263 a283 a293 a299 (F237_X6_addLast fu c248_groups c248_pots a263 a283 a293 a299 k0).2.2.1 (F237_X6_addLast fu c248_groups c248_pots a263 a283 a293 a299 k0).2.2.2  v3 v5 v6 v7 v8 v10 v11 v12 v14 c313_rows a314 a315) _
  unfold s237_X6_addLast_4
  refine dz_Tle (fun h1 => ?_) (fun h1 => ?_)
  · skip
    obtain ⟨k1, rfl⟩ : ∃ x, k0 = x + 1 := ⟨k0 - 1, by omega⟩
    show dz_T (s237_X6_addLast_3 fu c248_groups c248_pots a263 a283 a293 a299 (F237_X6_addLast fu c248_groups c248_pots a263 a283 a293 a299 k1).2.1 v3 v5 v6 v7 v8 v10 v11 c313_rows a314 a315) _
    unfold s237_X6_addLast_3
    have e2 := dz_l1
    have e3 := dz_add (a := v11) (b := (1 : Int32)) (by omega) (by omega)
    exact (ih k1 (by omega)).2.1 v3 v5 v6 v7 v8 v10 (v11 + (1 : Int32)) c313_rows a314 a315 i0 i1 i2 i3 i4 i5 i6 i7 (by omega) (by omega) (by omega)
  · skip
    exfalso; omega
theorem t237_X6_addLast_I_g31 (fu : Nat) (hfu : 1000000000000 ≤ fu) (c248_groups : Int32) (c248_pots : Int32) (a263 : Nat → Int32) (a283 : Nat → Int32) (a293 : Nat → Int32) (a299 : Nat → Int64) (p0 : c248_groups.toInt ≤ 3) (p1 : 3 ≤ c248_groups.toInt) (p2 : c248_pots.toInt ≤ 1) (p3 : 1 ≤ c248_pots.toInt) (p4 : 1 ≤ c248_pots.toInt) (hr_a263 : dz_rq a263 6 3 0 2) (hr_a283 : dz_pm a283 1) (hr_a293 : dz_rg a293 0 0 5) (k : Nat) : p237_X6_addLast_g31 fu c248_groups c248_pots a263 a283 a293 a299 k := by
  induction k using Nat.strongRecOn with
  | _ k ih => exact ⟨t237_X6_addLast_h1_g31 fu hfu c248_groups c248_pots a263 a283 a293 a299 p0 p1 p2 p3 p4 hr_a263 hr_a283 hr_a293 k ih, t237_X6_addLast_h2_g31 fu hfu c248_groups c248_pots a263 a283 a293 a299 p0 p1 p2 p3 p4 hr_a263 hr_a283 hr_a293 k ih, t237_X6_addLast_h4_g31 fu hfu c248_groups c248_pots a263 a283 a293 a299 p0 p1 p2 p3 p4 hr_a263 hr_a283 hr_a293 k ih⟩
set_option maxHeartbeats 1000000 in
set_option maxRecDepth 10000 in
theorem t237_X6_addLast_E_g31 (fu : Nat) (hfu : 1000000000000 ≤ fu) (c248_groups : Int32) (c248_pots : Int32) (a263 : Nat → Int32) (a283 : Nat → Int32) (a293 : Nat → Int32) (a299 : Nat → Int64) (v3 : Int64) (v5 : Int32) (c313_rows : Int64) (a314 : Nat → Int64) (a315 : Nat → Int64) (p0 : c248_groups.toInt ≤ 3) (p1 : 3 ≤ c248_groups.toInt) (p2 : c248_pots.toInt ≤ 1) (p3 : 1 ≤ c248_pots.toInt) (p4 : 0 ≤ v5.toInt) (p5 : v5.toInt ≤ 1024) (p6 : 1 ≤ c248_pots.toInt) (hr_a263 : dz_rq a263 6 3 0 2) (hr_a283 : dz_pm a283 1) (hr_a293 : dz_rg a293 0 0 5) (kv : Nat) (hkv : 1000000000000 ≤ kv) : dz_T (s237_X6_addLast_0 fu c248_groups c248_pots a263 a283 a293 a299 (F237_X6_addLast fu c248_groups c248_pots a263 a283 a293 a299 kv).1  v3 v5 c313_rows a314 a315) (fun r => True) := by
  unfold s237_X6_addLast_0
  have e1 := dz_l1
  have e2 := dz_sub (a := c248_pots) (b := (1 : Int32)) (by omega) (by omega)
  refine dz_Tin (by omega) (by omega) ?_
  have e3 := dz_pmat (hr_a283) (i := (c248_pots - (1 : Int32))) (by decide) (by omega) (by omega)
  have e4 := dz_mull (a := (a283 (c248_pots - (1 : Int32)).toNatClampNeg)) (b := c248_groups) 0 (by omega) (by omega) (by omega)
  have e5 := dz_l0
  exact (t237_X6_addLast_I_g31 fu hfu c248_groups c248_pots a263 a283 a293 a299 p0 p1 p2 p3 p6 hr_a263 hr_a283 hr_a293 kv).1 v3 v5 (c248_pots - (1 : Int32)) ((a283 (c248_pots - (1 : Int32)).toNatClampNeg) * c248_groups) (0 : Int64) (0 : Int32) c313_rows a314 a315 p5 p4 (by omega) (by omega) (by omega) (by omega) (by omega) (by omega) (by omega)
theorem t237_X6_addLast_g31 (fu : Nat) (hfu : 1000000000000 ≤ fu) (c248_groups : Int32) (c248_pots : Int32) (a263 : Nat → Int32) (a283 : Nat → Int32) (a293 : Nat → Int32) (a299 : Nat → Int64) (v3 : Int64) (v5 : Int32) (c313_rows : Int64) (a314 : Nat → Int64) (a315 : Nat → Int64) (p0 : c248_groups.toInt ≤ 3) (p1 : 3 ≤ c248_groups.toInt) (p2 : c248_pots.toInt ≤ 1) (p3 : 1 ≤ c248_pots.toInt) (p4 : 0 ≤ v5.toInt) (p5 : v5.toInt ≤ 1024) (p6 : 1 ≤ c248_pots.toInt) (hr_a263 : dz_rq a263 6 3 0 2) (hr_a283 : dz_pm a283 1) (hr_a293 : dz_rg a293 0 0 5) : dz_T (f237_X6_addLast fu c248_groups c248_pots a263 a283 a293 a299 v3 v5 c313_rows a314 a315) (fun r => True) :=
  t237_X6_addLast_E_g31 fu hfu c248_groups c248_pots a263 a283 a293 a299 v3 v5 c313_rows a314 a315 p0 p1 p2 p3 p4 p5 p6 hr_a263 hr_a283 hr_a293 fu hfu
abbrev p237_X6_addLast_g32 (fu : Nat) (c248_groups : Int32) (c248_pots : Int32) (a263 : Nat → Int32) (a283 : Nat → Int32) (a293 : Nat → Int32) (a299 : Nat → Int64) (k : Nat) : Prop :=
  (∀ (v3 : Int64) (v5 : Int32) (v6 : Int32) (v7 : Int32) (v8 : Int64) (v10 : Int32) (c313_rows : Int64) (a314 : Nat → Int64) (a315 : Nat → Int64), v5.toInt ≤ 1024 → 0 ≤ v5.toInt → v6.toInt ≤ 1 → 1 ≤ v6.toInt → v7.toInt ≤ 3 → 0 ≤ v7.toInt → v10.toInt ≤ 3 → 0 ≤ v10.toInt → 0 + 0 + (3 - v10.toInt) * 320 + 8 ≤ ((k : Nat) : Int) → dz_T ((F237_X6_addLast fu c248_groups c248_pots a263 a283 a293 a299 k).1 v3 v5 v6 v7 v8 v10 c313_rows a314 a315) (fun r => True)) ∧ (∀ (v3 : Int64) (v5 : Int32) (v6 : Int32) (v7 : Int32) (v8 : Int64) (v10 : Int32) (v11 : Int32) (c313_rows : Int64) (a314 : Nat → Int64) (a315 : Nat → Int64), v5.toInt ≤ 1024 → 0 ≤ v5.toInt → v6.toInt ≤ 1 → 1 ≤ v6.toInt → v7.toInt ≤ 3 → 0 ≤ v7.toInt → v10.toInt ≤ 2 → 0 ≤ v10.toInt → v11.toInt ≤ 3 → 0 ≤ v11.toInt → 0 + 0 + ((3 - v10.toInt) - 1) * 320 + 0 + (3 - v11.toInt) * 72 + 16 ≤ ((k : Nat) : Int) → dz_T ((F237_X6_addLast fu c248_groups c248_pots a263 a283 a293 a299 k).2.1 v3 v5 v6 v7 v8 v10 v11 c313_rows a314 a315) (fun r => True)) ∧ (∀ (v3 : Int64) (v5 : Int32) (v6 : Int32) (v7 : Int32) (v8 : Int64) (v10 : Int32) (v11 : Int32) (v12 : Int64) (v14 : Int32) (c313_rows : Int64) (a314 : Nat → Int64) (a315 : Nat → Int64), v5.toInt ≤ 1024 → 0 ≤ v5.toInt → v6.toInt ≤ 1 → 1 ≤ v6.toInt → v7.toInt ≤ 3 → 0 ≤ v7.toInt → v10.toInt ≤ 2 → 0 ≤ v10.toInt → v11.toInt ≤ 2 → 0 ≤ v11.toInt → v14.toInt ≤ 1 → 0 ≤ v14.toInt → 0 + 0 + ((3 - v10.toInt) - 1) * 320 + 0 + ((3 - v11.toInt) - 1) * 72 + 0 + (1 - v14.toInt) * 16 + 24 ≤ ((k : Nat) : Int) → dz_T ((F237_X6_addLast fu c248_groups c248_pots a263 a283 a293 a299 k).2.2.2 v3 v5 v6 v7 v8 v10 v11 v12 v14 c313_rows a314 a315) (fun r => True))
set_option maxHeartbeats 1000000 in
set_option maxRecDepth 10000 in
theorem t237_X6_addLast_h1_g32 (fu : Nat) (hfu : 1000000000000 ≤ fu) (c248_groups : Int32) (c248_pots : Int32) (a263 : Nat → Int32) (a283 : Nat → Int32) (a293 : Nat → Int32) (a299 : Nat → Int64) (p0 : c248_groups.toInt ≤ 3) (p1 : 3 ≤ c248_groups.toInt) (p2 : c248_pots.toInt ≤ 2) (p3 : 2 ≤ c248_pots.toInt) (p4 : 1 ≤ c248_pots.toInt) (hr_a263 : dz_rq a263 6 3 0 2) (hr_a283 : dz_pm a283 2) (hr_a293 : dz_rg a293 1 0 5) (k : Nat) (ih : ∀ j9, j9 < k → p237_X6_addLast_g32 fu c248_groups c248_pots a263 a283 a293 a299 j9) : ∀ (v3 : Int64) (v5 : Int32) (v6 : Int32) (v7 : Int32) (v8 : Int64) (v10 : Int32) (c313_rows : Int64) (a314 : Nat → Int64) (a315 : Nat → Int64), v5.toInt ≤ 1024 → 0 ≤ v5.toInt → v6.toInt ≤ 1 → 1 ≤ v6.toInt → v7.toInt ≤ 3 → 0 ≤ v7.toInt → v10.toInt ≤ 3 → 0 ≤ v10.toInt → 0 + 0 + (3 - v10.toInt) * 320 + 8 ≤ ((k : Nat) : Int) → dz_T ((F237_X6_addLast fu c248_groups c248_pots a263 a283 a293 a299 k).1 v3 v5 v6 v7 v8 v10 c313_rows a314 a315) (fun r => True) := by
  intro v3 v5 v6 v7 v8 v10 c313_rows a314 a315 i0 i1 i2 i3 i4 i5 i6 i7 hm
  obtain ⟨k0, rfl⟩ : ∃ x, k = x + 1 := ⟨k - 1, by omega⟩
  show dz_T (s237_X6_addLast_1 fu c248_groups c248_pots a263 a283 a293 a299 (F237_X6_addLast fu c248_groups c248_pots a263 a283 a293 a299 k0).2.1  v3 v5 v6 v7 v8 v10 c313_rows a314 a315) _
  unfold s237_X6_addLast_1
  refine dz_Tle (fun h1 => ?_) (fun h1 => ?_)
  · skip
    refine dz_Tb (t208_X6_addAhead_g32 fu hfu _ _ _ _ _ _ _ _ _ p0 p1 (by first | assumption | omega) (by first | assumption | omega) (hr_a263) (hr_a283) (dz_rgs (hr_a293) (by omega))) (fun r1 _ => ?_)
    exact dz_Ts trivial
  · skip
    have e2 := dz_add (a := v5) (b := v10) (by omega) (by omega)
    refine dz_Tin (by omega) (by omega) ?_
    have e3 := dz_l0
    exact (ih k0 (by omega)).2.1 v3 v5 v6 v7 (v8 + (a299 (v5 + v10).toNatClampNeg)) v10 (0 : Int32) c313_rows a314 a315 i0 i1 i2 i3 i4 i5 (by first | assumption | omega) i7 (by omega) (by omega) (by omega)
set_option maxHeartbeats 1000000 in
set_option maxRecDepth 10000 in
theorem t237_X6_addLast_h2_g32 (fu : Nat) (hfu : 1000000000000 ≤ fu) (c248_groups : Int32) (c248_pots : Int32) (a263 : Nat → Int32) (a283 : Nat → Int32) (a293 : Nat → Int32) (a299 : Nat → Int64) (p0 : c248_groups.toInt ≤ 3) (p1 : 3 ≤ c248_groups.toInt) (p2 : c248_pots.toInt ≤ 2) (p3 : 2 ≤ c248_pots.toInt) (p4 : 1 ≤ c248_pots.toInt) (hr_a263 : dz_rq a263 6 3 0 2) (hr_a283 : dz_pm a283 2) (hr_a293 : dz_rg a293 1 0 5) (k : Nat) (ih : ∀ j9, j9 < k → p237_X6_addLast_g32 fu c248_groups c248_pots a263 a283 a293 a299 j9) : ∀ (v3 : Int64) (v5 : Int32) (v6 : Int32) (v7 : Int32) (v8 : Int64) (v10 : Int32) (v11 : Int32) (c313_rows : Int64) (a314 : Nat → Int64) (a315 : Nat → Int64), v5.toInt ≤ 1024 → 0 ≤ v5.toInt → v6.toInt ≤ 1 → 1 ≤ v6.toInt → v7.toInt ≤ 3 → 0 ≤ v7.toInt → v10.toInt ≤ 2 → 0 ≤ v10.toInt → v11.toInt ≤ 3 → 0 ≤ v11.toInt → 0 + 0 + ((3 - v10.toInt) - 1) * 320 + 0 + (3 - v11.toInt) * 72 + 16 ≤ ((k : Nat) : Int) → dz_T ((F237_X6_addLast fu c248_groups c248_pots a263 a283 a293 a299 k).2.1 v3 v5 v6 v7 v8 v10 v11 c313_rows a314 a315) (fun r => True) := by
  intro v3 v5 v6 v7 v8 v10 v11 c313_rows a314 a315 i0 i1 i2 i3 i4 i5 i6 i7 i8 i9 hm
  obtain ⟨k0, rfl⟩ : ∃ x, k = x + 1 := ⟨k - 1, by omega⟩
  show dz_T (s237_X6_addLast_2 fu c248_groups c248_pots a263 a283 a293 a299 (F237_X6_addLast fu c248_groups c248_pots a263 a283 a293 a299 k0).1 (F237_X6_addLast fu c248_groups c248_pots a263 a283 a293 a299 k0).2.2.1 (F237_X6_addLast fu c248_groups c248_pots a263 a283 a293 a299 k0).2.2.2  v3 v5 v6 v7 v8 v10 v11 c313_rows a314 a315) _
  unfold s237_X6_addLast_2
  refine dz_Tle (fun h1 => ?_) (fun h1 => ?_)
  · skip
    have e2 := dz_l1
    have e3 := dz_add (a := v10) (b := (1 : Int32)) (by omega) (by omega)
    exact (ih k0 (by omega)).1 v3 v5 v6 v7 v8 (v10 + (1 : Int32)) c313_rows a314 a315 i0 i1 i2 i3 i4 i5 (by omega) (by omega) (by omega)
  · skip
    have e4 := dz_l4
    have e5 := dz_mulr (a := v11) (b := (4 : Int32)) 4 (by omega) (by omega) (by omega)
    have e6 := dz_add (a := v5) (b := (v11 * (4 : Int32))) (by omega) (by omega)
    have e7 := dz_add (a := (v5 + (v11 * (4 : Int32)))) (b := v10) (by omega) (by omega)
    refine dz_Tin (by omega) (by omega) ?_
    have e8 := dz_l0
    refine dz_Teq (fun h9 => ?_) (fun h9 => ?_)
    · skip
      obtain ⟨k1, rfl⟩ : ∃ x, k0 = x + 1 := ⟨k0 - 1, by omega⟩
      show dz_T (s237_X6_addLast_3 fu c248_groups c248_pots a263 a283 a293 a299 (F237_X6_addLast fu c248_groups c248_pots a263 a283 a293 a299 k1).2.1 v3 v5 v6 v7 v8 v10 v11 c313_rows a314 a315) _
      unfold s237_X6_addLast_3
      have e10 := dz_l1
      have e11 := dz_add (a := v11) (b := (1 : Int32)) (by omega) (by omega)
      exact (ih k1 (by omega)).2.1 v3 v5 v6 v7 v8 v10 (v11 + (1 : Int32)) c313_rows a314 a315 i0 i1 i2 i3 i4 i5 i6 i7 (by omega) (by omega) (by omega)
    · skip
      have e12 := dz_add (a := v7) (b := v11) (by omega) (by omega)
      have e13 := dz_mulr (a := (v7 + v11)) (b := (4 : Int32)) 4 (by omega) (by omega) (by omega)
      have e14 := dz_add (a := ((v7 + v11) * (4 : Int32))) (b := v10) (by omega) (by omega)
      refine dz_Tin (by omega) (by omega) ?_
      refine dz_Tin (by omega) (by omega) ?_
      exact (ih k0 (by omega)).2.2 v3 v5 v6 v7 v8 v10 v11 (v3 * (a299 ((v5 + (v11 * (4 : Int32))) + v10).toNatClampNeg)) (0 : Int32) c313_rows a314 (vp_updL a315 (((v7 + v11) * (4 : Int32)) + v10).toNatClampNeg ((a315 (((v7 + v11) * (4 : Int32)) + v10).toNatClampNeg) + (v3 * (a299 ((v5 + (v11 * (4 : Int32))) + v10).toNatClampNeg)))) i0 i1 i2 i3 i4 i5 i6 i7 (by first | assumption | omega) i9 (by omega) (by omega) (by omega)
set_option maxHeartbeats 1000000 in
set_option maxRecDepth 10000 in
theorem t237_X6_addLast_h4_g32 (fu : Nat) (hfu : 1000000000000 ≤ fu) (c248_groups : Int32) (c248_pots : Int32) (a263 : Nat → Int32) (a283 : Nat → Int32) (a293 : Nat → Int32) (a299 : Nat → Int64) (p0 : c248_groups.toInt ≤ 3) (p1 : 3 ≤ c248_groups.toInt) (p2 : c248_pots.toInt ≤ 2) (p3 : 2 ≤ c248_pots.toInt) (p4 : 1 ≤ c248_pots.toInt) (hr_a263 : dz_rq a263 6 3 0 2) (hr_a283 : dz_pm a283 2) (hr_a293 : dz_rg a293 1 0 5) (k : Nat) (ih : ∀ j9, j9 < k → p237_X6_addLast_g32 fu c248_groups c248_pots a263 a283 a293 a299 j9) : ∀ (v3 : Int64) (v5 : Int32) (v6 : Int32) (v7 : Int32) (v8 : Int64) (v10 : Int32) (v11 : Int32) (v12 : Int64) (v14 : Int32) (c313_rows : Int64) (a314 : Nat → Int64) (a315 : Nat → Int64), v5.toInt ≤ 1024 → 0 ≤ v5.toInt → v6.toInt ≤ 1 → 1 ≤ v6.toInt → v7.toInt ≤ 3 → 0 ≤ v7.toInt → v10.toInt ≤ 2 → 0 ≤ v10.toInt → v11.toInt ≤ 2 → 0 ≤ v11.toInt → v14.toInt ≤ 1 → 0 ≤ v14.toInt → 0 + 0 + ((3 - v10.toInt) - 1) * 320 + 0 + ((3 - v11.toInt) - 1) * 72 + 0 + (1 - v14.toInt) * 16 + 24 ≤ ((k : Nat) : Int) → dz_T ((F237_X6_addLast fu c248_groups c248_pots a263 a283 a293 a299 k).2.2.2 v3 v5 v6 v7 v8 v10 v11 v12 v14 c313_rows a314 a315) (fun r => True) := by
  intro v3 v5 v6 v7 v8 v10 v11 v12 v14 c313_rows a314 a315 i0 i1 i2 i3 i4 i5 i6 i7 i8 i9 i10 i11 hm
  obtain ⟨k0, rfl⟩ : ∃ x, k = x + 1 := ⟨k - 1, by omega⟩
  show dz_T (s237_X6_addLast_4 fu c248_groups c248_pots a263 a283 a293 a299 (F237_X6_addLast fu c248_groups c248_pots a263 a283 a293 a299 k0).2.2.1 (F237_X6_addLast fu c248_groups c248_pots a263 a283 a293 a299 k0).2.2.2  v3 v5 v6 v7 v8 v10 v11 v12 v14 c313_rows a314 a315) _
  unfold s237_X6_addLast_4
  refine dz_Tle (fun h1 => ?_) (fun h1 => ?_)
  · skip
    obtain ⟨k1, rfl⟩ : ∃ x, k0 = x + 1 := ⟨k0 - 1, by omega⟩
    show dz_T (s237_X6_addLast_3 fu c248_groups c248_pots a263 a283 a293 a299 (F237_X6_addLast fu c248_groups c248_pots a263 a283 a293 a299 k1).2.1 v3 v5 v6 v7 v8 v10 v11 c313_rows a314 a315) _
    unfold s237_X6_addLast_3
    have e2 := dz_l1
    have e3 := dz_add (a := v11) (b := (1 : Int32)) (by omega) (by omega)
    exact (ih k1 (by omega)).2.1 v3 v5 v6 v7 v8 v10 (v11 + (1 : Int32)) c313_rows a314 a315 i0 i1 i2 i3 i4 i5 i6 i7 (by omega) (by omega) (by omega)
  · skip
    refine dz_Tin (by omega) (by omega) ?_
    have e4 := dz_rgat (hr_a293) (i := v14) (by omega) (by omega)
    have e5 := dz_l4
    have e6 := dz_mulr (a := (a293 v14.toNatClampNeg)) (b := (4 : Int32)) 4 (by omega) (by omega) (by omega)
    have e7 := dz_add (a := ((a293 v14.toNatClampNeg) * (4 : Int32))) (b := v10) (by omega) (by omega)
    refine dz_Tin (by omega) (by omega) ?_
    refine dz_Tin (by omega) (by omega) ?_
    have e8 := dz_pmat (hr_a283) (i := v14) (by decide) (by omega) (by omega)
    have e9 := dz_mulr (a := (a283 v14.toNatClampNeg)) (b := c248_groups) 3 (by omega) (by omega) (by omega)
    have e10 := dz_rqat (hr_a263) (x := (a293 v14.toNatClampNeg)) (y := v10) (by omega) (by omega) (by omega) (by omega) (by omega)
    have e11 := dz_add (a := ((a283 v14.toNatClampNeg) * c248_groups)) (b := (a263 (((a293 v14.toNatClampNeg) * (4 : Int32)) + v10).toNatClampNeg)) (by omega) (by omega)
    have e12 := dz_l12
    have e13 := dz_mulr (a := (((a283 v14.toNatClampNeg) * c248_groups) + (a263 (((a293 v14.toNatClampNeg) * (4 : Int32)) + v10).toNatClampNeg))) (b := (12 : Int32)) 12 (by omega) (by omega) (by omega)
    have e14 := dz_add (a := ((((a283 v14.toNatClampNeg) * c248_groups) + (a263 (((a293 v14.toNatClampNeg) * (4 : Int32)) + v10).toNatClampNeg)) * (12 : Int32))) (b := v7) (by omega) (by omega)
    have e15 := dz_add (a := (((((a283 v14.toNatClampNeg) * c248_groups) + (a263 (((a293 v14.toNatClampNeg) * (4 : Int32)) + v10).toNatClampNeg)) * (12 : Int32)) + v7)) (b := v11) (by omega) (by omega)
    refine dz_Tin (by omega) (by omega) ?_
    refine dz_Tin (by omega) (by omega) ?_
    have e16 := dz_l1
    have e17 := dz_add (a := v14) (b := (1 : Int32)) (by omega) (by omega)
    exact (ih k0 (by omega)).2.2 v3 v5 v6 v7 v8 v10 v11 v12 (v14 + (1 : Int32)) c313_rows (vp_updL a314 ((((((a283 v14.toNatClampNeg) * c248_groups) + (a263 (((a293 v14.toNatClampNeg) * (4 : Int32)) + v10).toNatClampNeg)) * (12 : Int32)) + v7) + v11).toNatClampNeg ((a314 ((((((a283 v14.toNatClampNeg) * c248_groups) + (a263 (((a293 v14.toNatClampNeg) * (4 : Int32)) + v10).toNatClampNeg)) * (12 : Int32)) + v7) + v11).toNatClampNeg) + v12)) a315 i0 i1 i2 i3 i4 i5 i6 i7 i8 i9 (by omega) (by omega) (by omega)
theorem t237_X6_addLast_I_g32 (fu : Nat) (hfu : 1000000000000 ≤ fu) (c248_groups : Int32) (c248_pots : Int32) (a263 : Nat → Int32) (a283 : Nat → Int32) (a293 : Nat → Int32) (a299 : Nat → Int64) (p0 : c248_groups.toInt ≤ 3) (p1 : 3 ≤ c248_groups.toInt) (p2 : c248_pots.toInt ≤ 2) (p3 : 2 ≤ c248_pots.toInt) (p4 : 1 ≤ c248_pots.toInt) (hr_a263 : dz_rq a263 6 3 0 2) (hr_a283 : dz_pm a283 2) (hr_a293 : dz_rg a293 1 0 5) (k : Nat) : p237_X6_addLast_g32 fu c248_groups c248_pots a263 a283 a293 a299 k := by
  induction k using Nat.strongRecOn with
  | _ k ih => exact ⟨t237_X6_addLast_h1_g32 fu hfu c248_groups c248_pots a263 a283 a293 a299 p0 p1 p2 p3 p4 hr_a263 hr_a283 hr_a293 k ih, t237_X6_addLast_h2_g32 fu hfu c248_groups c248_pots a263 a283 a293 a299 p0 p1 p2 p3 p4 hr_a263 hr_a283 hr_a293 k ih, t237_X6_addLast_h4_g32 fu hfu c248_groups c248_pots a263 a283 a293 a299 p0 p1 p2 p3 p4 hr_a263 hr_a283 hr_a293 k ih⟩
set_option maxHeartbeats 1000000 in
set_option maxRecDepth 10000 in
theorem t237_X6_addLast_E_g32 (fu : Nat) (hfu : 1000000000000 ≤ fu) (c248_groups : Int32) (c248_pots : Int32) (a263 : Nat → Int32) (a283 : Nat → Int32) (a293 : Nat → Int32) (a299 : Nat → Int64) (v3 : Int64) (v5 : Int32) (c313_rows : Int64) (a314 : Nat → Int64) (a315 : Nat → Int64) (p0 : c248_groups.toInt ≤ 3) (p1 : 3 ≤ c248_groups.toInt) (p2 : c248_pots.toInt ≤ 2) (p3 : 2 ≤ c248_pots.toInt) (p4 : 0 ≤ v5.toInt) (p5 : v5.toInt ≤ 1024) (p6 : 1 ≤ c248_pots.toInt) (hr_a263 : dz_rq a263 6 3 0 2) (hr_a283 : dz_pm a283 2) (hr_a293 : dz_rg a293 1 0 5) (kv : Nat) (hkv : 1000000000000 ≤ kv) : dz_T (s237_X6_addLast_0 fu c248_groups c248_pots a263 a283 a293 a299 (F237_X6_addLast fu c248_groups c248_pots a263 a283 a293 a299 kv).1  v3 v5 c313_rows a314 a315) (fun r => True) := by
  unfold s237_X6_addLast_0
  have e1 := dz_l1
  have e2 := dz_sub (a := c248_pots) (b := (1 : Int32)) (by omega) (by omega)
  refine dz_Tin (by omega) (by omega) ?_
  have e3 := dz_pmat (hr_a283) (i := (c248_pots - (1 : Int32))) (by decide) (by omega) (by omega)
  have e4 := dz_mulr (a := (a283 (c248_pots - (1 : Int32)).toNatClampNeg)) (b := c248_groups) 3 (by omega) (by omega) (by omega)
  have e5 := dz_l0
  exact (t237_X6_addLast_I_g32 fu hfu c248_groups c248_pots a263 a283 a293 a299 p0 p1 p2 p3 p6 hr_a263 hr_a283 hr_a293 kv).1 v3 v5 (c248_pots - (1 : Int32)) ((a283 (c248_pots - (1 : Int32)).toNatClampNeg) * c248_groups) (0 : Int64) (0 : Int32) c313_rows a314 a315 p5 p4 (by omega) (by omega) (by omega) (by omega) (by omega) (by omega) (by omega)
theorem t237_X6_addLast_g32 (fu : Nat) (hfu : 1000000000000 ≤ fu) (c248_groups : Int32) (c248_pots : Int32) (a263 : Nat → Int32) (a283 : Nat → Int32) (a293 : Nat → Int32) (a299 : Nat → Int64) (v3 : Int64) (v5 : Int32) (c313_rows : Int64) (a314 : Nat → Int64) (a315 : Nat → Int64) (p0 : c248_groups.toInt ≤ 3) (p1 : 3 ≤ c248_groups.toInt) (p2 : c248_pots.toInt ≤ 2) (p3 : 2 ≤ c248_pots.toInt) (p4 : 0 ≤ v5.toInt) (p5 : v5.toInt ≤ 1024) (p6 : 1 ≤ c248_pots.toInt) (hr_a263 : dz_rq a263 6 3 0 2) (hr_a283 : dz_pm a283 2) (hr_a293 : dz_rg a293 1 0 5) : dz_T (f237_X6_addLast fu c248_groups c248_pots a263 a283 a293 a299 v3 v5 c313_rows a314 a315) (fun r => True) :=
  t237_X6_addLast_E_g32 fu hfu c248_groups c248_pots a263 a283 a293 a299 v3 v5 c313_rows a314 a315 p0 p1 p2 p3 p4 p5 p6 hr_a263 hr_a283 hr_a293 fu hfu
abbrev p237_X6_addLast_g33 (fu : Nat) (c248_groups : Int32) (c248_pots : Int32) (a263 : Nat → Int32) (a283 : Nat → Int32) (a293 : Nat → Int32) (a299 : Nat → Int64) (k : Nat) : Prop :=
  (∀ (v3 : Int64) (v5 : Int32) (v6 : Int32) (v7 : Int32) (v8 : Int64) (v10 : Int32) (c313_rows : Int64) (a314 : Nat → Int64) (a315 : Nat → Int64), v5.toInt ≤ 1024 → 0 ≤ v5.toInt → v6.toInt ≤ 2 → 2 ≤ v6.toInt → v7.toInt ≤ 6 → 0 ≤ v7.toInt → v10.toInt ≤ 3 → 0 ≤ v10.toInt → 0 + 0 + (3 - v10.toInt) * 384 + 8 ≤ ((k : Nat) : Int) → dz_T ((F237_X6_addLast fu c248_groups c248_pots a263 a283 a293 a299 k).1 v3 v5 v6 v7 v8 v10 c313_rows a314 a315) (fun r => True)) ∧ (∀ (v3 : Int64) (v5 : Int32) (v6 : Int32) (v7 : Int32) (v8 : Int64) (v10 : Int32) (v11 : Int32) (c313_rows : Int64) (a314 : Nat → Int64) (a315 : Nat → Int64), v5.toInt ≤ 1024 → 0 ≤ v5.toInt → v6.toInt ≤ 2 → 2 ≤ v6.toInt → v7.toInt ≤ 6 → 0 ≤ v7.toInt → v10.toInt ≤ 2 → 0 ≤ v10.toInt → v11.toInt ≤ 3 → 0 ≤ v11.toInt → 0 + 0 + ((3 - v10.toInt) - 1) * 384 + 0 + (3 - v11.toInt) * 88 + 16 ≤ ((k : Nat) : Int) → dz_T ((F237_X6_addLast fu c248_groups c248_pots a263 a283 a293 a299 k).2.1 v3 v5 v6 v7 v8 v10 v11 c313_rows a314 a315) (fun r => True)) ∧ (∀ (v3 : Int64) (v5 : Int32) (v6 : Int32) (v7 : Int32) (v8 : Int64) (v10 : Int32) (v11 : Int32) (v12 : Int64) (v14 : Int32) (c313_rows : Int64) (a314 : Nat → Int64) (a315 : Nat → Int64), v5.toInt ≤ 1024 → 0 ≤ v5.toInt → v6.toInt ≤ 2 → 2 ≤ v6.toInt → v7.toInt ≤ 6 → 0 ≤ v7.toInt → v10.toInt ≤ 2 → 0 ≤ v10.toInt → v11.toInt ≤ 2 → 0 ≤ v11.toInt → v14.toInt ≤ 2 → 0 ≤ v14.toInt → 0 + 0 + ((3 - v10.toInt) - 1) * 384 + 0 + ((3 - v11.toInt) - 1) * 88 + 0 + (2 - v14.toInt) * 16 + 24 ≤ ((k : Nat) : Int) → dz_T ((F237_X6_addLast fu c248_groups c248_pots a263 a283 a293 a299 k).2.2.2 v3 v5 v6 v7 v8 v10 v11 v12 v14 c313_rows a314 a315) (fun r => True))
set_option maxHeartbeats 1000000 in
set_option maxRecDepth 10000 in
theorem t237_X6_addLast_h1_g33 (fu : Nat) (hfu : 1000000000000 ≤ fu) (c248_groups : Int32) (c248_pots : Int32) (a263 : Nat → Int32) (a283 : Nat → Int32) (a293 : Nat → Int32) (a299 : Nat → Int64) (p0 : c248_groups.toInt ≤ 3) (p1 : 3 ≤ c248_groups.toInt) (p2 : c248_pots.toInt ≤ 3) (p3 : 3 ≤ c248_pots.toInt) (p4 : 1 ≤ c248_pots.toInt) (hr_a263 : dz_rq a263 6 3 0 2) (hr_a283 : dz_pm a283 3) (hr_a293 : dz_rg a293 2 0 5) (k : Nat) (ih : ∀ j9, j9 < k → p237_X6_addLast_g33 fu c248_groups c248_pots a263 a283 a293 a299 j9) : ∀ (v3 : Int64) (v5 : Int32) (v6 : Int32) (v7 : Int32) (v8 : Int64) (v10 : Int32) (c313_rows : Int64) (a314 : Nat → Int64) (a315 : Nat → Int64), v5.toInt ≤ 1024 → 0 ≤ v5.toInt → v6.toInt ≤ 2 → 2 ≤ v6.toInt → v7.toInt ≤ 6 → 0 ≤ v7.toInt → v10.toInt ≤ 3 → 0 ≤ v10.toInt → 0 + 0 + (3 - v10.toInt) * 384 + 8 ≤ ((k : Nat) : Int) → dz_T ((F237_X6_addLast fu c248_groups c248_pots a263 a283 a293 a299 k).1 v3 v5 v6 v7 v8 v10 c313_rows a314 a315) (fun r => True) := by
  intro v3 v5 v6 v7 v8 v10 c313_rows a314 a315 i0 i1 i2 i3 i4 i5 i6 i7 hm
  obtain ⟨k0, rfl⟩ : ∃ x, k = x + 1 := ⟨k - 1, by omega⟩
  show dz_T (s237_X6_addLast_1 fu c248_groups c248_pots a263 a283 a293 a299 (F237_X6_addLast fu c248_groups c248_pots a263 a283 a293 a299 k0).2.1  v3 v5 v6 v7 v8 v10 c313_rows a314 a315) _
  unfold s237_X6_addLast_1
  refine dz_Tle (fun h1 => ?_) (fun h1 => ?_)
  · skip
    refine dz_Tb (t208_X6_addAhead_g33 fu hfu _ _ _ _ _ _ _ _ _ p0 p1 (by first | assumption | omega) (by first | assumption | omega) (hr_a263) (hr_a283) (dz_rgs (hr_a293) (by omega))) (fun r1 _ => ?_)
    exact dz_Ts trivial
  · skip
    have e2 := dz_add (a := v5) (b := v10) (by omega) (by omega)
    refine dz_Tin (by omega) (by omega) ?_
    have e3 := dz_l0
    exact (ih k0 (by omega)).2.1 v3 v5 v6 v7 (v8 + (a299 (v5 + v10).toNatClampNeg)) v10 (0 : Int32) c313_rows a314 a315 i0 i1 i2 i3 i4 i5 (by first | assumption | omega) i7 (by omega) (by omega) (by omega)
set_option maxHeartbeats 1000000 in
set_option maxRecDepth 10000 in
theorem t237_X6_addLast_h2_g33 (fu : Nat) (hfu : 1000000000000 ≤ fu) (c248_groups : Int32) (c248_pots : Int32) (a263 : Nat → Int32) (a283 : Nat → Int32) (a293 : Nat → Int32) (a299 : Nat → Int64) (p0 : c248_groups.toInt ≤ 3) (p1 : 3 ≤ c248_groups.toInt) (p2 : c248_pots.toInt ≤ 3) (p3 : 3 ≤ c248_pots.toInt) (p4 : 1 ≤ c248_pots.toInt) (hr_a263 : dz_rq a263 6 3 0 2) (hr_a283 : dz_pm a283 3) (hr_a293 : dz_rg a293 2 0 5) (k : Nat) (ih : ∀ j9, j9 < k → p237_X6_addLast_g33 fu c248_groups c248_pots a263 a283 a293 a299 j9) : ∀ (v3 : Int64) (v5 : Int32) (v6 : Int32) (v7 : Int32) (v8 : Int64) (v10 : Int32) (v11 : Int32) (c313_rows : Int64) (a314 : Nat → Int64) (a315 : Nat → Int64), v5.toInt ≤ 1024 → 0 ≤ v5.toInt → v6.toInt ≤ 2 → 2 ≤ v6.toInt → v7.toInt ≤ 6 → 0 ≤ v7.toInt → v10.toInt ≤ 2 → 0 ≤ v10.toInt → v11.toInt ≤ 3 → 0 ≤ v11.toInt → 0 + 0 + ((3 - v10.toInt) - 1) * 384 + 0 + (3 - v11.toInt) * 88 + 16 ≤ ((k : Nat) : Int) → dz_T ((F237_X6_addLast fu c248_groups c248_pots a263 a283 a293 a299 k).2.1 v3 v5 v6 v7 v8 v10 v11 c313_rows a314 a315) (fun r => True) := by
  intro v3 v5 v6 v7 v8 v10 v11 c313_rows a314 a315 i0 i1 i2 i3 i4 i5 i6 i7 i8 i9 hm
  obtain ⟨k0, rfl⟩ : ∃ x, k = x + 1 := ⟨k - 1, by omega⟩
  show dz_T (s237_X6_addLast_2 fu c248_groups c248_pots a263 a283 a293 a299 (F237_X6_addLast fu c248_groups c248_pots a263 a283 a293 a299 k0).1 (F237_X6_addLast fu c248_groups c248_pots a263 a283 a293 a299 k0).2.2.1 (F237_X6_addLast fu c248_groups c248_pots a263 a283 a293 a299 k0).2.2.2  v3 v5 v6 v7 v8 v10 v11 c313_rows a314 a315) _
  unfold s237_X6_addLast_2
  refine dz_Tle (fun h1 => ?_) (fun h1 => ?_)
  · skip
    have e2 := dz_l1
    have e3 := dz_add (a := v10) (b := (1 : Int32)) (by omega) (by omega)
    exact (ih k0 (by omega)).1 v3 v5 v6 v7 v8 (v10 + (1 : Int32)) c313_rows a314 a315 i0 i1 i2 i3 i4 i5 (by omega) (by omega) (by omega)
  · skip
    have e4 := dz_l4
    have e5 := dz_mulr (a := v11) (b := (4 : Int32)) 4 (by omega) (by omega) (by omega)
    have e6 := dz_add (a := v5) (b := (v11 * (4 : Int32))) (by omega) (by omega)
    have e7 := dz_add (a := (v5 + (v11 * (4 : Int32)))) (b := v10) (by omega) (by omega)
    refine dz_Tin (by omega) (by omega) ?_
    have e8 := dz_l0
    refine dz_Teq (fun h9 => ?_) (fun h9 => ?_)
    · skip
      obtain ⟨k1, rfl⟩ : ∃ x, k0 = x + 1 := ⟨k0 - 1, by omega⟩
      show dz_T (s237_X6_addLast_3 fu c248_groups c248_pots a263 a283 a293 a299 (F237_X6_addLast fu c248_groups c248_pots a263 a283 a293 a299 k1).2.1 v3 v5 v6 v7 v8 v10 v11 c313_rows a314 a315) _
      unfold s237_X6_addLast_3
      have e10 := dz_l1
      have e11 := dz_add (a := v11) (b := (1 : Int32)) (by omega) (by omega)
      exact (ih k1 (by omega)).2.1 v3 v5 v6 v7 v8 v10 (v11 + (1 : Int32)) c313_rows a314 a315 i0 i1 i2 i3 i4 i5 i6 i7 (by omega) (by omega) (by omega)
    · skip
      have e12 := dz_add (a := v7) (b := v11) (by omega) (by omega)
      have e13 := dz_mulr (a := (v7 + v11)) (b := (4 : Int32)) 4 (by omega) (by omega) (by omega)
      have e14 := dz_add (a := ((v7 + v11) * (4 : Int32))) (b := v10) (by omega) (by omega)
      refine dz_Tin (by omega) (by omega) ?_
      refine dz_Tin (by omega) (by omega) ?_
      exact (ih k0 (by omega)).2.2 v3 v5 v6 v7 v8 v10 v11 (v3 * (a299 ((v5 + (v11 * (4 : Int32))) + v10).toNatClampNeg)) (0 : Int32) c313_rows a314 (vp_updL a315 (((v7 + v11) * (4 : Int32)) + v10).toNatClampNeg ((a315 (((v7 + v11) * (4 : Int32)) + v10).toNatClampNeg) + (v3 * (a299 ((v5 + (v11 * (4 : Int32))) + v10).toNatClampNeg)))) i0 i1 i2 i3 i4 i5 i6 i7 (by first | assumption | omega) i9 (by omega) (by omega) (by omega)
set_option maxHeartbeats 1000000 in
set_option maxRecDepth 10000 in
theorem t237_X6_addLast_h4_g33 (fu : Nat) (hfu : 1000000000000 ≤ fu) (c248_groups : Int32) (c248_pots : Int32) (a263 : Nat → Int32) (a283 : Nat → Int32) (a293 : Nat → Int32) (a299 : Nat → Int64) (p0 : c248_groups.toInt ≤ 3) (p1 : 3 ≤ c248_groups.toInt) (p2 : c248_pots.toInt ≤ 3) (p3 : 3 ≤ c248_pots.toInt) (p4 : 1 ≤ c248_pots.toInt) (hr_a263 : dz_rq a263 6 3 0 2) (hr_a283 : dz_pm a283 3) (hr_a293 : dz_rg a293 2 0 5) (k : Nat) (ih : ∀ j9, j9 < k → p237_X6_addLast_g33 fu c248_groups c248_pots a263 a283 a293 a299 j9) : ∀ (v3 : Int64) (v5 : Int32) (v6 : Int32) (v7 : Int32) (v8 : Int64) (v10 : Int32) (v11 : Int32) (v12 : Int64) (v14 : Int32) (c313_rows : Int64) (a314 : Nat → Int64) (a315 : Nat → Int64), v5.toInt ≤ 1024 → 0 ≤ v5.toInt → v6.toInt ≤ 2 → 2 ≤ v6.toInt → v7.toInt ≤ 6 → 0 ≤ v7.toInt → v10.toInt ≤ 2 → 0 ≤ v10.toInt → v11.toInt ≤ 2 → 0 ≤ v11.toInt → v14.toInt ≤ 2 → 0 ≤ v14.toInt → 0 + 0 + ((3 - v10.toInt) - 1) * 384 + 0 + ((3 - v11.toInt) - 1) * 88 + 0 + (2 - v14.toInt) * 16 + 24 ≤ ((k : Nat) : Int) → dz_T ((F237_X6_addLast fu c248_groups c248_pots a263 a283 a293 a299 k).2.2.2 v3 v5 v6 v7 v8 v10 v11 v12 v14 c313_rows a314 a315) (fun r => True) := by
  intro v3 v5 v6 v7 v8 v10 v11 v12 v14 c313_rows a314 a315 i0 i1 i2 i3 i4 i5 i6 i7 i8 i9 i10 i11 hm
  obtain ⟨k0, rfl⟩ : ∃ x, k = x + 1 := ⟨k - 1, by omega⟩
  show dz_T (s237_X6_addLast_4 fu c248_groups c248_pots a263 a283 a293 a299 (F237_X6_addLast fu c248_groups c248_pots a263 a283 a293 a299 k0).2.2.1 (F237_X6_addLast fu c248_groups c248_pots a263 a283 a293 a299 k0).2.2.2  v3 v5 v6 v7 v8 v10 v11 v12 v14 c313_rows a314 a315) _
  unfold s237_X6_addLast_4
  refine dz_Tle (fun h1 => ?_) (fun h1 => ?_)
  · skip
    obtain ⟨k1, rfl⟩ : ∃ x, k0 = x + 1 := ⟨k0 - 1, by omega⟩
    show dz_T (s237_X6_addLast_3 fu c248_groups c248_pots a263 a283 a293 a299 (F237_X6_addLast fu c248_groups c248_pots a263 a283 a293 a299 k1).2.1 v3 v5 v6 v7 v8 v10 v11 c313_rows a314 a315) _
    unfold s237_X6_addLast_3
    have e2 := dz_l1
    have e3 := dz_add (a := v11) (b := (1 : Int32)) (by omega) (by omega)
    exact (ih k1 (by omega)).2.1 v3 v5 v6 v7 v8 v10 (v11 + (1 : Int32)) c313_rows a314 a315 i0 i1 i2 i3 i4 i5 i6 i7 (by omega) (by omega) (by omega)
  · skip
    refine dz_Tin (by omega) (by omega) ?_
    have e4 := dz_rgat (hr_a293) (i := v14) (by omega) (by omega)
    have e5 := dz_l4
    have e6 := dz_mulr (a := (a293 v14.toNatClampNeg)) (b := (4 : Int32)) 4 (by omega) (by omega) (by omega)
    have e7 := dz_add (a := ((a293 v14.toNatClampNeg) * (4 : Int32))) (b := v10) (by omega) (by omega)
    refine dz_Tin (by omega) (by omega) ?_
    refine dz_Tin (by omega) (by omega) ?_
    have e8 := dz_pmat (hr_a283) (i := v14) (by decide) (by omega) (by omega)
    have e9 := dz_mulr (a := (a283 v14.toNatClampNeg)) (b := c248_groups) 3 (by omega) (by omega) (by omega)
    have e10 := dz_rqat (hr_a263) (x := (a293 v14.toNatClampNeg)) (y := v10) (by omega) (by omega) (by omega) (by omega) (by omega)
    have e11 := dz_add (a := ((a283 v14.toNatClampNeg) * c248_groups)) (b := (a263 (((a293 v14.toNatClampNeg) * (4 : Int32)) + v10).toNatClampNeg)) (by omega) (by omega)
    have e12 := dz_l12
    have e13 := dz_mulr (a := (((a283 v14.toNatClampNeg) * c248_groups) + (a263 (((a293 v14.toNatClampNeg) * (4 : Int32)) + v10).toNatClampNeg))) (b := (12 : Int32)) 12 (by omega) (by omega) (by omega)
    have e14 := dz_add (a := ((((a283 v14.toNatClampNeg) * c248_groups) + (a263 (((a293 v14.toNatClampNeg) * (4 : Int32)) + v10).toNatClampNeg)) * (12 : Int32))) (b := v7) (by omega) (by omega)
    have e15 := dz_add (a := (((((a283 v14.toNatClampNeg) * c248_groups) + (a263 (((a293 v14.toNatClampNeg) * (4 : Int32)) + v10).toNatClampNeg)) * (12 : Int32)) + v7)) (b := v11) (by omega) (by omega)
    refine dz_Tin (by omega) (by omega) ?_
    refine dz_Tin (by omega) (by omega) ?_
    have e16 := dz_l1
    have e17 := dz_add (a := v14) (b := (1 : Int32)) (by omega) (by omega)
    exact (ih k0 (by omega)).2.2 v3 v5 v6 v7 v8 v10 v11 v12 (v14 + (1 : Int32)) c313_rows (vp_updL a314 ((((((a283 v14.toNatClampNeg) * c248_groups) + (a263 (((a293 v14.toNatClampNeg) * (4 : Int32)) + v10).toNatClampNeg)) * (12 : Int32)) + v7) + v11).toNatClampNeg ((a314 ((((((a283 v14.toNatClampNeg) * c248_groups) + (a263 (((a293 v14.toNatClampNeg) * (4 : Int32)) + v10).toNatClampNeg)) * (12 : Int32)) + v7) + v11).toNatClampNeg) + v12)) a315 i0 i1 i2 i3 i4 i5 i6 i7 i8 i9 (by omega) (by omega) (by omega)
theorem t237_X6_addLast_I_g33 (fu : Nat) (hfu : 1000000000000 ≤ fu) (c248_groups : Int32) (c248_pots : Int32) (a263 : Nat → Int32) (a283 : Nat → Int32) (a293 : Nat → Int32) (a299 : Nat → Int64) (p0 : c248_groups.toInt ≤ 3) (p1 : 3 ≤ c248_groups.toInt) (p2 : c248_pots.toInt ≤ 3) (p3 : 3 ≤ c248_pots.toInt) (p4 : 1 ≤ c248_pots.toInt) (hr_a263 : dz_rq a263 6 3 0 2) (hr_a283 : dz_pm a283 3) (hr_a293 : dz_rg a293 2 0 5) (k : Nat) : p237_X6_addLast_g33 fu c248_groups c248_pots a263 a283 a293 a299 k := by
  induction k using Nat.strongRecOn with
  | _ k ih => exact ⟨t237_X6_addLast_h1_g33 fu hfu c248_groups c248_pots a263 a283 a293 a299 p0 p1 p2 p3 p4 hr_a263 hr_a283 hr_a293 k ih, t237_X6_addLast_h2_g33 fu hfu c248_groups c248_pots a263 a283 a293 a299 p0 p1 p2 p3 p4 hr_a263 hr_a283 hr_a293 k ih, t237_X6_addLast_h4_g33 fu hfu c248_groups c248_pots a263 a283 a293 a299 p0 p1 p2 p3 p4 hr_a263 hr_a283 hr_a293 k ih⟩
set_option maxHeartbeats 1000000 in
set_option maxRecDepth 10000 in
theorem t237_X6_addLast_E_g33 (fu : Nat) (hfu : 1000000000000 ≤ fu) (c248_groups : Int32) (c248_pots : Int32) (a263 : Nat → Int32) (a283 : Nat → Int32) (a293 : Nat → Int32) (a299 : Nat → Int64) (v3 : Int64) (v5 : Int32) (c313_rows : Int64) (a314 : Nat → Int64) (a315 : Nat → Int64) (p0 : c248_groups.toInt ≤ 3) (p1 : 3 ≤ c248_groups.toInt) (p2 : c248_pots.toInt ≤ 3) (p3 : 3 ≤ c248_pots.toInt) (p4 : 0 ≤ v5.toInt) (p5 : v5.toInt ≤ 1024) (p6 : 1 ≤ c248_pots.toInt) (hr_a263 : dz_rq a263 6 3 0 2) (hr_a283 : dz_pm a283 3) (hr_a293 : dz_rg a293 2 0 5) (kv : Nat) (hkv : 1000000000000 ≤ kv) : dz_T (s237_X6_addLast_0 fu c248_groups c248_pots a263 a283 a293 a299 (F237_X6_addLast fu c248_groups c248_pots a263 a283 a293 a299 kv).1  v3 v5 c313_rows a314 a315) (fun r => True) := by
  unfold s237_X6_addLast_0
  have e1 := dz_l1
  have e2 := dz_sub (a := c248_pots) (b := (1 : Int32)) (by omega) (by omega)
  refine dz_Tin (by omega) (by omega) ?_
  have e3 := dz_pmat (hr_a283) (i := (c248_pots - (1 : Int32))) (by decide) (by omega) (by omega)
  have e4 := dz_mulr (a := (a283 (c248_pots - (1 : Int32)).toNatClampNeg)) (b := c248_groups) 3 (by omega) (by omega) (by omega)
  have e5 := dz_l0
  exact (t237_X6_addLast_I_g33 fu hfu c248_groups c248_pots a263 a283 a293 a299 p0 p1 p2 p3 p6 hr_a263 hr_a283 hr_a293 kv).1 v3 v5 (c248_pots - (1 : Int32)) ((a283 (c248_pots - (1 : Int32)).toNatClampNeg) * c248_groups) (0 : Int64) (0 : Int32) c313_rows a314 a315 p5 p4 (by omega) (by omega) (by omega) (by omega) (by omega) (by omega) (by omega)
theorem t237_X6_addLast_g33 (fu : Nat) (hfu : 1000000000000 ≤ fu) (c248_groups : Int32) (c248_pots : Int32) (a263 : Nat → Int32) (a283 : Nat → Int32) (a293 : Nat → Int32) (a299 : Nat → Int64) (v3 : Int64) (v5 : Int32) (c313_rows : Int64) (a314 : Nat → Int64) (a315 : Nat → Int64) (p0 : c248_groups.toInt ≤ 3) (p1 : 3 ≤ c248_groups.toInt) (p2 : c248_pots.toInt ≤ 3) (p3 : 3 ≤ c248_pots.toInt) (p4 : 0 ≤ v5.toInt) (p5 : v5.toInt ≤ 1024) (p6 : 1 ≤ c248_pots.toInt) (hr_a263 : dz_rq a263 6 3 0 2) (hr_a283 : dz_pm a283 3) (hr_a293 : dz_rg a293 2 0 5) : dz_T (f237_X6_addLast fu c248_groups c248_pots a263 a283 a293 a299 v3 v5 c313_rows a314 a315) (fun r => True) :=
  t237_X6_addLast_E_g33 fu hfu c248_groups c248_pots a263 a283 a293 a299 v3 v5 c313_rows a314 a315 p0 p1 p2 p3 p4 p5 p6 hr_a263 hr_a283 hr_a293 fu hfu
