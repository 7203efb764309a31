set_option maxHeartbeats 1000000 in
set_option maxRecDepth 10000 in
theorem t201_X7_begin (fu : Nat) (hfu : 1000000000000 ≤ fu) (a276 : Nat → Int32) (v1 : Int32) (c295_way : Int32) (a296 : Nat → Int32) (a298 : Nat → Int32) (hr_a276 : dz_rg a276 4 0 3) (hr_a296 : dz_rg a296 4 0 3) : dz_T (f201_X7_begin fu a276 v1 c295_way a296 a298) (fun r => dz_rg r.2.1 4 0 3) := by
  unfold f201_X7_begin s201_X7_begin_0
  have e1 := dz_l0
  refine dz_Tng (by omega) ?_
  refine dz_Tng (by omega) ?_
  have e2 := dz_l4
  refine dz_Tng (by omega) ?_
  have e3 := dz_tn (0 : Int32)
  have e4 := dz_tn (4 : Int32)
  refine dz_Tg (by omega) ?_
  refine dz_Tg (by omega) ?_
  refine dz_Tb (t200_J7_fill_53178_o fu hfu _ _ ) (fun r1 _ => ?_)
  refine dz_Ts ?_
  dsimp only
  exact (dz_rgc0 (hr_a276) (hr_a296))
set_option maxHeartbeats 1000000 in
set_option maxRecDepth 10000 in
theorem t202_X6_beginAtStart_s (fu : Nat) (hfu : 1000000000000 ≤ fu) (κ : Nat) (hκ : κ < 14) (c248_groups : Int32) (c261_everyRank : Int32) (a276 : Nat → Int32) (v1 : Int32) (c292_firstLevel : Int32) (c292_firstPrefix : Int32) (c292_firstOpen : Int32) (c292_firstLeft : Int32) (c295_way : Int32) (a296 : Nat → Int32) (a298 : Nat → Int32) (p0 : c248_groups.toInt ≤ 4) (p1 : 2 ≤ c248_groups.toInt) (p2 : c261_everyRank.toInt ≤ 16777215) (p3 : 0 ≤ c261_everyRank.toInt) (p4 : c292_firstLevel.toInt ≤ 4) (p5 : 0 ≤ c292_firstLevel.toInt) (p6 : c292_firstPrefix.toInt ≤ 331775) (p7 : 0 ≤ c292_firstPrefix.toInt) (p8 : c292_firstOpen.toInt ≤ 16777215) (p9 : 0 ≤ c292_firstOpen.toInt) (p10 : c292_firstLeft.toInt ≤ 15) (p11 : 0 ≤ c292_firstLeft.toInt) (hr_a276 : dz_rg a276 4 0 3) (hr_a296 : dz_rg a296 4 0 3) (o0 : c248_groups.toInt = ((dz_kg κ : Nat) : Int)) (o1 : c261_everyRank.toInt = ((dz_ke κ : Nat) : Int)) : dz_T (f202_X6_beginAtStart fu c248_groups c261_everyRank a276 v1 c292_firstLevel c292_firstPrefix c292_firstOpen c292_firstLeft c295_way a296 a298) (fun r => r.1.toInt ≤ 0 ∧ 0 ≤ r.1.toInt ∧ r.2.1.toInt ≤ 0 ∧ 0 ≤ r.2.1.toInt ∧ r.2.2.1.toInt ≤ 16777215 ∧ 0 ≤ r.2.2.1.toInt ∧ r.2.2.2.1.toInt ≤ 15 ∧ 3 ≤ r.2.2.2.1.toInt ∧ dz_rg r.2.2.2.2.2.1 4 0 3) := by
  unfold f202_X6_beginAtStart s202_X6_beginAtStart_0
  refine dz_Tb (t201_X7_begin fu hfu _ _ _ _ _ (hr_a276) (hr_a296)) (fun r1 q => ?_)
  have qa1_1 := q
  have e1 := dz_l0
  have e2 := dz_l1
  have e3 := dz_l31
  have e4 := dz_andr (a := c248_groups) (b := (31 : Int32)) (by omega)
  have e5 := dz_andl (a := c248_groups) (b := (31 : Int32)) (by omega)
  have e6 := dz_shl1 (b := c248_groups) 2 4 (by omega) (by omega) (by omega)
  have e7 := dz_sub (a := ((1 : Int32) <<< (c248_groups &&& (31 : Int32)))) (b := (1 : Int32)) (by omega) (by omega)
  refine dz_Ts ?_
  dsimp only
  exact ⟨(by omega), (by omega), (by omega), (by omega), p2, p3, (by omega), (by omega), (qa1_1)⟩
abbrev p203_X8_placesLeft_g2 (fu : Nat) (c248_groups : Int32) (a277 : Nat → Int32) (k : Nat) : Prop :=
  (∀ (v1 : Int32) (v2 : Int32) (v3 : Int32), v1.toInt ≤ 3 → 0 ≤ v1.toInt → v2.toInt ≤ 3 → 0 ≤ v2.toInt → v3.toInt ≤ 2 → 0 ≤ v3.toInt → v2.toInt ≤ v3.toInt + 2 → 0 + 0 + (2 - v3.toInt) * 12 + 6 ≤ ((k : Nat) : Int) → dz_T ((F203_X8_placesLeft fu c248_groups a277 k).1 v1 v2 v3) (fun r => r.toInt ≤ 3 ∧ 0 ≤ r.toInt))
set_option maxHeartbeats 1000000 in
set_option maxRecDepth 10000 in
theorem t203_X8_placesLeft_h1_g2 (fu : Nat) (hfu : 1000000000000 ≤ fu) (c248_groups : Int32) (a277 : Nat → Int32) (p0 : c248_groups.toInt ≤ 2) (p1 : 2 ≤ c248_groups.toInt) (hr_a277 : dz_rg a277 12 (-1) 3) (k : Nat) (ih : ∀ j9, j9 < k → p203_X8_placesLeft_g2 fu c248_groups a277 j9) : ∀ (v1 : Int32) (v2 : Int32) (v3 : Int32), v1.toInt ≤ 3 → 0 ≤ v1.toInt → v2.toInt ≤ 3 → 0 ≤ v2.toInt → v3.toInt ≤ 2 → 0 ≤ v3.toInt → v2.toInt ≤ v3.toInt + 2 → 0 + 0 + (2 - v3.toInt) * 12 + 6 ≤ ((k : Nat) : Int) → dz_T ((F203_X8_placesLeft fu c248_groups a277 k).1 v1 v2 v3) (fun r => r.toInt ≤ 3 ∧ 0 ≤ r.toInt) := by
  intro v1 v2 v3 i0 i1 i2 i3 i4 i5 i6 hm
  obtain ⟨k0, rfl⟩ : ∃ x, k = x + 1 := ⟨k - 1, by omega⟩
  show dz_T (s203_X8_placesLeft_1 fu c248_groups a277 (F203_X8_placesLeft fu c248_groups a277 k0).2  v1 v2 v3) _
  unfold s203_X8_placesLeft_1
  refine dz_Tle (fun h1 => ?_) (fun h1 => ?_)
  · skip
    exact dz_Ts ⟨i2, i3⟩
  · skip
    have e2 := dz_mulr (a := v1) (b := c248_groups) 2 (by omega) (by omega) (by omega)
    have e3 := dz_add (a := (v1 * c248_groups)) (b := v3) (by omega) (by omega)
    refine dz_Tin (by omega) (by omega) ?_
    have e4 := dz_rgat (hr_a277) (i := ((v1 * c248_groups) + v3)) (by omega) (by omega)
    have e5 := dz_lm1
    refine dz_Teq (fun h6 => ?_) (fun h6 => ?_)
    · skip
      obtain ⟨k1, rfl⟩ : ∃ x, k0 = x + 1 := ⟨k0 - 1, by omega⟩
      show dz_T (s203_X8_placesLeft_2 fu c248_groups a277 (F203_X8_placesLeft fu c248_groups a277 k1).1 v1 (v2 ||| ((1 : Int32) <<< (v3 &&& (31 : Int32)))) v3) _
      unfold s203_X8_placesLeft_2
      have e7 := dz_l1
      have e8 := dz_l31
      have e9 := dz_andr (a := v3) (b := (31 : Int32)) (by omega)
      have e10 := dz_andl (a := v3) (b := (31 : Int32)) (by omega)
      have e11 := dz_shl1 (b := v3) 0 1 (by omega) (by omega) (by omega)
      have e12 := dz_orb (a := v2) (b := ((1 : Int32) <<< (v3 &&& (31 : Int32)))) 2 (by omega) (by omega) (by omega) (by omega) (by omega)
      have e13 := dz_add (a := v3) (b := (1 : Int32)) (by omega) (by omega)
      exact (ih k1 (by omega)) v1 (v2 ||| ((1 : Int32) <<< (v3 &&& (31 : Int32)))) (v3 + (1 : Int32)) i0 i1 (by omega) (by omega) (by omega) (by omega) (by omega) (by omega)
    · skip
      obtain ⟨k2, rfl⟩ : ∃ x, k0 = x + 1 := ⟨k0 - 1, by omega⟩
      show dz_T (s203_X8_placesLeft_2 fu c248_groups a277 (F203_X8_placesLeft fu c248_groups a277 k2).1 v1 v2 v3) _
      unfold s203_X8_placesLeft_2
      have e14 := dz_l1
      have e15 := dz_add (a := v3) (b := (1 : Int32)) (by omega) (by omega)
      exact (ih k2 (by omega)) v1 v2 (v3 + (1 : Int32)) i0 i1 i2 i3 (by omega) (by omega) (by omega) (by omega)
theorem t203_X8_placesLeft_I_g2 (fu : Nat) (hfu : 1000000000000 ≤ fu) (c248_groups : Int32) (a277 : Nat → Int32) (p0 : c248_groups.toInt ≤ 2) (p1 : 2 ≤ c248_groups.toInt) (hr_a277 : dz_rg a277 12 (-1) 3) (k : Nat) : p203_X8_placesLeft_g2 fu c248_groups a277 k := by
  induction k using Nat.strongRecOn with
  | _ k ih => exact t203_X8_placesLeft_h1_g2 fu hfu c248_groups a277 p0 p1 hr_a277 k ih
set_option maxHeartbeats 1000000 in
set_option maxRecDepth 10000 in
theorem t203_X8_placesLeft_E_g2 (fu : Nat) (hfu : 1000000000000 ≤ fu) (c248_groups : Int32) (a277 : Nat → Int32) (v1 : Int32) (p0 : c248_groups.toInt ≤ 2) (p1 : 2 ≤ c248_groups.toInt) (p2 : 0 ≤ v1.toInt) (p3 : v1.toInt ≤ 3) (hr_a277 : dz_rg a277 12 (-1) 3) (kv : Nat) (hkv : 1000000000000 ≤ kv) : dz_T (s203_X8_placesLeft_0 fu c248_groups a277 (F203_X8_placesLeft fu c248_groups a277 kv).1  v1) (fun r => r.toInt ≤ 3 ∧ 0 ≤ r.toInt) := by
  unfold s203_X8_placesLeft_0
  have e1 := dz_l0
  exact (t203_X8_placesLeft_I_g2 fu hfu c248_groups a277 p0 p1 hr_a277 kv) v1 (0 : Int32) (0 : Int32) p3 p2 (by omega) (by omega) (by omega) (by omega) (by omega) (by omega)
theorem t203_X8_placesLeft_g2 (fu : Nat) (hfu : 1000000000000 ≤ fu) (c248_groups : Int32) (a277 : Nat → Int32) (v1 : Int32) (p0 : c248_groups.toInt ≤ 2) (p1 : 2 ≤ c248_groups.toInt) (p2 : 0 ≤ v1.toInt) (p3 : v1.toInt ≤ 3) (hr_a277 : dz_rg a277 12 (-1) 3) : dz_T (f203_X8_placesLeft fu c248_groups a277 v1) (fun r => r.toInt ≤ 3 ∧ 0 ≤ r.toInt) :=
  t203_X8_placesLeft_E_g2 fu hfu c248_groups a277 v1 p0 p1 p2 p3 hr_a277 fu hfu
abbrev p203_X8_placesLeft_g3 (fu : Nat) (c248_groups : Int32) (a277 : Nat → Int32) (k : Nat) : Prop :=
  (∀ (v1 : Int32) (v2 : Int32) (v3 : Int32), v1.toInt ≤ 3 → 0 ≤ v1.toInt → v2.toInt ≤ 7 → 0 ≤ v2.toInt → v3.toInt ≤ 3 → 0 ≤ v3.toInt → v2.toInt ≤ v3.toInt + 6 → 0 + 0 + (3 - v3.toInt) * 12 + 6 ≤ ((k : Nat) : Int) → dz_T ((F203_X8_placesLeft fu c248_groups a277 k).1 v1 v2 v3) (fun r => r.toInt ≤ 7 ∧ 0 ≤ r.toInt))
set_option maxHeartbeats 1000000 in
set_option maxRecDepth 10000 in
theorem t203_X8_placesLeft_h1_g3 (fu : Nat) (hfu : 1000000000000 ≤ fu) (c248_groups : Int32) (a277 : Nat → Int32) (p0 : c248_groups.toInt ≤ 3) (p1 : 3 ≤ c248_groups.toInt) (hr_a277 : dz_rg a277 12 (-1) 3) (k : Nat) (ih : ∀ j9, j9 < k → p203_X8_placesLeft_g3 fu c248_groups a277 j9) : ∀ (v1 : Int32) (v2 : Int32) (v3 : Int32), v1.toInt ≤ 3 → 0 ≤ v1.toInt → v2.toInt ≤ 7 → 0 ≤ v2.toInt → v3.toInt ≤ 3 → 0 ≤ v3.toInt → v2.toInt ≤ v3.toInt + 6 → 0 + 0 + (3 - v3.toInt) * 12 + 6 ≤ ((k : Nat) : Int) → dz_T ((F203_X8_placesLeft fu c248_groups a277 k).1 v1 v2 v3) (fun r => r.toInt ≤ 7 ∧ 0 ≤ r.toInt) := by
  intro v1 v2 v3 i0 i1 i2 i3 i4 i5 i6 hm
  obtain ⟨k0, rfl⟩ : ∃ x, k = x + 1 := ⟨k - 1, by omega⟩
  show dz_T (s203_X8_placesLeft_1 fu c248_groups a277 (F203_X8_placesLeft fu c248_groups a277 k0).2  v1 v2 v3) _
  unfold s203_X8_placesLeft_1
  refine dz_Tle (fun h1 => ?_) (fun h1 => ?_)
  · skip
    exact dz_Ts ⟨i2, i3⟩
  · skip
    have e2 := dz_mulr (a := v1) (b := c248_groups) 3 (by omega) (by omega) (by omega)
    have e3 := dz_add (a := (v1 * c248_groups)) (b := v3) (by omega) (by omega)
    refine dz_Tin (by omega) (by omega) ?_
    have e4 := dz_rgat (hr_a277) (i := ((v1 * c248_groups) + v3)) (by omega) (by omega)
    have e5 := dz_lm1
    refine dz_Teq (fun h6 => ?_) (fun h6 => ?_)
    · skip
      obtain ⟨k1, rfl⟩ : ∃ x, k0 = x + 1 := ⟨k0 - 1, by omega⟩
      show dz_T (s203_X8_placesLeft_2 fu c248_groups a277 (F203_X8_placesLeft fu c248_groups a277 k1).1 v1 (v2 ||| ((1 : Int32) <<< (v3 &&& (31 : Int32)))) v3) _
      unfold s203_X8_placesLeft_2
      have e7 := dz_l1
      have e8 := dz_l31
      have e9 := dz_andr (a := v3) (b := (31 : Int32)) (by omega)
      have e10 := dz_andl (a := v3) (b := (31 : Int32)) (by omega)
      have e11 := dz_shl1 (b := v3) 0 2 (by omega) (by omega) (by omega)
      have e12 := dz_orb (a := v2) (b := ((1 : Int32) <<< (v3 &&& (31 : Int32)))) 3 (by omega) (by omega) (by omega) (by omega) (by omega)
      have e13 := dz_add (a := v3) (b := (1 : Int32)) (by omega) (by omega)
      exact (ih k1 (by omega)) v1 (v2 ||| ((1 : Int32) <<< (v3 &&& (31 : Int32)))) (v3 + (1 : Int32)) i0 i1 (by omega) (by omega) (by omega) (by omega) (by omega) (by omega)
    · skip
      obtain ⟨k2, rfl⟩ : ∃ x, k0 = x + 1 := ⟨k0 - 1, by omega⟩
      show dz_T (s203_X8_placesLeft_2 fu c248_groups a277 (F203_X8_placesLeft fu c248_groups a277 k2).1 v1 v2 v3) _
      unfold s203_X8_placesLeft_2
      have e14 := dz_l1
      have e15 := dz_add (a := v3) (b := (1 : Int32)) (by omega) (by omega)
      exact (ih k2 (by omega)) v1 v2 (v3 + (1 : Int32)) i0 i1 i2 i3 (by omega) (by omega) (by omega) (by omega)
theorem t203_X8_placesLeft_I_g3 (fu : Nat) (hfu : 1000000000000 ≤ fu) (c248_groups : Int32) (a277 : Nat → Int32) (p0 : c248_groups.toInt ≤ 3) (p1 : 3 ≤ c248_groups.toInt) (hr_a277 : dz_rg a277 12 (-1) 3) (k : Nat) : p203_X8_placesLeft_g3 fu c248_groups a277 k := by
  induction k using Nat.strongRecOn with
  | _ k ih => exact t203_X8_placesLeft_h1_g3 fu hfu c248_groups a277 p0 p1 hr_a277 k ih
set_option maxHeartbeats 1000000 in
set_option maxRecDepth 10000 in
theorem t203_X8_placesLeft_E_g3 (fu : Nat) (hfu : 1000000000000 ≤ fu) (c248_groups : Int32) (a277 : Nat → Int32) (v1 : Int32) (p0 : c248_groups.toInt ≤ 3) (p1 : 3 ≤ c248_groups.toInt) (p2 : 0 ≤ v1.toInt) (p3 : v1.toInt ≤ 3) (hr_a277 : dz_rg a277 12 (-1) 3) (kv : Nat) (hkv : 1000000000000 ≤ kv) : dz_T (s203_X8_placesLeft_0 fu c248_groups a277 (F203_X8_placesLeft fu c248_groups a277 kv).1  v1) (fun r => r.toInt ≤ 7 ∧ 0 ≤ r.toInt) := by
  unfold s203_X8_placesLeft_0
  have e1 := dz_l0
  exact (t203_X8_placesLeft_I_g3 fu hfu c248_groups a277 p0 p1 hr_a277 kv) v1 (0 : Int32) (0 : Int32) p3 p2 (by omega) (by omega) (by omega) (by omega) (by omega) (by omega)
theorem t203_X8_placesLeft_g3 (fu : Nat) (hfu : 1000000000000 ≤ fu) (c248_groups : Int32) (a277 : Nat → Int32) (v1 : Int32) (p0 : c248_groups.toInt ≤ 3) (p1 : 3 ≤ c248_groups.toInt) (p2 : 0 ≤ v1.toInt) (p3 : v1.toInt ≤ 3) (hr_a277 : dz_rg a277 12 (-1) 3) : dz_T (f203_X8_placesLeft fu c248_groups a277 v1) (fun r => r.toInt ≤ 7 ∧ 0 ≤ r.toInt) :=
  t203_X8_placesLeft_E_g3 fu hfu c248_groups a277 v1 p0 p1 p2 p3 hr_a277 fu hfu
abbrev p203_X8_placesLeft_g4 (fu : Nat) (c248_groups : Int32) (a277 : Nat → Int32) (k : Nat) : Prop :=
  (∀ (v1 : Int32) (v2 : Int32) (v3 : Int32), v1.toInt ≤ 2 → 0 ≤ v1.toInt → v2.toInt ≤ 15 → 0 ≤ v2.toInt → v3.toInt ≤ 4 → 0 ≤ v3.toInt → v2.toInt ≤ v3.toInt + 14 → 0 + 0 + (4 - v3.toInt) * 12 + 6 ≤ ((k : Nat) : Int) → dz_T ((F203_X8_placesLeft fu c248_groups a277 k).1 v1 v2 v3) (fun r => r.toInt ≤ 15 ∧ 0 ≤ r.toInt))
set_option maxHeartbeats 1000000 in
set_option maxRecDepth 10000 in
theorem t203_X8_placesLeft_h1_g4 (fu : Nat) (hfu : 1000000000000 ≤ fu) (c248_groups : Int32) (a277 : Nat → Int32) (p0 : c248_groups.toInt ≤ 4) (p1 : 4 ≤ c248_groups.toInt) (hr_a277 : dz_rg a277 12 (-1) 3) (k : Nat) (ih : ∀ j9, j9 < k → p203_X8_placesLeft_g4 fu c248_groups a277 j9) : ∀ (v1 : Int32) (v2 : Int32) (v3 : Int32), v1.toInt ≤ 2 → 0 ≤ v1.toInt → v2.toInt ≤ 15 → 0 ≤ v2.toInt → v3.toInt ≤ 4 → 0 ≤ v3.toInt → v2.toInt ≤ v3.toInt + 14 → 0 + 0 + (4 - v3.toInt) * 12 + 6 ≤ ((k : Nat) : Int) → dz_T ((F203_X8_placesLeft fu c248_groups a277 k).1 v1 v2 v3) (fun r => r.toInt ≤ 15 ∧ 0 ≤ r.toInt) := by
  intro v1 v2 v3 i0 i1 i2 i3 i4 i5 i6 hm
  obtain ⟨k0, rfl⟩ : ∃ x, k = x + 1 := ⟨k - 1, by omega⟩
  show dz_T (s203_X8_placesLeft_1 fu c248_groups a277 (F203_X8_placesLeft fu c248_groups a277 k0).2  v1 v2 v3) _
  unfold s203_X8_placesLeft_1
  refine dz_Tle (fun h1 => ?_) (fun h1 => ?_)
  · skip
    exact dz_Ts ⟨i2, i3⟩
  · skip
    have e2 := dz_mulr (a := v1) (b := c248_groups) 4 (by omega) (by omega) (by omega)
    have e3 := dz_add (a := (v1 * c248_groups)) (b := v3) (by omega) (by omega)
    refine dz_Tin (by omega) (by omega) ?_
    have e4 := dz_rgat (hr_a277) (i := ((v1 * c248_groups) + v3)) (by omega) (by omega)
    have e5 := dz_lm1
    refine dz_Teq (fun h6 => ?_) (fun h6 => ?_)
    · skip
      obtain ⟨k1, rfl⟩ : ∃ x, k0 = x + 1 := ⟨k0 - 1, by omega⟩
      show dz_T (s203_X8_placesLeft_2 fu c248_groups a277 (F203_X8_placesLeft fu c248_groups a277 k1).1 v1 (v2 ||| ((1 : Int32) <<< (v3 &&& (31 : Int32)))) v3) _
      unfold s203_X8_placesLeft_2
      have e7 := dz_l1
      have e8 := dz_l31
      have e9 := dz_andr (a := v3) (b := (31 : Int32)) (by omega)
      have e10 := dz_andl (a := v3) (b := (31 : Int32)) (by omega)
      have e11 := dz_shl1 (b := v3) 0 3 (by omega) (by omega) (by omega)
      have e12 := dz_orb (a := v2) (b := ((1 : Int32) <<< (v3 &&& (31 : Int32)))) 4 (by omega) (by omega) (by omega) (by omega) (by omega)
      have e13 := dz_add (a := v3) (b := (1 : Int32)) (by omega) (by omega)
      exact (ih k1 (by omega)) v1 (v2 ||| ((1 : Int32) <<< (v3 &&& (31 : Int32)))) (v3 + (1 : Int32)) i0 i1 (by omega) (by omega) (by omega) (by omega) (by omega) (by omega)
    · skip
      obtain ⟨k2, rfl⟩ : ∃ x, k0 = x + 1 := ⟨k0 - 1, by omega⟩
      show dz_T (s203_X8_placesLeft_2 fu c248_groups a277 (F203_X8_placesLeft fu c248_groups a277 k2).1 v1 v2 v3) _
      unfold s203_X8_placesLeft_2
      have e14 := dz_l1
      have e15 := dz_add (a := v3) (b := (1 : Int32)) (by omega) (by omega)
      exact (ih k2 (by omega)) v1 v2 (v3 + (1 : Int32)) i0 i1 i2 i3 (by omega) (by omega) (by omega) (by omega)
theorem t203_X8_placesLeft_I_g4 (fu : Nat) (hfu : 1000000000000 ≤ fu) (c248_groups : Int32) (a277 : Nat → Int32) (p0 : c248_groups.toInt ≤ 4) (p1 : 4 ≤ c248_groups.toInt) (hr_a277 : dz_rg a277 12 (-1) 3) (k : Nat) : p203_X8_placesLeft_g4 fu c248_groups a277 k := by
  induction k using Nat.strongRecOn with
  | _ k ih => exact t203_X8_placesLeft_h1_g4 fu hfu c248_groups a277 p0 p1 hr_a277 k ih
set_option maxHeartbeats 1000000 in
set_option maxRecDepth 10000 in
theorem t203_X8_placesLeft_E_g4 (fu : Nat) (hfu : 1000000000000 ≤ fu) (c248_groups : Int32) (a277 : Nat → Int32) (v1 : Int32) (p0 : c248_groups.toInt ≤ 4) (p1 : 4 ≤ c248_groups.toInt) (p2 : 0 ≤ v1.toInt) (p3 : v1.toInt ≤ 2) (hr_a277 : dz_rg a277 12 (-1) 3) (kv : Nat) (hkv : 1000000000000 ≤ kv) : dz_T (s203_X8_placesLeft_0 fu c248_groups a277 (F203_X8_placesLeft fu c248_groups a277 kv).1  v1) (fun r => r.toInt ≤ 15 ∧ 0 ≤ r.toInt) := by
  unfold s203_X8_placesLeft_0
  have e1 := dz_l0
  exact (t203_X8_placesLeft_I_g4 fu hfu c248_groups a277 p0 p1 hr_a277 kv) v1 (0 : Int32) (0 : Int32) p3 p2 (by omega) (by omega) (by omega) (by omega) (by omega) (by omega)
theorem t203_X8_placesLeft_g4 (fu : Nat) (hfu : 1000000000000 ≤ fu) (c248_groups : Int32) (a277 : Nat → Int32) (v1 : Int32) (p0 : c248_groups.toInt ≤ 4) (p1 : 4 ≤ c248_groups.toInt) (p2 : 0 ≤ v1.toInt) (p3 : v1.toInt ≤ 2) (hr_a277 : dz_rg a277 12 (-1) 3) : dz_T (f203_X8_placesLeft fu c248_groups a277 v1) (fun r => r.toInt ≤ 15 ∧ 0 ≤ r.toInt) :=
  t203_X8_placesLeft_E_g4 fu hfu c248_groups a277 v1 p0 p1 p2 p3 hr_a277 fu hfu
set_option maxHeartbeats 1000000 in
theorem t203_X8_placesLeft_s (fu : Nat) (hfu : 1000000000000 ≤ fu) (κ : Nat) (hκ : κ < 14) (c248_groups : Int32) (a277 : Nat → Int32) (v1 : Int32) (p0 : c248_groups.toInt ≤ 4) (p1 : 2 ≤ c248_groups.toInt) (p2 : 0 ≤ v1.toInt) (p3 : v1.toInt ≤ 3) (hr_a277 : dz_rg a277 12 (-1) 3) (o0 : v1.toInt ≤ ((dz_kp κ : Nat) : Int) - 1) (o1 : c248_groups.toInt = ((dz_kg κ : Nat) : Int)) : dz_T (f203_X8_placesLeft fu c248_groups a277 v1) (fun r => r.toInt ≤ 15 ∧ 0 ≤ r.toInt ∧ r.toInt ≤ c248_groups.toInt + 11) := by
  rcases (show κ = 0 ∨ κ = 1 ∨ κ = 2 ∨ κ = 3 ∨ κ = 4 ∨ κ = 5 ∨ κ = 6 ∨ κ = 7 ∨ κ = 8 ∨ κ = 9 ∨ κ = 10 ∨ κ = 11 ∨ κ = 12 ∨ κ = 13 by omega) with rfl | rfl | rfl | rfl | rfl | rfl | rfl | rfl | rfl | rfl | rfl | rfl | rfl | rfl
  · skip
    have o0 : v1.toInt ≤ (0 : Int) - 1 := o0
    have o1 : c248_groups.toInt = (2 : Int) := o1
    refine dz_Tw (t203_X8_placesLeft_g2 fu hfu c248_groups a277 v1 (by first | assumption | omega) (by first | assumption | omega) (by first | assumption | omega) (by first | assumption | omega) (by first | exact hr_a277 | exact dz_rgm hr_a277 (by omega) (by omega) | exact dz_pmr hr_a277 (by decide) (by omega) (by omega) (by omega) | exact dz_ptr hr_a277 (by decide) (by decide) (by omega) | exact dz_ptr hr_a277 (by decide) (by decide) (by show _ ≤ 0; omega) | exact dz_rgs hr_a277 (by omega))) (fun r h => ?_)
    obtain ⟨g0, g1⟩ := h
    exact ⟨(by first | assumption | omega), (by first | assumption | omega), (by first | assumption | omega)⟩
  · skip
    have o0 : v1.toInt ≤ (1 : Int) - 1 := o0
    have o1 : c248_groups.toInt = (2 : Int) := o1
    refine dz_Tw (t203_X8_placesLeft_g2 fu hfu c248_groups a277 v1 (by first | assumption | omega) (by first | assumption | omega) (by first | assumption | omega) (by first | assumption | omega) (by first | exact hr_a277 | exact dz_rgm hr_a277 (by omega) (by omega) | exact dz_pmr hr_a277 (by decide) (by omega) (by omega) (by omega) | exact dz_ptr hr_a277 (by decide) (by decide) (by omega) | exact dz_ptr hr_a277 (by decide) (by decide) (by show _ ≤ 1; omega) | exact dz_rgs hr_a277 (by omega))) (fun r h => ?_)
    obtain ⟨g0, g1⟩ := h
    exact ⟨(by first | assumption | omega), (by first | assumption | omega), (by first | assumption | omega)⟩
  · skip
    have o0 : v1.toInt ≤ (2 : Int) - 1 := o0
    have o1 : c248_groups.toInt = (2 : Int) := o1
    refine dz_Tw (t203_X8_placesLeft_g2 fu hfu c248_groups a277 v1 (by first | assumption | omega) (by first | assumption | omega) (by first | assumption | omega) (by first | assumption | omega) (by first | exact hr_a277 | exact dz_rgm hr_a277 (by omega) (by omega) | exact dz_pmr hr_a277 (by decide) (by omega) (by omega) (by omega) | exact dz_ptr hr_a277 (by decide) (by decide) (by omega) | exact dz_ptr hr_a277 (by decide) (by decide) (by show _ ≤ 2; omega) | exact dz_rgs hr_a277 (by omega))) (fun r h => ?_)
    obtain ⟨g0, g1⟩ := h
    exact ⟨(by first | assumption | omega), (by first | assumption | omega), (by first | assumption | omega)⟩
  · skip
    have o0 : v1.toInt ≤ (3 : Int) - 1 := o0
    have o1 : c248_groups.toInt = (2 : Int) := o1
    refine dz_Tw (t203_X8_placesLeft_g2 fu hfu c248_groups a277 v1 (by first | assumption | omega) (by first | assumption | omega) (by first | assumption | omega) (by first | assumption | omega) (by first | exact hr_a277 | exact dz_rgm hr_a277 (by omega) (by omega) | exact dz_pmr hr_a277 (by decide) (by omega) (by omega) (by omega) | exact dz_ptr hr_a277 (by decide) (by decide) (by omega) | exact dz_ptr hr_a277 (by decide) (by decide) (by show _ ≤ 3; omega) | exact dz_rgs hr_a277 (by omega))) (fun r h => ?_)
    obtain ⟨g0, g1⟩ := h
    exact ⟨(by first | assumption | omega), (by first | assumption | omega), (by first | assumption | omega)⟩
  · skip
    have o0 : v1.toInt ≤ (4 : Int) - 1 := o0
    have o1 : c248_groups.toInt = (2 : Int) := o1
    refine dz_Tw (t203_X8_placesLeft_g2 fu hfu c248_groups a277 v1 (by first | assumption | omega) (by first | assumption | omega) (by first | assumption | omega) (by first | assumption | omega) (by first | exact hr_a277 | exact dz_rgm hr_a277 (by omega) (by omega) | exact dz_pmr hr_a277 (by decide) (by omega) (by omega) (by omega) | exact dz_ptr hr_a277 (by decide) (by decide) (by omega) | exact dz_ptr hr_a277 (by decide) (by decide) (by show _ ≤ 4; omega) | exact dz_rgs hr_a277 (by omega))) (fun r h => ?_)
    obtain ⟨g0, g1⟩ := h
    exact ⟨(by first | assumption | omega), (by first | assumption | omega), (by first | assumption | omega)⟩
  · skip
    have o0 : v1.toInt ≤ (0 : Int) - 1 := o0
    have o1 : c248_groups.toInt = (3 : Int) := o1
    refine dz_Tw (t203_X8_placesLeft_g3 fu hfu c248_groups a277 v1 (by first | assumption | omega) (by first | assumption | omega) (by first | assumption | omega) (by first | assumption | omega) (by first | exact hr_a277 | exact dz_rgm hr_a277 (by omega) (by omega) | exact dz_pmr hr_a277 (by decide) (by omega) (by omega) (by omega) | exact dz_ptr hr_a277 (by decide) (by decide) (by omega) | exact dz_ptr hr_a277 (by decide) (by decide) (by show _ ≤ 0; omega) | exact dz_rgs hr_a277 (by omega))) (fun r h => ?_)
    obtain ⟨g0, g1⟩ := h
    exact ⟨(by first | assumption | omega), (by first | assumption | omega), (by first | assumption | omega)⟩
  · skip
    have o0 : v1.toInt ≤ (1 : Int) - 1 := o0
    have o1 : c248_groups.toInt = (3 : Int) := o1
    refine dz_Tw (t203_X8_placesLeft_g3 fu hfu c248_groups a277 v1 (by first | assumption | omega) (by first | assumption | omega) (by first | assumption | omega) (by first | assumption | omega) (by first | exact hr_a277 | exact dz_rgm hr_a277 (by omega) (by omega) | exact dz_pmr hr_a277 (by decide) (by omega) (by omega) (by omega) | exact dz_ptr hr_a277 (by decide) (by decide) (by omega) | exact dz_ptr hr_a277 (by decide) (by decide) (by show _ ≤ 1; omega) | exact dz_rgs hr_a277 (by omega))) (fun r h => ?_)
    obtain ⟨g0, g1⟩ := h
    exact ⟨(by first | assumption | omega), (by first | assumption | omega), (by first | assumption | omega)⟩
  · skip
    have o0 : v1.toInt ≤ (2 : Int) - 1 := o0
    have o1 : c248_groups.toInt = (3 : Int) := o1
    refine dz_Tw (t203_X8_placesLeft_g3 fu hfu c248_groups a277 v1 (by first | assumption | omega) (by first | assumption | omega) (by first | assumption | omega) (by first | assumption | omega) (by first | exact hr_a277 | exact dz_rgm hr_a277 (by omega) (by omega) | exact dz_pmr hr_a277 (by decide) (by omega) (by omega) (by omega) | exact dz_ptr hr_a277 (by decide) (by decide) (by omega) | exact dz_ptr hr_a277 (by decide) (by decide) (by show _ ≤ 2; omega) | exact dz_rgs hr_a277 (by omega))) (fun r h => ?_)
    obtain ⟨g0, g1⟩ := h
    exact ⟨(by first | assumption | omega), (by first | assumption | omega), (by first | assumption | omega)⟩
  · skip
    have o0 : v1.toInt ≤ (3 : Int) - 1 := o0
    have o1 : c248_groups.toInt = (3 : Int) := o1
    refine dz_Tw (t203_X8_placesLeft_g3 fu hfu c248_groups a277 v1 (by first | assumption | omega) (by first | assumption | omega) (by first | assumption | omega) (by first | assumption | omega) (by first | exact hr_a277 | exact dz_rgm hr_a277 (by omega) (by omega) | exact dz_pmr hr_a277 (by decide) (by omega) (by omega) (by omega) | exact dz_ptr hr_a277 (by decide) (by decide) (by omega) | exact dz_ptr hr_a277 (by decide) (by decide) (by show _ ≤ 3; omega) | exact dz_rgs hr_a277 (by omega))) (fun r h => ?_)
    obtain ⟨g0, g1⟩ := h
    exact ⟨(by first | assumption | omega), (by first | assumption | omega), (by first | assumption | omega)⟩
  · skip
    have o0 : v1.toInt ≤ (4 : Int) - 1 := o0
    have o1 : c248_groups.toInt = (3 : Int) := o1
    refine dz_Tw (t203_X8_placesLeft_g3 fu hfu c248_groups a277 v1 (by first | assumption | omega) (by first | assumption | omega) (by first | assumption | omega) (by first | assumption | omega) (by first | exact hr_a277 | exact dz_rgm hr_a277 (by omega) (by omega) | exact dz_pmr hr_a277 (by decide) (by omega) (by omega) (by omega) | exact dz_ptr hr_a277 (by decide) (by decide) (by omega) | exact dz_ptr hr_a277 (by decide) (by decide) (by show _ ≤ 4; omega) | exact dz_rgs hr_a277 (by omega))) (fun r h => ?_)
    obtain ⟨g0, g1⟩ := h
    exact ⟨(by first | assumption | omega), (by first | assumption | omega), (by first | assumption | omega)⟩
  · skip
    have o0 : v1.toInt ≤ (0 : Int) - 1 := o0
    have o1 : c248_groups.toInt = (4 : Int) := o1
    refine dz_Tw (t203_X8_placesLeft_g4 fu hfu c248_groups a277 v1 (by first | assumption | omega) (by first | assumption | omega) (by first | assumption | omega) (by first | assumption | omega) (by first | exact hr_a277 | exact dz_rgm hr_a277 (by omega) (by omega) | exact dz_pmr hr_a277 (by decide) (by omega) (by omega) (by omega) | exact dz_ptr hr_a277 (by decide) (by decide) (by omega) | exact dz_ptr hr_a277 (by decide) (by decide) (by show _ ≤ 0; omega) | exact dz_rgs hr_a277 (by omega))) (fun r h => ?_)
    obtain ⟨g0, g1⟩ := h
    exact ⟨(by first | assumption | omega), (by first | assumption | omega), (by first | assumption | omega)⟩
  · skip
    have o0 : v1.toInt ≤ (1 : Int) - 1 := o0
    have o1 : c248_groups.toInt = (4 : Int) := o1
    refine dz_Tw (t203_X8_placesLeft_g4 fu hfu c248_groups a277 v1 (by first | assumption | omega) (by first | assumption | omega) (by first | assumption | omega) (by first | assumption | omega) (by first | exact hr_a277 | exact dz_rgm hr_a277 (by omega) (by omega) | exact dz_pmr hr_a277 (by decide) (by omega) (by omega) (by omega) | exact dz_ptr hr_a277 (by decide) (by decide) (by omega) | exact dz_ptr hr_a277 (by decide) (by decide) (by show _ ≤ 1; omega) | exact dz_rgs hr_a277 (by omega))) (fun r h => ?_)
    obtain ⟨g0, g1⟩ := h
    exact ⟨(by first | assumption | omega), (by first | assumption | omega), (by first | assumption | omega)⟩
  · skip
    have o0 : v1.toInt ≤ (2 : Int) - 1 := o0
    have o1 : c248_groups.toInt = (4 : Int) := o1
    refine dz_Tw (t203_X8_placesLeft_g4 fu hfu c248_groups a277 v1 (by first | assumption | omega) (by first | assumption | omega) (by first | assumption | omega) (by first | assumption | omega) (by first | exact hr_a277 | exact dz_rgm hr_a277 (by omega) (by omega) | exact dz_pmr hr_a277 (by decide) (by omega) (by omega) (by omega) | exact dz_ptr hr_a277 (by decide) (by decide) (by omega) | exact dz_ptr hr_a277 (by decide) (by decide) (by show _ ≤ 2; omega) | exact dz_rgs hr_a277 (by omega))) (fun r h => ?_)
    obtain ⟨g0, g1⟩ := h
    exact ⟨(by first | assumption | omega), (by first | assumption | omega), (by first | assumption | omega)⟩
  · skip
    have o0 : v1.toInt ≤ (3 : Int) - 1 := o0
    have o1 : c248_groups.toInt = (4 : Int) := o1
    refine dz_Tw (t203_X8_placesLeft_g4 fu hfu c248_groups a277 v1 (by first | assumption | omega) (by first | assumption | omega) (by first | assumption | omega) (by first | assumption | omega) (by first | exact hr_a277 | exact dz_rgm hr_a277 (by omega) (by omega) | exact dz_pmr hr_a277 (by decide) (by omega) (by omega) (by omega) | exact dz_ptr hr_a277 (by decide) (by decide) (by omega) | exact dz_ptr hr_a277 (by decide) (by decide) (by show _ ≤ 3; omega) | exact dz_rgs hr_a277 (by omega))) (fun r h => ?_)
    obtain ⟨g0, g1⟩ := h
    exact ⟨(by first | assumption | omega), (by first | assumption | omega), (by first | assumption | omega)⟩
abbrev p204_X6_beginAtStage_s (fu : Nat) (κ : Nat) (c248_groups : Int32) (c248_teams : Int32) (c261_many : Int32) (c261_everyRank : Int32) (a264 : Nat → Int32) (c274_out : Int32) (a275 : Nat → Int32) (a276 : Nat → Int32) (a277 : Nat → Int32) (k : Nat) : Prop :=
  (∀ (v2 : Int32) (c292_firstLevel : Int32) (c292_firstPrefix : Int32) (c292_firstOpen : Int32) (c292_firstLeft : Int32) (a293 : Nat → Int32) (c295_way : Int32) (a296 : Nat → Int32) (a298 : Nat → Int32), v2.toInt ≤ 4 → 0 ≤ v2.toInt → c292_firstLevel.toInt ≤ 6 → 0 ≤ c292_firstLevel.toInt → c292_firstPrefix.toInt ≤ 331775 → 0 ≤ c292_firstPrefix.toInt → c292_firstOpen.toInt ≤ 16777215 → 0 ≤ c292_firstOpen.toInt → c292_firstLeft.toInt ≤ 15 → 3 ≤ c292_firstLeft.toInt → c292_firstLevel.toInt ≤ c248_teams.toInt → c292_firstLevel.toInt ≤ c274_out.toInt → v2.toInt ≤ c248_teams.toInt → v2.toInt ≤ c274_out.toInt → v2.toInt ≤ c292_firstLevel.toInt → v2.toInt ≤ c261_everyRank.toInt + 2 → dz_rg a296 4 0 3 → dz_rg a293 v2.toInt.toNat 0 (((dz_kr κ : Nat) : Int) - 1) → c292_firstLevel.toInt ≤ ((dz_kp κ : Nat) : Int) → ((c292_firstLevel.toInt = 0 ∧ c292_firstPrefix.toInt < 1) ∨ (c292_firstLevel.toInt = 1 ∧ c292_firstPrefix.toInt < 24) ∨ (c292_firstLevel.toInt = 2 ∧ c292_firstPrefix.toInt < 576) ∨ (c292_firstLevel.toInt = 3 ∧ c292_firstPrefix.toInt < 13824) ∨ (c292_firstLevel.toInt = 4 ∧ c292_firstPrefix.toInt < 331776)) → 0 + 0 + (4 - v2.toInt) * 10 + 5 ≤ ((k : Nat) : Int) → dz_T ((F204_X6_beginAtStage fu c248_groups c248_teams c261_many c261_everyRank a264 c274_out a275 a276 a277 k) v2 c292_firstLevel c292_firstPrefix c292_firstOpen c292_firstLeft a293 c295_way a296 a298) (fun r => r.1.toInt ≤ 4 ∧ 0 ≤ r.1.toInt ∧ r.2.1.toInt ≤ 331775 ∧ 0 ≤ r.2.1.toInt ∧ r.2.2.1.toInt ≤ 16777215 ∧ 0 ≤ r.2.2.1.toInt ∧ r.2.2.2.1.toInt ≤ 15 ∧ 0 ≤ r.2.2.2.1.toInt ∧ dz_rg r.2.2.2.2.2.2.1 4 0 3 ∧ dz_rg r.2.2.2.2.1 r.1.toInt.toNat 0 (((dz_kr κ : Nat) : Int) - 1) ∧ (((r.1.toInt = 0 ∧ r.2.1.toInt < 1) ∨ (r.1.toInt = 1 ∧ r.2.1.toInt < 24) ∨ (r.1.toInt = 2 ∧ r.2.1.toInt < 576) ∨ (r.1.toInt = 3 ∧ r.2.1.toInt < 13824) ∨ (r.1.toInt = 4 ∧ r.2.1.toInt < 331776)))))
set_option maxHeartbeats 1000000 in
set_option maxRecDepth 10000 in
theorem t204_X6_beginAtStage_h1_s (fu : Nat) (hfu : 1000000000000 ≤ fu) (κ : Nat) (hκ : κ < 14) (c248_groups : Int32) (c248_teams : Int32) (c261_many : Int32) (c261_everyRank : Int32) (a264 : Nat → Int32) (c274_out : Int32) (a275 : Nat → Int32) (a276 : Nat → Int32) (a277 : Nat → Int32) (p0 : c248_groups.toInt ≤ 4) (p1 : 2 ≤ c248_groups.toInt) (p2 : c248_teams.toInt ≤ 12) (p3 : 0 ≤ c248_teams.toInt) (p4 : c261_many.toInt ≤ 24) (p5 : 0 ≤ c261_many.toInt) (p6 : c261_everyRank.toInt ≤ 16777215) (p7 : 0 ≤ c261_everyRank.toInt) (p8 : c274_out.toInt ≤ 12) (p9 : 0 ≤ c274_out.toInt) (p10 : c274_out.toInt ≤ c248_teams.toInt) (hr_a264 : dz_rg a264 16 0 16777215) (hr_a275 : dz_pm a275 (dz_kp κ)) (hr_a276 : dz_rg a276 4 0 3) (hr_a277 : dz_rg a277 12 (-1) 3) (o0 : c248_groups.toInt = ((dz_kg κ : Nat) : Int)) (o1 : c248_teams.toInt = ((dz_km κ : Nat) : Int)) (o2 : c261_many.toInt = ((dz_kr κ : Nat) : Int)) (o3 : c261_everyRank.toInt = ((dz_ke κ : Nat) : Int)) (o4 : c274_out.toInt ≤ ((dz_km κ : Nat) : Int)) (k : Nat) (ih : ∀ j9, j9 < k → p204_X6_beginAtStage_s fu κ c248_groups c248_teams c261_many c261_everyRank a264 c274_out a275 a276 a277 j9) : ∀ (v2 : Int32) (c292_firstLevel : Int32) (c292_firstPrefix : Int32) (c292_firstOpen : Int32) (c292_firstLeft : Int32) (a293 : Nat → Int32) (c295_way : Int32) (a296 : Nat → Int32) (a298 : Nat → Int32), v2.toInt ≤ 4 → 0 ≤ v2.toInt → c292_firstLevel.toInt ≤ 6 → 0 ≤ c292_firstLevel.toInt → c292_firstPrefix.toInt ≤ 331775 → 0 ≤ c292_firstPrefix.toInt → c292_firstOpen.toInt ≤ 16777215 → 0 ≤ c292_firstOpen.toInt → c292_firstLeft.toInt ≤ 15 → 3 ≤ c292_firstLeft.toInt → c292_firstLevel.toInt ≤ c248_teams.toInt → c292_firstLevel.toInt ≤ c274_out.toInt → v2.toInt ≤ c248_teams.toInt → v2.toInt ≤ c274_out.toInt → v2.toInt ≤ c292_firstLevel.toInt → v2.toInt ≤ c261_everyRank.toInt + 2 → dz_rg a296 4 0 3 → dz_rg a293 v2.toInt.toNat 0 (((dz_kr κ : Nat) : Int) - 1) → c292_firstLevel.toInt ≤ ((dz_kp κ : Nat) : Int) → ((c292_firstLevel.toInt = 0 ∧ c292_firstPrefix.toInt < 1) ∨ (c292_firstLevel.toInt = 1 ∧ c292_firstPrefix.toInt < 24) ∨ (c292_firstLevel.toInt = 2 ∧ c292_firstPrefix.toInt < 576) ∨ (c292_firstLevel.toInt = 3 ∧ c292_firstPrefix.toInt < 13824) ∨ (c292_firstLevel.toInt = 4 ∧ c292_firstPrefix.toInt < 331776)) → 0 + 0 + (4 - v2.toInt) * 10 + 5 ≤ ((k : Nat) : Int) → dz_T ((F204_X6_beginAtStage fu c248_groups c248_teams c261_many c261_everyRank a264 c274_out a275 a276 a277 k) v2 c292_firstLevel c292_firstPrefix c292_firstOpen c292_firstLeft a293 c295_way a296 a298) (fun r => r.1.toInt ≤ 4 ∧ 0 ≤ r.1.toInt ∧ r.2.1.toInt ≤ 331775 ∧ 0 ≤ r.2.1.toInt ∧ r.2.2.1.toInt ≤ 16777215 ∧ 0 ≤ r.2.2.1.toInt ∧ r.2.2.2.1.toInt ≤ 15 ∧ 0 ≤ r.2.2.2.1.toInt ∧ dz_rg r.2.2.2.2.2.2.1 4 0 3 ∧ dz_rg r.2.2.2.2.1 r.1.toInt.toNat 0 (((dz_kr κ : Nat) : Int) - 1) ∧ (((r.1.toInt = 0 ∧ r.2.1.toInt < 1) ∨ (r.1.toInt = 1 ∧ r.2.1.toInt < 24) ∨ (r.1.toInt = 2 ∧ r.2.1.toInt < 576) ∨ (r.1.toInt = 3 ∧ r.2.1.toInt < 13824) ∨ (r.1.toInt = 4 ∧ r.2.1.toInt < 331776)))) := by
  intro v2 c292_firstLevel c292_firstPrefix c292_firstOpen c292_firstLeft a293 c295_way a296 a298 i0 i1 i2 i3 i4 i5 i6 i7 i8 i9 i10 i11 i12 i13 i14 i15 hr_a296 hr_a293 x0 x1 hm
  obtain ⟨k0, rfl⟩ : ∃ x, k = x + 1 := ⟨k - 1, by omega⟩
  show dz_T (s204_X6_beginAtStage_1 fu c248_groups c248_teams c261_many c261_everyRank a264 c274_out a275 a276 a277 (F204_X6_beginAtStage fu c248_groups c248_teams c261_many c261_everyRank a264 c274_out a275 a276 a277 k0)  v2 c292_firstLevel c292_firstPrefix c292_firstOpen c292_firstLeft a293 c295_way a296 a298) _
  unfold s204_X6_beginAtStage_1
  have hk4 := dz_kp4 hκ
  refine dz_Tle (fun h1 => ?_) (fun h1 => ?_)
  · skip
    refine dz_Tb (t170_X8_potInTurn_s fu hfu κ hκ _ _ _ _ p0 p1 p2 p3 p8 p9 p10 (hr_a275) o0 o1 o4) (fun r1 q => ?_)
    obtain ⟨q1_0, q1_1, q1_2, qo1_0⟩ := q
    have e2 := dz_lm1
    refine dz_Teq (fun h3 => ?_) (fun h3 => ?_)
    · skip
      refine dz_Ts ?_
      dsimp only
      exact ⟨(by first | assumption | omega), i3, i4, i5, i6, i7, i8, (by first | assumption | omega), (hr_a296), (dz_rgs (hr_a293) (by omega)), (by omega)⟩
    · skip
      refine dz_Tb (t177_X8_ranksLeft_s fu hfu κ hκ _ _ _ _ _ p0 p1 p6 p7 (by first | assumption | omega) q1_0 (hr_a264) (hr_a277) (by first | assumption | omega) o0 o3) (fun r2 q => ?_)
      obtain ⟨q2_0, q2_1, q2_2⟩ := q
      refine dz_Tb (t203_X8_placesLeft_s fu hfu κ hκ _ _ _ p0 p1 (by first | assumption | omega) q1_0 (hr_a277) (by first | assumption | omega) o0) (fun r3 q => ?_)
      obtain ⟨q3_0, q3_1, q3_2⟩ := q
      refine dz_Ts ?_
      dsimp only
      exact ⟨(by first | assumption | omega), i3, i4, i5, q2_0, q2_1, q3_0, q3_1, (hr_a296), (dz_rgs (hr_a293) (by omega)), (by omega)⟩
  · skip
    refine dz_Tb (t178_X8_rankAtLevel_s fu hfu κ hκ _ _ _ _ _ _ p0 p1 p6 p7 i1 (by first | assumption | omega) (hr_a264) (hr_a275) (hr_a277) (by first | assumption | omega) o0 o3) (fun r4 q => ?_)
    obtain ⟨q4_0, q4_1, q4_2, qo4_0⟩ := q
    refine dz_Tin (by omega) (by omega) ?_
    have e4 := dz_l1
    have e5 := dz_add (a := v2) (b := (1 : Int32)) (by omega) (by omega)
    exact (ih k0 (by omega)) (v2 + (1 : Int32)) c292_firstLevel c292_firstPrefix c292_firstOpen c292_firstLeft (upd a293 v2.toNatClampNeg r4) c295_way a296 a298 (by omega) (by omega) i2 i3 i4 i5 i6 i7 i8 i9 i10 i11 (by omega) (by omega) (by omega) (by omega) (hr_a296) (dz_rgx (hr_a293) (k2 := (v2 + (1 : Int32))) (by omega) (by omega) (by omega) (by omega)) (by omega) (by omega) (by omega)
theorem t204_X6_beginAtStage_I_s (fu : Nat) (hfu : 1000000000000 ≤ fu) (κ : Nat) (hκ : κ < 14) (c248_groups : Int32) (c248_teams : Int32) (c261_many : Int32) (c261_everyRank : Int32) (a264 : Nat → Int32) (c274_out : Int32) (a275 : Nat → Int32) (a276 : Nat → Int32) (a277 : Nat → Int32) (p0 : c248_groups.toInt ≤ 4) (p1 : 2 ≤ c248_groups.toInt) (p2 : c248_teams.toInt ≤ 12) (p3 : 0 ≤ c248_teams.toInt) (p4 : c261_many.toInt ≤ 24) (p5 : 0 ≤ c261_many.toInt) (p6 : c261_everyRank.toInt ≤ 16777215) (p7 : 0 ≤ c261_everyRank.toInt) (p8 : c274_out.toInt ≤ 12) (p9 : 0 ≤ c274_out.toInt) (p10 : c274_out.toInt ≤ c248_teams.toInt) (hr_a264 : dz_rg a264 16 0 16777215) (hr_a275 : dz_pm a275 (dz_kp κ)) (hr_a276 : dz_rg a276 4 0 3) (hr_a277 : dz_rg a277 12 (-1) 3) (o0 : c248_groups.toInt = ((dz_kg κ : Nat) : Int)) (o1 : c248_teams.toInt = ((dz_km κ : Nat) : Int)) (o2 : c261_many.toInt = ((dz_kr κ : Nat) : Int)) (o3 : c261_everyRank.toInt = ((dz_ke κ : Nat) : Int)) (o4 : c274_out.toInt ≤ ((dz_km κ : Nat) : Int)) (k : Nat) : p204_X6_beginAtStage_s fu κ c248_groups c248_teams c261_many c261_everyRank a264 c274_out a275 a276 a277 k := by
  induction k using Nat.strongRecOn with
  | _ k ih => exact t204_X6_beginAtStage_h1_s fu hfu κ hκ c248_groups c248_teams c261_many c261_everyRank a264 c274_out a275 a276 a277 p0 p1 p2 p3 p4 p5 p6 p7 p8 p9 p10 hr_a264 hr_a275 hr_a276 hr_a277 o0 o1 o2 o3 o4 k ih
set_option maxHeartbeats 1000000 in
set_option maxRecDepth 10000 in
theorem t204_X6_beginAtStage_E_s (fu : Nat) (hfu : 1000000000000 ≤ fu) (κ : Nat) (hκ : κ < 14) (c248_groups : Int32) (c248_teams : Int32) (c261_many : Int32) (c261_everyRank : Int32) (a264 : Nat → Int32) (c274_out : Int32) (a275 : Nat → Int32) (a276 : Nat → Int32) (a277 : Nat → Int32) (v1 : Int32) (c292_firstLevel : Int32) (c292_firstPrefix : Int32) (c292_firstOpen : Int32) (c292_firstLeft : Int32) (a293 : Nat → Int32) (c295_way : Int32) (a296 : Nat → Int32) (a298 : Nat → Int32) (p0 : c248_groups.toInt ≤ 4) (p1 : 2 ≤ c248_groups.toInt) (p2 : c248_teams.toInt ≤ 12) (p3 : 0 ≤ c248_teams.toInt) (p4 : c261_many.toInt ≤ 24) (p5 : 0 ≤ c261_many.toInt) (p6 : c261_everyRank.toInt ≤ 16777215) (p7 : 0 ≤ c261_everyRank.toInt) (p8 : c274_out.toInt ≤ 12) (p9 : 0 ≤ c274_out.toInt) (p10 : c292_firstLevel.toInt ≤ 4) (p11 : 0 ≤ c292_firstLevel.toInt) (p12 : c292_firstPrefix.toInt ≤ 331775) (p13 : 0 ≤ c292_firstPrefix.toInt) (p14 : c292_firstOpen.toInt ≤ 16777215) (p15 : 0 ≤ c292_firstOpen.toInt) (p16 : c292_firstLeft.toInt ≤ 15) (p17 : 0 ≤ c292_firstLeft.toInt) (p18 : c274_out.toInt ≤ c248_teams.toInt) (hr_a264 : dz_rg a264 16 0 16777215) (hr_a275 : dz_pm a275 (dz_kp κ)) (hr_a276 : dz_rg a276 4 0 3) (hr_a277 : dz_rg a277 12 (-1) 3) (hr_a296 : dz_rg a296 4 0 3) (o0 : c248_groups.toInt = ((dz_kg κ : Nat) : Int)) (o1 : c248_teams.toInt = ((dz_km κ : Nat) : Int)) (o2 : c261_many.toInt = ((dz_kr κ : Nat) : Int)) (o3 : c261_everyRank.toInt = ((dz_ke κ : Nat) : Int)) (o4 : c274_out.toInt ≤ ((dz_km κ : Nat) : Int)) (kv : Nat) (hkv : 1000000000000 ≤ kv) : dz_T (s204_X6_beginAtStage_0 fu c248_groups c248_teams c261_many c261_everyRank a264 c274_out a275 a276 a277 (F204_X6_beginAtStage fu c248_groups c248_teams c261_many c261_everyRank a264 c274_out a275 a276 a277 kv)  v1 c292_firstLevel c292_firstPrefix c292_firstOpen c292_firstLeft a293 c295_way a296 a298) (fun r => r.1.toInt ≤ 4 ∧ 0 ≤ r.1.toInt ∧ r.2.1.toInt ≤ 331775 ∧ 0 ≤ r.2.1.toInt ∧ r.2.2.1.toInt ≤ 16777215 ∧ 0 ≤ r.2.2.1.toInt ∧ r.2.2.2.1.toInt ≤ 15 ∧ 0 ≤ r.2.2.2.1.toInt ∧ dz_rg r.2.2.2.2.2.2.1 4 0 3 ∧ dz_rg r.2.2.2.2.1 r.1.toInt.toNat 0 (((dz_kr κ : Nat) : Int) - 1) ∧ (((r.1.toInt = 0 ∧ r.2.1.toInt < 1) ∨ (r.1.toInt = 1 ∧ r.2.1.toInt < 24) ∨ (r.1.toInt = 2 ∧ r.2.1.toInt < 576) ∨ (r.1.toInt = 3 ∧ r.2.1.toInt < 13824) ∨ (r.1.toInt = 4 ∧ r.2.1.toInt < 331776)))) := by
  unfold s204_X6_beginAtStage_0
  have hfull := dz_kfull hκ (o := c274_out) (g := c248_groups) (by omega) (by omega) (by omega)
  have hk4 := dz_kp4 hκ
  refine dz_Tb (t202_X6_beginAtStart_s fu hfu κ hκ _ _ _ _ _ _ _ _ _ _ _ p0 p1 p6 p7 p10 p11 p12 p13 p14 p15 p16 p17 (hr_a276) (hr_a296) o0 o3) (fun r1 q => ?_)
  obtain ⟨q1_0, q1_1, q1_2, q1_3, q1_4, q1_5, q1_6, q1_7, qa1_5⟩ := q
  refine dz_Tbe (show f169_X8_fullPots fu c248_groups c274_out = (Option.bind (f160_X3_potOf fu c248_groups c274_out) (fun b3 => (some b3))) from rfl) ?_
  refine dz_Tba ?_
  refine dz_Tbe (show f160_X3_potOf fu c248_groups c274_out = (if (c248_groups ≤ (0 : Int32)) then (some (0 : Int32)) else (if (¬ (c248_groups = (0 : Int32))) then (some (c274_out / c248_groups)) else none)) from rfl) ?_
  have e1 := dz_l0
  refine dz_Tleb (fun h2 => ?_) (fun h2 => ?_)
  · skip
    exfalso; omega
  · skip
    refine dz_Tzb (by omega) ?_
    refine dz_Tsb ?_
    refine dz_Tsb ?_
    refine dz_Tb (t179_X8_prefix_s fu hfu κ hκ _ _ _ _ _ _ _ p0 p1 p4 p5 p6 p7 p8 p9 (hr_a264) (hr_a275) (hr_a277) o0 o2 o3 o4) (fun r5 q => ?_)
    obtain ⟨q5_0, q5_1, qo5_0⟩ := q
    have e3 := dz_divq (a := c274_out) (b := c248_groups) 2 12 (by omega) (by omega) (by omega) (by omega)
    exact (t204_X6_beginAtStage_I_s fu hfu κ hκ c248_groups c248_teams c261_many c261_everyRank a264 c274_out a275 a276 a277 p0 p1 p2 p3 p4 p5 p6 p7 p8 p9 p18 hr_a264 hr_a275 hr_a276 hr_a277 o0 o1 o2 o3 o4 kv) (0 : Int32) (c274_out / c248_groups) r5 r1.2.2.1 r1.2.2.2.1 a293 r1.2.2.2.2.1 r1.2.2.2.2.2.1 r1.2.2.2.2.2.2 (by omega) (by omega) (by omega) (by omega) q5_0 q5_1 q1_4 q1_5 q1_6 q1_7 (by omega) (by omega) (by omega) (by omega) (by omega) (by omega) (qa1_5) (dz_rgz (by omega)) (by omega) (by omega) (by omega)
theorem t204_X6_beginAtStage_s (fu : Nat) (hfu : 1000000000000 ≤ fu) (κ : Nat) (hκ : κ < 14) (c248_groups : Int32) (c248_teams : Int32) (c261_many : Int32) (c261_everyRank : Int32) (a264 : Nat → Int32) (c274_out : Int32) (a275 : Nat → Int32) (a276 : Nat → Int32) (a277 : Nat → Int32) (v1 : Int32) (c292_firstLevel : Int32) (c292_firstPrefix : Int32) (c292_firstOpen : Int32) (c292_firstLeft : Int32) (a293 : Nat → Int32) (c295_way : Int32) (a296 : Nat → Int32) (a298 : Nat → Int32) (p0 : c248_groups.toInt ≤ 4) (p1 : 2 ≤ c248_groups.toInt) (p2 : c248_teams.toInt ≤ 12) (p3 : 0 ≤ c248_teams.toInt) (p4 : c261_many.toInt ≤ 24) (p5 : 0 ≤ c261_many.toInt) (p6 : c261_everyRank.toInt ≤ 16777215) (p7 : 0 ≤ c261_everyRank.toInt) (p8 : c274_out.toInt ≤ 12) (p9 : 0 ≤ c274_out.toInt) (p10 : c292_firstLevel.toInt ≤ 4) (p11 : 0 ≤ c292_firstLevel.toInt) (p12 : c292_firstPrefix.toInt ≤ 331775) (p13 : 0 ≤ c292_firstPrefix.toInt) (p14 : c292_firstOpen.toInt ≤ 16777215) (p15 : 0 ≤ c292_firstOpen.toInt) (p16 : c292_firstLeft.toInt ≤ 15) (p17 : 0 ≤ c292_firstLeft.toInt) (p18 : c274_out.toInt ≤ c248_teams.toInt) (hr_a264 : dz_rg a264 16 0 16777215) (hr_a275 : dz_pm a275 (dz_kp κ)) (hr_a276 : dz_rg a276 4 0 3) (hr_a277 : dz_rg a277 12 (-1) 3) (hr_a296 : dz_rg a296 4 0 3) (o0 : c248_groups.toInt = ((dz_kg κ : Nat) : Int)) (o1 : c248_teams.toInt = ((dz_km κ : Nat) : Int)) (o2 : c261_many.toInt = ((dz_kr κ : Nat) : Int)) (o3 : c261_everyRank.toInt = ((dz_ke κ : Nat) : Int)) (o4 : c274_out.toInt ≤ ((dz_km κ : Nat) : Int)) : dz_T (f204_X6_beginAtStage fu c248_groups c248_teams c261_many c261_everyRank a264 c274_out a275 a276 a277 v1 c292_firstLevel c292_firstPrefix c292_firstOpen c292_firstLeft a293 c295_way a296 a298) (fun r => r.1.toInt ≤ 4 ∧ 0 ≤ r.1.toInt ∧ r.2.1.toInt ≤ 331775 ∧ 0 ≤ r.2.1.toInt ∧ r.2.2.1.toInt ≤ 16777215 ∧ 0 ≤ r.2.2.1.toInt ∧ r.2.2.2.1.toInt ≤ 15 ∧ 0 ≤ r.2.2.2.1.toInt ∧ dz_rg r.2.2.2.2.2.2.1 4 0 3 ∧ dz_rg r.2.2.2.2.1 r.1.toInt.toNat 0 (((dz_kr κ : Nat) : Int) - 1) ∧ (((r.1.toInt = 0 ∧ r.2.1.toInt < 1) ∨ (r.1.toInt = 1 ∧ r.2.1.toInt < 24) ∨ (r.1.toInt = 2 ∧ r.2.1.toInt < 576) ∨ (r.1.toInt = 3 ∧ r.2.1.toInt < 13824) ∨ (r.1.toInt = 4 ∧ r.2.1.toInt < 331776)))) :=
  t204_X6_beginAtStage_E_s fu hfu κ hκ c248_groups c248_teams c261_many c261_everyRank a264 c274_out a275 a276 a277 v1 c292_firstLevel c292_firstPrefix c292_firstOpen c292_firstLeft a293 c295_way a296 a298 p0 p1 p2 p3 p4 p5 p6 p7 p8 p9 p10 p11 p12 p13 p14 p15 p16 p17 p18 hr_a264 hr_a275 hr_a276 hr_a277 hr_a296 o0 o1 o2 o3 o4 fu hfu
abbrev p205_J7_fill_d0a16 (fu : Nat) (k : Nat) : Prop :=
  (∀ (v1 : Int64) (v3 : Int32) (v4 : Int32) (a314 : Nat → Int64), v3.toInt ≤ 144 → 0 ≤ v3.toInt → v4.toInt ≤ 144 → 144 ≤ v4.toInt → 0 + 0 + (144 - v3.toInt) * 10 + 5 ≤ ((k : Nat) : Int) → dz_T ((F205_J7_fill_d0a16 fu k) v1 v3 v4 a314) (fun r => True))
set_option maxHeartbeats 1000000 in
set_option maxRecDepth 10000 in
theorem t205_J7_fill_d0a16_h1 (fu : Nat) (hfu : 1000000000000 ≤ fu) (k : Nat) (ih : ∀ j9, j9 < k → p205_J7_fill_d0a16 fu j9) : ∀ (v1 : Int64) (v3 : Int32) (v4 : Int32) (a314 : Nat → Int64), v3.toInt ≤ 144 → 0 ≤ v3.toInt → v4.toInt ≤ 144 → 144 ≤ v4.toInt → 0 + 0 + (144 - v3.toInt) * 10 + 5 ≤ ((k : Nat) : Int) → dz_T ((F205_J7_fill_d0a16 fu k) v1 v3 v4 a314) (fun r => True) := by
  intro v1 v3 v4 a314 i0 i1 i2 i3 hm
  obtain ⟨k0, rfl⟩ : ∃ x, k = x + 1 := ⟨k - 1, by omega⟩
  show dz_T (s205_J7_fill_d0a16_1 fu (F205_J7_fill_d0a16 fu k0)  v1 v3 v4 a314) _
  unfold s205_J7_fill_d0a16_1
  refine dz_Tle (fun h1 => ?_) (fun h1 => ?_)
  · skip
    exact dz_Ts trivial
  · skip
    refine dz_Tin (by omega) (by omega) ?_
    have e2 := dz_l1
    have e3 := dz_add (a := v3) (b := (1 : Int32)) (by omega) (by omega)
    exact (ih k0 (by omega)) v1 (v3 + (1 : Int32)) v4 (vp_updL a314 v3.toNatClampNeg v1) (by omega) (by omega) i2 i3 (by omega)
theorem t205_J7_fill_d0a16_I (fu : Nat) (hfu : 1000000000000 ≤ fu) (k : Nat) : p205_J7_fill_d0a16 fu k := by
  induction k using Nat.strongRecOn with
  | _ k ih => exact t205_J7_fill_d0a16_h1 fu hfu k ih
set_option maxHeartbeats 1000000 in
set_option maxRecDepth 10000 in
theorem t205_J7_fill_d0a16_E (fu : Nat) (hfu : 1000000000000 ≤ fu) (v1 : Int64) (a314 : Nat → Int64) (kv : Nat) (hkv : 1000000000000 ≤ kv) : dz_T (s205_J7_fill_d0a16_0 fu (F205_J7_fill_d0a16 fu kv)  v1 a314) (fun r => True) := by
  unfold s205_J7_fill_d0a16_0
  have e1 := dz_l0
  have e2 := dz_l144
  exact (t205_J7_fill_d0a16_I fu hfu kv) v1 (0 : Int32) (144 : Int32) a314 (by omega) (by omega) (by omega) (by omega) (by omega)
theorem t205_J7_fill_d0a16 (fu : Nat) (hfu : 1000000000000 ≤ fu) (v1 : Int64) (a314 : Nat → Int64) : dz_T (f205_J7_fill_d0a16 fu v1 a314) (fun r => True) :=
  t205_J7_fill_d0a16_E fu hfu v1 a314 fu hfu
abbrev p206_J7_fill_d0a16 (fu : Nat) (k : Nat) : Prop :=
  (∀ (v1 : Int64) (v3 : Int32) (v4 : Int32) (a315 : Nat → Int64), v3.toInt ≤ 48 → 0 ≤ v3.toInt → v4.toInt ≤ 48 → 48 ≤ v4.toInt → 0 + 0 + (48 - v3.toInt) * 10 + 5 ≤ ((k : Nat) : Int) → dz_T ((F206_J7_fill_d0a16 fu k) v1 v3 v4 a315) (fun r => True))
set_option maxHeartbeats 1000000 in
set_option maxRecDepth 10000 in
theorem t206_J7_fill_d0a16_h1 (fu : Nat) (hfu : 1000000000000 ≤ fu) (k : Nat) (ih : ∀ j9, j9 < k → p206_J7_fill_d0a16 fu j9) : ∀ (v1 : Int64) (v3 : Int32) (v4 : Int32) (a315 : Nat → Int64), v3.toInt ≤ 48 → 0 ≤ v3.toInt → v4.toInt ≤ 48 → 48 ≤ v4.toInt → 0 + 0 + (48 - v3.toInt) * 10 + 5 ≤ ((k : Nat) : Int) → dz_T ((F206_J7_fill_d0a16 fu k) v1 v3 v4 a315) (fun r => True) := by
  intro v1 v3 v4 a315 i0 i1 i2 i3 hm
  obtain ⟨k0, rfl⟩ : ∃ x, k = x + 1 := ⟨k - 1, by omega⟩
  show dz_T (s206_J7_fill_d0a16_1 fu (F206_J7_fill_d0a16 fu k0)  v1 v3 v4 a315) _
  unfold s206_J7_fill_d0a16_1
  refine dz_Tle (fun h1 => ?_) (fun h1 => ?_)
  · skip
    exact dz_Ts trivial
  · skip
    refine dz_Tin (by omega) (by omega) ?_
    have e2 := dz_l1
    have e3 := dz_add (a := v3) (b := (1 : Int32)) (by omega) (by omega)
    exact (ih k0 (by omega)) v1 (v3 + (1 : Int32)) v4 (vp_updL a315 v3.toNatClampNeg v1) (by omega) (by omega) i2 i3 (by omega)
theorem t206_J7_fill_d0a16_I (fu : Nat) (hfu : 1000000000000 ≤ fu) (k : Nat) : p206_J7_fill_d0a16 fu k := by
  induction k using Nat.strongRecOn with
  | _ k ih => exact t206_J7_fill_d0a16_h1 fu hfu k ih
set_option maxHeartbeats 1000000 in
set_option maxRecDepth 10000 in
theorem t206_J7_fill_d0a16_E (fu : Nat) (hfu : 1000000000000 ≤ fu) (v1 : Int64) (a315 : Nat → Int64) (kv : Nat) (hkv : 1000000000000 ≤ kv) : dz_T (s206_J7_fill_d0a16_0 fu (F206_J7_fill_d0a16 fu kv)  v1 a315) (fun r => True) := by
  unfold s206_J7_fill_d0a16_0
  have e1 := dz_l0
  have e2 := dz_l48
  exact (t206_J7_fill_d0a16_I fu hfu kv) v1 (0 : Int32) (48 : Int32) a315 (by omega) (by omega) (by omega) (by omega) (by omega)
theorem t206_J7_fill_d0a16 (fu : Nat) (hfu : 1000000000000 ≤ fu) (v1 : Int64) (a315 : Nat → Int64) : dz_T (f206_J7_fill_d0a16 fu v1 a315) (fun r => True) :=
  t206_J7_fill_d0a16_E fu hfu v1 a315 fu hfu
set_option maxHeartbeats 1000000 in
set_option maxRecDepth 10000 in
theorem t207_X1_forget (fu : Nat) (hfu : 1000000000000 ≤ fu) (c313_rows : Int64) (a314 : Nat → Int64) (a315 : Nat → Int64) : dz_T (f207_X1_forget fu c313_rows a314 a315) (fun r => True) := by
  unfold f207_X1_forget s207_X1_forget_0
  refine dz_Tb (t205_J7_fill_d0a16 fu hfu _ _ ) (fun r1 _ => ?_)
  refine dz_Tb (t206_J7_fill_d0a16 fu hfu _ _ ) (fun r2 _ => ?_)
  exact dz_Ts trivial
abbrev p208_X6_addAhead_g20 (fu : Nat) (c248_groups : Int32) (a263 : Nat → Int32) (a283 : Nat → Int32) (a293 : Nat → Int32) (k : Nat) : Prop :=
  (∀ (v3 : Int32) (v4 : Int64) (v6 : Int32) (c313_rows : Int64) (a314 : Nat → Int64) (a315 : Nat → Int64), v3.toInt ≤ 0 → 0 ≤ v3.toInt → v6.toInt ≤ 0 → 0 ≤ v6.toInt → dz_rg a293 v3.toInt.toNat 0 1 → 0 + 0 + (0 - v6.toInt) * 77 + 7 ≤ ((k : Nat) : Int) → dz_T ((F208_X6_addAhead fu c248_groups a263 a283 a293 k).1 v3 v4 v6 c313_rows a314 a315) (fun r => True))
set_option maxHeartbeats 1000000 in
set_option maxRecDepth 10000 in
theorem t208_X6_addAhead_h1_g20 (fu : Nat) (hfu : 1000000000000 ≤ fu) (c248_groups : Int32) (a263 : Nat → Int32) (a283 : Nat → Int32) (a293 : Nat → Int32) (p0 : c248_groups.toInt ≤ 2) (p1 : 2 ≤ c248_groups.toInt) (hr_a263 : dz_rq a263 2 2 0 1) (hr_a283 : dz_pm a283 0) (k : Nat) (ih : ∀ j9, j9 < k → p208_X6_addAhead_g20 fu c248_groups a263 a283 a293 j9) : ∀ (v3 : Int32) (v4 : Int64) (v6 : Int32) (c313_rows : Int64) (a314 : Nat → Int64) (a315 : Nat → Int64), v3.toInt ≤ 0 → 0 ≤ v3.toInt → v6.toInt ≤ 0 → 0 ≤ v6.toInt → dz_rg a293 v3.toInt.toNat 0 1 → 0 + 0 + (0 - v6.toInt) * 77 + 7 ≤ ((k : Nat) : Int) → dz_T ((F208_X6_addAhead fu c248_groups a263 a283 a293 k).1 v3 v4 v6 c313_rows a314 a315) (fun r => True) := by
  intro v3 v4 v6 c313_rows a314 a315 i0 i1 i2 i3 hr_a293 hm
  obtain ⟨k0, rfl⟩ : ∃ x, k = x + 1 := ⟨k - 1, by omega⟩
  show dz_T (s208_X6_addAhead_1 fu c248_groups a263 a283 a293 (F208_X6_addAhead fu c248_groups a263 a283 a293 k0).2.1  v3 v4 v6 c313_rows a314 a315) _
  unfold s208_X6_addAhead_1
  refine dz_Tle (fun h1 => ?_) (fun h1 => ?_)
  · skip
    exact dz_Ts trivial
  · skip
    exfalso; omega
theorem t208_X6_addAhead_I_g20 (fu : Nat) (hfu : 1000000000000 ≤ fu) (c248_groups : Int32) (a263 : Nat → Int32) (a283 : Nat → Int32) (a293 : Nat → Int32) (p0 : c248_groups.toInt ≤ 2) (p1 : 2 ≤ c248_groups.toInt) (hr_a263 : dz_rq a263 2 2 0 1) (hr_a283 : dz_pm a283 0) (k : Nat) : p208_X6_addAhead_g20 fu c248_groups a263 a283 a293 k := by
  induction k using Nat.strongRecOn with
  | _ k ih => exact t208_X6_addAhead_h1_g20 fu hfu c248_groups a263 a283 a293 p0 p1 hr_a263 hr_a283 k ih
set_option maxHeartbeats 1000000 in
set_option maxRecDepth 10000 in
theorem t208_X6_addAhead_E_g20 (fu : Nat) (hfu : 1000000000000 ≤ fu) (c248_groups : Int32) (a263 : Nat → Int32) (a283 : Nat → Int32) (a293 : Nat → Int32) (v3 : Int32) (v4 : Int64) (c313_rows : Int64) (a314 : Nat → Int64) (a315 : Nat → Int64) (p0 : c248_groups.toInt ≤ 2) (p1 : 2 ≤ c248_groups.toInt) (p2 : 0 ≤ v3.toInt) (p3 : v3.toInt ≤ 0) (hr_a263 : dz_rq a263 2 2 0 1) (hr_a283 : dz_pm a283 0) (hr_a293 : dz_rg a293 v3.toInt.toNat 0 1) (kv : Nat) (hkv : 1000000000000 ≤ kv) : dz_T (s208_X6_addAhead_0 fu c248_groups a263 a283 a293 (F208_X6_addAhead fu c248_groups a263 a283 a293 kv).1  v3 v4 c313_rows a314 a315) (fun r => True) := by
  unfold s208_X6_addAhead_0
  have e1 := dz_l0
  exact (t208_X6_addAhead_I_g20 fu hfu c248_groups a263 a283 a293 p0 p1 hr_a263 hr_a283 kv) v3 v4 (0 : Int32) (c313_rows + v4) a314 a315 p3 p2 (by omega) (by omega) (dz_rgs (hr_a293) (by omega)) (by omega)
theorem t208_X6_addAhead_g20 (fu : Nat) (hfu : 1000000000000 ≤ fu) (c248_groups : Int32) (a263 : Nat → Int32) (a283 : Nat → Int32) (a293 : Nat → Int32) (v3 : Int32) (v4 : Int64) (c313_rows : Int64) (a314 : Nat → Int64) (a315 : Nat → Int64) (p0 : c248_groups.toInt ≤ 2) (p1 : 2 ≤ c248_groups.toInt) (p2 : 0 ≤ v3.toInt) (p3 : v3.toInt ≤ 0) (hr_a263 : dz_rq a263 2 2 0 1) (hr_a283 : dz_pm a283 0) (hr_a293 : dz_rg a293 v3.toInt.toNat 0 1) : dz_T (f208_X6_addAhead fu c248_groups a263 a283 a293 v3 v4 c313_rows a314 a315) (fun r => True) :=
  t208_X6_addAhead_E_g20 fu hfu c248_groups a263 a283 a293 v3 v4 c313_rows a314 a315 p0 p1 p2 p3 hr_a263 hr_a283 hr_a293 fu hfu
abbrev p208_X6_addAhead_g21 (fu : Nat) (c248_groups : Int32) (a263 : Nat → Int32) (a283 : Nat → Int32) (a293 : Nat → Int32) (k : Nat) : Prop :=
  (∀ (v3 : Int32) (v4 : Int64) (v6 : Int32) (c313_rows : Int64) (a314 : Nat → Int64) (a315 : Nat → Int64), v3.toInt ≤ 1 → 0 ≤ v3.toInt → v6.toInt ≤ 1 → 0 ≤ v6.toInt → v6.toInt ≤ v3.toInt → dz_rg a293 v3.toInt.toNat 0 1 → 0 + 0 + (1 - v6.toInt) * 175 + 7 ≤ ((k : Nat) : Int) → dz_T ((F208_X6_addAhead fu c248_groups a263 a283 a293 k).1 v3 v4 v6 c313_rows a314 a315) (fun r => True)) ∧ (∀ (v3 : Int32) (v4 : Int64) (v6 : Int32) (v7 : Int32) (v8 : Int32) (c313_rows : Int64) (a314 : Nat → Int64) (a315 : Nat → Int64), v3.toInt ≤ 1 → 1 ≤ v3.toInt → v6.toInt ≤ 0 → 0 ≤ v6.toInt → v7.toInt ≤ 0 → 0 ≤ v7.toInt → v8.toInt ≤ 2 → 0 ≤ v8.toInt → dz_rg a293 v3.toInt.toNat 0 1 → 0 + 0 + ((1 - v6.toInt) - 1) * 175 + 0 + (2 - v8.toInt) * 49 + 14 ≤ ((k : Nat) : Int) → dz_T ((F208_X6_addAhead fu c248_groups a263 a283 a293 k).2.1 v3 v4 v6 v7 v8 c313_rows a314 a315) (fun r => True)) ∧ (∀ (v3 : Int32) (v4 : Int64) (v6 : Int32) (v7 : Int32) (v8 : Int32) (v9 : Int32) (v10 : Int32) (c313_rows : Int64) (a314 : Nat → Int64) (a315 : Nat → Int64), v3.toInt ≤ 1 → 1 ≤ v3.toInt → v6.toInt ≤ 0 → 0 ≤ v6.toInt → v7.toInt ≤ 0 → 0 ≤ v7.toInt → v8.toInt ≤ 1 → 0 ≤ v8.toInt → v9.toInt ≤ 1 → 0 ≤ v9.toInt → v10.toInt ≤ 1 → 1 ≤ v10.toInt → dz_rg a293 v3.toInt.toNat 0 1 → 0 + 0 + ((1 - v6.toInt) - 1) * 175 + 0 + ((2 - v8.toInt) - 1) * 49 + 0 + (1 - v10.toInt) * 14 + 21 ≤ ((k : Nat) : Int) → dz_T ((F208_X6_addAhead fu c248_groups a263 a283 a293 k).2.2 v3 v4 v6 v7 v8 v9 v10 c313_rows a314 a315) (fun r => True))
set_option maxHeartbeats 1000000 in
set_option maxRecDepth 10000 in
theorem t208_X6_addAhead_h1_g21 (fu : Nat) (hfu : 1000000000000 ≤ fu) (c248_groups : Int32) (a263 : Nat → Int32) (a283 : Nat → Int32) (a293 : Nat → Int32) (p0 : c248_groups.toInt ≤ 2) (p1 : 2 ≤ c248_groups.toInt) (hr_a263 : dz_rq a263 2 2 0 1) (hr_a283 : dz_pm a283 1) (k : Nat) (ih : ∀ j9, j9 < k → p208_X6_addAhead_g21 fu c248_groups a263 a283 a293 j9) : ∀ (v3 : Int32) (v4 : Int64) (v6 : Int32) (c313_rows : Int64) (a314 : Nat → Int64) (a315 : Nat → Int64), v3.toInt ≤ 1 → 0 ≤ v3.toInt → v6.toInt ≤ 1 → 0 ≤ v6.toInt → v6.toInt ≤ v3.toInt → dz_rg a293 v3.toInt.toNat 0 1 → 0 + 0 + (1 - v6.toInt) * 175 + 7 ≤ ((k : Nat) : Int) → dz_T ((F208_X6_addAhead fu c248_groups a263 a283 a293 k).1 v3 v4 v6 c313_rows a314 a315) (fun r => True) := by
  intro v3 v4 v6 c313_rows a314 a315 i0 i1 i2 i3 i4 hr_a293 hm
  obtain ⟨k0, rfl⟩ : ∃ x, k = x + 1 := ⟨k - 1, by omega⟩
  show dz_T (s208_X6_addAhead_1 fu c248_groups a263 a283 a293 (F208_X6_addAhead fu c248_groups a263 a283 a293 k0).2.1  v3 v4 v6 c313_rows a314 a315) _
  unfold s208_X6_addAhead_1
  refine dz_Tle (fun h1 => ?_) (fun h1 => ?_)
  · skip
    exact dz_Ts trivial
  · skip
    refine dz_Tin (by omega) (by omega) ?_
    have e2 := dz_pmat (hr_a283) (i := v6) (by decide) (by omega) (by omega)
    have e3 := dz_mull (a := (a283 v6.toNatClampNeg)) (b := c248_groups) 0 (by omega) (by omega) (by omega)
    have e4 := dz_l0
    exact (ih k0 (by omega)).2.1 v3 v4 v6 ((a283 v6.toNatClampNeg) * c248_groups) (0 : Int32) c313_rows a314 a315 i0 (by first | assumption | omega) (by first | assumption | omega) i3 (by omega) (by omega) (by omega) (by omega) (dz_rgs (hr_a293) (by omega)) (by omega)
set_option maxHeartbeats 1000000 in
set_option maxRecDepth 10000 in
theorem t208_X6_addAhead_h2_g21 (fu : Nat) (hfu : 1000000000000 ≤ fu) (c248_groups : Int32) (a263 : Nat → Int32) (a283 : Nat → Int32) (a293 : Nat → Int32) (p0 : c248_groups.toInt ≤ 2) (p1 : 2 ≤ c248_groups.toInt) (hr_a263 : dz_rq a263 2 2 0 1) (hr_a283 : dz_pm a283 1) (k : Nat) (ih : ∀ j9, j9 < k → p208_X6_addAhead_g21 fu c248_groups a263 a283 a293 j9) : ∀ (v3 : Int32) (v4 : Int64) (v6 : Int32) (v7 : Int32) (v8 : Int32) (c313_rows : Int64) (a314 : Nat → Int64) (a315 : Nat → Int64), v3.toInt ≤ 1 → 1 ≤ v3.toInt → v6.toInt ≤ 0 → 0 ≤ v6.toInt → v7.toInt ≤ 0 → 0 ≤ v7.toInt → v8.toInt ≤ 2 → 0 ≤ v8.toInt → dz_rg a293 v3.toInt.toNat 0 1 → 0 + 0 + ((1 - v6.toInt) - 1) * 175 + 0 + (2 - v8.toInt) * 49 + 14 ≤ ((k : Nat) : Int) → dz_T ((F208_X6_addAhead fu c248_groups a263 a283 a293 k).2.1 v3 v4 v6 v7 v8 c313_rows a314 a315) (fun r => True) := by
  intro v3 v4 v6 v7 v8 c313_rows a314 a315 i0 i1 i2 i3 i4 i5 i6 i7 hr_a293 hm
  obtain ⟨k0, rfl⟩ : ∃ x, k = x + 1 := ⟨k - 1, by omega⟩
  show dz_T (s208_X6_addAhead_2 fu c248_groups a263 a283 a293 (F208_X6_addAhead fu c248_groups a263 a283 a293 k0).1 (F208_X6_addAhead fu c248_groups a263 a283 a293 k0).2.2  v3 v4 v6 v7 v8 c313_rows a314 a315) _
  unfold s208_X6_addAhead_2
  refine dz_Tle (fun h1 => ?_) (fun h1 => ?_)
  · skip
    have e2 := dz_l1
    have e3 := dz_add (a := v6) (b := (1 : Int32)) (by omega) (by omega)
    exact (ih k0 (by omega)).1 v3 v4 (v6 + (1 : Int32)) c313_rows a314 a315 i0 (by first | assumption | omega) (by omega) (by omega) (by omega) (dz_rgs (hr_a293) (by omega)) (by omega)
  · skip
    refine dz_Tin (by omega) (by omega) ?_
    have e4 := dz_rgat (hr_a293) (i := v6) (by omega) (by omega)
    have e5 := dz_l4
    have e6 := dz_mulr (a := (a293 v6.toNatClampNeg)) (b := (4 : Int32)) 4 (by omega) (by omega) (by omega)
    have e7 := dz_add (a := ((a293 v6.toNatClampNeg) * (4 : Int32))) (b := v8) (by omega) (by omega)
    refine dz_Tin (by omega) (by omega) ?_
    have e8 := dz_rqat (hr_a263) (x := (a293 v6.toNatClampNeg)) (y := v8) (by omega) (by omega) (by omega) (by omega) (by omega)
    have e9 := dz_add (a := v7) (b := (a263 (((a293 v6.toNatClampNeg) * (4 : Int32)) + v8).toNatClampNeg)) (by omega) (by omega)
    have e10 := dz_mulr (a := (v7 + (a263 (((a293 v6.toNatClampNeg) * (4 : Int32)) + v8).toNatClampNeg))) (b := (4 : Int32)) 4 (by omega) (by omega) (by omega)
    have e11 := dz_add (a := ((v7 + (a263 (((a293 v6.toNatClampNeg) * (4 : Int32)) + v8).toNatClampNeg)) * (4 : Int32))) (b := v8) (by omega) (by omega)
    refine dz_Tin (by omega) (by omega) ?_
    refine dz_Tin (by omega) (by omega) ?_
    have e12 := dz_l1
    have e13 := dz_add (a := v6) (b := (1 : Int32)) (by omega) (by omega)
    exact (ih k0 (by omega)).2.2 v3 v4 v6 v7 v8 (v7 + (a263 (((a293 v6.toNatClampNeg) * (4 : Int32)) + v8).toNatClampNeg)) (v6 + (1 : Int32)) c313_rows a314 (vp_updL a315 (((v7 + (a263 (((a293 v6.toNatClampNeg) * (4 : Int32)) + v8).toNatClampNeg)) * (4 : Int32)) + v8).toNatClampNeg ((a315 (((v7 + (a263 (((a293 v6.toNatClampNeg) * (4 : Int32)) + v8).toNatClampNeg)) * (4 : Int32)) + v8).toNatClampNeg) + v4)) i0 i1 i2 i3 i4 i5 (by first | assumption | omega) i7 (by omega) (by omega) (by omega) (by omega) (dz_rgs (hr_a293) (by omega)) (by omega)
set_option maxHeartbeats 1000000 in
set_option maxRecDepth 10000 in
theorem t208_X6_addAhead_h3_g21 (fu : Nat) (hfu : 1000000000000 ≤ fu) (c248_groups : Int32) (a263 : Nat → Int32) (a283 : Nat → Int32) (a293 : Nat → Int32) (p0 : c248_groups.toInt ≤ 2) (p1 : 2 ≤ c248_groups.toInt) (hr_a263 : dz_rq a263 2 2 0 1) (hr_a283 : dz_pm a283 1) (k : Nat) (ih : ∀ j9, j9 < k → p208_X6_addAhead_g21 fu c248_groups a263 a283 a293 j9) : ∀ (v3 : Int32) (v4 : Int64) (v6 : Int32) (v7 : Int32) (v8 : Int32) (v9 : Int32) (v10 : Int32) (c313_rows : Int64) (a314 : Nat → Int64) (a315 : Nat → Int64), v3.toInt ≤ 1 → 1 ≤ v3.toInt → v6.toInt ≤ 0 → 0 ≤ v6.toInt → v7.toInt ≤ 0 → 0 ≤ v7.toInt → v8.toInt ≤ 1 → 0 ≤ v8.toInt → v9.toInt ≤ 1 → 0 ≤ v9.toInt → v10.toInt ≤ 1 → 1 ≤ v10.toInt → dz_rg a293 v3.toInt.toNat 0 1 → 0 + 0 + ((1 - v6.toInt) - 1) * 175 + 0 + ((2 - v8.toInt) - 1) * 49 + 0 + (1 - v10.toInt) * 14 + 21 ≤ ((k : Nat) : Int) → dz_T ((F208_X6_addAhead fu c248_groups a263 a283 a293 k).2.2 v3 v4 v6 v7 v8 v9 v10 c313_rows a314 a315) (fun r => True) := by
  intro v3 v4 v6 v7 v8 v9 v10 c313_rows a314 a315 i0 i1 i2 i3 i4 i5 i6 i7 i8 i9 i10 i11 hr_a293 hm
  obtain ⟨k0, rfl⟩ : ∃ x, k = x + 1 := ⟨k - 1, by omega⟩
  show dz_T (s208_X6_addAhead_3 fu c248_groups a263 a283 a293 (F208_X6_addAhead fu c248_groups a263 a283 a293 k0).2.1 (F208_X6_addAhead fu c248_groups a263 a283 a293 k0).2.2  v3 v4 v6 v7 v8 v9 v10 c313_rows a314 a315) _
  unfold s208_X6_addAhead_3
  refine dz_Tle (fun h1 => ?_) (fun h1 => ?_)
  · skip
    have e2 := dz_l1
    have e3 := dz_add (a := v8) (b := (1 : Int32)) (by omega) (by omega)
    exact (ih k0 (by omega)).2.1 v3 v4 v6 v7 (v8 + (1 : Int32)) c313_rows a314 a315 i0 i1 i2 i3 i4 i5 (by omega) (by omega) (dz_rgs (hr_a293) (by omega)) (by omega)
  · skip
    exfalso; omega
theorem t208_X6_addAhead_I_g21 (fu : Nat) (hfu : 1000000000000 ≤ fu) (c248_groups : Int32) (a263 : Nat → Int32) (a283 : Nat → Int32) (a293 : Nat → Int32) (p0 : c248_groups.toInt ≤ 2) (p1 : 2 ≤ c248_groups.toInt) (hr_a263 : dz_rq a263 2 2 0 1) (hr_a283 : dz_pm a283 1) (k : Nat) : p208_X6_addAhead_g21 fu c248_groups a263 a283 a293 k := by
  induction k using Nat.strongRecOn with
  | _ k ih => exact ⟨t208_X6_addAhead_h1_g21 fu hfu c248_groups a263 a283 a293 p0 p1 hr_a263 hr_a283 k ih, t208_X6_addAhead_h2_g21 fu hfu c248_groups a263 a283 a293 p0 p1 hr_a263 hr_a283 k ih, t208_X6_addAhead_h3_g21 fu hfu c248_groups a263 a283 a293 p0 p1 hr_a263 hr_a283 k ih⟩
set_option maxHeartbeats 1000000 in
set_option maxRecDepth 10000 in
theorem t208_X6_addAhead_E_g21 (fu : Nat) (hfu : 1000000000000 ≤ fu) (c248_groups : Int32) (a263 : Nat → Int32) (a283 : Nat → Int32) (a293 : Nat → Int32) (v3 : Int32) (v4 : Int64) (c313_rows : Int64) (a314 : Nat → Int64) (a315 : Nat → Int64) (p0 : c248_groups.toInt ≤ 2) (p1 : 2 ≤ c248_groups.toInt) (p2 : 0 ≤ v3.toInt) (p3 : v3.toInt ≤ 1) (hr_a263 : dz_rq a263 2 2 0 1) (hr_a283 : dz_pm a283 1) (hr_a293 : dz_rg a293 v3.toInt.toNat 0 1) (kv : Nat) (hkv : 1000000000000 ≤ kv) : dz_T (s208_X6_addAhead_0 fu c248_groups a263 a283 a293 (F208_X6_addAhead fu c248_groups a263 a283 a293 kv).1  v3 v4 c313_rows a314 a315) (fun r => True) := by
  unfold s208_X6_addAhead_0
  have e1 := dz_l0
  exact (t208_X6_addAhead_I_g21 fu hfu c248_groups a263 a283 a293 p0 p1 hr_a263 hr_a283 kv).1 v3 v4 (0 : Int32) (c313_rows + v4) a314 a315 p3 p2 (by omega) (by omega) (by omega) (dz_rgs (hr_a293) (by omega)) (by omega)
theorem t208_X6_addAhead_g21 (fu : Nat) (hfu : 1000000000000 ≤ fu) (c248_groups : Int32) (a263 : Nat → Int32) (a283 : Nat → Int32) (a293 : Nat → Int32) (v3 : Int32) (v4 : Int64) (c313_rows : Int64) (a314 : Nat → Int64) (a315 : Nat → Int64) (p0 : c248_groups.toInt ≤ 2) (p1 : 2 ≤ c248_groups.toInt) (p2 : 0 ≤ v3.toInt) (p3 : v3.toInt ≤ 1) (hr_a263 : dz_rq a263 2 2 0 1) (hr_a283 : dz_pm a283 1) (hr_a293 : dz_rg a293 v3.toInt.toNat 0 1) : dz_T (f208_X6_addAhead fu c248_groups a263 a283 a293 v3 v4 c313_rows a314 a315) (fun r => True) :=
  t208_X6_addAhead_E_g21 fu hfu c248_groups a263 a283 a293 v3 v4 c313_rows a314 a315 p0 p1 p2 p3 hr_a263 hr_a283 hr_a293 fu hfu
abbrev p208_X6_addAhead_g22 (fu : Nat) (c248_groups : Int32) (a263 : Nat → Int32) (a283 : Nat → Int32) (a293 : Nat → Int32) (k : Nat) : Prop :=
  (∀ (v3 : Int32) (v4 : Int64) (v6 : Int32) (c313_rows : Int64) (a314 : Nat → Int64) (a315 : Nat → Int64), v3.toInt ≤ 2 → 0 ≤ v3.toInt → v6.toInt ≤ 2 → 0 ≤ v6.toInt → v6.toInt ≤ v3.toInt → dz_rg a293 v3.toInt.toNat 0 1 → 0 + 0 + (2 - v6.toInt) * 217 + 7 ≤ ((k : Nat) : Int) → dz_T ((F208_X6_addAhead fu c248_groups a263 a283 a293 k).1 v3 v4 v6 c313_rows a314 a315) (fun r => True)) ∧ (∀ (v3 : Int32) (v4 : Int64) (v6 : Int32) (v7 : Int32) (v8 : Int32) (c313_rows : Int64) (a314 : Nat → Int64) (a315 : Nat → Int64), v3.toInt ≤ 2 → 1 ≤ v3.toInt → v6.toInt ≤ 1 → 0 ≤ v6.toInt → v7.toInt ≤ 2 → 0 ≤ v7.toInt → v8.toInt ≤ 2 → 0 ≤ v8.toInt → v6.toInt + 1 ≤ v3.toInt → dz_rg a293 v3.toInt.toNat 0 1 → 0 + 0 + ((2 - v6.toInt) - 1) * 217 + 0 + (2 - v8.toInt) * 63 + 14 ≤ ((k : Nat) : Int) → dz_T ((F208_X6_addAhead fu c248_groups a263 a283 a293 k).2.1 v3 v4 v6 v7 v8 c313_rows a314 a315) (fun r => True)) ∧ (∀ (v3 : Int32) (v4 : Int64) (v6 : Int32) (v7 : Int32) (v8 : Int32) (v9 : Int32) (v10 : Int32) (c313_rows : Int64) (a314 : Nat → Int64) (a315 : Nat → Int64), v3.toInt ≤ 2 → 1 ≤ v3.toInt → v6.toInt ≤ 1 → 0 ≤ v6.toInt → v7.toInt ≤ 2 → 0 ≤ v7.toInt → v8.toInt ≤ 1 → 0 ≤ v8.toInt → v9.toInt ≤ 3 → 0 ≤ v9.toInt → v10.toInt ≤ 2 → 1 ≤ v10.toInt → v6.toInt + 1 ≤ v10.toInt → v6.toInt + 1 ≤ v3.toInt → v10.toInt ≤ v3.toInt → v7.toInt ≤ v9.toInt → v9.toInt ≤ v7.toInt + 1 → dz_rg a293 v3.toInt.toNat 0 1 → 0 + 0 + ((2 - v6.toInt) - 1) * 217 + 0 + ((2 - v8.toInt) - 1) * 63 + 0 + (2 - v10.toInt) * 14 + 21 ≤ ((k : Nat) : Int) → dz_T ((F208_X6_addAhead fu c248_groups a263 a283 a293 k).2.2 v3 v4 v6 v7 v8 v9 v10 c313_rows a314 a315) (fun r => True))
set_option maxHeartbeats 1000000 in
set_option maxRecDepth 10000 in
theorem t208_X6_addAhead_h1_g22 (fu : Nat) (hfu : 1000000000000 ≤ fu) (c248_groups : Int32) (a263 : Nat → Int32) (a283 : Nat → Int32) (a293 : Nat → Int32) (p0 : c248_groups.toInt ≤ 2) (p1 : 2 ≤ c248_groups.toInt) (hr_a263 : dz_rq a263 2 2 0 1) (hr_a283 : dz_pm a283 2) (k : Nat) (ih : ∀ j9, j9 < k → p208_X6_addAhead_g22 fu c248_groups a263 a283 a293 j9) : ∀ (v3 : Int32) (v4 : Int64) (v6 : Int32) (c313_rows : Int64) (a314 : Nat → Int64) (a315 : Nat → Int64), v3.toInt ≤ 2 → 0 ≤ v3.toInt → v6.toInt ≤ 2 → 0 ≤ v6.toInt → v6.toInt ≤ v3.toInt → dz_rg a293 v3.toInt.toNat 0 1 → 0 + 0 + (2 - v6.toInt) * 217 + 7 ≤ ((k : Nat) : Int) → dz_T ((F208_X6_addAhead fu c248_groups a263 a283 a293 k).1 v3 v4 v6 c313_rows a314 a315) (fun r => True) := by
  intro v3 v4 v6 c313_rows a314 a315 i0 i1 i2 i3 i4 hr_a293 hm
  obtain ⟨k0, rfl⟩ : ∃ x, k = x + 1 := ⟨k - 1, by omega⟩
  show dz_T (s208_X6_addAhead_1 fu c248_groups a263 a283 a293 (F208_X6_addAhead fu c248_groups a263 a283 a293 k0).2.1  v3 v4 v6 c313_rows a314 a315) _
  unfold s208_X6_addAhead_1
  refine dz_Tle (fun h1 => ?_) (fun h1 => ?_)
  · skip
    exact dz_Ts trivial
  · skip
    refine dz_Tin (by omega) (by omega) ?_
    have e2 := dz_pmat (hr_a283) (i := v6) (by decide) (by omega) (by omega)
    have e3 := dz_mulr (a := (a283 v6.toNatClampNeg)) (b := c248_groups) 2 (by omega) (by omega) (by omega)
    have e4 := dz_l0
    exact (ih k0 (by omega)).2.1 v3 v4 v6 ((a283 v6.toNatClampNeg) * c248_groups) (0 : Int32) c313_rows a314 a315 i0 (by first | assumption | omega) (by first | assumption | omega) i3 (by omega) (by omega) (by omega) (by omega) (by first | assumption | omega) (dz_rgs (hr_a293) (by omega)) (by omega)
set_option maxHeartbeats 1000000 in
set_option maxRecDepth 10000 in
theorem t208_X6_addAhead_h2_g22 (fu : Nat) (hfu : 1000000000000 ≤ fu) (c248_groups : Int32) (a263 : Nat → Int32) (a283 : Nat → Int32) (a293 : Nat → Int32) (p0 : c248_groups.toInt ≤ 2) (p1 : 2 ≤ c248_groups.toInt) (hr_a263 : dz_rq a263 2 2 0 1) (hr_a283 : dz_pm a283 2) (k : Nat) (ih : ∀ j9, j9 < k → p208_X6_addAhead_g22 fu c248_groups a263 a283 a293 j9) : ∀ (v3 : Int32) (v4 : Int64) (v6 : Int32) (v7 : Int32) (v8 : Int32) (c313_rows : Int64) (a314 : Nat → Int64) (a315 : Nat → Int64), v3.toInt ≤ 2 → 1 ≤ v3.toInt → v6.toInt ≤ 1 → 0 ≤ v6.toInt → v7.toInt ≤ 2 → 0 ≤ v7.toInt → v8.toInt ≤ 2 → 0 ≤ v8.toInt → v6.toInt + 1 ≤ v3.toInt → dz_rg a293 v3.toInt.toNat 0 1 → 0 + 0 + ((2 - v6.toInt) - 1) * 217 + 0 + (2 - v8.toInt) * 63 + 14 ≤ ((k : Nat) : Int) → dz_T ((F208_X6_addAhead fu c248_groups a263 a283 a293 k).2.1 v3 v4 v6 v7 v8 c313_rows a314 a315) (fun r => True) := by
  intro v3 v4 v6 v7 v8 c313_rows a314 a315 i0 i1 i2 i3 i4 i5 i6 i7 i8 hr_a293 hm
  obtain ⟨k0, rfl⟩ : ∃ x, k = x + 1 := ⟨k - 1, by omega⟩
  show dz_T (s208_X6_addAhead_2 fu c248_groups a263 a283 a293 (F208_X6_addAhead fu c248_groups a263 a283 a293 k0).1 (F208_X6_addAhead fu c248_groups a263 a283 a293 k0).2.2  v3 v4 v6 v7 v8 c313_rows a314 a315) _
  unfold s208_X6_addAhead_2
  refine dz_Tle (fun h1 => ?_) (fun h1 => ?_)
  · skip
    have e2 := dz_l1
    have e3 := dz_add (a := v6) (b := (1 : Int32)) (by omega) (by omega)
    exact (ih k0 (by omega)).1 v3 v4 (v6 + (1 : Int32)) c313_rows a314 a315 i0 (by first | assumption | omega) (by omega) (by omega) (by omega) (dz_rgs (hr_a293) (by omega)) (by omega)
  · skip
    refine dz_Tin (by omega) (by omega) ?_
    have e4 := dz_rgat (hr_a293) (i := v6) (by omega) (by omega)
    have e5 := dz_l4
    have e6 := dz_mulr (a := (a293 v6.toNatClampNeg)) (b := (4 : Int32)) 4 (by omega) (by omega) (by omega)
    have e7 := dz_add (a := ((a293 v6.toNatClampNeg) * (4 : Int32))) (b := v8) (by omega) (by omega)
    refine dz_Tin (by omega) (by omega) ?_
    have e8 := dz_rqat (hr_a263) (x := (a293 v6.toNatClampNeg)) (y := v8) (by omega) (by omega) (by omega) (by omega) (by omega)
    have e9 := dz_add (a := v7) (b := (a263 (((a293 v6.toNatClampNeg) * (4 : Int32)) + v8).toNatClampNeg)) (by omega) (by omega)
    have e10 := dz_mulr (a := (v7 + (a263 (((a293 v6.toNatClampNeg) * (4 : Int32)) + v8).toNatClampNeg))) (b := (4 : Int32)) 4 (by omega) (by omega) (by omega)
    have e11 := dz_add (a := ((v7 + (a263 (((a293 v6.toNatClampNeg) * (4 : Int32)) + v8).toNatClampNeg)) * (4 : Int32))) (b := v8) (by omega) (by omega)
    refine dz_Tin (by omega) (by omega) ?_
    refine dz_Tin (by omega) (by omega) ?_
    have e12 := dz_l1
    have e13 := dz_add (a := v6) (b := (1 : Int32)) (by omega) (by omega)
    exact (ih k0 (by omega)).2.2 v3 v4 v6 v7 v8 (v7 + (a263 (((a293 v6.toNatClampNeg) * (4 : Int32)) + v8).toNatClampNeg)) (v6 + (1 : Int32)) c313_rows a314 (vp_updL a315 (((v7 + (a263 (((a293 v6.toNatClampNeg) * (4 : Int32)) + v8).toNatClampNeg)) * (4 : Int32)) + v8).toNatClampNeg ((a315 (((v7 + (a263 (((a293 v6.toNatClampNeg) * (4 : Int32)) + v8).toNatClampNeg)) * (4 : Int32)) + v8).toNatClampNeg) + v4)) i0 i1 i2 i3 i4 i5 (by first | assumption | omega) i7 (by omega) (by omega) (by omega) (by omega) (by omega) i8 (by omega) (by omega) (by omega) (dz_rgs (hr_a293) (by omega)) (by omega)
set_option maxHeartbeats 1000000 in
set_option maxRecDepth 10000 in
theorem t208_X6_addAhead_h3_g22 (fu : Nat) (hfu : 1000000000000 ≤ fu) (c248_groups : Int32) (a263 : Nat → Int32) (a283 : Nat → Int32) (a293 : Nat → Int32) (p0 : c248_groups.toInt ≤ 2) (p1 : 2 ≤ c248_groups.toInt) (hr_a263 : dz_rq a263 2 2 0 1) (hr_a283 : dz_pm a283 2) (k : Nat) (ih : ∀ j9, j9 < k → p208_X6_addAhead_g22 fu c248_groups a263 a283 a293 j9) : ∀ (v3 : Int32) (v4 : Int64) (v6 : Int32) (v7 : Int32) (v8 : Int32) (v9 : Int32) (v10 : Int32) (c313_rows : Int64) (a314 : Nat → Int64) (a315 : Nat → Int64), v3.toInt ≤ 2 → 1 ≤ v3.toInt → v6.toInt ≤ 1 → 0 ≤ v6.toInt → v7.toInt ≤ 2 → 0 ≤ v7.toInt → v8.toInt ≤ 1 → 0 ≤ v8.toInt → v9.toInt ≤ 3 → 0 ≤ v9.toInt → v10.toInt ≤ 2 → 1 ≤ v10.toInt → v6.toInt + 1 ≤ v10.toInt → v6.toInt + 1 ≤ v3.toInt → v10.toInt ≤ v3.toInt → v7.toInt ≤ v9.toInt → v9.toInt ≤ v7.toInt + 1 → dz_rg a293 v3.toInt.toNat 0 1 → 0 + 0 + ((2 - v6.toInt) - 1) * 217 + 0 + ((2 - v8.toInt) - 1) * 63 + 0 + (2 - v10.toInt) * 14 + 21 ≤ ((k : Nat) : Int) → dz_T ((F208_X6_addAhead fu c248_groups a263 a283 a293 k).2.2 v3 v4 v6 v7 v8 v9 v10 c313_rows a314 a315) (fun r => True) := by
  intro v3 v4 v6 v7 v8 v9 v10 c313_rows a314 a315 i0 i1 i2 i3 i4 i5 i6 i7 i8 i9 i10 i11 i12 i13 i14 i15 i16 hr_a293 hm
  obtain ⟨k0, rfl⟩ : ∃ x, k = x + 1 := ⟨k - 1, by omega⟩
  show dz_T (s208_X6_addAhead_3 fu c248_groups a263 a283 a293 (F208_X6_addAhead fu c248_groups a263 a283 a293 k0).2.1 (F208_X6_addAhead fu c248_groups a263 a283 a293 k0).2.2  v3 v4 v6 v7 v8 v9 v10 c313_rows a314 a315) _
  unfold s208_X6_addAhead_3
  refine dz_Tle (fun h1 => ?_) (fun h1 => ?_)
  · skip
    have e2 := dz_l1
    have e3 := dz_add (a := v8) (b := (1 : Int32)) (by omega) (by omega)
    exact (ih k0 (by omega)).2.1 v3 v4 v6 v7 (v8 + (1 : Int32)) c313_rows a314 a315 i0 i1 i2 i3 i4 i5 (by omega) (by omega) i13 (dz_rgs (hr_a293) (by omega)) (by omega)
  · skip
    refine dz_Tin (by omega) (by omega) ?_
    have e4 := dz_rgat (hr_a293) (i := v10) (by omega) (by omega)
    have e5 := dz_l4
    have e6 := dz_mulr (a := (a293 v10.toNatClampNeg)) (b := (4 : Int32)) 4 (by omega) (by omega) (by omega)
    have e7 := dz_add (a := ((a293 v10.toNatClampNeg) * (4 : Int32))) (b := v8) (by omega) (by omega)
    refine dz_Tin (by omega) (by omega) ?_
    refine dz_Tin (by omega) (by omega) ?_
    have e8 := dz_l12
    have e9 := dz_mulr (a := v9) (b := (12 : Int32)) 12 (by omega) (by omega) (by omega)
    have e10 := dz_pmat (hr_a283) (i := v10) (by decide) (by omega) (by omega)
    have e11 := dz_mulr (a := (a283 v10.toNatClampNeg)) (b := c248_groups) 2 (by omega) (by omega) (by omega)
    have e12 := dz_add (a := (v9 * (12 : Int32))) (b := ((a283 v10.toNatClampNeg) * c248_groups)) (by omega) (by omega)
    have e13 := dz_rqat (hr_a263) (x := (a293 v10.toNatClampNeg)) (y := v8) (by omega) (by omega) (by omega) (by omega) (by omega)
    have e14 := dz_add (a := ((v9 * (12 : Int32)) + ((a283 v10.toNatClampNeg) * c248_groups))) (b := (a263 (((a293 v10.toNatClampNeg) * (4 : Int32)) + v8).toNatClampNeg)) (by omega) (by omega)
    refine dz_Tin (by omega) (by omega) ?_
    refine dz_Tin (by omega) (by omega) ?_
    have e15 := dz_l1
    have e16 := dz_add (a := v10) (b := (1 : Int32)) (by omega) (by omega)
    exact (ih k0 (by omega)).2.2 v3 v4 v6 v7 v8 v9 (v10 + (1 : Int32)) c313_rows (vp_updL a314 (((v9 * (12 : Int32)) + ((a283 v10.toNatClampNeg) * c248_groups)) + (a263 (((a293 v10.toNatClampNeg) * (4 : Int32)) + v8).toNatClampNeg)).toNatClampNeg ((a314 (((v9 * (12 : Int32)) + ((a283 v10.toNatClampNeg) * c248_groups)) + (a263 (((a293 v10.toNatClampNeg) * (4 : Int32)) + v8).toNatClampNeg)).toNatClampNeg) + v4)) a315 i0 i1 i2 i3 i4 i5 i6 i7 i8 i9 (by omega) (by omega) (by omega) i13 (by omega) i15 i16 (dz_rgs (hr_a293) (by omega)) (by omega)
theorem t208_X6_addAhead_I_g22 (fu : Nat) (hfu : 1000000000000 ≤ fu) (c248_groups : Int32) (a263 : Nat → Int32) (a283 : Nat → Int32) (a293 : Nat → Int32) (p0 : c248_groups.toInt ≤ 2) (p1 : 2 ≤ c248_groups.toInt) (hr_a263 : dz_rq a263 2 2 0 1) (hr_a283 : dz_pm a283 2) (k : Nat) : p208_X6_addAhead_g22 fu c248_groups a263 a283 a293 k := by
  induction k using Nat.strongRecOn with
  | _ k ih => exact ⟨t208_X6_addAhead_h1_g22 fu hfu c248_groups a263 a283 a293 p0 p1 hr_a263 hr_a283 k ih, t208_X6_addAhead_h2_g22 fu hfu c248_groups a263 a283 a293 p0 p1 hr_a263 hr_a283 k ih, t208_X6_addAhead_h3_g22 fu hfu c248_groups a263 a283 a293 p0 p1 hr_a263 hr_a283 k ih⟩
set_option maxHeartbeats 1000000 in
set_option maxRecDepth 10000 in
theorem t208_X6_addAhead_E_g22 (fu : Nat) (hfu : 1000000000000 ≤ fu) (c248_groups : Int32) (a263 : Nat → Int32) (a283 : Nat → Int32) (a293 : Nat → Int32) (v3 : Int32) (v4 : Int64) (c313_rows : Int64) (a314 : Nat → Int64) (a315 : Nat → Int64) (p0 : c248_groups.toInt ≤ 2) (p1 : 2 ≤ c248_groups.toInt) (p2 : 0 ≤ v3.toInt) (p3 : v3.toInt ≤ 2) (hr_a263 : dz_rq a263 2 2 0 1) (hr_a283 : dz_pm a283 2) (hr_a293 : dz_rg a293 v3.toInt.toNat 0 1) (kv : Nat) (hkv : 1000000000000 ≤ kv) : dz_T (s208_X6_addAhead_0 fu c248_groups a263 a283 a293 (F208_X6_addAhead fu c248_groups a263 a283 a293 kv).1  v3 v4 c313_rows a314 a315) (fun r => True) := by
  unfold s208_X6_addAhead_0
  have e1 := dz_l0
  exact (t208_X6_addAhead_I_g22 fu hfu c248_groups a263 a283 a293 p0 p1 hr_a263 hr_a283 kv).1 v3 v4 (0 : Int32) (c313_rows + v4) a314 a315 p3 p2 (by omega) (by omega) (by omega) (dz_rgs (hr_a293) (by omega)) (by omega)
theorem t208_X6_addAhead_g22 (fu : Nat) (hfu : 1000000000000 ≤ fu) (c248_groups : Int32) (a263 : Nat → Int32) (a283 : Nat → Int32) (a293 : Nat → Int32) (v3 : Int32) (v4 : Int64) (c313_rows : Int64) (a314 : Nat → Int64) (a315 : Nat → Int64) (p0 : c248_groups.toInt ≤ 2) (p1 : 2 ≤ c248_groups.toInt) (p2 : 0 ≤ v3.toInt) (p3 : v3.toInt ≤ 2) (hr_a263 : dz_rq a263 2 2 0 1) (hr_a283 : dz_pm a283 2) (hr_a293 : dz_rg a293 v3.toInt.toNat 0 1) : dz_T (f208_X6_addAhead fu c248_groups a263 a283 a293 v3 v4 c313_rows a314 a315) (fun r => True) :=
  t208_X6_addAhead_E_g22 fu hfu c248_groups a263 a283 a293 v3 v4 c313_rows a314 a315 p0 p1 p2 p3 hr_a263 hr_a283 hr_a293 fu hfu
abbrev p208_X6_addAhead_g23 (fu : Nat) (c248_groups : Int32) (a263 : Nat → Int32) (a283 : Nat → Int32) (a293 : Nat → Int32) (k : Nat) : Prop :=
  (∀ (v3 : Int32) (v4 : Int64) (v6 : Int32) (c313_rows : Int64) (a314 : Nat → Int64) (a315 : Nat → Int64), v3.toInt ≤ 3 → 0 ≤ v3.toInt → v6.toInt ≤ 3 → 0 ≤ v6.toInt → v6.toInt ≤ v3.toInt → dz_rg a293 v3.toInt.toNat 0 1 → 0 + 0 + (3 - v6.toInt) * 259 + 7 ≤ ((k : Nat) : Int) → dz_T ((F208_X6_addAhead fu c248_groups a263 a283 a293 k).1 v3 v4 v6 c313_rows a314 a315) (fun r => True)) ∧ (∀ (v3 : Int32) (v4 : Int64) (v6 : Int32) (v7 : Int32) (v8 : Int32) (c313_rows : Int64) (a314 : Nat → Int64) (a315 : Nat → Int64), v3.toInt ≤ 3 → 1 ≤ v3.toInt → v6.toInt ≤ 2 → 0 ≤ v6.toInt → v7.toInt ≤ 4 → 0 ≤ v7.toInt → v8.toInt ≤ 2 → 0 ≤ v8.toInt → v6.toInt + 1 ≤ v3.toInt → dz_rg a293 v3.toInt.toNat 0 1 → 0 + 0 + ((3 - v6.toInt) - 1) * 259 + 0 + (2 - v8.toInt) * 77 + 14 ≤ ((k : Nat) : Int) → dz_T ((F208_X6_addAhead fu c248_groups a263 a283 a293 k).2.1 v3 v4 v6 v7 v8 c313_rows a314 a315) (fun r => True)) ∧ (∀ (v3 : Int32) (v4 : Int64) (v6 : Int32) (v7 : Int32) (v8 : Int32) (v9 : Int32) (v10 : Int32) (c313_rows : Int64) (a314 : Nat → Int64) (a315 : Nat → Int64), v3.toInt ≤ 3 → 1 ≤ v3.toInt → v6.toInt ≤ 2 → 0 ≤ v6.toInt → v7.toInt ≤ 4 → 0 ≤ v7.toInt → v8.toInt ≤ 1 → 0 ≤ v8.toInt → v9.toInt ≤ 5 → 0 ≤ v9.toInt → v10.toInt ≤ 3 → 1 ≤ v10.toInt → v6.toInt + 1 ≤ v10.toInt → v6.toInt + 1 ≤ v3.toInt → v10.toInt ≤ v3.toInt → v7.toInt ≤ v9.toInt → v9.toInt ≤ v7.toInt + 1 → dz_rg a293 v3.toInt.toNat 0 1 → 0 + 0 + ((3 - v6.toInt) - 1) * 259 + 0 + ((2 - v8.toInt) - 1) * 77 + 0 + (3 - v10.toInt) * 14 + 21 ≤ ((k : Nat) : Int) → dz_T ((F208_X6_addAhead fu c248_groups a263 a283 a293 k).2.2 v3 v4 v6 v7 v8 v9 v10 c313_rows a314 a315) (fun r => True))
set_option maxHeartbeats 1000000 in
set_option maxRecDepth 10000 in
theorem t208_X6_addAhead_h1_g23 (fu : Nat) (hfu : 1000000000000 ≤ fu) (c248_groups : Int32) (a263 : Nat → Int32) (a283 : Nat → Int32) (a293 : Nat → Int32) (p0 : c248_groups.toInt ≤ 2) (p1 : 2 ≤ c248_groups.toInt) (hr_a263 : dz_rq a263 2 2 0 1) (hr_a283 : dz_pm a283 3) (k : Nat) (ih : ∀ j9, j9 < k → p208_X6_addAhead_g23 fu c248_groups a263 a283 a293 j9) : ∀ (v3 : Int32) (v4 : Int64) (v6 : Int32) (c313_rows : Int64) (a314 : Nat → Int64) (a315 : Nat → Int64), v3.toInt ≤ 3 → 0 ≤ v3.toInt → v6.toInt ≤ 3 → 0 ≤ v6.toInt → v6.toInt ≤ v3.toInt → dz_rg a293 v3.toInt.toNat 0 1 → 0 + 0 + (3 - v6.toInt) * 259 + 7 ≤ ((k : Nat) : Int) → dz_T ((F208_X6_addAhead fu c248_groups a263 a283 a293 k).1 v3 v4 v6 c313_rows a314 a315) (fun r => True) := by
  intro v3 v4 v6 c313_rows a314 a315 i0 i1 i2 i3 i4 hr_a293 hm
  obtain ⟨k0, rfl⟩ : ∃ x, k = x + 1 := ⟨k - 1, by omega⟩
  show dz_T (s208_X6_addAhead_1 fu c248_groups a263 a283 a293 (F208_X6_addAhead fu c248_groups a263 a283 a293 k0).2.1  v3 v4 v6 c313_rows a314 a315) _
  unfold s208_X6_addAhead_1
  refine dz_Tle (fun h1 => ?_) (fun h1 => ?_)
  · skip
    exact dz_Ts trivial
  · skip
    refine dz_Tin (by omega) (by omega) ?_
    have e2 := dz_pmat (hr_a283) (i := v6) (by decide) (by omega) (by omega)
    have e3 := dz_mulr (a := (a283 v6.toNatClampNeg)) (b := c248_groups) 2 (by omega) (by omega) (by omega)
    have e4 := dz_l0
    exact (ih k0 (by omega)).2.1 v3 v4 v6 ((a283 v6.toNatClampNeg) * c248_groups) (0 : Int32) c313_rows a314 a315 i0 (by first | assumption | omega) (by first | assumption | omega) i3 (by omega) (by omega) (by omega) (by omega) (by first | assumption | omega) (dz_rgs (hr_a293) (by omega)) (by omega)
set_option maxHeartbeats 1000000 in
set_option maxRecDepth 10000 in
theorem t208_X6_addAhead_h2_g23 (fu : Nat) (hfu : 1000000000000 ≤ fu) (c248_groups : Int32) (a263 : Nat → Int32) (a283 : Nat → Int32) (a293 : Nat → Int32) (p0 : c248_groups.toInt ≤ 2) (p1 : 2 ≤ c248_groups.toInt) (hr_a263 : dz_rq a263 2 2 0 1) (hr_a283 : dz_pm a283 3) (k : Nat) (ih : ∀ j9, j9 < k → p208_X6_addAhead_g23 fu c248_groups a263 a283 a293 j9) : ∀ (v3 : Int32) (v4 : Int64) (v6 : Int32) (v7 : Int32) (v8 : Int32) (c313_rows : Int64) (a314 : Nat → Int64) (a315 : Nat → Int64), v3.toInt ≤ 3 → 1 ≤ v3.toInt → v6.toInt ≤ 2 → 0 ≤ v6.toInt → v7.toInt ≤ 4 → 0 ≤ v7.toInt → v8.toInt ≤ 2 → 0 ≤ v8.toInt → v6.toInt + 1 ≤ v3.toInt → dz_rg a293 v3.toInt.toNat 0 1 → 0 + 0 + ((3 - v6.toInt) - 1) * 259 + 0 + (2 - v8.toInt) * 77 + 14 ≤ ((k : Nat) : Int) → dz_T ((F208_X6_addAhead fu c248_groups a263 a283 a293 k).2.1 v3 v4 v6 v7 v8 c313_rows a314 a315) (fun r => True) := by
  intro v3 v4 v6 v7 v8 c313_rows a314 a315 i0 i1 i2 i3 i4 i5 i6 i7 i8 hr_a293 hm
  obtain ⟨k0, rfl⟩ : ∃ x, k = x + 1 := ⟨k - 1, by omega⟩
  show dz_T (s208_X6_addAhead_2 fu c248_groups a263 a283 a293 (F208_X6_addAhead fu c248_groups a263 a283 a293 k0).1 (F208_X6_addAhead fu c248_groups a263 a283 a293 k0).2.2  v3 v4 v6 v7 v8 c313_rows a314 a315) _
  unfold s208_X6_addAhead_2
  refine dz_Tle (fun h1 => ?_) (fun h1 => ?_)
  · skip
    have e2 := dz_l1
    have e3 := dz_add (a := v6) (b := (1 : Int32)) (by omega) (by omega)
    exact (ih k0 (by omega)).1 v3 v4 (v6 + (1 : Int32)) c313_rows a314 a315 i0 (by first | assumption | omega) (by omega) (by omega) (by omega) (dz_rgs (hr_a293) (by omega)) (by omega)
  · skip
    refine dz_Tin (by omega) (by omega) ?_
    have e4 := dz_rgat (hr_a293) (i := v6) (by omega) (by omega)
    have e5 := dz_l4
    have e6 := dz_mulr (a := (a293 v6.toNatClampNeg)) (b := (4 : Int32)) 4 (by omega) (by omega) (by omega)
    have e7 := dz_add (a := ((a293 v6.toNatClampNeg) * (4 : Int32))) (b := v8) (by omega) (by omega)
    refine dz_Tin (by omega) (by omega) ?_
    have e8 := dz_rqat (hr_a263) (x := (a293 v6.toNatClampNeg)) (y := v8) (by omega) (by omega) (by omega) (by omega) (by omega)
    have e9 := dz_add (a := v7) (b := (a263 (((a293 v6.toNatClampNeg) * (4 : Int32)) + v8).toNatClampNeg)) (by omega) (by omega)
    have e10 := dz_mulr (a := (v7 + (a263 (((a293 v6.toNatClampNeg) * (4 : Int32)) + v8).toNatClampNeg))) (b := (4 : Int32)) 4 (by omega) (by omega) (by omega)
    have e11 := dz_add (a := ((v7 + (a263 (((a293 v6.toNatClampNeg) * (4 : Int32)) + v8).toNatClampNeg)) * (4 : Int32))) (b := v8) (by omega) (by omega)
    refine dz_Tin (by omega) (by omega) ?_
    refine dz_Tin (by omega) (by omega) ?_
    have e12 := dz_l1
    have e13 := dz_add (a := v6) (b := (1 : Int32)) (by omega) (by omega)
    exact (ih k0 (by omega)).2.2 v3 v4 v6 v7 v8 (v7 + (a263 (((a293 v6.toNatClampNeg) * (4 : Int32)) + v8).toNatClampNeg)) (v6 + (1 : Int32)) c313_rows a314 (vp_updL a315 (((v7 + (a263 (((a293 v6.toNatClampNeg) * (4 : Int32)) + v8).toNatClampNeg)) * (4 : Int32)) + v8).toNatClampNeg ((a315 (((v7 + (a263 (((a293 v6.toNatClampNeg) * (4 : Int32)) + v8).toNatClampNeg)) * (4 : Int32)) + v8).toNatClampNeg) + v4)) i0 i1 i2 i3 i4 i5 (by first | assumption | omega) i7 (by omega) (by omega) (by omega) (by omega) (by omega) i8 (by omega) (by omega) (by omega) (dz_rgs (hr_a293) (by omega)) (by omega)
set_option maxHeartbeats 1000000 in
set_option maxRecDepth 10000 in
theorem t208_X6_addAhead_h3_g23 (fu : Nat) (hfu : 1000000000000 ≤ fu) (c248_groups : Int32) (a263 : Nat → Int32) (a283 : Nat → Int32) (a293 : Nat → Int32) (p0 : c248_groups.toInt ≤ 2) (p1 : 2 ≤ c248_groups.toInt) (hr_a263 : dz_rq a263 2 2 0 1) (hr_a283 : dz_pm a283 3) (k : Nat) (ih : ∀ j9, j9 < k → p208_X6_addAhead_g23 fu c248_groups a263 a283 a293 j9) : ∀ (v3 : Int32) (v4 : Int64) (v6 : Int32) (v7 : Int32) (v8 : Int32) (v9 : Int32) (v10 : Int32) (c313_rows : Int64) (a314 : Nat → Int64) (a315 : Nat → Int64), v3.toInt ≤ 3 → 1 ≤ v3.toInt → v6.toInt ≤ 2 → 0 ≤ v6.toInt → v7.toInt ≤ 4 → 0 ≤ v7.toInt → v8.toInt ≤ 1 → 0 ≤ v8.toInt → v9.toInt ≤ 5 → 0 ≤ v9.toInt → v10.toInt ≤ 3 → 1 ≤ v10.toInt → v6.toInt + 1 ≤ v10.toInt → v6.toInt + 1 ≤ v3.toInt → v10.toInt ≤ v3.toInt → v7.toInt ≤ v9.toInt → v9.toInt ≤ v7.toInt + 1 → dz_rg a293 v3.toInt.toNat 0 1 → 0 + 0 + ((3 - v6.toInt) - 1) * 259 + 0 + ((2 - v8.toInt) - 1) * 77 + 0 + (3 - v10.toInt) * 14 + 21 ≤ ((k : Nat) : Int) → dz_T ((F208_X6_addAhead fu c248_groups a263 a283 a293 k).2.2 v3 v4 v6 v7 v8 v9 v10 c313_rows a314 a315) (fun r => True) := by
  intro v3 v4 v6 v7 v8 v9 v10 c313_rows a314 a315 i0 i1 i2 i3 i4 i5 i6 i7 i8 i9 i10 i11 i12 i13 i14 i15 i16 hr_a293 hm
  obtain ⟨k0, rfl⟩ : ∃ x, k = x + 1 := ⟨k - 1, by omega⟩
  show dz_T (s208_X6_addAhead_3 fu c248_groups a263 a283 a293 (F208_X6_addAhead fu c248_groups a263 a283 a293 k0).2.1 (F208_X6_addAhead fu c248_groups a263 a283 a293 k0).2.2  v3 v4 v6 v7 v8 v9 v10 c313_rows a314 a315) _
  unfold s208_X6_addAhead_3
  refine dz_Tle (fun h1 => ?_) (fun h1 => ?_)
  · skip
    have e2 := dz_l1
    have e3 := dz_add (a := v8) (b := (1 : Int32)) (by omega) (by omega)
    exact (ih k0 (by omega)).2.1 v3 v4 v6 v7 (v8 + (1 : Int32)) c313_rows a314 a315 i0 i1 i2 i3 i4 i5 (by omega) (by omega) i13 (dz_rgs (hr_a293) (by omega)) (by omega)
  · skip
    refine dz_Tin (by omega) (by omega) ?_
    have e4 := dz_rgat (hr_a293) (i := v10) (by omega) (by omega)
    have e5 := dz_l4
    have e6 := dz_mulr (a := (a293 v10.toNatClampNeg)) (b := (4 : Int32)) 4 (by omega) (by omega) (by omega)
    have e7 := dz_add (a := ((a293 v10.toNatClampNeg) * (4 : Int32))) (b := v8) (by omega) (by omega)
    refine dz_Tin (by omega) (by omega) ?_
    refine dz_Tin (by omega) (by omega) ?_
    have e8 := dz_l12
    have e9 := dz_mulr (a := v9) (b := (12 : Int32)) 12 (by omega) (by omega) (by omega)
    have e10 := dz_pmat (hr_a283) (i := v10) (by decide) (by omega) (by omega)
    have e11 := dz_mulr (a := (a283 v10.toNatClampNeg)) (b := c248_groups) 2 (by omega) (by omega) (by omega)
    have e12 := dz_add (a := (v9 * (12 : Int32))) (b := ((a283 v10.toNatClampNeg) * c248_groups)) (by omega) (by omega)
    have e13 := dz_rqat (hr_a263) (x := (a293 v10.toNatClampNeg)) (y := v8) (by omega) (by omega) (by omega) (by omega) (by omega)
    have e14 := dz_add (a := ((v9 * (12 : Int32)) + ((a283 v10.toNatClampNeg) * c248_groups))) (b := (a263 (((a293 v10.toNatClampNeg) * (4 : Int32)) + v8).toNatClampNeg)) (by omega) (by omega)
    refine dz_Tin (by omega) (by omega) ?_
    refine dz_Tin (by omega) (by omega) ?_
    have e15 := dz_l1
    have e16 := dz_add (a := v10) (b := (1 : Int32)) (by omega) (by omega)
    exact (ih k0 (by omega)).2.2 v3 v4 v6 v7 v8 v9 (v10 + (1 : Int32)) c313_rows (vp_updL a314 (((v9 * (12 : Int32)) + ((a283 v10.toNatClampNeg) * c248_groups)) + (a263 (((a293 v10.toNatClampNeg) * (4 : Int32)) + v8).toNatClampNeg)).toNatClampNeg ((a314 (((v9 * (12 : Int32)) + ((a283 v10.toNatClampNeg) * c248_groups)) + (a263 (((a293 v10.toNatClampNeg) * (4 : Int32)) + v8).toNatClampNeg)).toNatClampNeg) + v4)) a315 i0 i1 i2 i3 i4 i5 i6 i7 i8 i9 (by omega) (by omega) (by omega) i13 (by omega) i15 i16 (dz_rgs (hr_a293) (by omega)) (by omega)
theorem t208_X6_addAhead_I_g23 (fu : Nat) (hfu : 1000000000000 ≤ fu) (c248_groups : Int32) (a263 : Nat → Int32) (a283 : Nat → Int32) (a293 : Nat → Int32) (p0 : c248_groups.toInt ≤ 2) (p1 : 2 ≤ c248_groups.toInt) (hr_a263 : dz_rq a263 2 2 0 1) (hr_a283 : dz_pm a283 3) (k : Nat) : p208_X6_addAhead_g23 fu c248_groups a263 a283 a293 k := by
  induction k using Nat.strongRecOn with
  | _ k ih => exact ⟨t208_X6_addAhead_h1_g23 fu hfu c248_groups a263 a283 a293 p0 p1 hr_a263 hr_a283 k ih, t208_X6_addAhead_h2_g23 fu hfu c248_groups a263 a283 a293 p0 p1 hr_a263 hr_a283 k ih, t208_X6_addAhead_h3_g23 fu hfu c248_groups a263 a283 a293 p0 p1 hr_a263 hr_a283 k ih⟩
set_option maxHeartbeats 1000000 in
set_option maxRecDepth 10000 in
theorem t208_X6_addAhead_E_g23 (fu : Nat) (hfu : 1000000000000 ≤ fu) (c248_groups : Int32) (a263 : Nat → Int32) (a283 : Nat → Int32) (a293 : Nat → Int32) (v3 : Int32) (v4 : Int64) (c313_rows : Int64) (a314 : Nat → Int64) (a315 : Nat → Int64) (p0 : c248_groups.toInt ≤ 2) (p1 : 2 ≤ c248_groups.toInt) (p2 : 0 ≤ v3.toInt) (p3 : v3.toInt ≤ 3) (hr_a263 : dz_rq a263 2 2 0 1) (hr_a283 : dz_pm a283 3) (hr_a293 : dz_rg a293 v3.toInt.toNat 0 1) (kv : Nat) (hkv : 1000000000000 ≤ kv) : dz_T (s208_X6_addAhead_0 fu c248_groups a263 a283 a293 (F208_X6_addAhead fu c248_groups a263 a283 a293 kv).1  v3 v4 c313_rows a314 a315) (fun r => True) := by
  unfold s208_X6_addAhead_0
  have e1 := dz_l0
  exact (t208_X6_addAhead_I_g23 fu hfu c248_groups a263 a283 a293 p0 p1 hr_a263 hr_a283 kv).1 v3 v4 (0 : Int32) (c313_rows + v4) a314 a315 p3 p2 (by omega) (by omega) (by omega) (dz_rgs (hr_a293) (by omega)) (by omega)
theorem t208_X6_addAhead_g23 (fu : Nat) (hfu : 1000000000000 ≤ fu) (c248_groups : Int32) (a263 : Nat → Int32) (a283 : Nat → Int32) (a293 : Nat → Int32) (v3 : Int32) (v4 : Int64) (c313_rows : Int64) (a314 : Nat → Int64) (a315 : Nat → Int64) (p0 : c248_groups.toInt ≤ 2) (p1 : 2 ≤ c248_groups.toInt) (p2 : 0 ≤ v3.toInt) (p3 : v3.toInt ≤ 3) (hr_a263 : dz_rq a263 2 2 0 1) (hr_a283 : dz_pm a283 3) (hr_a293 : dz_rg a293 v3.toInt.toNat 0 1) : dz_T (f208_X6_addAhead fu c248_groups a263 a283 a293 v3 v4 c313_rows a314 a315) (fun r => True) :=
  t208_X6_addAhead_E_g23 fu hfu c248_groups a263 a283 a293 v3 v4 c313_rows a314 a315 p0 p1 p2 p3 hr_a263 hr_a283 hr_a293 fu hfu
abbrev p208_X6_addAhead_g24 (fu : Nat) (c248_groups : Int32) (a263 : Nat → Int32) (a283 : Nat → Int32) (a293 : Nat → Int32) (k : Nat) : Prop :=
  (∀ (v3 : Int32) (v4 : Int64) (v6 : Int32) (c313_rows : Int64) (a314 : Nat → Int64) (a315 : Nat → Int64), v3.toInt ≤ 4 → 0 ≤ v3.toInt → v6.toInt ≤ 4 → 0 ≤ v6.toInt → v6.toInt ≤ v3.toInt → dz_rg a293 v3.toInt.toNat 0 1 → 0 + 0 + (4 - v6.toInt) * 301 + 7 ≤ ((k : Nat) : Int) → dz_T ((F208_X6_addAhead fu c248_groups a263 a283 a293 k).1 v3 v4 v6 c313_rows a314 a315) (fun r => True)) ∧ (∀ (v3 : Int32) (v4 : Int64) (v6 : Int32) (v7 : Int32) (v8 : Int32) (c313_rows : Int64) (a314 : Nat → Int64) (a315 : Nat → Int64), v3.toInt ≤ 4 → 1 ≤ v3.toInt → v6.toInt ≤ 3 → 0 ≤ v6.toInt → v7.toInt ≤ 6 → 0 ≤ v7.toInt → v8.toInt ≤ 2 → 0 ≤ v8.toInt → v6.toInt + 1 ≤ v3.toInt → dz_rg a293 v3.toInt.toNat 0 1 → 0 + 0 + ((4 - v6.toInt) - 1) * 301 + 0 + (2 - v8.toInt) * 91 + 14 ≤ ((k : Nat) : Int) → dz_T ((F208_X6_addAhead fu c248_groups a263 a283 a293 k).2.1 v3 v4 v6 v7 v8 c313_rows a314 a315) (fun r => True)) ∧ (∀ (v3 : Int32) (v4 : Int64) (v6 : Int32) (v7 : Int32) (v8 : Int32) (v9 : Int32) (v10 : Int32) (c313_rows : Int64) (a314 : Nat → Int64) (a315 : Nat → Int64), v3.toInt ≤ 4 → 1 ≤ v3.toInt → v6.toInt ≤ 3 → 0 ≤ v6.toInt → v7.toInt ≤ 6 → 0 ≤ v7.toInt → v8.toInt ≤ 1 → 0 ≤ v8.toInt → v9.toInt ≤ 7 → 0 ≤ v9.toInt → v10.toInt ≤ 4 → 1 ≤ v10.toInt → v6.toInt + 1 ≤ v10.toInt → v6.toInt + 1 ≤ v3.toInt → v10.toInt ≤ v3.toInt → v7.toInt ≤ v9.toInt → v9.toInt ≤ v7.toInt + 1 → dz_rg a293 v3.toInt.toNat 0 1 → 0 + 0 + ((4 - v6.toInt) - 1) * 301 + 0 + ((2 - v8.toInt) - 1) * 91 + 0 + (4 - v10.toInt) * 14 + 21 ≤ ((k : Nat) : Int) → dz_T ((F208_X6_addAhead fu c248_groups a263 a283 a293 k).2.2 v3 v4 v6 v7 v8 v9 v10 c313_rows a314 a315) (fun r => True))
set_option maxHeartbeats 1000000 in
set_option maxRecDepth 10000 in
theorem t208_X6_addAhead_h1_g24 (fu : Nat) (hfu : 1000000000000 ≤ fu) (c248_groups : Int32) (a263 : Nat → Int32) (a283 : Nat → Int32) (a293 : Nat → Int32) (p0 : c248_groups.toInt ≤ 2) (p1 : 2 ≤ c248_groups.toInt) (hr_a263 : dz_rq a263 2 2 0 1) (hr_a283 : dz_pm a283 4) (k : Nat) (ih : ∀ j9, j9 < k → p208_X6_addAhead_g24 fu c248_groups a263 a283 a293 j9) : ∀ (v3 : Int32) (v4 : Int64) (v6 : Int32) (c313_rows : Int64) (a314 : Nat → Int64) (a315 : Nat → Int64), v3.toInt ≤ 4 → 0 ≤ v3.toInt → v6.toInt ≤ 4 → 0 ≤ v6.toInt → v6.toInt ≤ v3.toInt → dz_rg a293 v3.toInt.toNat 0 1 → 0 + 0 + (4 - v6.toInt) * 301 + 7 ≤ ((k : Nat) : Int) → dz_T ((F208_X6_addAhead fu c248_groups a263 a283 a293 k).1 v3 v4 v6 c313_rows a314 a315) (fun r => True) := by
  intro v3 v4 v6 c313_rows a314 a315 i0 i1 i2 i3 i4 hr_a293 hm
  obtain ⟨k0, rfl⟩ : ∃ x, k = x + 1 := ⟨k - 1, by omega⟩
  show dz_T (s208_X6_addAhead_1 fu c248_groups a263 a283 a293 (F208_X6_addAhead fu c248_groups a263 a283 a293 k0).2.1  v3 v4 v6 c313_rows a314 a315) _
  unfold s208_X6_addAhead_1
  refine dz_Tle (fun h1 => ?_) (fun h1 => ?_)
  · skip
    exact dz_Ts trivial
  · skip
    refine dz_Tin (by omega) (by omega) ?_
    have e2 := dz_pmat (hr_a283) (i := v6) (by decide) (by omega) (by omega)
    have e3 := dz_mulr (a := (a283 v6.toNatClampNeg)) (b := c248_groups) 2 (by omega) (by omega) (by omega)
    have e4 := dz_l0
    exact (ih k0 (by omega)).2.1 v3 v4 v6 ((a283 v6.toNatClampNeg) * c248_groups) (0 : Int32) c313_rows a314 a315 i0 (by first | assumption | omega) (by first | assumption | omega) i3 (by omega) (by omega) (by omega) (by omega) (by first | assumption | omega) (dz_rgs (hr_a293) (by omega)) (by omega)
set_option maxHeartbeats 1000000 in
set_option maxRecDepth 10000 in
theorem t208_X6_addAhead_h2_g24 (fu : Nat) (hfu : 1000000000000 ≤ fu) (c248_groups : Int32) (a263 : Nat → Int32) (a283 : Nat → Int32) (a293 : Nat → Int32) (p0 : c248_groups.toInt ≤ 2) (p1 : 2 ≤ c248_groups.toInt) (hr_a263 : dz_rq a263 2 2 0 1) (hr_a283 : dz_pm a283 4) (k : Nat) (ih : ∀ j9, j9 < k → p208_X6_addAhead_g24 fu c248_groups a263 a283 a293 j9) : ∀ (v3 : Int32) (v4 : Int64) (v6 : Int32) (v7 : Int32) (v8 : Int32) (c313_rows : Int64) (a314 : Nat → Int64) (a315 : Nat → Int64), v3.toInt ≤ 4 → 1 ≤ v3.toInt → v6.toInt ≤ 3 → 0 ≤ v6.toInt → v7.toInt ≤ 6 → 0 ≤ v7.toInt → v8.toInt ≤ 2 → 0 ≤ v8.toInt → v6.toInt + 1 ≤ v3.toInt → dz_rg a293 v3.toInt.toNat 0 1 → 0 + 0 + ((4 - v6.toInt) - 1) * 301 + 0 + (2 - v8.toInt) * 91 + 14 ≤ ((k : Nat) : Int) → dz_T ((F208_X6_addAhead fu c248_groups a263 a283 a293 k).2.1 v3 v4 v6 v7 v8 c313_rows a314 a315) (fun r => True) := by
  intro v3 v4 v6 v7 v8 c313_rows a314 a315 i0 i1 i2 i3 i4 i5 i6 i7 i8 hr_a293 hm
  obtain ⟨k0, rfl⟩ : ∃ x, k = x + 1 := ⟨k - 1, by omega⟩
  show dz_T (s208_X6_addAhead_2 fu c248_groups a263 a283 a293 (F208_X6_addAhead fu c248_groups a263 a283 a293 k0).1 (F208_X6_addAhead fu c248_groups a263 a283 a293 k0).2.2  v3 v4 v6 v7 v8 c313_rows a314 a315) _
  unfold s208_X6_addAhead_2
  refine dz_Tle (fun h1 => ?_) (fun h1 => ?_)
  · skip
    have e2 := dz_l1
    have e3 := dz_add (a := v6) (b := (1 : Int32)) (by omega) (by omega)
    exact (ih k0 (by omega)).1 v3 v4 (v6 + (1 : Int32)) c313_rows a314 a315 i0 (by first | assumption | omega) (by omega) (by omega) (by omega) (dz_rgs (hr_a293) (by omega)) (by omega)
  · skip
    refine dz_Tin (by omega) (by omega) ?_
    have e4 := dz_rgat (hr_a293) (i := v6) (by omega) (by omega)
    have e5 := dz_l4
    have e6 := dz_mulr (a := (a293 v6.toNatClampNeg)) (b := (4 : Int32)) 4 (by omega) (by omega) (by omega)
    have e7 := dz_add (a := ((a293 v6.toNatClampNeg) * (4 : Int32))) (b := v8) (by omega) (by omega)
    refine dz_Tin (by omega) (by omega) ?_
    have e8 := dz_rqat (hr_a263) (x := (a293 v6.toNatClampNeg)) (y := v8) (by omega) (by omega) (by omega) (by omega) (by omega)
    have e9 := dz_add (a := v7) (b := (a263 (((a293 v6.toNatClampNeg) * (4 : Int32)) + v8).toNatClampNeg)) (by omega) (by omega)
    have e10 := dz_mulr (a := (v7 + (a263 (((a293 v6.toNatClampNeg) * (4 : Int32)) + v8).toNatClampNeg))) (b := (4 : Int32)) 4 (by omega) (by omega) (by omega)
    have e11 := dz_add (a := ((v7 + (a263 (((a293 v6.toNatClampNeg) * (4 : Int32)) + v8).toNatClampNeg)) * (4 : Int32))) (b := v8) (by omega) (by omega)
    refine dz_Tin (by omega) (by omega) ?_
    refine dz_Tin (by omega) (by omega) ?_
    have e12 := dz_l1
    have e13 := dz_add (a := v6) (b := (1 : Int32)) (by omega) (by omega)
    exact (ih k0 (by omega)).2.2 v3 v4 v6 v7 v8 (v7 + (a263 (((a293 v6.toNatClampNeg) * (4 : Int32)) + v8).toNatClampNeg)) (v6 + (1 : Int32)) c313_rows a314 (vp_updL a315 (((v7 + (a263 (((a293 v6.toNatClampNeg) * (4 : Int32)) + v8).toNatClampNeg)) * (4 : Int32)) + v8).toNatClampNeg ((a315 (((v7 + (a263 (((a293 v6.toNatClampNeg) * (4 : Int32)) + v8).toNatClampNeg)) * (4 : Int32)) + v8).toNatClampNeg) + v4)) i0 i1 i2 i3 i4 i5 (by first | assumption | omega) i7 (by omega) (by omega) (by omega) (by omega) (by omega) i8 (by omega) (by omega) (by omega) (dz_rgs (hr_a293) (by omega)) (by omega)
set_option maxHeartbeats 1000000 in
set_option maxRecDepth 10000 in
theorem t208_X6_addAhead_h3_g24 (fu : Nat) (hfu : 1000000000000 ≤ fu) (c248_groups : Int32) (a263 : Nat → Int32) (a283 : Nat → Int32) (a293 : Nat → Int32) (p0 : c248_groups.toInt ≤ 2) (p1 : 2 ≤ c248_groups.toInt) (hr_a263 : dz_rq a263 2 2 0 1) (hr_a283 : dz_pm a283 4) (k : Nat) (ih : ∀ j9, j9 < k → p208_X6_addAhead_g24 fu c248_groups a263 a283 a293 j9) : ∀ (v3 : Int32) (v4 : Int64) (v6 : Int32) (v7 : Int32) (v8 : Int32) (v9 : Int32) (v10 : Int32) (c313_rows : Int64) (a314 : Nat → Int64) (a315 : Nat → Int64), v3.toInt ≤ 4 → 1 ≤ v3.toInt → v6.toInt ≤ 3 → 0 ≤ v6.toInt → v7.toInt ≤ 6 → 0 ≤ v7.toInt → v8.toInt ≤ 1 → 0 ≤ v8.toInt → v9.toInt ≤ 7 → 0 ≤ v9.toInt → v10.toInt ≤ 4 → 1 ≤ v10.toInt → v6.toInt + 1 ≤ v10.toInt → v6.toInt + 1 ≤ v3.toInt → v10.toInt ≤ v3.toInt → v7.toInt ≤ v9.toInt → v9.toInt ≤ v7.toInt + 1 → dz_rg a293 v3.toInt.toNat 0 1 → 0 + 0 + ((4 - v6.toInt) - 1) * 301 + 0 + ((2 - v8.toInt) - 1) * 91 + 0 + (4 - v10.toInt) * 14 + 21 ≤ ((k : Nat) : Int) → dz_T ((F208_X6_addAhead fu c248_groups a263 a283 a293 k).2.2 v3 v4 v6 v7 v8 v9 v10 c313_rows a314 a315) (fun r => True) := by
  intro v3 v4 v6 v7 v8 v9 v10 c313_rows a314 a315 i0 i1 i2 i3 i4 i5 i6 i7 i8 i9 i10 i11 i12 i13 i14 i15 i16 hr_a293 hm
  obtain ⟨k0, rfl⟩ : ∃ x, k = x + 1 := ⟨k - 1, by omega⟩
  show dz_T (s208_X6_addAhead_3 fu c248_groups a263 a283 a293 (F208_X6_addAhead fu c248_groups a263 a283 a293 k0).2.1 (F208_X6_addAhead fu c248_groups a263 a283 a293 k0).2.2  v3 v4 v6 v7 v8 v9 v10 c313_rows a314 a315) _
  unfold s208_X6_addAhead_3
  refine dz_Tle (fun h1 => ?_) (fun h1 => ?_)
  · skip
    have e2 := dz_l1
    have e3 := dz_add (a := v8) (b := (1 : Int32)) (by omega) (by omega)
    exact (ih k0 (by omega)).2.1 v3 v4 v6 v7 (v8 + (1 : Int32)) c313_rows a314 a315 i0 i1 i2 i3 i4 i5 (by omega) (by omega) i13 (dz_rgs (hr_a293) (by omega)) (by omega)
  · skip
    refine dz_Tin (by omega) (by omega) ?_
    have e4 := dz_rgat (hr_a293) (i := v10) (by omega) (by omega)
    have e5 := dz_l4
    have e6 := dz_mulr (a := (a293 v10.toNatClampNeg)) (b := (4 : Int32)) 4 (by omega) (by omega) (by omega)
    have e7 := dz_add (a := ((a293 v10.toNatClampNeg) * (4 : Int32))) (b := v8) (by omega) (by omega)
    refine dz_Tin (by omega) (by omega) ?_
    refine dz_Tin (by omega) (by omega) ?_
    have e8 := dz_l12
    have e9 := dz_mulr (a := v9) (b := (12 : Int32)) 12 (by omega) (by omega) (by omega)
    have e10 := dz_pmat (hr_a283) (i := v10) (by decide) (by omega) (by omega)
    have e11 := dz_mulr (a := (a283 v10.toNatClampNeg)) (b := c248_groups) 2 (by omega) (by omega) (by omega)
    have e12 := dz_add (a := (v9 * (12 : Int32))) (b := ((a283 v10.toNatClampNeg) * c248_groups)) (by omega) (by omega)
    have e13 := dz_rqat (hr_a263) (x := (a293 v10.toNatClampNeg)) (y := v8) (by omega) (by omega) (by omega) (by omega) (by omega)
    have e14 := dz_add (a := ((v9 * (12 : Int32)) + ((a283 v10.toNatClampNeg) * c248_groups))) (b := (a263 (((a293 v10.toNatClampNeg) * (4 : Int32)) + v8).toNatClampNeg)) (by omega) (by omega)
    refine dz_Tin (by omega) (by omega) ?_
    refine dz_Tin (by omega) (by omega) ?_
    have e15 := dz_l1
    have e16 := dz_add (a := v10) (b := (1 : Int32)) (by omega) (by omega)
    exact (ih k0 (by omega)).2.2 v3 v4 v6 v7 v8 v9 (v10 + (1 : Int32)) c313_rows (vp_updL a314 (((v9 * (12 : Int32)) + ((a283 v10.toNatClampNeg) * c248_groups)) + (a263 (((a293 v10.toNatClampNeg) * (4 : Int32)) + v8).toNatClampNeg)).toNatClampNeg ((a314 (((v9 * (12 : Int32)) + ((a283 v10.toNatClampNeg) * c248_groups)) + (a263 (((a293 v10.toNatClampNeg) * (4 : Int32)) + v8).toNatClampNeg)).toNatClampNeg) + v4)) a315 i0 i1 i2 i3 i4 i5 i6 i7 i8 i9 (by omega) (by omega) (by omega) i13 (by omega) i15 i16 (dz_rgs (hr_a293) (by omega)) (by omega)
theorem t208_X6_addAhead_I_g24 (fu : Nat) (hfu : 1000000000000 ≤ fu) (c248_groups : Int32) (a263 : Nat → Int32) (a283 : Nat → Int32) (a293 : Nat → Int32) (p0 : c248_groups.toInt ≤ 2) (p1 : 2 ≤ c248_groups.toInt) (hr_a263 : dz_rq a263 2 2 0 1) (hr_a283 : dz_pm a283 4) (k : Nat) : p208_X6_addAhead_g24 fu c248_groups a263 a283 a293 k := by
  induction k using Nat.strongRecOn with
  | _ k ih => exact ⟨t208_X6_addAhead_h1_g24 fu hfu c248_groups a263 a283 a293 p0 p1 hr_a263 hr_a283 k ih, t208_X6_addAhead_h2_g24 fu hfu c248_groups a263 a283 a293 p0 p1 hr_a263 hr_a283 k ih, t208_X6_addAhead_h3_g24 fu hfu c248_groups a263 a283 a293 p0 p1 hr_a263 hr_a283 k ih⟩
set_option maxHeartbeats 1000000 in
set_option maxRecDepth 10000 in
theorem t208_X6_addAhead_E_g24 (fu : Nat) (hfu : 1000000000000 ≤ fu) (c248_groups : Int32) (a263 : Nat → Int32) (a283 : Nat → Int32) (a293 : Nat → Int32) (v3 : Int32) (v4 : Int64) (c313_rows : Int64) (a314 : Nat → Int64) (a315 : Nat → Int64) (p0 : c248_groups.toInt ≤ 2) (p1 : 2 ≤ c248_groups.toInt) (p2 : 0 ≤ v3.toInt) (p3 : v3.toInt ≤ 4) (hr_a263 : dz_rq a263 2 2 0 1) (hr_a283 : dz_pm a283 4) (hr_a293 : dz_rg a293 v3.toInt.toNat 0 1) (kv : Nat) (hkv : 1000000000000 ≤ kv) : dz_T (s208_X6_addAhead_0 fu c248_groups a263 a283 a293 (F208_X6_addAhead fu c248_groups a263 a283 a293 kv).1  v3 v4 c313_rows a314 a315) (fun r => True) := by
  unfold s208_X6_addAhead_0
  have e1 := dz_l0
  exact (t208_X6_addAhead_I_g24 fu hfu c248_groups a263 a283 a293 p0 p1 hr_a263 hr_a283 kv).1 v3 v4 (0 : Int32) (c313_rows + v4) a314 a315 p3 p2 (by omega) (by omega) (by omega) (dz_rgs (hr_a293) (by omega)) (by omega)
theorem t208_X6_addAhead_g24 (fu : Nat) (hfu : 1000000000000 ≤ fu) (c248_groups : Int32) (a263 : Nat → Int32) (a283 : Nat → Int32) (a293 : Nat → Int32) (v3 : Int32) (v4 : Int64) (c313_rows : Int64) (a314 : Nat → Int64) (a315 : Nat → Int64) (p0 : c248_groups.toInt ≤ 2) (p1 : 2 ≤ c248_groups.toInt) (p2 : 0 ≤ v3.toInt) (p3 : v3.toInt ≤ 4) (hr_a263 : dz_rq a263 2 2 0 1) (hr_a283 : dz_pm a283 4) (hr_a293 : dz_rg a293 v3.toInt.toNat 0 1) : dz_T (f208_X6_addAhead fu c248_groups a263 a283 a293 v3 v4 c313_rows a314 a315) (fun r => True) :=
  t208_X6_addAhead_E_g24 fu hfu c248_groups a263 a283 a293 v3 v4 c313_rows a314 a315 p0 p1 p2 p3 hr_a263 hr_a283 hr_a293 fu hfu
abbrev p208_X6_addAhead_g30 (fu : Nat) (c248_groups : Int32) (a263 : Nat → Int32) (a283 : Nat → Int32) (a293 : Nat → Int32) (k : Nat) : Prop :=
  (∀ (v3 : Int32) (v4 : Int64) (v6 : Int32) (c313_rows : Int64) (a314 : Nat → Int64) (a315 : Nat → Int64), v3.toInt ≤ 0 → 0 ≤ v3.toInt → v6.toInt ≤ 0 → 0 ≤ v6.toInt → dz_rg a293 v3.toInt.toNat 0 5 → 0 + 0 + (0 - v6.toInt) * 77 + 7 ≤ ((k : Nat) : Int) → dz_T ((F208_X6_addAhead fu c248_groups a263 a283 a293 k).1 v3 v4 v6 c313_rows a314 a315) (fun r => True))
set_option maxHeartbeats 1000000 in
set_option maxRecDepth 10000 in
theorem t208_X6_addAhead_h1_g30 (fu : Nat) (hfu : 1000000000000 ≤ fu) (c248_groups : Int32) (a263 : Nat → Int32) (a283 : Nat → Int32) (a293 : Nat → Int32) (p0 : c248_groups.toInt ≤ 3) (p1 : 3 ≤ c248_groups.toInt) (hr_a263 : dz_rq a263 6 3 0 2) (hr_a283 : dz_pm a283 0) (k : Nat) (ih : ∀ j9, j9 < k → p208_X6_addAhead_g30 fu c248_groups a263 a283 a293 j9) : ∀ (v3 : Int32) (v4 : Int64) (v6 : Int32) (c313_rows : Int64) (a314 : Nat → Int64) (a315 : Nat → Int64), v3.toInt ≤ 0 → 0 ≤ v3.toInt → v6.toInt ≤ 0 → 0 ≤ v6.toInt → dz_rg a293 v3.toInt.toNat 0 5 → 0 + 0 + (0 - v6.toInt) * 77 + 7 ≤ ((k : Nat) : Int) → dz_T ((F208_X6_addAhead fu c248_groups a263 a283 a293 k).1 v3 v4 v6 c313_rows a314 a315) (fun r => True) := by
  intro v3 v4 v6 c313_rows a314 a315 i0 i1 i2 i3 hr_a293 hm
  obtain ⟨k0, rfl⟩ : ∃ x, k = x + 1 := ⟨k - 1, by omega⟩
  show dz_T (s208_X6_addAhead_1 fu c248_groups a263 a283 a293 (F208_X6_addAhead fu c248_groups a263 a283 a293 k0).2.1  v3 v4 v6 c313_rows a314 a315) _
  unfold s208_X6_addAhead_1
  refine dz_Tle (fun h1 => ?_) (fun h1 => ?_)
  · skip
    exact dz_Ts trivial
  · skip
    exfalso; omega
theorem t208_X6_addAhead_I_g30 (fu : Nat) (hfu : 1000000000000 ≤ fu) (c248_groups : Int32) (a263 : Nat → Int32) (a283 : Nat → Int32) (a293 : Nat → Int32) (p0 : c248_groups.toInt ≤ 3) (p1 : 3 ≤ c248_groups.toInt) (hr_a263 : dz_rq a263 6 3 0 2) (hr_a283 : dz_pm a283 0) (k : Nat) : p208_X6_addAhead_g30 fu c248_groups a263 a283 a293 k := by
  induction k using Nat.strongRecOn with
  | _ k ih => exact t208_X6_addAhead_h1_g30 fu hfu c248_groups a263 a283 a293 p0 p1 hr_a263 hr_a283 k ih
set_option maxHeartbeats 1000000 in
set_option maxRecDepth 10000 in
theorem t208_X6_addAhead_E_g30 (fu : Nat) (hfu : 1000000000000 ≤ fu) (c248_groups : Int32) (a263 : Nat → Int32) (a283 : Nat → Int32) (a293 : Nat → Int32) (v3 : Int32) (v4 : Int64) (c313_rows : Int64) (a314 : Nat → Int64) (a315 : Nat → Int64) (p0 : c248_groups.toInt ≤ 3) (p1 : 3 ≤ c248_groups.toInt) (p2 : 0 ≤ v3.toInt) (p3 : v3.toInt ≤ 0) (hr_a263 : dz_rq a263 6 3 0 2) (hr_a283 : dz_pm a283 0) (hr_a293 : dz_rg a293 v3.toInt.toNat 0 5) (kv : Nat) (hkv : 1000000000000 ≤ kv) : dz_T (s208_X6_addAhead_0 fu c248_groups a263 a283 a293 (F208_X6_addAhead fu c248_groups a263 a283 a293 kv).1  v3 v4 c313_rows a314 a315) (fun r => True) := by
  unfold s208_X6_addAhead_0
  have e1 := dz_l0
  exact (t208_X6_addAhead_I_g30 fu hfu c248_groups a263 a283 a293 p0 p1 hr_a263 hr_a283 kv) v3 v4 (0 : Int32) (c313_rows + v4) a314 a315 p3 p2 (by omega) (by omega) (dz_rgs (hr_a293) (by omega)) (by omega)
theorem t208_X6_addAhead_g30 (fu : Nat) (hfu : 1000000000000 ≤ fu) (c248_groups : Int32) (a263 : Nat → Int32) (a283 : Nat → Int32) (a293 : Nat → Int32) (v3 : Int32) (v4 : Int64) (c313_rows : Int64) (a314 : Nat → Int64) (a315 : Nat → Int64) (p0 : c248_groups.toInt ≤ 3) (p1 : 3 ≤ c248_groups.toInt) (p2 : 0 ≤ v3.toInt) (p3 : v3.toInt ≤ 0) (hr_a263 : dz_rq a263 6 3 0 2) (hr_a283 : dz_pm a283 0) (hr_a293 : dz_rg a293 v3.toInt.toNat 0 5) : dz_T (f208_X6_addAhead fu c248_groups a263 a283 a293 v3 v4 c313_rows a314 a315) (fun r => True) :=
  t208_X6_addAhead_E_g30 fu hfu c248_groups a263 a283 a293 v3 v4 c313_rows a314 a315 p0 p1 p2 p3 hr_a263 hr_a283 hr_a293 fu hfu
abbrev p208_X6_addAhead_g31 (fu : Nat) (c248_groups : Int32) (a263 : Nat → Int32) (a283 : Nat → Int32) (a293 : Nat → Int32) (k : Nat) : Prop :=
  (∀ (v3 : Int32) (v4 : Int64) (v6 : Int32) (c313_rows : Int64) (a314 : Nat → Int64) (a315 : Nat → Int64), v3.toInt ≤ 1 → 0 ≤ v3.toInt → v6.toInt ≤ 1 → 0 ≤ v6.toInt → v6.toInt ≤ v3.toInt → dz_rg a293 v3.toInt.toNat 0 5 → 0 + 0 + (1 - v6.toInt) * 224 + 7 ≤ ((k : Nat) : Int) → dz_T ((F208_X6_addAhead fu c248_groups a263 a283 a293 k).1 v3 v4 v6 c313_rows a314 a315) (fun r => True)) ∧ (∀ (v3 : Int32) (v4 : Int64) (v6 : Int32) (v7 : Int32) (v8 : Int32) (c313_rows : Int64) (a314 : Nat → Int64) (a315 : Nat → Int64), v3.toInt ≤ 1 → 1 ≤ v3.toInt → v6.toInt ≤ 0 → 0 ≤ v6.toInt → v7.toInt ≤ 0 → 0 ≤ v7.toInt → v8.toInt ≤ 3 → 0 ≤ v8.toInt → dz_rg a293 v3.toInt.toNat 0 5 → 0 + 0 + ((1 - v6.toInt) - 1) * 224 + 0 + (3 - v8.toInt) * 49 + 14 ≤ ((k : Nat) : Int) → dz_T ((F208_X6_addAhead fu c248_groups a263 a283 a293 k).2.1 v3 v4 v6 v7 v8 c313_rows a314 a315) (fun r => True)) ∧ (∀ (v3 : Int32) (v4 : Int64) (v6 : Int32) (v7 : Int32) (v8 : Int32) (v9 : Int32) (v10 : Int32) (c313_rows : Int64) (a314 : Nat → Int64) (a315 : Nat → Int64), v3.toInt ≤ 1 → 1 ≤ v3.toInt → v6.toInt ≤ 0 → 0 ≤ v6.toInt → v7.toInt ≤ 0 → 0 ≤ v7.toInt → v8.toInt ≤ 2 → 0 ≤ v8.toInt → v9.toInt ≤ 2 → 0 ≤ v9.toInt → v10.toInt ≤ 1 → 1 ≤ v10.toInt → dz_rg a293 v3.toInt.toNat 0 5 → 0 + 0 + ((1 - v6.toInt) - 1) * 224 + 0 + ((3 - v8.toInt) - 1) * 49 + 0 + (1 - v10.toInt) * 14 + 21 ≤ ((k : Nat) : Int) → dz_T ((F208_X6_addAhead fu c248_groups a263 a283 a293 k).2.2 v3 v4 v6 v7 v8 v9 v10 c313_rows a314 a315) (fun r => True))
set_option maxHeartbeats 1000000 in
set_option maxRecDepth 10000 in
theorem t208_X6_addAhead_h1_g31 (fu : Nat) (hfu : 1000000000000 ≤ fu) (c248_groups : Int32) (a263 : Nat → Int32) (a283 : Nat → Int32) (a293 : Nat → Int32) (p0 : c248_groups.toInt ≤ 3) (p1 : 3 ≤ c248_groups.toInt) (hr_a263 : dz_rq a263 6 3 0 2) (hr_a283 : dz_pm a283 1) (k : Nat) (ih : ∀ j9, j9 < k → p208_X6_addAhead_g31 fu c248_groups a263 a283 a293 j9) : ∀ (v3 : Int32) (v4 : Int64) (v6 : Int32) (c313_rows : Int64) (a314 : Nat → Int64) (a315 : Nat → Int64), v3.toInt ≤ 1 → 0 ≤ v3.toInt → v6.toInt ≤ 1 → 0 ≤ v6.toInt → v6.toInt ≤ v3.toInt → dz_rg a293 v3.toInt.toNat 0 5 → 0 + 0 + (1 - v6.toInt) * 224 + 7 ≤ ((k : Nat) : Int) → dz_T ((F208_X6_addAhead fu c248_groups a263 a283 a293 k).1 v3 v4 v6 c313_rows a314 a315) (fun r => True) := by
  intro v3 v4 v6 c313_rows a314 a315 i0 i1 i2 i3 i4 hr_a293 hm
  obtain ⟨k0, rfl⟩ : ∃ x, k = x + 1 := ⟨k - 1, by omega⟩
  show dz_T (s208_X6_addAhead_1 fu c248_groups a263 a283 a293 (F208_X6_addAhead fu c248_groups a263 a283 a293 k0).2.1  v3 v4 v6 c313_rows a314 a315) _
  unfold s208_X6_addAhead_1
  refine dz_Tle (fun h1 => ?_) (fun h1 => ?_)
  · skip
    exact dz_Ts trivial
  · skip
    refine dz_Tin (by omega) (by omega) ?_
    have e2 := dz_pmat (hr_a283) (i := v6) (by decide) (by omega) (by omega)
    have e3 := dz_mull (a := (a283 v6.toNatClampNeg)) (b := c248_groups) 0 (by omega) (by omega) (by omega)
    have e4 := dz_l0
    exact (ih k0 (by omega)).2.1 v3 v4 v6 ((a283 v6.toNatClampNeg) * c248_groups) (0 : Int32) c313_rows a314 a315 i0 (by first | assumption | omega) (by first | assumption | omega) i3 (by omega) (by omega) (by omega) (by omega) (dz_rgs (hr_a293) (by omega)) (by omega)
set_option maxHeartbeats 1000000 in
set_option maxRecDepth 10000 in
theorem t208_X6_addAhead_h2_g31 (fu : Nat) (hfu : 1000000000000 ≤ fu) (c248_groups : Int32) (a263 : Nat → Int32) (a283 : Nat → Int32) (a293 : Nat → Int32) (p0 : c248_groups.toInt ≤ 3) (p1 : 3 ≤ c248_groups.toInt) (hr_a263 : dz_rq a263 6 3 0 2) (hr_a283 : dz_pm a283 1) (k : Nat) (ih : ∀ j9, j9 < k → p208_X6_addAhead_g31 fu c248_groups a263 a283 a293 j9) : ∀ (v3 : Int32) (v4 : Int64) (v6 : Int32) (v7 : Int32) (v8 : Int32) (c313_rows : Int64) (a314 : Nat → Int64) (a315 : Nat → Int64), v3.toInt ≤ 1 → 1 ≤ v3.toInt → v6.toInt ≤ 0 → 0 ≤ v6.toInt → v7.toInt ≤ 0 → 0 ≤ v7.toInt → v8.toInt ≤ 3 → 0 ≤ v8.toInt → dz_rg a293 v3.toInt.toNat 0 5 → 0 + 0 + ((1 - v6.toInt) - 1) * 224 + 0 + (3 - v8.toInt) * 49 + 14 ≤ ((k : Nat) : Int) → dz_T ((F208_X6_addAhead fu c248_groups a263 a283 a293 k).2.1 v3 v4 v6 v7 v8 c313_rows a314 a315) (fun r => True) := by
  intro v3 v4 v6 v7 v8 c313_rows a314 a315 i0 i1 i2 i3 i4 i5 i6 i7 hr_a293 hm
  obtain ⟨k0, rfl⟩ : ∃ x, k = x + 1 := ⟨k - 1, by omega⟩
  show dz_T (s208_X6_addAhead_2 fu c248_groups a263 a283 a293 (F208_X6_addAhead fu c248_groups a263 a283 a293 k0).1 (F208_X6_addAhead fu c248_groups a263 a283 a293 k0).2.2  v3 v4 v6 v7 v8 c313_rows a314 a315) _
  unfold s208_X6_addAhead_2
  refine dz_Tle (fun h1 => ?_) (fun h1 => ?_)
  · skip
    have e2 := dz_l1
    have e3 := dz_add (a := v6) (b := (1 : Int32)) (by omega) (by omega)
    exact (ih k0 (by omega)).1 v3 v4 (v6 + (1 : Int32)) c313_rows a314 a315 i0 (by first | assumption | omega) (by omega) (by omega) (by omega) (dz_rgs (hr_a293) (by omega)) (by omega)
  · skip
    refine dz_Tin (by omega) (by omega) ?_
    have e4 := dz_rgat (hr_a293) (i := v6) (by omega) (by omega)
    have e5 := dz_l4
    have e6 := dz_mulr (a := (a293 v6.toNatClampNeg)) (b := (4 : Int32)) 4 (by omega) (by omega) (by omega)
    have e7 := dz_add (a := ((a293 v6.toNatClampNeg) * (4 : Int32))) (b := v8) (by omega) (by omega)
    refine dz_Tin (by omega) (by omega) ?_
    have e8 := dz_rqat (hr_a263) (x := (a293 v6.toNatClampNeg)) (y := v8) (by omega) (by omega) (by omega) (by omega) (by omega)
    have e9 := dz_add (a := v7) (b := (a263 (((a293 v6.toNatClampNeg) * (4 : Int32)) + v8).toNatClampNeg)) (by omega) (by omega)
    have e10 := dz_mulr (a := (v7 + (a263 (((a293 v6.toNatClampNeg) * (4 : Int32)) + v8).toNatClampNeg))) (b := (4 : Int32)) 4 (by omega) (by omega) (by omega)
    have e11 := dz_add (a := ((v7 + (a263 (((a293 v6.toNatClampNeg) * (4 : Int32)) + v8).toNatClampNeg)) * (4 : Int32))) (b := v8) (by omega) (by omega)
    refine dz_Tin (by omega) (by omega) ?_
    refine dz_Tin (by omega) (by omega) ?_
    have e12 := dz_l1
    have e13 := dz_add (a := v6) (b := (1 : Int32)) (by omega) (by omega)
    exact (ih k0 (by omega)).2.2 v3 v4 v6 v7 v8 (v7 + (a263 (((a293 v6.toNatClampNeg) * (4 : Int32)) + v8).toNatClampNeg)) (v6 + (1 : Int32)) c313_rows a314 (vp_updL a315 (((v7 + (a263 (((a293 v6.toNatClampNeg) * (4 : Int32)) + v8).toNatClampNeg)) * (4 : Int32)) + v8).toNatClampNeg ((a315 (((v7 + (a263 (((a293 v6.toNatClampNeg) * (4 : Int32)) + v8).toNatClampNeg)) * (4 : Int32)) + v8).toNatClampNeg) + v4)) i0 i1 i2 i3 i4 i5 (by first | assumption | omega) i7 (by omega) (by omega) (by omega) (by omega) (dz_rgs (hr_a293) (by omega)) (by omega)
set_option maxHeartbeats 1000000 in
set_option maxRecDepth 10000 in
theorem t208_X6_addAhead_h3_g31 (fu : Nat) (hfu : 1000000000000 ≤ fu) (c248_groups : Int32) (a263 : Nat → Int32) (a283 : Nat → Int32) (a293 : Nat → Int32) (p0 : c248_groups.toInt ≤ 3) (p1 : 3 ≤ c248_groups.toInt) (hr_a263 : dz_rq a263 6 3 0 2) (hr_a283 : dz_pm a283 1) (k : Nat) (ih : ∀ j9, j9 < k → p208_X6_addAhead_g31 fu c248_groups a263 a283 a293 j9) : ∀ (v3 : Int32) (v4 : Int64) (v6 : Int32) (v7 : Int32) (v8 : Int32) (v9 : Int32) (v10 : Int32) (c313_rows : Int64) (a314 : Nat → Int64) (a315 : Nat → Int64), v3.toInt ≤ 1 → 1 ≤ v3.toInt → v6.toInt ≤ 0 → 0 ≤ v6.toInt → v7.toInt ≤ 0 → 0 ≤ v7.toInt → v8.toInt ≤ 2 → 0 ≤ v8.toInt → v9.toInt ≤ 2 → 0 ≤ v9.toInt → v10.toInt ≤ 1 → 1 ≤ v10.toInt → dz_rg a293 v3.toInt.toNat 0 5 → 0 + 0 + ((1 - v6.toInt) - 1) * 224 + 0 + ((3 - v8.toInt) - 1) * 49 + 0 + (1 - v10.toInt) * 14 + 21 ≤ ((k : Nat) : Int) → dz_T ((F208_X6_addAhead fu c248_groups a263 a283 a293 k).2.2 v3 v4 v6 v7 v8 v9 v10 c313_rows a314 a315) (fun r => True) := by
  intro v3 v4 v6 v7 v8 v9 v10 c313_rows a314 a315 i0 i1 i2 i3 i4 i5 i6 i7 i8 i9 i10 i11 hr_a293 hm
  obtain ⟨k0, rfl⟩ : ∃ x, k = x + 1 := ⟨k - 1, by omega⟩
  show dz_T (s208_X6_addAhead_3 fu c248_groups a263 a283 a293 (F208_X6_addAhead fu c248_groups a263 a283 a293 k0).2.1 (F208_X6_addAhead fu c248_groups a263 a283 a293 k0).2.2  v3 v4 v6 v7 v8 v9 v10 c313_rows a314 a315) _
  unfold s208_X6_addAhead_3
  refine dz_Tle (fun h1 => ?_) (fun h1 => ?_)
  · skip
    have e2 := dz_l1
    have e3 := dz_add (a := v8) (b := (1 : Int32)) (by omega) (by omega)
    exact (ih k0 (by omega)).2.1 v3 v4 v6 v7 (v8 + (1 : Int32)) c313_rows a314 a315 i0 i1 i2 i3 i4 i5 (by omega) (by omega) (dz_rgs (hr_a293) (by omega)) (by omega)
  · skip
    exfalso; omega
theorem t208_X6_addAhead_I_g31 (fu : Nat) (hfu : 1000000000000 ≤ fu) (c248_groups : Int32) (a263 : Nat → Int32) (a283 : Nat → Int32) (a293 : Nat → Int32) (p0 : c248_groups.toInt ≤ 3) (p1 : 3 ≤ c248_groups.toInt) (hr_a263 : dz_rq a263 6 3 0 2) (hr_a283 : dz_pm a283 1) (k : Nat) : p208_X6_addAhead_g31 fu c248_groups a263 a283 a293 k := by
  induction k using Nat.strongRecOn with
  | _ k ih => exact ⟨t208_X6_addAhead_h1_g31 fu hfu c248_groups a263 a283 a293 p0 p1 hr_a263 hr_a283 k ih, t208_X6_addAhead_h2_g31 fu hfu c248_groups a263 a283 a293 p0 p1 hr_a263 hr_a283 k ih, t208_X6_addAhead_h3_g31 fu hfu c248_groups a263 a283 a293 p0 p1 hr_a263 hr_a283 k ih⟩
set_option maxHeartbeats 1000000 in
set_option maxRecDepth 10000 in
theorem t208_X6_addAhead_E_g31 (fu : Nat) (hfu : 1000000000000 ≤ fu) (c248_groups : Int32) (a263 : Nat → Int32) (a283 : Nat → Int32) (a293 : Nat → Int32) (v3 : Int32) (v4 : Int64) (c313_rows : Int64) (a314 : Nat → Int64) (a315 : Nat → Int64) (p0 : c248_groups.toInt ≤ 3) (p1 : 3 ≤ c248_groups.toInt) (p2 : 0 ≤ v3.toInt) (p3 : v3.toInt ≤ 1) (hr_a263 : dz_rq a263 6 3 0 2) (hr_a283 : dz_pm a283 1) (hr_a293 : dz_rg a293 v3.toInt.toNat 0 5) (kv : Nat) (hkv : 1000000000000 ≤ kv) : dz_T (s208_X6_addAhead_0 fu c248_groups a263 a283 a293 (F208_X6_addAhead fu c248_groups a263 a283 a293 kv).1  v3 v4 c313_rows a314 a315) (fun r => True) := by
  unfold s208_X6_addAhead_0
  have e1 := dz_l0
  exact (t208_X6_addAhead_I_g31 fu hfu c248_groups a263 a283 a293 p0 p1 hr_a263 hr_a283 kv).1 v3 v4 (0 : Int32) (c313_rows + v4) a314 a315 p3 p2 (by omega) (by omega) (by omega) (dz_rgs (hr_a293) (by omega)) (by omega)
theorem t208_X6_addAhead_g31 (fu : Nat) (hfu : 1000000000000 ≤ fu) (c248_groups : Int32) (a263 : Nat → Int32) (a283 : Nat → Int32) (a293 : Nat → Int32) (v3 : Int32) (v4 : Int64) (c313_rows : Int64) (a314 : Nat → Int64) (a315 : Nat → Int64) (p0 : c248_groups.toInt ≤ 3) (p1 : 3 ≤ c248_groups.toInt) (p2 : 0 ≤ v3.toInt) (p3 : v3.toInt ≤ 1) (hr_a263 : dz_rq a263 6 3 0 2) (hr_a283 : dz_pm a283 1) (hr_a293 : dz_rg a293 v3.toInt.toNat 0 5) : dz_T (f208_X6_addAhead fu c248_groups a263 a283 a293 v3 v4 c313_rows a314 a315) (fun r => True) :=
  t208_X6_addAhead_E_g31 fu hfu c248_groups a263 a283 a293 v3 v4 c313_rows a314 a315 p0 p1 p2 p3 hr_a263 hr_a283 hr_a293 fu hfu
abbrev p208_X6_addAhead_g32 (fu : Nat) (c248_groups : Int32) (a263 : Nat → Int32) (a283 : Nat → Int32) (a293 : Nat → Int32) (k : Nat) : Prop :=
  (∀ (v3 : Int32) (v4 : Int64) (v6 : Int32) (c313_rows : Int64) (a314 : Nat → Int64) (a315 : Nat → Int64), v3.toInt ≤ 2 → 0 ≤ v3.toInt → v6.toInt ≤ 2 → 0 ≤ v6.toInt → v6.toInt ≤ v3.toInt → dz_rg a293 v3.toInt.toNat 0 5 → 0 + 0 + (2 - v6.toInt) * 280 + 7 ≤ ((k : Nat) : Int) → dz_T ((F208_X6_addAhead fu c248_groups a263 a283 a293 k).1 v3 v4 v6 c313_rows a314 a315) (fun r => True)) ∧ (∀ (v3 : Int32) (v4 : Int64) (v6 : Int32) (v7 : Int32) (v8 : Int32) (c313_rows : Int64) (a314 : Nat → Int64) (a315 : Nat → Int64), v3.toInt ≤ 2 → 1 ≤ v3.toInt → v6.toInt ≤ 1 → 0 ≤ v6.toInt → v7.toInt ≤ 3 → 0 ≤ v7.toInt → v8.toInt ≤ 3 → 0 ≤ v8.toInt → v6.toInt + 1 ≤ v3.toInt → dz_rg a293 v3.toInt.toNat 0 5 → 0 + 0 + ((2 - v6.toInt) - 1) * 280 + 0 + (3 - v8.toInt) * 63 + 14 ≤ ((k : Nat) : Int) → dz_T ((F208_X6_addAhead fu c248_groups a263 a283 a293 k).2.1 v3 v4 v6 v7 v8 c313_rows a314 a315) (fun r => True)) ∧ (∀ (v3 : Int32) (v4 : Int64) (v6 : Int32) (v7 : Int32) (v8 : Int32) (v9 : Int32) (v10 : Int32) (c313_rows : Int64) (a314 : Nat → Int64) (a315 : Nat → Int64), v3.toInt ≤ 2 → 1 ≤ v3.toInt → v6.toInt ≤ 1 → 0 ≤ v6.toInt → v7.toInt ≤ 3 → 0 ≤ v7.toInt → v8.toInt ≤ 2 → 0 ≤ v8.toInt → v9.toInt ≤ 5 → 0 ≤ v9.toInt → v10.toInt ≤ 2 → 1 ≤ v10.toInt → v6.toInt + 1 ≤ v10.toInt → v6.toInt + 1 ≤ v3.toInt → v10.toInt ≤ v3.toInt → v7.toInt ≤ v9.toInt → v9.toInt ≤ v7.toInt + 2 → dz_rg a293 v3.toInt.toNat 0 5 → 0 + 0 + ((2 - v6.toInt) - 1) * 280 + 0 + ((3 - v8.toInt) - 1) * 63 + 0 + (2 - v10.toInt) * 14 + 21 ≤ ((k : Nat) : Int) → dz_T ((F208_X6_addAhead fu c248_groups a263 a283 a293 k).2.2 v3 v4 v6 v7 v8 v9 v10 c313_rows a314 a315) (fun r => True))
set_option maxHeartbeats 1000000 in
set_option maxRecDepth 10000 in
theorem t208_X6_addAhead_h1_g32 (fu : Nat) (hfu : 1000000000000 ≤ fu) (c248_groups : Int32) (a263 : Nat → Int32) (a283 : Nat → Int32) (a293 : Nat → Int32) (p0 : c248_groups.toInt ≤ 3) (p1 : 3 ≤ c248_groups.toInt) (hr_a263 : dz_rq a263 6 3 0 2) (hr_a283 : dz_pm a283 2) (k : Nat) (ih : ∀ j9, j9 < k → p208_X6_addAhead_g32 fu c248_groups a263 a283 a293 j9) : ∀ (v3 : Int32) (v4 : Int64) (v6 : Int32) (c313_rows : Int64) (a314 : Nat → Int64) (a315 : Nat → Int64), v3.toInt ≤ 2 → 0 ≤ v3.toInt → v6.toInt ≤ 2 → 0 ≤ v6.toInt → v6.toInt ≤ v3.toInt → dz_rg a293 v3.toInt.toNat 0 5 → 0 + 0 + (2 - v6.toInt) * 280 + 7 ≤ ((k : Nat) : Int) → dz_T ((F208_X6_addAhead fu c248_groups a263 a283 a293 k).1 v3 v4 v6 c313_rows a314 a315) (fun r => True) := by
  intro v3 v4 v6 c313_rows a314 a315 i0 i1 i2 i3 i4 hr_a293 hm
  obtain ⟨k0, rfl⟩ : ∃ x, k = x + 1 := ⟨k - 1, by omega⟩
  show dz_T (s208_X6_addAhead_1 fu c248_groups a263 a283 a293 (F208_X6_addAhead fu c248_groups a263 a283 a293 k0).2.1  v3 v4 v6 c313_rows a314 a315) _
  unfold s208_X6_addAhead_1
  refine dz_Tle (fun h1 => ?_) (fun h1 => ?_)
  · skip
    exact dz_Ts trivial
  · skip
    refine dz_Tin (by omega) (by omega) ?_
    have e2 := dz_pmat (hr_a283) (i := v6) (by decide) (by omega) (by omega)
    have e3 := dz_mulr (a := (a283 v6.toNatClampNeg)) (b := c248_groups) 3 (by omega) (by omega) (by omega)
    have e4 := dz_l0
    exact (ih k0 (by omega)).2.1 v3 v4 v6 ((a283 v6.toNatClampNeg) * c248_groups) (0 : Int32) c313_rows a314 a315 i0 (by first | assumption | omega) (by first | assumption | omega) i3 (by omega) (by omega) (by omega) (by omega) (by first | assumption | omega) (dz_rgs (hr_a293) (by omega)) (by omega)
set_option maxHeartbeats 1000000 in
set_option maxRecDepth 10000 in
theorem t208_X6_addAhead_h2_g32 (fu : Nat) (hfu : 1000000000000 ≤ fu) (c248_groups : Int32) (a263 : Nat → Int32) (a283 : Nat → Int32) (a293 : Nat → Int32) (p0 : c248_groups.toInt ≤ 3) (p1 : 3 ≤ c248_groups.toInt) (hr_a263 : dz_rq a263 6 3 0 2) (hr_a283 : dz_pm a283 2) (k : Nat) (ih : ∀ j9, j9 < k → p208_X6_addAhead_g32 fu c248_groups a263 a283 a293 j9) : ∀ (v3 : Int32) (v4 : Int64) (v6 : Int32) (v7 : Int32) (v8 : Int32) (c313_rows : Int64) (a314 : Nat → Int64) (a315 : Nat → Int64), v3.toInt ≤ 2 → 1 ≤ v3.toInt → v6.toInt ≤ 1 → 0 ≤ v6.toInt → v7.toInt ≤ 3 → 0 ≤ v7.toInt → v8.toInt ≤ 3 → 0 ≤ v8.toInt → v6.toInt + 1 ≤ v3.toInt → dz_rg a293 v3.toInt.toNat 0 5 → 0 + 0 + ((2 - v6.toInt) - 1) * 280 + 0 + (3 - v8.toInt) * 63 + 14 ≤ ((k : Nat) : Int) → dz_T ((F208_X6_addAhead fu c248_groups a263 a283 a293 k).2.1 v3 v4 v6 v7 v8 c313_rows a314 a315) (fun r => True) := by
  intro v3 v4 v6 v7 v8 c313_rows a314 a315 i0 i1 i2 i3 i4 i5 i6 i7 i8 hr_a293 hm
  obtain ⟨k0, rfl⟩ : ∃ x, k = x + 1 := ⟨k - 1, by omega⟩
  show dz_T (s208_X6_addAhead_2 fu c248_groups a263 a283 a293 (F208_X6_addAhead fu c248_groups a263 a283 a293 k0).1 (F208_X6_addAhead fu c248_groups a263 a283 a293 k0).2.2  v3 v4 v6 v7 v8 c313_rows a314 a315) _
  unfold s208_X6_addAhead_2
  refine dz_Tle (fun h1 => ?_) (fun h1 => ?_)
  · skip
    have e2 := dz_l1
    have e3 := dz_add (a := v6) (b := (1 : Int32)) (by omega) (by omega)
    exact (ih k0 (by omega)).1 v3 v4 (v6 + (1 : Int32)) c313_rows a314 a315 i0 (by first | assumption | omega) (by omega) (by omega) (by omega) (dz_rgs (hr_a293) (by omega)) (by omega)
  · skip
    refine dz_Tin (by omega) (by omega) ?_
    have e4 := dz_rgat (hr_a293) (i := v6) (by omega) (by omega)
    have e5 := dz_l4
    have e6 := dz_mulr (a := (a293 v6.toNatClampNeg)) (b := (4 : Int32)) 4 (by omega) (by omega) (by omega)
    have e7 := dz_add (a := ((a293 v6.toNatClampNeg) * (4 : Int32))) (b := v8) (by omega) (by omega)
    refine dz_Tin (by omega) (by omega) ?_
    have e8 := dz_rqat (hr_a263) (x := (a293 v6.toNatClampNeg)) (y := v8) (by omega) (by omega) (by omega) (by omega) (by omega)
    have e9 := dz_add (a := v7) (b := (a263 (((a293 v6.toNatClampNeg) * (4 : Int32)) + v8).toNatClampNeg)) (by omega) (by omega)
    have e10 := dz_mulr (a := (v7 + (a263 (((a293 v6.toNatClampNeg) * (4 : Int32)) + v8).toNatClampNeg))) (b := (4 : Int32)) 4 (by omega) (by omega) (by omega)
    have e11 := dz_add (a := ((v7 + (a263 (((a293 v6.toNatClampNeg) * (4 : Int32)) + v8).toNatClampNeg)) * (4 : Int32))) (b := v8) (by omega) (by omega)
    refine dz_Tin (by omega) (by omega) ?_
    refine dz_Tin (by omega) (by omega) ?_
    have e12 := dz_l1
    have e13 := dz_add (a := v6) (b := (1 : Int32)) (by omega) (by omega)
    exact (ih k0 (by omega)).2.2 v3 v4 v6 v7 v8 (v7 + (a263 (((a293 v6.toNatClampNeg) * (4 : Int32)) + v8).toNatClampNeg)) (v6 + (1 : Int32)) c313_rows a314 (vp_updL a315 (((v7 + (a263 (((a293 v6.toNatClampNeg) * (4 : Int32)) + v8).toNatClampNeg)) * (4 : Int32)) + v8).toNatClampNeg ((a315 (((v7 + (a263 (((a293 v6.toNatClampNeg) * (4 : Int32)) + v8).toNatClampNeg)) * (4 : Int32)) + v8).toNatClampNeg) + v4)) i0 i1 i2 i3 i4 i5 (by first | assumption | omega) i7 (by omega) (by omega) (by omega) (by omega) (by omega) i8 (by omega) (by omega) (by omega) (dz_rgs (hr_a293) (by omega)) (by omega)
set_option maxHeartbeats 1000000 in
set_option maxRecDepth 10000 in
theorem t208_X6_addAhead_h3_g32 (fu : Nat) (hfu : 1000000000000 ≤ fu) (c248_groups : Int32) (a263 : Nat → Int32) (a283 : Nat → Int32) (a293 : Nat → Int32) (p0 : c248_groups.toInt ≤ 3) (p1 : 3 ≤ c248_groups.toInt) (hr_a263 : dz_rq a263 6 3 0 2) (hr_a283 : dz_pm a283 2) (k : Nat) (ih : ∀ j9, j9 < k → p208_X6_addAhead_g32 fu c248_groups a263 a283 a293 j9) : ∀ (v3 : Int32) (v4 : Int64) (v6 : Int32) (v7 : Int32) (v8 : Int32) (v9 : Int32) (v10 : Int32) (c313_rows : Int64) (a314 : Nat → Int64) (a315 : Nat → Int64), v3.toInt ≤ 2 → 1 ≤ v3.toInt → v6.toInt ≤ 1 → 0 ≤ v6.toInt → v7.toInt ≤ 3 → 0 ≤ v7.toInt → v8.toInt ≤ 2 → 0 ≤ v8.toInt → v9.toInt ≤ 5 → 0 ≤ v9.toInt → v10.toInt ≤ 2 → 1 ≤ v10.toInt → v6.toInt + 1 ≤ v10.toInt → v6.toInt + 1 ≤ v3.toInt → v10.toInt ≤ v3.toInt → v7.toInt ≤ v9.toInt → v9.toInt ≤ v7.toInt + 2 → dz_rg a293 v3.toInt.toNat 0 5 → 0 + 0 + ((2 - v6.toInt) - 1) * 280 + 0 + ((3 - v8.toInt) - 1) * 63 + 0 + (2 - v10.toInt) * 14 + 21 ≤ ((k : Nat) : Int) → dz_T ((F208_X6_addAhead fu c248_groups a263 a283 a293 k).2.2 v3 v4 v6 v7 v8 v9 v10 c313_rows a314 a315) (fun r => True) := by
  intro v3 v4 v6 v7 v8 v9 v10 c313_rows a314 a315 i0 i1 i2 i3 i4 i5 i6 i7 i8 i9 i10 i11 i12 i13 i14 i15 i16 hr_a293 hm
  obtain ⟨k0, rfl⟩ : ∃ x, k = x + 1 := ⟨k - 1, by omega⟩
  show dz_T (s208_X6_addAhead_3 fu c248_groups a263 a283 a293 (F208_X6_addAhead fu c248_groups a263 a283 a293 k0).2.1 (F208_X6_addAhead fu c248_groups a263 a283 a293 k0).2.2  v3 v4 v6 v7 v8 v9 v10 c313_rows a314 a315) _
  unfold s208_X6_addAhead_3
  refine dz_Tle (fun h1 => ?_) (fun h1 => ?_)
  · skip
    have e2 := dz_l1
    have e3 := dz_add (a := v8) (b := (1 : Int32)) (by omega) (by omega)
    exact (ih k0 (by omega)).2.1 v3 v4 v6 v7 (v8 + (1 : Int32)) c313_rows a314 a315 i0 i1 i2 i3 i4 i5 (by omega) (by omega) i13 (dz_rgs (hr_a293) (by omega)) (by omega)
  · skip
    refine dz_Tin (by omega) (by omega) ?_
    have e4 := dz_rgat (hr_a293) (i := v10) (by omega) (by omega)
    have e5 := dz_l4
    have e6 := dz_mulr (a := (a293 v10.toNatClampNeg)) (b := (4 : Int32)) 4 (by omega) (by omega) (by omega)
    have e7 := dz_add (a := ((a293 v10.toNatClampNeg) * (4 : Int32))) (b := v8) (by omega) (by omega)
    refine dz_Tin (by omega) (by omega) ?_
    refine dz_Tin (by omega) (by omega) ?_
    have e8 := dz_l12
    have e9 := dz_mulr (a := v9) (b := (12 : Int32)) 12 (by omega) (by omega) (by omega)
    have e10 := dz_pmat (hr_a283) (i := v10) (by decide) (by omega) (by omega)
    have e11 := dz_mulr (a := (a283 v10.toNatClampNeg)) (b := c248_groups) 3 (by omega) (by omega) (by omega)
    have e12 := dz_add (a := (v9 * (12 : Int32))) (b := ((a283 v10.toNatClampNeg) * c248_groups)) (by omega) (by omega)
    have e13 := dz_rqat (hr_a263) (x := (a293 v10.toNatClampNeg)) (y := v8) (by omega) (by omega) (by omega) (by omega) (by omega)
    have e14 := dz_add (a := ((v9 * (12 : Int32)) + ((a283 v10.toNatClampNeg) * c248_groups))) (b := (a263 (((a293 v10.toNatClampNeg) * (4 : Int32)) + v8).toNatClampNeg)) (by omega) (by omega)
    refine dz_Tin (by omega) (by omega) ?_
    refine dz_Tin (by omega) (by omega) ?_
    have e15 := dz_l1
    have e16 := dz_add (a := v10) (b := (1 : Int32)) (by omega) (by omega)
    exact (ih k0 (by omega)).2.2 v3 v4 v6 v7 v8 v9 (v10 + (1 : Int32)) c313_rows (vp_updL a314 (((v9 * (12 : Int32)) + ((a283 v10.toNatClampNeg) * c248_groups)) + (a263 (((a293 v10.toNatClampNeg) * (4 : Int32)) + v8).toNatClampNeg)).toNatClampNeg ((a314 (((v9 * (12 : Int32)) + ((a283 v10.toNatClampNeg) * c248_groups)) + (a263 (((a293 v10.toNatClampNeg) * (4 : Int32)) + v8).toNatClampNeg)).toNatClampNeg) + v4)) a315 i0 i1 i2 i3 i4 i5 i6 i7 i8 i9 (by omega) (by omega) (by omega) i13 (by omega) i15 i16 (dz_rgs (hr_a293) (by omega)) (by omega)
theorem t208_X6_addAhead_I_g32 (fu : Nat) (hfu : 1000000000000 ≤ fu) (c248_groups : Int32) (a263 : Nat → Int32) (a283 : Nat → Int32) (a293 : Nat → Int32) (p0 : c248_groups.toInt ≤ 3) (p1 : 3 ≤ c248_groups.toInt) (hr_a263 : dz_rq a263 6 3 0 2) (hr_a283 : dz_pm a283 2) (k : Nat) : p208_X6_addAhead_g32 fu c248_groups a263 a283 a293 k := by
  induction k using Nat.strongRecOn with
  | _ k ih => exact ⟨t208_X6_addAhead_h1_g32 fu hfu c248_groups a263 a283 a293 p0 p1 hr_a263 hr_a283 k ih, t208_X6_addAhead_h2_g32 fu hfu c248_groups a263 a283 a293 p0 p1 hr_a263 hr_a283 k ih, t208_X6_addAhead_h3_g32 fu hfu c248_groups a263 a283 a293 p0 p1 hr_a263 hr_a283 k ih⟩
set_option maxHeartbeats 1000000 in
set_option maxRecDepth 10000 in
theorem t208_X6_addAhead_E_g32 (fu : Nat) (hfu : 1000000000000 ≤ fu) (c248_groups : Int32) (a263 : Nat → Int32) (a283 : Nat → Int32) (a293 : Nat → Int32) (v3 : Int32) (v4 : Int64) (c313_rows : Int64) (a314 : Nat → Int64) (a315 : Nat → Int64) (p0 : c248_groups.toInt ≤ 3) (p1 : 3 ≤ c248_groups.toInt) (p2 : 0 ≤ v3.toInt) (p3 : v3.toInt ≤ 2) (hr_a263 : dz_rq a263 6 3 0 2) (hr_a283 : dz_pm a283 2) (hr_a293 : dz_rg a293 v3.toInt.toNat 0 5) (kv : Nat) (hkv : 1000000000000 ≤ kv) : dz_T (s208_X6_addAhead_0 fu c248_groups a263 a283 a293 (F208_X6_addAhead fu c248_groups a263 a283 a293 kv).1  v3 v4 c313_rows a314 a315) (fun r => True) := by
  unfold s208_X6_addAhead_0
  have e1 := dz_l0
  exact (t208_X6_addAhead_I_g32 fu hfu c248_groups a263 a283 a293 p0 p1 hr_a263 hr_a283 kv).1 v3 v4 (0 : Int32) (c313_rows + v4) a314 a315 p3 p2 (by omega) (by omega) (by omega) (dz_rgs (hr_a293) (by omega)) (by omega)
theorem t208_X6_addAhead_g32 (fu : Nat) (hfu : 1000000000000 ≤ fu) (c248_groups : Int32) (a263 : Nat → Int32) (a283 : Nat → Int32) (a293 : Nat → Int32) (v3 : Int32) (v4 : Int64) (c313_rows : Int64) (a314 : Nat → Int64) (a315 : Nat → Int64) (p0 : c248_groups.toInt ≤ 3) (p1 : 3 ≤ c248_groups.toInt) (p2 : 0 ≤ v3.toInt) (p3 : v3.toInt ≤ 2) (hr_a263 : dz_rq a263 6 3 0 2) (hr_a283 : dz_pm a283 2) (hr_a293 : dz_rg a293 v3.toInt.toNat 0 5) : dz_T (f208_X6_addAhead fu c248_groups a263 a283 a293 v3 v4 c313_rows a314 a315) (fun r => True) :=
  t208_X6_addAhead_E_g32 fu hfu c248_groups a263 a283 a293 v3 v4 c313_rows a314 a315 p0 p1 p2 p3 hr_a263 hr_a283 hr_a293 fu hfu
abbrev p208_X6_addAhead_g33 (fu : Nat) (c248_groups : Int32) (a263 : Nat → Int32) (a283 : Nat → Int32) (a293 : Nat → Int32) (k : Nat) : Prop :=
  (∀ (v3 : Int32) (v4 : Int64) (v6 : Int32) (c313_rows : Int64) (a314 : Nat → Int64) (a315 : Nat → Int64), v3.toInt ≤ 3 → 0 ≤ v3.toInt → v6.toInt ≤ 3 → 0 ≤ v6.toInt → v6.toInt ≤ v3.toInt → dz_rg a293 v3.toInt.toNat 0 5 → 0 + 0 + (3 - v6.toInt) * 336 + 7 ≤ ((k : Nat) : Int) → dz_T ((F208_X6_addAhead fu c248_groups a263 a283 a293 k).1 v3 v4 v6 c313_rows a314 a315) (fun r => True)) ∧ (∀ (v3 : Int32) (v4 : Int64) (v6 : Int32) (v7 : Int32) (v8 : Int32) (c313_rows : Int64) (a314 : Nat → Int64) (a315 : Nat → Int64), v3.toInt ≤ 3 → 1 ≤ v3.toInt → v6.toInt ≤ 2 → 0 ≤ v6.toInt → v7.toInt ≤ 6 → 0 ≤ v7.toInt → v8.toInt ≤ 3 → 0 ≤ v8.toInt → v6.toInt + 1 ≤ v3.toInt → dz_rg a293 v3.toInt.toNat 0 5 → 0 + 0 + ((3 - v6.toInt) - 1) * 336 + 0 + (3 - v8.toInt) * 77 + 14 ≤ ((k : Nat) : Int) → dz_T ((F208_X6_addAhead fu c248_groups a263 a283 a293 k).2.1 v3 v4 v6 v7 v8 c313_rows a314 a315) (fun r => True)) ∧ (∀ (v3 : Int32) (v4 : Int64) (v6 : Int32) (v7 : Int32) (v8 : Int32) (v9 : Int32) (v10 : Int32) (c313_rows : Int64) (a314 : Nat → Int64) (a315 : Nat → Int64), v3.toInt ≤ 3 → 1 ≤ v3.toInt → v6.toInt ≤ 2 → 0 ≤ v6.toInt → v7.toInt ≤ 6 → 0 ≤ v7.toInt → v8.toInt ≤ 2 → 0 ≤ v8.toInt → v9.toInt ≤ 8 → 0 ≤ v9.toInt → v10.toInt ≤ 3 → 1 ≤ v10.toInt → v6.toInt + 1 ≤ v10.toInt → v6.toInt + 1 ≤ v3.toInt → v10.toInt ≤ v3.toInt → v7.toInt ≤ v9.toInt → v9.toInt ≤ v7.toInt + 2 → dz_rg a293 v3.toInt.toNat 0 5 → 0 + 0 + ((3 - v6.toInt) - 1) * 336 + 0 + ((3 - v8.toInt) - 1) * 77 + 0 + (3 - v10.toInt) * 14 + 21 ≤ ((k : Nat) : Int) → dz_T ((F208_X6_addAhead fu c248_groups a263 a283 a293 k).2.2 v3 v4 v6 v7 v8 v9 v10 c313_rows a314 a315) (fun r => True))
set_option maxHeartbeats 1000000 in
set_option maxRecDepth 10000 in
theorem t208_X6_addAhead_h1_g33 (fu : Nat) (hfu : 1000000000000 ≤ fu) (c248_groups : Int32) (a263 : Nat → Int32) (a283 : Nat → Int32) (a293 : Nat → Int32) (p0 : c248_groups.toInt ≤ 3) (p1 : 3 ≤ c248_groups.toInt) (hr_a263 : dz_rq a263 6 3 0 2) (hr_a283 : dz_pm a283 3) (k : Nat) (ih : ∀ j9, j9 < k → p208_X6_addAhead_g33 fu c248_groups a263 a283 a293 j9) : ∀ (v3 : Int32) (v4 : Int64) (v6 : Int32) (c313_rows : Int64) (a314 : Nat → Int64) (a315 : Nat → Int64), v3.toInt ≤ 3 → 0 ≤ v3.toInt → v6.toInt ≤ 3 → 0 ≤ v6.toInt → v6.toInt ≤ v3.toInt → dz_rg a293 v3.toInt.toNat 0 5 → 0 + 0 + (3 - v6.toInt) * 336 + 7 ≤ ((k : Nat) : Int) → dz_T ((F208_X6_addAhead fu c248_groups a263 a283 a293 k).1 v3 v4 v6 c313_rows a314 a315) (fun r => True) := by
  intro v3 v4 v6 c313_rows a314 a315 i0 i1 i2 i3 i4 hr_a293 hm
  obtain ⟨k0, rfl⟩ : ∃ x, k = x + 1 := ⟨k - 1, by omega⟩
  show dz_T (s208_X6_addAhead_1 fu c248_groups a263 a283 a293 (F208_X6_addAhead fu c248_groups a263 a283 a293 k0).2.1  v3 v4 v6 c313_rows a314 a315) _
  unfold s208_X6_addAhead_1
  refine dz_Tle (fun h1 => ?_) (fun h1 => ?_)
  · skip
    exact dz_Ts trivial
  · skip
    refine dz_Tin (by omega) (by omega) ?_
    have e2 := dz_pmat (hr_a283) (i := v6) (by decide) (by omega) (by omega)
    have e3 := dz_mulr (a := (a283 v6.toNatClampNeg)) (b := c248_groups) 3 (by omega) (by omega) (by omega)
    have e4 := dz_l0
    exact (ih k0 (by omega)).2.1 v3 v4 v6 ((a283 v6.toNatClampNeg) * c248_groups) (0 : Int32) c313_rows a314 a315 i0 (by first | assumption | omega) (by first | assumption | omega) i3 (by omega) (by omega) (by omega) (by omega) (by first | assumption | omega) (dz_rgs (hr_a293) (by omega)) (by omega)
set_option maxHeartbeats 1000000 in
set_option maxRecDepth 10000 in
theorem t208_X6_addAhead_h2_g33 (fu : Nat) (hfu : 1000000000000 ≤ fu) (c248_groups : Int32) (a263 : Nat → Int32) (a283 : Nat → Int32) (a293 : Nat → Int32) (p0 : c248_groups.toInt ≤ 3) (p1 : 3 ≤ c248_groups.toInt) (hr_a263 : dz_rq a263 6 3 0 2) (hr_a283 : dz_pm a283 3) (k : Nat) (ih : ∀ j9, j9 < k → p208_X6_addAhead_g33 fu c248_groups a263 a283 a293 j9) : ∀ (v3 : Int32) (v4 : Int64) (v6 : Int32) (v7 : Int32) (v8 : Int32) (c313_rows : Int64) (a314 : Nat → Int64) (a315 : Nat → Int64), v3.toInt ≤ 3 → 1 ≤ v3.toInt → v6.toInt ≤ 2 → 0 ≤ v6.toInt → v7.toInt ≤ 6 → 0 ≤ v7.toInt → v8.toInt ≤ 3 → 0 ≤ v8.toInt → v6.toInt + 1 ≤ v3.toInt → dz_rg a293 v3.toInt.toNat 0 5 → 0 + 0 + ((3 - v6.toInt) - 1) * 336 + 0 + (3 - v8.toInt) * 77 + 14 ≤ ((k : Nat) : Int) → dz_T ((F208_X6_addAhead fu c248_groups a263 a283 a293 k).2.1 v3 v4 v6 v7 v8 c313_rows a314 a315) (fun r => True) := by
  intro v3 v4 v6 v7 v8 c313_rows a314 a315 i0 i1 i2 i3 i4 i5 i6 i7 i8 hr_a293 hm
  obtain ⟨k0, rfl⟩ : ∃ x, k = x + 1 := ⟨k - 1, by omega⟩
  show dz_T (s208_X6_addAhead_2 fu c248_groups a263 a283 a293 (F208_X6_addAhead fu c248_groups a263 a283 a293 k0).1 (F208_X6_addAhead fu c248_groups a263 a283 a293 k0).2.2  v3 v4 v6 v7 v8 c313_rows a314 a315) _
  unfold s208_X6_addAhead_2
  refine dz_Tle (fun h1 => ?_) (fun h1 => ?_)
  · skip
    have e2 := dz_l1
    have e3 := dz_add (a := v6) (b := (1 : Int32)) (by omega) (by omega)
    exact (ih k0 (by omega)).1 v3 v4 (v6 + (1 : Int32)) c313_rows a314 a315 i0 (by first | assumption | omega) (by omega) (by omega) (by omega) (dz_rgs (hr_a293) (by omega)) (by omega)
  · skip
    refine dz_Tin (by omega) (by omega) ?_
    have e4 := dz_rgat (hr_a293) (i := v6) (by omega) (by omega)
    have e5 := dz_l4
    have e6 := dz_mulr (a := (a293 v6.toNatClampNeg)) (b := (4 : Int32)) 4 (by omega) (by omega) (by omega)
    have e7 := dz_add (a := ((a293 v6.toNatClampNeg) * (4 : Int32))) (b := v8) (by omega) (by omega)
    refine dz_Tin (by omega) (by omega) ?_
    have e8 := dz_rqat (hr_a263) (x := (a293 v6.toNatClampNeg)) (y := v8) (by omega) (by omega) (by omega) (by omega) (by omega)
    have e9 := dz_add (a := v7) (b := (a263 (((a293 v6.toNatClampNeg) * (4 : Int32)) + v8).toNatClampNeg)) (by omega) (by omega)
    have e10 := dz_mulr (a := (v7 + (a263 (((a293 v6.toNatClampNeg) * (4 : Int32)) + v8).toNatClampNeg))) (b := (4 : Int32)) 4 (by omega) (by omega) (by omega)
    have e11 := dz_add (a := ((v7 + (a263 (((a293 v6.toNatClampNeg) * (4 : Int32)) + v8).toNatClampNeg)) * (4 : Int32))) (b := v8) (by omega) (by omega)
    refine dz_Tin (by omega) (by omega) ?_
    refine dz_Tin (by omega) (by omega) ?_
    have e12 := dz_l1
    have e13 := dz_add (a := v6) (b := (1 : Int32)) (by omega) (by omega)
    exact (ih k0 (by omega)).2.2 v3 v4 v6 v7 v8 (v7 + (a263 (((a293 v6.toNatClampNeg) * (4 : Int32)) + v8).toNatClampNeg)) (v6 + (1 : Int32)) c313_rows a314 (vp_updL a315 (((v7 + (a263 (((a293 v6.toNatClampNeg) * (4 : Int32)) + v8).toNatClampNeg)) * (4 : Int32)) + v8).toNatClampNeg ((a315 (((v7 + (a263 (((a293 v6.toNatClampNeg) * (4 : Int32)) + v8).toNatClampNeg)) * (4 : Int32)) + v8).toNatClampNeg) + v4)) i0 i1 i2 i3 i4 i5 (by first | assumption | omega) i7 (by omega) (by omega) (by omega) (by omega) (by omega) i8 (by omega) (by omega) (by omega) (dz_rgs (hr_a293) (by omega)) (by omega)
set_option maxHeartbeats 1000000 in
set_option maxRecDepth 10000 in
theorem t208_X6_addAhead_h3_g33 (fu : Nat) (hfu : 1000000000000 ≤ fu) (c248_groups : Int32) (a263 : Nat → Int32) (a283 : Nat → Int32) (a293 : Nat → Int32) (p0 : c248_groups.toInt ≤ 3) (p1 : 3 ≤ c248_groups.toInt) (hr_a263 : dz_rq a263 6 3 0 2) (hr_a283 : dz_pm a283 3) (k : Nat) (ih : ∀ j9, j9 < k → p208_X6_addAhead_g33 fu c248_groups a263 a283 a293 j9) : ∀ (v3 : Int32) (v4 : Int64) (v6 : Int32) (v7 : Int32) (v8 : Int32) (v9 : Int32) (v10 : Int32) (c313_rows : Int64) (a314 : Nat → Int64) (a315 : Nat → Int64), v3.toInt ≤ 3 → 1 ≤ v3.toInt → v6.toInt ≤ 2 → 0 ≤ v6.toInt → v7.toInt ≤ 6 → 0 ≤ v7.toInt → v8.toInt ≤ 2 → 0 ≤ v8.toInt → v9.toInt ≤ 8 → 0 ≤ v9.toInt → v10.toInt ≤ 3 → 1 ≤ v10.toInt → v6.toInt + 1 ≤ v10.toInt → v6.toInt + 1 ≤ v3.toInt → v10.toInt ≤ v3.toInt → v7.toInt ≤ v9.toInt → v9.toInt ≤ v7.toInt + 2 → dz_rg a293 v3.toInt.toNat 0 5 → 0 + 0 + ((3 - v6.toInt) - 1) * 336 + 0 + ((3 - v8.toInt) - 1) * 77 + 0 + (3 - v10.toInt) * 14 + 21 ≤ ((k : Nat) : Int) → dz_T ((F208_X6_addAhead fu c248_groups a263 a283 a293 k).2.2 v3 v4 v6 v7 v8 v9 v10 c313_rows a314 a315) (fun r => True) := by
  intro v3 v4 v6 v7 v8 v9 v10 c313_rows a314 a315 i0 i1 i2 i3 i4 i5 i6 i7 i8 i9 i10 i11 i12 i13 i14 i15 i16 hr_a293 hm
  obtain ⟨k0, rfl⟩ : ∃ x, k = x + 1 := ⟨k - 1, by omega⟩
  show dz_T (s208_X6_addAhead_3 fu c248_groups a263 a283 a293 (F208_X6_addAhead fu c248_groups a263 a283 a293 k0).2.1 (F208_X6_addAhead fu c248_groups a263 a283 a293 k0).2.2  v3 v4 v6 v7 v8 v9 v10 c313_rows a314 a315) _
  unfold s208_X6_addAhead_3
  refine dz_Tle (fun h1 => ?_) (fun h1 => ?_)
  · skip
    have e2 := dz_l1
    have e3 := dz_add (a := v8) (b := (1 : Int32)) (by omega) (by omega)
    exact (ih k0 (by omega)).2.1 v3 v4 v6 v7 (v8 + (1 : Int32)) c313_rows a314 a315 i0 i1 i2 i3 i4 i5 (by omega) (by omega) i13 (dz_rgs (hr_a293) (by omega)) (by omega)
  · skip
    refine dz_Tin (by omega) (by omega) ?_
    have e4 := dz_rgat (hr_a293) (i := v10) (by omega) (by omega)
    have e5 := dz_l4
    have e6 := dz_mulr (a := (a293 v10.toNatClampNeg)) (b := (4 : Int32)) 4 (by omega) (by omega) (by omega)
    have e7 := dz_add (a := ((a293 v10.toNatClampNeg) * (4 : Int32))) (b := v8) (by omega) (by omega)
    refine dz_Tin (by omega) (by omega) ?_
    refine dz_Tin (by omega) (by omega) ?_
    have e8 := dz_l12
    have e9 := dz_mulr (a := v9) (b := (12 : Int32)) 12 (by omega) (by omega) (by omega)
    have e10 := dz_pmat (hr_a283) (i := v10) (by decide) (by omega) (by omega)
    have e11 := dz_mulr (a := (a283 v10.toNatClampNeg)) (b := c248_groups) 3 (by omega) (by omega) (by omega)
    have e12 := dz_add (a := (v9 * (12 : Int32))) (b := ((a283 v10.toNatClampNeg) * c248_groups)) (by omega) (by omega)
    have e13 := dz_rqat (hr_a263) (x := (a293 v10.toNatClampNeg)) (y := v8) (by omega) (by omega) (by omega) (by omega) (by omega)
    have e14 := dz_add (a := ((v9 * (12 : Int32)) + ((a283 v10.toNatClampNeg) * c248_groups))) (b := (a263 (((a293 v10.toNatClampNeg) * (4 : Int32)) + v8).toNatClampNeg)) (by omega) (by omega)
    refine dz_Tin (by omega) (by omega) ?_
    refine dz_Tin (by omega) (by omega) ?_
    have e15 := dz_l1
    have e16 := dz_add (a := v10) (b := (1 : Int32)) (by omega) (by omega)
    exact (ih k0 (by omega)).2.2 v3 v4 v6 v7 v8 v9 (v10 + (1 : Int32)) c313_rows (vp_updL a314 (((v9 * (12 : Int32)) + ((a283 v10.toNatClampNeg) * c248_groups)) + (a263 (((a293 v10.toNatClampNeg) * (4 : Int32)) + v8).toNatClampNeg)).toNatClampNeg ((a314 (((v9 * (12 : Int32)) + ((a283 v10.toNatClampNeg) * c248_groups)) + (a263 (((a293 v10.toNatClampNeg) * (4 : Int32)) + v8).toNatClampNeg)).toNatClampNeg) + v4)) a315 i0 i1 i2 i3 i4 i5 i6 i7 i8 i9 (by omega) (by omega) (by omega) i13 (by omega) i15 i16 (dz_rgs (hr_a293) (by omega)) (by omega)
theorem t208_X6_addAhead_I_g33 (fu : Nat) (hfu : 1000000000000 ≤ fu) (c248_groups : Int32) (a263 : Nat → Int32) (a283 : Nat → Int32) (a293 : Nat → Int32) (p0 : c248_groups.toInt ≤ 3) (p1 : 3 ≤ c248_groups.toInt) (hr_a263 : dz_rq a263 6 3 0 2) (hr_a283 : dz_pm a283 3) (k : Nat) : p208_X6_addAhead_g33 fu c248_groups a263 a283 a293 k := by
  induction k using Nat.strongRecOn with
  | _ k ih => exact ⟨t208_X6_addAhead_h1_g33 fu hfu c248_groups a263 a283 a293 p0 p1 hr_a263 hr_a283 k ih, t208_X6_addAhead_h2_g33 fu hfu c248_groups a263 a283 a293 p0 p1 hr_a263 hr_a283 k ih, t208_X6_addAhead_h3_g33 fu hfu c248_groups a263 a283 a293 p0 p1 hr_a263 hr_a283 k ih⟩
set_option maxHeartbeats 1000000 in
set_option maxRecDepth 10000 in
theorem t208_X6_addAhead_E_g33 (fu : Nat) (hfu : 1000000000000 ≤ fu) (c248_groups : Int32) (a263 : Nat → Int32) (a283 : Nat → Int32) (a293 : Nat → Int32) (v3 : Int32) (v4 : Int64) (c313_rows : Int64) (a314 : Nat → Int64) (a315 : Nat → Int64) (p0 : c248_groups.toInt ≤ 3) (p1 : 3 ≤ c248_groups.toInt) (p2 : 0 ≤ v3.toInt) (p3 : v3.toInt ≤ 3) (hr_a263 : dz_rq a263 6 3 0 2) (hr_a283 : dz_pm a283 3) (hr_a293 : dz_rg a293 v3.toInt.toNat 0 5) (kv : Nat) (hkv : 1000000000000 ≤ kv) : dz_T (s208_X6_addAhead_0 fu c248_groups a263 a283 a293 (F208_X6_addAhead fu c248_groups a263 a283 a293 kv).1  v3 v4 c313_rows a314 a315) (fun r => True) := by
  unfold s208_X6_addAhead_0
  have e1 := dz_l0
  exact (t208_X6_addAhead_I_g33 fu hfu c248_groups a263 a283 a293 p0 p1 hr_a263 hr_a283 kv).1 v3 v4 (0 : Int32) (c313_rows + v4) a314 a315 p3 p2 (by omega) (by omega) (by omega) (dz_rgs (hr_a293) (by omega)) (by omega)
theorem t208_X6_addAhead_g33 (fu : Nat) (hfu : 1000000000000 ≤ fu) (c248_groups : Int32) (a263 : Nat → Int32) (a283 : Nat → Int32) (a293 : Nat → Int32) (v3 : Int32) (v4 : Int64) (c313_rows : Int64) (a314 : Nat → Int64) (a315 : Nat → Int64) (p0 : c248_groups.toInt ≤ 3) (p1 : 3 ≤ c248_groups.toInt) (p2 : 0 ≤ v3.toInt) (p3 : v3.toInt ≤ 3) (hr_a263 : dz_rq a263 6 3 0 2) (hr_a283 : dz_pm a283 3) (hr_a293 : dz_rg a293 v3.toInt.toNat 0 5) : dz_T (f208_X6_addAhead fu c248_groups a263 a283 a293 v3 v4 c313_rows a314 a315) (fun r => True) :=
  t208_X6_addAhead_E_g33 fu hfu c248_groups a263 a283 a293 v3 v4 c313_rows a314 a315 p0 p1 p2 p3 hr_a263 hr_a283 hr_a293 fu hfu
