abbrev p3_X12_wordAt (fu : Nat) (a38 : Nat → Int32) (a39 : Nat → Int32) (k : Nat) : Prop :=
  (∀ (v1 : Int32) (v2 : Int32) (v3 : Int32) (v4 : Int32), v1.toInt ≤ 400 → 0 ≤ v1.toInt → v2.toInt ≤ 400 → 0 ≤ v2.toInt → v3.toInt ≤ 7 → 0 ≤ v3.toInt → v4.toInt ≤ 41 → 0 ≤ v4.toInt → v1.toInt ≤ v2.toInt → v3.toInt ≤ v4.toInt → dz_cq v4.toInt v3.toInt → 0 + 0 + (41 - v4.toInt) * 1700 + 10 ≤ ((k : Nat) : Int) → dz_T ((F3_X12_wordAt fu a38 a39 k).1 v1 v2 v3 v4) (fun r => r.toInt ≤ 6 ∧ (-1) ≤ r.toInt ∧ (r.toInt ≤ 6))) ∧ (∀ (v1 : Int32) (v2 : Int32) (v3 : Int32) (v4 : Int32) (v5 : Int32), v1.toInt ≤ 400 → 0 ≤ v1.toInt → v2.toInt ≤ 400 → 0 ≤ v2.toInt → v3.toInt ≤ 7 → 0 ≤ v3.toInt → v4.toInt ≤ 40 → 0 ≤ v4.toInt → v5.toInt ≤ 40 → 0 ≤ v5.toInt → v1.toInt ≤ v2.toInt → v3.toInt ≤ v4.toInt → v4.toInt + v5.toInt ≤ 40 → dz_cq (v4.toInt + v5.toInt) v3.toInt → 0 + 0 + ((41 - v4.toInt) - 1) * 1700 + 840 + (40 - v5.toInt) * 20 + 20 ≤ ((k : Nat) : Int) → dz_T ((F3_X12_wordAt fu a38 a39 k).2.1 v1 v2 v3 v4 v5) (fun r => r.toInt ≤ 6 ∧ (-1) ≤ r.toInt ∧ (r.toInt ≤ 6))) ∧ (∀ (v1 : Int32) (v2 : Int32) (v3 : Int32) (v4 : Int32) (v5 : Int32) (v6 : Int32) (v7 : Int32), v1.toInt ≤ 400 → 0 ≤ v1.toInt → v2.toInt ≤ 400 → 0 ≤ v2.toInt → v3.toInt ≤ 6 → 0 ≤ v3.toInt → v4.toInt ≤ 40 → 0 ≤ v4.toInt → v5.toInt ≤ 40 → 0 ≤ v5.toInt → v6.toInt ≤ 1 → 0 ≤ v6.toInt → v7.toInt ≤ 40 → 0 ≤ v7.toInt → v1.toInt ≤ v2.toInt → v3.toInt ≤ v4.toInt → v7.toInt ≤ v5.toInt → v4.toInt + v5.toInt ≤ 40 → dz_cq (v4.toInt + v5.toInt + 1) (v3.toInt + 1) → (v6.toInt = 0 ∨ v5.toInt = v2.toInt - v1.toInt) → 0 + 0 + ((41 - v4.toInt) - 1) * 1700 + 0 + (40 - v7.toInt) * 20 + 20 ≤ ((k : Nat) : Int) → dz_T ((F3_X12_wordAt fu a38 a39 k).2.2.2.1 v1 v2 v3 v4 v5 v6 v7) (fun r => r.toInt ≤ 6 ∧ (-1) ≤ r.toInt ∧ (r.toInt ≤ 6)))
set_option maxHeartbeats 4000000 in
set_option maxRecDepth 10000 in
theorem t3_X12_wordAt_h1 (fu : Nat) (hfu : 1000000000000 ≤ fu) (a38 : Nat → Int32) (a39 : Nat → Int32) (hr_a39 : dz_pt a39 dz_wd) (k : Nat) (ih : ∀ j9, j9 < k → p3_X12_wordAt fu a38 a39 j9) : ∀ (v1 : Int32) (v2 : Int32) (v3 : Int32) (v4 : Int32), v1.toInt ≤ 400 → 0 ≤ v1.toInt → v2.toInt ≤ 400 → 0 ≤ v2.toInt → v3.toInt ≤ 7 → 0 ≤ v3.toInt → v4.toInt ≤ 41 → 0 ≤ v4.toInt → v1.toInt ≤ v2.toInt → v3.toInt ≤ v4.toInt → dz_cq v4.toInt v3.toInt → 0 + 0 + (41 - v4.toInt) * 1700 + 10 ≤ ((k : Nat) : Int) → dz_T ((F3_X12_wordAt fu a38 a39 k).1 v1 v2 v3 v4) (fun r => r.toInt ≤ 6 ∧ (-1) ≤ r.toInt ∧ (r.toInt ≤ 6)) := by
  intro v1 v2 v3 v4 i0 i1 i2 i3 i4 i5 i6 i7 i8 i9 x0 hm
  obtain ⟨k0, rfl⟩ : ∃ x, k = x + 1 := ⟨k - 1, by omega⟩
  show dz_T (s3_X12_wordAt_1 fu a38 a39 (F3_X12_wordAt fu a38 a39 k0).2.1  v1 v2 v3 v4) _
  unfold s3_X12_wordAt_1
  have hq := dz_cqb x0
  have e1 := dz_l41
  refine dz_Tle (fun h2 => ?_) (fun h2 => ?_)
  · skip
    have e3 := dz_lm1
    exact dz_Ts ⟨(by omega), (by omega), (by omega)⟩
  · skip
    have e4 := dz_l0
    exact (ih k0 (by omega)).2.1 v1 v2 v3 v4 (0 : Int32) i0 i1 i2 i3 i4 i5 (by first | assumption | omega) i7 (by omega) (by omega) i8 i9 (by omega) (by first | exact dz_cqm x0 (by omega) (by omega) | exact dz_cqs hr_a39 (i := v4 + v5) x1 (by omega) (by omega) (by omega) (by omega)) (by omega)
set_option maxHeartbeats 4000000 in
set_option maxRecDepth 10000 in
theorem t3_X12_wordAt_h2 (fu : Nat) (hfu : 1000000000000 ≤ fu) (a38 : Nat → Int32) (a39 : Nat → Int32) (hr_a39 : dz_pt a39 dz_wd) (k : Nat) (ih : ∀ j9, j9 < k → p3_X12_wordAt fu a38 a39 j9) : ∀ (v1 : Int32) (v2 : Int32) (v3 : Int32) (v4 : Int32) (v5 : Int32), v1.toInt ≤ 400 → 0 ≤ v1.toInt → v2.toInt ≤ 400 → 0 ≤ v2.toInt → v3.toInt ≤ 7 → 0 ≤ v3.toInt → v4.toInt ≤ 40 → 0 ≤ v4.toInt → v5.toInt ≤ 40 → 0 ≤ v5.toInt → v1.toInt ≤ v2.toInt → v3.toInt ≤ v4.toInt → v4.toInt + v5.toInt ≤ 40 → dz_cq (v4.toInt + v5.toInt) v3.toInt → 0 + 0 + ((41 - v4.toInt) - 1) * 1700 + 840 + (40 - v5.toInt) * 20 + 20 ≤ ((k : Nat) : Int) → dz_T ((F3_X12_wordAt fu a38 a39 k).2.1 v1 v2 v3 v4 v5) (fun r => r.toInt ≤ 6 ∧ (-1) ≤ r.toInt ∧ (r.toInt ≤ 6)) := by
  intro v1 v2 v3 v4 v5 i0 i1 i2 i3 i4 i5 i6 i7 i8 i9 i10 i11 x0 x1 hm
  obtain ⟨k0, rfl⟩ : ∃ x, k = x + 1 := ⟨k - 1, by omega⟩
  show dz_T (s3_X12_wordAt_2 fu a38 a39 (F3_X12_wordAt fu a38 a39 k0).2.1 (F3_X12_wordAt fu a38 a39 k0).2.2.1  v1 v2 v3 v4 v5) _
  unfold s3_X12_wordAt_2
  have hs := dz_add (a := v4) (b := v5) (by omega) (by omega)
  have hq := dz_cq6 hr_a39 (i := v4 + v5) x1 (by omega) (by omega)
  have hw := dz_w40 hr_a39 (i := v4 + v5)
  have e1 := dz_add (a := v4) (b := v5) (by omega) (by omega)
  refine dz_Tin (by omega) (by omega) ?_
  have e2 := dz_ptrg (hr_a39) (i := (v4 + v5)) 32 120 (by decide) (by omega) (by show _ < ((41 : Nat) : Int); omega)
  have e3 := dz_l32
  refine dz_Teq (fun h4 => ?_) (fun h4 => ?_)
  · skip
    have e5 := dz_sub (a := v2) (b := v1) (by omega) (by omega)
    refine dz_Teq (fun h6 => ?_) (fun h6 => ?_)
    · skip
      obtain ⟨k1, rfl⟩ : ∃ x, k0 = x + 1 := ⟨k0 - 1, by omega⟩
      show dz_T (s3_X12_wordAt_3 fu a38 a39 (F3_X12_wordAt fu a38 a39 k1).2.2.2.1 v1 v2 v3 v4 v5 (1 : Int32)) _
      unfold s3_X12_wordAt_3
      have e7 := dz_l1
      have e8 := dz_l0
      exact (ih k1 (by omega)).2.2 v1 v2 v3 v4 v5 (1 : Int32) (0 : Int32) i0 i1 i2 i3 (by first | assumption | omega) i5 i6 i7 i8 i9 (by omega) (by omega) (by omega) (by omega) i10 i11 (by omega) (by omega) (by first | exact x1 | exact dz_cqe hr_a39 (i := v4 + v5) x1 (by omega) (by omega) (by omega) (by omega) (by omega)) (by omega) (by omega)
    · skip
      obtain ⟨k2, rfl⟩ : ∃ x, k0 = x + 1 := ⟨k0 - 1, by omega⟩
      show dz_T (s3_X12_wordAt_3 fu a38 a39 (F3_X12_wordAt fu a38 a39 k2).2.2.2.1 v1 v2 v3 v4 v5 (0 : Int32)) _
      unfold s3_X12_wordAt_3
      have e9 := dz_l0
      exact (ih k2 (by omega)).2.2 v1 v2 v3 v4 v5 (0 : Int32) (0 : Int32) i0 i1 i2 i3 (by first | assumption | omega) i5 i6 i7 i8 i9 (by omega) (by omega) (by omega) (by omega) i10 i11 (by omega) (by omega) (by first | exact x1 | exact dz_cqe hr_a39 (i := v4 + v5) x1 (by omega) (by omega) (by omega) (by omega) (by omega)) (by omega) (by omega)
  · skip
    have e10 := dz_l1
    have e11 := dz_add (a := v5) (b := (1 : Int32)) (by omega) (by omega)
    exact (ih k0 (by omega)).2.1 v1 v2 v3 v4 (v5 + (1 : Int32)) i0 i1 i2 i3 i4 i5 i6 i7 (by omega) (by omega) i10 i11 (by omega) (by first | exact dz_cqm x0 (by omega) (by omega) | exact dz_cqs hr_a39 (i := v4 + v5) x1 (by omega) (by omega) (by omega) (by omega)) (by omega)
set_option maxHeartbeats 4000000 in
set_option maxRecDepth 10000 in
theorem t3_X12_wordAt_h4 (fu : Nat) (hfu : 1000000000000 ≤ fu) (a38 : Nat → Int32) (a39 : Nat → Int32) (hr_a39 : dz_pt a39 dz_wd) (k : Nat) (ih : ∀ j9, j9 < k → p3_X12_wordAt fu a38 a39 j9) : ∀ (v1 : Int32) (v2 : Int32) (v3 : Int32) (v4 : Int32) (v5 : Int32) (v6 : Int32) (v7 : Int32), v1.toInt ≤ 400 → 0 ≤ v1.toInt → v2.toInt ≤ 400 → 0 ≤ v2.toInt → v3.toInt ≤ 6 → 0 ≤ v3.toInt → v4.toInt ≤ 40 → 0 ≤ v4.toInt → v5.toInt ≤ 40 → 0 ≤ v5.toInt → v6.toInt ≤ 1 → 0 ≤ v6.toInt → v7.toInt ≤ 40 → 0 ≤ v7.toInt → v1.toInt ≤ v2.toInt → v3.toInt ≤ v4.toInt → v7.toInt ≤ v5.toInt → v4.toInt + v5.toInt ≤ 40 → dz_cq (v4.toInt + v5.toInt + 1) (v3.toInt + 1) → (v6.toInt = 0 ∨ v5.toInt = v2.toInt - v1.toInt) → 0 + 0 + ((41 - v4.toInt) - 1) * 1700 + 0 + (40 - v7.toInt) * 20 + 20 ≤ ((k : Nat) : Int) → dz_T ((F3_X12_wordAt fu a38 a39 k).2.2.2.1 v1 v2 v3 v4 v5 v6 v7) (fun r => r.toInt ≤ 6 ∧ (-1) ≤ r.toInt ∧ (r.toInt ≤ 6)) := by
  intro v1 v2 v3 v4 v5 v6 v7 i0 i1 i2 i3 i4 i5 i6 i7 i8 i9 i10 i11 i12 i13 i14 i15 i16 x0 x1 x2 hm
  obtain ⟨k0, rfl⟩ : ∃ x, k = x + 1 := ⟨k - 1, by omega⟩
  show dz_T (s3_X12_wordAt_4 fu a38 a39 (F3_X12_wordAt fu a38 a39 k0).2.2.2.2.1 (F3_X12_wordAt fu a38 a39 k0).2.2.2.2.2  v1 v2 v3 v4 v5 v6 v7) _
  unfold s3_X12_wordAt_4
  have hq := dz_cqb x1
  refine dz_Tle (fun h1 => ?_) (fun h1 => ?_)
  · skip
    obtain ⟨k1, rfl⟩ : ∃ x, k0 = x + 1 := ⟨k0 - 1, by omega⟩
    show dz_T (s3_X12_wordAt_5 fu a38 a39 (F3_X12_wordAt fu a38 a39 k1).1 v1 v2 v3 v4 v5 v6) _
    unfold s3_X12_wordAt_5
    have e2 := dz_l0
    refine dz_Teq (fun h3 => ?_) (fun h3 => ?_)
    · skip
      have e4 := dz_l1
      have e5 := dz_add (a := v3) (b := (1 : Int32)) (by omega) (by omega)
      have e6 := dz_add (a := v5) (b := (1 : Int32)) (by omega) (by omega)
      have e7 := dz_add (a := v4) (b := (v5 + (1 : Int32))) (by omega) (by omega)
      exact (ih k1 (by omega)).1 v1 v2 (v3 + (1 : Int32)) (v4 + (v5 + (1 : Int32))) i0 i1 i2 i3 (by omega) (by omega) (by omega) (by omega) i14 (by omega) (by first | exact dz_cq0 (by omega) (by omega) | exact dz_cqm x1 (by omega) (by omega)) (by omega)
    · skip
      exact dz_Ts ⟨i4, (by first | assumption | omega), (by omega)⟩
  · skip
    have e8 := dz_l0
    refine dz_Teq (fun h9 => ?_) (fun h9 => ?_)
    · skip
      obtain ⟨k2, rfl⟩ : ∃ x, k0 = x + 1 := ⟨k0 - 1, by omega⟩
      show dz_T (s3_X12_wordAt_5 fu a38 a39 (F3_X12_wordAt fu a38 a39 k2).1 v1 v2 v3 v4 v5 v6) _
      unfold s3_X12_wordAt_5
      refine dz_Teq (fun h10 => ?_) (fun h10 => ?_)
      · skip
        have e11 := dz_l1
        have e12 := dz_add (a := v3) (b := (1 : Int32)) (by omega) (by omega)
        have e13 := dz_add (a := v5) (b := (1 : Int32)) (by omega) (by omega)
        have e14 := dz_add (a := v4) (b := (v5 + (1 : Int32))) (by omega) (by omega)
        exact (ih k2 (by omega)).1 v1 v2 (v3 + (1 : Int32)) (v4 + (v5 + (1 : Int32))) i0 i1 i2 i3 (by omega) (by omega) (by omega) (by omega) i14 (by omega) (by first | exact dz_cq0 (by omega) (by omega) | exact dz_cqm x1 (by omega) (by omega)) (by omega)
      · skip
        exfalso; omega
    · skip
      have e15 := dz_add (a := v4) (b := v7) (by omega) (by omega)
      refine dz_Tin (by omega) (by omega) ?_
      have e16 := dz_add (a := v1) (b := v7) (by omega) (by omega)
      refine dz_Tin (by omega) (by omega) ?_
      have e17 := dz_ptrg (hr_a39) (i := (v4 + v7)) 32 120 (by decide) (by omega) (by show _ < ((41 : Nat) : Int); omega)
      refine dz_Teq (fun h18 => ?_) (fun h18 => ?_)
      · skip
        obtain ⟨k3, rfl⟩ : ∃ x, k0 = x + 1 := ⟨k0 - 1, by omega⟩
        show dz_T (s3_X12_wordAt_6 fu a38 a39 (F3_X12_wordAt fu a38 a39 k3).2.2.2.1 v1 v2 v3 v4 v5 v7 (1 : Int32)) _
        unfold s3_X12_wordAt_6
        have e19 := dz_l1
        have e20 := dz_add (a := v7) (b := (1 : Int32)) (by omega) (by omega)
        exact (ih k3 (by omega)).2.2 v1 v2 v3 v4 v5 (1 : Int32) (v7 + (1 : Int32)) i0 i1 i2 i3 i4 i5 i6 i7 i8 i9 (by omega) (by omega) (by omega) (by omega) i14 i15 (by omega) (by omega) (by first | exact x1 | exact dz_cqe hr_a39 (i := v4 + v5) x1 (by omega) (by omega) (by omega) (by omega) (by omega)) (by omega) (by omega)
      · skip
        obtain ⟨k4, rfl⟩ : ∃ x, k0 = x + 1 := ⟨k0 - 1, by omega⟩
        show dz_T (s3_X12_wordAt_6 fu a38 a39 (F3_X12_wordAt fu a38 a39 k4).2.2.2.1 v1 v2 v3 v4 v5 v7 (0 : Int32)) _
        unfold s3_X12_wordAt_6
        have e21 := dz_l1
        have e22 := dz_add (a := v7) (b := (1 : Int32)) (by omega) (by omega)
        exact (ih k4 (by omega)).2.2 v1 v2 v3 v4 v5 (0 : Int32) (v7 + (1 : Int32)) i0 i1 i2 i3 i4 i5 i6 i7 i8 i9 (by omega) (by omega) (by omega) (by omega) i14 i15 (by omega) (by omega) (by first | exact x1 | exact dz_cqe hr_a39 (i := v4 + v5) x1 (by omega) (by omega) (by omega) (by omega) (by omega)) (by omega) (by omega)
theorem t3_X12_wordAt_I (fu : Nat) (hfu : 1000000000000 ≤ fu) (a38 : Nat → Int32) (a39 : Nat → Int32) (hr_a39 : dz_pt a39 dz_wd) (k : Nat) : p3_X12_wordAt fu a38 a39 k := by
  induction k using Nat.strongRecOn with
  | _ k ih => exact ⟨t3_X12_wordAt_h1 fu hfu a38 a39 hr_a39 k ih, t3_X12_wordAt_h2 fu hfu a38 a39 hr_a39 k ih, t3_X12_wordAt_h4 fu hfu a38 a39 hr_a39 k ih⟩
set_option maxHeartbeats 4000000 in
set_option maxRecDepth 10000 in
theorem t3_X12_wordAt_E (fu : Nat) (hfu : 1000000000000 ≤ fu) (a38 : Nat → Int32) (a39 : Nat → Int32) (v1 : Int32) (v2 : Int32) (p0 : 0 ≤ v1.toInt) (p1 : v1.toInt ≤ v2.toInt) (p2 : v2.toInt ≤ 400) (hr_a39 : dz_pt a39 dz_wd) (kv : Nat) (hkv : 1000000000000 ≤ kv) : dz_T (s3_X12_wordAt_0 fu a38 a39 (F3_X12_wordAt fu a38 a39 kv).1  v1 v2) (fun r => r.toInt ≤ 6 ∧ (-1) ≤ r.toInt ∧ (r.toInt ≤ 6)) := by
  unfold s3_X12_wordAt_0
  have e1 := dz_l0
  exact (t3_X12_wordAt_I fu hfu a38 a39 hr_a39 kv).1 v1 v2 (0 : Int32) (0 : Int32) (by first | assumption | omega) p0 p2 (by first | assumption | omega) (by omega) (by omega) (by omega) (by omega) p1 (by omega) (by first | exact dz_cq0 (by omega) (by omega) | exact dz_cqm x1 (by omega) (by omega)) (by omega)
theorem t3_X12_wordAt (fu : Nat) (hfu : 1000000000000 ≤ fu) (a38 : Nat → Int32) (a39 : Nat → Int32) (v1 : Int32) (v2 : Int32) (p0 : 0 ≤ v1.toInt) (p1 : v1.toInt ≤ v2.toInt) (p2 : v2.toInt ≤ 400) (hr_a39 : dz_pt a39 dz_wd) : dz_T (f3_X12_wordAt fu a38 a39 v1 v2) (fun r => r.toInt ≤ 6 ∧ (-1) ≤ r.toInt ∧ (r.toInt ≤ 6)) :=
  t3_X12_wordAt_E fu hfu a38 a39 v1 v2 p0 p1 p2 hr_a39 fu hfu
set_option maxHeartbeats 4000000 in
set_option maxRecDepth 10000 in
theorem t2_X12_wrong (fu : Nat) (hfu : 1000000000000 ≤ fu) (c2_place : Int32) (v1 : Int32) (c2_fault : Int32) (c2_faultPlace : Int32) (p0 : c2_place.toInt ≤ 400) (p1 : 0 ≤ c2_place.toInt) : dz_T (f2_X12_wrong fu c2_place v1 c2_fault c2_faultPlace) (fun r => r.1.toInt ≤ 0 ∧ 0 ≤ r.1.toInt) := by
  unfold f2_X12_wrong s2_X12_wrong_0
  have e1 := dz_l0
  refine dz_Ts ?_
  dsimp only
  exact ⟨(by omega), (by omega)⟩
abbrev p6_X12_packed (fu : Nat) (a38 : Nat → Int32) (k : Nat) : Prop :=
  (∀ (v1 : Int32) (v2 : Int32) (v3 : Int32) (v4 : Int32), v1.toInt ≤ 400 → 0 ≤ v1.toInt → v2.toInt ≤ 400 → v4.toInt ≤ 406 → 0 ≤ v4.toInt → v1.toInt ≤ v4.toInt → v4.toInt ≤ v1.toInt + 6 → 0 + 0 + (406 - v4.toInt) * 12 + 6 ≤ ((k : Nat) : Int) → dz_T ((F6_X12_packed fu a38 k).1 v1 v2 v3 v4) (fun r => True))
set_option maxHeartbeats 4000000 in
set_option maxRecDepth 10000 in
theorem t6_X12_packed_h1 (fu : Nat) (hfu : 1000000000000 ≤ fu) (a38 : Nat → Int32) (k : Nat) (ih : ∀ j9, j9 < k → p6_X12_packed fu a38 j9) : ∀ (v1 : Int32) (v2 : Int32) (v3 : Int32) (v4 : Int32), v1.toInt ≤ 400 → 0 ≤ v1.toInt → v2.toInt ≤ 400 → v4.toInt ≤ 406 → 0 ≤ v4.toInt → v1.toInt ≤ v4.toInt → v4.toInt ≤ v1.toInt + 6 → 0 + 0 + (406 - v4.toInt) * 12 + 6 ≤ ((k : Nat) : Int) → dz_T ((F6_X12_packed fu a38 k).1 v1 v2 v3 v4) (fun r => True) := by
  intro v1 v2 v3 v4 i0 i1 i2 i3 i4 i5 i6 hm
  obtain ⟨k0, rfl⟩ : ∃ x, k = x + 1 := ⟨k - 1, by omega⟩
  show dz_T (s6_X12_packed_1 fu a38 (F6_X12_packed fu a38 k0).2  v1 v2 v3 v4) _
  unfold s6_X12_packed_1
  have e1 := dz_l6
  have e2 := dz_add (a := v1) (b := (6 : Int32)) (by omega) (by omega)
  refine dz_Tle (fun h3 => ?_) (fun h3 => ?_)
  · skip
    exact dz_Ts trivial
  · skip
    refine dz_Tle (fun h4 => ?_) (fun h4 => ?_)
    · skip
      obtain ⟨k1, rfl⟩ : ∃ x, k0 = x + 1 := ⟨k0 - 1, by omega⟩
      show dz_T (s6_X12_packed_2 fu a38 (F6_X12_packed fu a38 k1).1 v1 v2 v4 (0 : Int32) (v3 <<< ((5 : Int32) &&& (31 : Int32)))) _
      unfold s6_X12_packed_2
      have e5 := dz_l5
      have e6 := dz_l31
      have e7 := dz_andr (a := (5 : Int32)) (b := (31 : Int32)) (by omega)
      have e8 := dz_andl (a := (5 : Int32)) (b := (31 : Int32)) (by omega)
      have e9 := dz_l0
      have e10 := dz_l1
      have e11 := dz_add (a := v4) (b := (1 : Int32)) (by omega) (by omega)
      exact (ih k1 (by omega)) v1 v2 ((v3 <<< ((5 : Int32) &&& (31 : Int32))) ||| (0 : Int32)) (v4 + (1 : Int32)) i0 i1 i2 (by omega) (by omega) (by omega) (by omega) (by omega)
    · skip
      refine dz_Tin (by omega) (by omega) ?_
      obtain ⟨k2, rfl⟩ : ∃ x, k0 = x + 1 := ⟨k0 - 1, by omega⟩
      show dz_T (s6_X12_packed_2 fu a38 (F6_X12_packed fu a38 k2).1 v1 v2 v4 ((a38 v4.toNatClampNeg) - (96 : Int32)) (v3 <<< ((5 : Int32) &&& (31 : Int32)))) _
      unfold s6_X12_packed_2
      have e12 := dz_l5
      have e13 := dz_l31
      have e14 := dz_andr (a := (5 : Int32)) (b := (31 : Int32)) (by omega)
      have e15 := dz_andl (a := (5 : Int32)) (b := (31 : Int32)) (by omega)
      have e16 := dz_l96
      have e17 := dz_rng (a38 v4.toNatClampNeg)
      have e18 := dz_l1
      have e19 := dz_add (a := v4) (b := (1 : Int32)) (by omega) (by omega)
      exact (ih k2 (by omega)) v1 v2 ((v3 <<< ((5 : Int32) &&& (31 : Int32))) ||| ((a38 v4.toNatClampNeg) - (96 : Int32))) (v4 + (1 : Int32)) i0 i1 i2 (by omega) (by omega) (by omega) (by omega) (by omega)
theorem t6_X12_packed_I (fu : Nat) (hfu : 1000000000000 ≤ fu) (a38 : Nat → Int32) (k : Nat) : p6_X12_packed fu a38 k := by
  induction k using Nat.strongRecOn with
  | _ k ih => exact t6_X12_packed_h1 fu hfu a38 k ih
set_option maxHeartbeats 4000000 in
set_option maxRecDepth 10000 in
theorem t6_X12_packed_E (fu : Nat) (hfu : 1000000000000 ≤ fu) (a38 : Nat → Int32) (v1 : Int32) (v2 : Int32) (p0 : 0 ≤ v1.toInt) (p1 : v2.toInt ≤ 400) (p2 : v1.toInt ≤ 400) (kv : Nat) (hkv : 1000000000000 ≤ kv) : dz_T (s6_X12_packed_0 fu a38 (F6_X12_packed fu a38 kv).1  v1 v2) (fun r => True) := by
  unfold s6_X12_packed_0
  have e1 := dz_l0
  exact (t6_X12_packed_I fu hfu a38 kv) v1 v2 (0 : Int32) v1 p2 p0 p1 (by first | assumption | omega) p0 (by first | assumption | omega) (by first | assumption | omega) (by omega)
theorem t6_X12_packed (fu : Nat) (hfu : 1000000000000 ≤ fu) (a38 : Nat → Int32) (v1 : Int32) (v2 : Int32) (p0 : 0 ≤ v1.toInt) (p1 : v2.toInt ≤ 400) (p2 : v1.toInt ≤ 400) : dz_T (f6_X12_packed fu a38 v1 v2) (fun r => True) :=
  t6_X12_packed_E fu hfu a38 v1 v2 p0 p1 p2 fu hfu
abbrev p7_X12_take (fu : Nat) (c2_stop : Int32) (a38 : Nat → Int32) (a39 : Nat → Int32) (gh_c2_next : Int32) (k : Nat) : Prop :=
  (∀ (c2_next : Int32) (c2_kind : Int32) (c2_which : Int32) (c2_place : Int32), gh_c2_next.toInt ≤ 400 → 0 ≤ gh_c2_next.toInt → c2_next.toInt ≤ 400 → 0 ≤ c2_next.toInt → c2_kind.toInt ≤ 5 → 0 ≤ c2_kind.toInt → c2_place.toInt ≤ 400 → 0 ≤ c2_place.toInt → c2_next.toInt ≤ c2_stop.toInt → gh_c2_next.toInt ≤ c2_next.toInt → 0 + 19272 + (400 - c2_next.toInt) * 24 + 12 ≤ ((k : Nat) : Int) → dz_T ((F7_X12_take fu c2_stop a38 a39 k).1 c2_next c2_kind c2_which c2_place) (fun r => gh_c2_next.toInt ≤ 400 ∧ 0 ≤ gh_c2_next.toInt ∧ r.1.toInt ≤ 400 ∧ 0 ≤ r.1.toInt ∧ r.2.1.toInt ≤ 5 ∧ 0 ≤ r.2.1.toInt ∧ r.2.2.2.toInt ≤ 400 ∧ 0 ≤ r.2.2.2.toInt ∧ r.1.toInt ≤ c2_stop.toInt ∧ gh_c2_next.toInt ≤ r.1.toInt ∧ gh_c2_next.toInt ≤ r.2.2.2.toInt ∧ (r.2.1.toInt = 0 ∨ gh_c2_next.toInt + 1 ≤ r.1.toInt) ∧ (r.2.1.toInt ≠ 1 ∨ (0 ≤ r.2.2.1.toInt ∧ r.2.2.1.toInt ≤ 6)))) ∧ (∀ (c2_next : Int32) (c2_kind : Int32) (c2_which : Int32) (c2_place : Int32), 1 ≤ c2_stop.toInt → gh_c2_next.toInt ≤ 399 → 0 ≤ gh_c2_next.toInt → c2_next.toInt ≤ 400 → 0 ≤ c2_next.toInt → c2_kind.toInt ≤ 3 → 3 ≤ c2_kind.toInt → c2_which.toInt ≤ 1000 → 0 ≤ c2_which.toInt → c2_place.toInt ≤ 399 → 0 ≤ c2_place.toInt → c2_place.toInt + 1 ≤ c2_stop.toInt → gh_c2_next.toInt + 1 ≤ c2_stop.toInt → c2_next.toInt ≤ c2_stop.toInt → c2_place.toInt ≤ c2_next.toInt → gh_c2_next.toInt ≤ c2_next.toInt → gh_c2_next.toInt ≤ c2_place.toInt → (c2_place.toInt + 1 ≤ c2_next.toInt ∨ (48 ≤ (a38 c2_next.toNatClampNeg).toInt ∧ (a38 c2_next.toNatClampNeg).toInt ≤ 57)) → 0 + 0 + (400 - c2_next.toInt) * 24 + 12 ≤ ((k : Nat) : Int) → dz_T ((F7_X12_take fu c2_stop a38 a39 k).2.2.2.2.1 c2_next c2_kind c2_which c2_place) (fun r => gh_c2_next.toInt ≤ 400 ∧ 0 ≤ gh_c2_next.toInt ∧ r.1.toInt ≤ 400 ∧ 0 ≤ r.1.toInt ∧ r.2.1.toInt ≤ 5 ∧ 0 ≤ r.2.1.toInt ∧ r.2.2.2.toInt ≤ 400 ∧ 0 ≤ r.2.2.2.toInt ∧ r.1.toInt ≤ c2_stop.toInt ∧ gh_c2_next.toInt ≤ r.1.toInt ∧ gh_c2_next.toInt ≤ r.2.2.2.toInt ∧ (r.2.1.toInt = 0 ∨ gh_c2_next.toInt + 1 ≤ r.1.toInt) ∧ (r.2.1.toInt ≠ 1 ∨ (0 ≤ r.2.2.1.toInt ∧ r.2.2.1.toInt ≤ 6)))) ∧ (∀ (c2_next : Int32) (c2_kind : Int32) (c2_which : Int32) (c2_place : Int32), 1 ≤ c2_stop.toInt → gh_c2_next.toInt ≤ 399 → 0 ≤ gh_c2_next.toInt → c2_next.toInt ≤ 400 → 0 ≤ c2_next.toInt → c2_kind.toInt ≤ 5 → 0 ≤ c2_kind.toInt → c2_place.toInt ≤ 399 → 0 ≤ c2_place.toInt → c2_place.toInt + 1 ≤ c2_stop.toInt → gh_c2_next.toInt + 1 ≤ c2_stop.toInt → c2_next.toInt ≤ c2_stop.toInt → c2_place.toInt ≤ c2_next.toInt → gh_c2_next.toInt ≤ c2_next.toInt → gh_c2_next.toInt ≤ c2_place.toInt → (c2_place.toInt + 1 ≤ c2_next.toInt ∨ (97 ≤ (a38 c2_next.toNatClampNeg).toInt ∧ (a38 c2_next.toNatClampNeg).toInt ≤ 122)) → 0 + 0 + (400 - c2_next.toInt) * 24 + 12 ≤ ((k : Nat) : Int) → dz_T ((F7_X12_take fu c2_stop a38 a39 k).2.2.2.2.2.1 c2_next c2_kind c2_which c2_place) (fun r => gh_c2_next.toInt ≤ 400 ∧ 0 ≤ gh_c2_next.toInt ∧ r.1.toInt ≤ 400 ∧ 0 ≤ r.1.toInt ∧ r.2.1.toInt ≤ 5 ∧ 0 ≤ r.2.1.toInt ∧ r.2.2.2.toInt ≤ 400 ∧ 0 ≤ r.2.2.2.toInt ∧ r.1.toInt ≤ c2_stop.toInt ∧ gh_c2_next.toInt ≤ r.1.toInt ∧ gh_c2_next.toInt ≤ r.2.2.2.toInt ∧ (r.2.1.toInt = 0 ∨ gh_c2_next.toInt + 1 ≤ r.1.toInt) ∧ (r.2.1.toInt ≠ 1 ∨ (0 ≤ r.2.2.1.toInt ∧ r.2.2.1.toInt ≤ 6))))
set_option maxHeartbeats 4000000 in
set_option maxRecDepth 10000 in
theorem t7_X12_take_h1 (fu : Nat) (hfu : 1000000000000 ≤ fu) (c2_stop : Int32) (a38 : Nat → Int32) (a39 : Nat → Int32) (gh_c2_next : Int32) (p0 : c2_stop.toInt ≤ 400) (p1 : 0 ≤ c2_stop.toInt) (hr_a39 : dz_pt a39 dz_wd) (k : Nat) (ih : ∀ j9, j9 < k → p7_X12_take fu c2_stop a38 a39 gh_c2_next j9) : ∀ (c2_next : Int32) (c2_kind : Int32) (c2_which : Int32) (c2_place : Int32), gh_c2_next.toInt ≤ 400 → 0 ≤ gh_c2_next.toInt → c2_next.toInt ≤ 400 → 0 ≤ c2_next.toInt → c2_kind.toInt ≤ 5 → 0 ≤ c2_kind.toInt → c2_place.toInt ≤ 400 → 0 ≤ c2_place.toInt → c2_next.toInt ≤ c2_stop.toInt → gh_c2_next.toInt ≤ c2_next.toInt → 0 + 19272 + (400 - c2_next.toInt) * 24 + 12 ≤ ((k : Nat) : Int) → dz_T ((F7_X12_take fu c2_stop a38 a39 k).1 c2_next c2_kind c2_which c2_place) (fun r => gh_c2_next.toInt ≤ 400 ∧ 0 ≤ gh_c2_next.toInt ∧ r.1.toInt ≤ 400 ∧ 0 ≤ r.1.toInt ∧ r.2.1.toInt ≤ 5 ∧ 0 ≤ r.2.1.toInt ∧ r.2.2.2.toInt ≤ 400 ∧ 0 ≤ r.2.2.2.toInt ∧ r.1.toInt ≤ c2_stop.toInt ∧ gh_c2_next.toInt ≤ r.1.toInt ∧ gh_c2_next.toInt ≤ r.2.2.2.toInt ∧ (r.2.1.toInt = 0 ∨ gh_c2_next.toInt + 1 ≤ r.1.toInt) ∧ (r.2.1.toInt ≠ 1 ∨ (0 ≤ r.2.2.1.toInt ∧ r.2.2.1.toInt ≤ 6))) := by
  intro c2_next c2_kind c2_which c2_place i0 i1 i2 i3 i4 i5 i6 i7 i8 i9 hm
  obtain ⟨k0, rfl⟩ : ∃ x, k = x + 1 := ⟨k - 1, by omega⟩
  show dz_T (s7_X12_take_1 fu c2_stop a38 a39 (F7_X12_take fu c2_stop a38 a39 k0).2.1 (F7_X12_take fu c2_stop a38 a39 k0).2.2.1  c2_next c2_kind c2_which c2_place) _
  unfold s7_X12_take_1
  refine dz_Tle (fun h1 => ?_) (fun h1 => ?_)
  · skip
    obtain ⟨k1, rfl⟩ : ∃ x, k0 = x + 1 := ⟨k0 - 1, by omega⟩
    show dz_T (s7_X12_take_2 fu c2_stop a38 a39 (F7_X12_take fu c2_stop a38 a39 k1).2.2.2.1 (F7_X12_take fu c2_stop a38 a39 k1).2.2.2.2.1 (F7_X12_take fu c2_stop a38 a39 k1).2.2.2.2.2.1 c2_next c2_kind c2_which c2_place) _
    unfold s7_X12_take_2
    refine dz_Teq (fun h2 => ?_) (fun h2 => ?_)
    · skip
      have e3 := dz_l0
      refine dz_Ts ?_
      dsimp only
      exact ⟨i0, i1, i2, i3, (by omega), (by omega), i2, i3, i8, i9, i9, (by omega), (by omega)⟩
    · skip
      exfalso; omega
  · skip
    refine dz_Tin (by omega) (by omega) ?_
    have e4 := dz_l10
    refine dz_Teq (fun h5 => ?_) (fun h5 => ?_)
    · skip
      obtain ⟨k2, rfl⟩ : ∃ x, k0 = x + 1 := ⟨k0 - 1, by omega⟩
      show dz_T (s7_X12_take_3 fu c2_stop a38 a39 (F7_X12_take fu c2_stop a38 a39 k2).1 c2_next c2_kind c2_which c2_place) _
      unfold s7_X12_take_3
      have e6 := dz_l1
      have e7 := dz_add (a := c2_next) (b := (1 : Int32)) (by omega) (by omega)
      exact (ih k2 (by omega)).1 (c2_next + (1 : Int32)) c2_kind c2_which c2_place i0 i1 (by omega) (by omega) i4 i5 i6 i7 (by omega) (by omega) (by omega)
    · skip
      refine dz_Tin (by omega) (by omega) ?_
      have e8 := dz_l32
      refine dz_Teq (fun h9 => ?_) (fun h9 => ?_)
      · skip
        obtain ⟨k3, rfl⟩ : ∃ x, k0 = x + 1 := ⟨k0 - 1, by omega⟩
        show dz_T (s7_X12_take_3 fu c2_stop a38 a39 (F7_X12_take fu c2_stop a38 a39 k3).1 c2_next c2_kind c2_which c2_place) _
        unfold s7_X12_take_3
        have e10 := dz_l1
        have e11 := dz_add (a := c2_next) (b := (1 : Int32)) (by omega) (by omega)
        exact (ih k3 (by omega)).1 (c2_next + (1 : Int32)) c2_kind c2_which c2_place i0 i1 (by omega) (by omega) i4 i5 i6 i7 (by omega) (by omega) (by omega)
      · skip
        obtain ⟨k4, rfl⟩ : ∃ x, k0 = x + 1 := ⟨k0 - 1, by omega⟩
        show dz_T (s7_X12_take_2 fu c2_stop a38 a39 (F7_X12_take fu c2_stop a38 a39 k4).2.2.2.1 (F7_X12_take fu c2_stop a38 a39 k4).2.2.2.2.1 (F7_X12_take fu c2_stop a38 a39 k4).2.2.2.2.2.1 c2_next c2_kind c2_which c2_place) _
        unfold s7_X12_take_2
        refine dz_Teq (fun h12 => ?_) (fun h12 => ?_)
        · skip
          exfalso; omega
        · skip
          refine dz_Tbe (show f4_X12_isSmall fu c2_stop a38 c2_next = (if (c2_stop ≤ c2_next) then (some (0 : Int32)) else (if dz_in c2_next 400 then (if ((a38 c2_next.toNatClampNeg) < (97 : Int32)) then (some (0 : Int32)) else (if dz_in c2_next 400 then (if ((122 : Int32) < (a38 c2_next.toNatClampNeg)) then (some (0 : Int32)) else (some (1 : Int32))) else none)) else none)) from rfl) ?_
          refine dz_Tleb (fun h13 => ?_) (fun h13 => ?_)
          · skip
            exfalso; omega
          · skip
            refine dz_Tinb (by omega) (by omega) ?_
            have e14 := dz_l97
            refine dz_Tltb (fun h15 => ?_) (fun h15 => ?_)
            · skip
              refine dz_Tsb ?_
              have e16 := dz_l0
              refine dz_Teq (fun h17 => ?_) (fun h17 => ?_)
              · skip
                refine dz_Tbe (show f5_X12_isDigit fu c2_stop a38 c2_next = (if (c2_stop ≤ c2_next) then (some (0 : Int32)) else (if dz_in c2_next 400 then (if ((a38 c2_next.toNatClampNeg) < (48 : Int32)) then (some (0 : Int32)) else (if dz_in c2_next 400 then (if ((57 : Int32) < (a38 c2_next.toNatClampNeg)) then (some (0 : Int32)) else (some (1 : Int32))) else none)) else none)) from rfl) ?_
                refine dz_Tleb (fun h18 => ?_) (fun h18 => ?_)
                · skip
                  exfalso; omega
                · skip
                  refine dz_Tinb (by omega) (by omega) ?_
                  have e19 := dz_l48
                  refine dz_Tltb (fun h20 => ?_) (fun h20 => ?_)
                  · skip
                    refine dz_Tsb ?_
                    refine dz_Teq (fun h21 => ?_) (fun h21 => ?_)
                    · skip
                      refine dz_Tin (by omega) (by omega) ?_
                      have e22 := dz_l59
                      refine dz_Teq (fun h23 => ?_) (fun h23 => ?_)
                      · skip
                        exfalso; omega
                      · skip
                        obtain ⟨k5, rfl⟩ : ∃ x, k4 = x + 1 := ⟨k4 - 1, by omega⟩
                        show dz_T (s7_X12_take_4 fu c2_stop a38 a39 (5 : Int32) c2_next c2_kind c2_which c2_next) _
                        unfold s7_X12_take_4
                        have e24 := dz_l1
                        have e25 := dz_add (a := c2_next) (b := (1 : Int32)) (by omega) (by omega)
                        have e26 := dz_l5
                        refine dz_Ts ?_
                        dsimp only
                        exact ⟨i0, i1, (by omega), (by omega), (by omega), (by omega), i2, i3, (by omega), (by omega), i9, (by omega), (by omega)⟩
                    · skip
                      exfalso; omega
                  · skip
                    refine dz_Tinb (by omega) (by omega) ?_
                    have e27 := dz_l57
                    refine dz_Tltb (fun h28 => ?_) (fun h28 => ?_)
                    · skip
                      refine dz_Tsb ?_
                      refine dz_Teq (fun h29 => ?_) (fun h29 => ?_)
                      · skip
                        refine dz_Tin (by omega) (by omega) ?_
                        have e30 := dz_l59
                        refine dz_Teq (fun h31 => ?_) (fun h31 => ?_)
                        · skip
                          obtain ⟨k6, rfl⟩ : ∃ x, k4 = x + 1 := ⟨k4 - 1, by omega⟩
                          show dz_T (s7_X12_take_4 fu c2_stop a38 a39 (4 : Int32) c2_next c2_kind c2_which c2_next) _
                          unfold s7_X12_take_4
                          have e32 := dz_l1
                          have e33 := dz_add (a := c2_next) (b := (1 : Int32)) (by omega) (by omega)
                          have e34 := dz_l4
                          refine dz_Ts ?_
                          dsimp only
                          exact ⟨i0, i1, (by omega), (by omega), (by omega), (by omega), i2, i3, (by omega), (by omega), i9, (by omega), (by omega)⟩
                        · skip
                          obtain ⟨k7, rfl⟩ : ∃ x, k4 = x + 1 := ⟨k4 - 1, by omega⟩
                          show dz_T (s7_X12_take_4 fu c2_stop a38 a39 (5 : Int32) c2_next c2_kind c2_which c2_next) _
                          unfold s7_X12_take_4
                          have e35 := dz_l1
                          have e36 := dz_add (a := c2_next) (b := (1 : Int32)) (by omega) (by omega)
                          have e37 := dz_l5
                          refine dz_Ts ?_
                          dsimp only
                          exact ⟨i0, i1, (by omega), (by omega), (by omega), (by omega), i2, i3, (by omega), (by omega), i9, (by omega), (by omega)⟩
                      · skip
                        exfalso; omega
                    · skip
                      refine dz_Tsb ?_
                      have e38 := dz_l1
                      refine dz_Teq (fun h39 => ?_) (fun h39 => ?_)
                      · skip
                        exfalso; omega
                      · skip
                        have e40 := dz_l3
                        exact (ih k4 (by omega)).2.1 c2_next (3 : Int32) (0 : Int32) c2_next (by first | assumption | omega) (by first | assumption | omega) i1 i2 i3 (by omega) (by omega) (by omega) (by omega) (by first | assumption | omega) i3 (by first | assumption | omega) (by first | assumption | omega) i8 (by first | assumption | omega) i9 i9 (by omega) (by omega)
              · skip
                exfalso; omega
            · skip
              refine dz_Tinb (by omega) (by omega) ?_
              have e41 := dz_l122
              refine dz_Tltb (fun h42 => ?_) (fun h42 => ?_)
              · skip
                refine dz_Tsb ?_
                have e43 := dz_l0
                refine dz_Teq (fun h44 => ?_) (fun h44 => ?_)
                · skip
                  refine dz_Tbe (show f5_X12_isDigit fu c2_stop a38 c2_next = (if (c2_stop ≤ c2_next) then (some (0 : Int32)) else (if dz_in c2_next 400 then (if ((a38 c2_next.toNatClampNeg) < (48 : Int32)) then (some (0 : Int32)) else (if dz_in c2_next 400 then (if ((57 : Int32) < (a38 c2_next.toNatClampNeg)) then (some (0 : Int32)) else (some (1 : Int32))) else none)) else none)) from rfl) ?_
                  refine dz_Tleb (fun h45 => ?_) (fun h45 => ?_)
                  · skip
                    exfalso; omega
                  · skip
                    refine dz_Tinb (by omega) (by omega) ?_
                    have e46 := dz_l48
                    refine dz_Tltb (fun h47 => ?_) (fun h47 => ?_)
                    · skip
                      exfalso; omega
                    · skip
                      refine dz_Tinb (by omega) (by omega) ?_
                      have e48 := dz_l57
                      refine dz_Tltb (fun h49 => ?_) (fun h49 => ?_)
                      · skip
                        refine dz_Tsb ?_
                        refine dz_Teq (fun h50 => ?_) (fun h50 => ?_)
                        · skip
                          refine dz_Tin (by omega) (by omega) ?_
                          have e51 := dz_l59
                          refine dz_Teq (fun h52 => ?_) (fun h52 => ?_)
                          · skip
                            exfalso; omega
                          · skip
                            obtain ⟨k8, rfl⟩ : ∃ x, k4 = x + 1 := ⟨k4 - 1, by omega⟩
                            show dz_T (s7_X12_take_4 fu c2_stop a38 a39 (5 : Int32) c2_next c2_kind c2_which c2_next) _
                            unfold s7_X12_take_4
                            have e53 := dz_l1
                            have e54 := dz_add (a := c2_next) (b := (1 : Int32)) (by omega) (by omega)
                            have e55 := dz_l5
                            refine dz_Ts ?_
                            dsimp only
                            exact ⟨i0, i1, (by omega), (by omega), (by omega), (by omega), i2, i3, (by omega), (by omega), i9, (by omega), (by omega)⟩
                        · skip
                          exfalso; omega
                      · skip
                        exfalso; omega
                · skip
                  exfalso; omega
              · skip
                refine dz_Tsb ?_
                have e56 := dz_l1
                have e57 := dz_l0
                refine dz_Teq (fun h58 => ?_) (fun h58 => ?_)
                · skip
                  exfalso; omega
                · skip
                  exact (ih k4 (by omega)).2.2 c2_next c2_kind c2_which c2_next (by first | assumption | omega) (by first | assumption | omega) i1 i2 i3 i4 i5 (by first | assumption | omega) i3 (by first | assumption | omega) (by first | assumption | omega) i8 (by first | assumption | omega) i9 i9 (by omega) (by omega)
set_option maxHeartbeats 4000000 in
set_option maxRecDepth 10000 in
theorem t7_X12_take_h5 (fu : Nat) (hfu : 1000000000000 ≤ fu) (c2_stop : Int32) (a38 : Nat → Int32) (a39 : Nat → Int32) (gh_c2_next : Int32) (p0 : c2_stop.toInt ≤ 400) (p1 : 0 ≤ c2_stop.toInt) (hr_a39 : dz_pt a39 dz_wd) (k : Nat) (ih : ∀ j9, j9 < k → p7_X12_take fu c2_stop a38 a39 gh_c2_next j9) : ∀ (c2_next : Int32) (c2_kind : Int32) (c2_which : Int32) (c2_place : Int32), 1 ≤ c2_stop.toInt → gh_c2_next.toInt ≤ 399 → 0 ≤ gh_c2_next.toInt → c2_next.toInt ≤ 400 → 0 ≤ c2_next.toInt → c2_kind.toInt ≤ 3 → 3 ≤ c2_kind.toInt → c2_which.toInt ≤ 1000 → 0 ≤ c2_which.toInt → c2_place.toInt ≤ 399 → 0 ≤ c2_place.toInt → c2_place.toInt + 1 ≤ c2_stop.toInt → gh_c2_next.toInt + 1 ≤ c2_stop.toInt → c2_next.toInt ≤ c2_stop.toInt → c2_place.toInt ≤ c2_next.toInt → gh_c2_next.toInt ≤ c2_next.toInt → gh_c2_next.toInt ≤ c2_place.toInt → (c2_place.toInt + 1 ≤ c2_next.toInt ∨ (48 ≤ (a38 c2_next.toNatClampNeg).toInt ∧ (a38 c2_next.toNatClampNeg).toInt ≤ 57)) → 0 + 0 + (400 - c2_next.toInt) * 24 + 12 ≤ ((k : Nat) : Int) → dz_T ((F7_X12_take fu c2_stop a38 a39 k).2.2.2.2.1 c2_next c2_kind c2_which c2_place) (fun r => gh_c2_next.toInt ≤ 400 ∧ 0 ≤ gh_c2_next.toInt ∧ r.1.toInt ≤ 400 ∧ 0 ≤ r.1.toInt ∧ r.2.1.toInt ≤ 5 ∧ 0 ≤ r.2.1.toInt ∧ r.2.2.2.toInt ≤ 400 ∧ 0 ≤ r.2.2.2.toInt ∧ r.1.toInt ≤ c2_stop.toInt ∧ gh_c2_next.toInt ≤ r.1.toInt ∧ gh_c2_next.toInt ≤ r.2.2.2.toInt ∧ (r.2.1.toInt = 0 ∨ gh_c2_next.toInt + 1 ≤ r.1.toInt) ∧ (r.2.1.toInt ≠ 1 ∨ (0 ≤ r.2.2.1.toInt ∧ r.2.2.1.toInt ≤ 6))) := by
  intro c2_next c2_kind c2_which c2_place i0 i1 i2 i3 i4 i5 i6 i7 i8 i9 i10 i11 i12 i13 i14 i15 i16 x0 hm
  obtain ⟨k0, rfl⟩ : ∃ x, k = x + 1 := ⟨k - 1, by omega⟩
  show dz_T (s7_X12_take_5 fu c2_stop a38 a39 (F7_X12_take fu c2_stop a38 a39 k0).2.2.2.2.2.2.1  c2_next c2_kind c2_which c2_place) _
  unfold s7_X12_take_5
  refine dz_Tbe (show f5_X12_isDigit fu c2_stop a38 c2_next = (if (c2_stop ≤ c2_next) then (some (0 : Int32)) else (if dz_in c2_next 400 then (if ((a38 c2_next.toNatClampNeg) < (48 : Int32)) then (some (0 : Int32)) else (if dz_in c2_next 400 then (if ((57 : Int32) < (a38 c2_next.toNatClampNeg)) then (some (0 : Int32)) else (some (1 : Int32))) else none)) else none)) from rfl) ?_
  refine dz_Tleb (fun h1 => ?_) (fun h1 => ?_)
  · skip
    refine dz_Tsb ?_
    have e2 := dz_l0
    refine dz_Teq (fun h3 => ?_) (fun h3 => ?_)
    · skip
      refine dz_Ts ?_
      dsimp only
      exact ⟨(by first | assumption | omega), i2, i3, i4, (by first | assumption | omega), (by first | assumption | omega), (by first | assumption | omega), i10, i13, i15, i16, (by omega), (by omega)⟩
    · skip
      exfalso; omega
  · skip
    refine dz_Tinb (by omega) (by omega) ?_
    have e4 := dz_l48
    refine dz_Tltb (fun h5 => ?_) (fun h5 => ?_)
    · skip
      refine dz_Tsb ?_
      have e6 := dz_l0
      refine dz_Teq (fun h7 => ?_) (fun h7 => ?_)
      · skip
        refine dz_Ts ?_
        dsimp only
        exact ⟨(by first | assumption | omega), i2, i3, i4, (by first | assumption | omega), (by first | assumption | omega), (by first | assumption | omega), i10, i13, i15, i16, (by omega), (by omega)⟩
      · skip
        exfalso; omega
    · skip
      refine dz_Tinb (by omega) (by omega) ?_
      have e8 := dz_l57
      refine dz_Tltb (fun h9 => ?_) (fun h9 => ?_)
      · skip
        refine dz_Tsb ?_
        have e10 := dz_l0
        refine dz_Teq (fun h11 => ?_) (fun h11 => ?_)
        · skip
          refine dz_Ts ?_
          dsimp only
          exact ⟨(by first | assumption | omega), i2, i3, i4, (by first | assumption | omega), (by first | assumption | omega), (by first | assumption | omega), i10, i13, i15, i16, (by omega), (by omega)⟩
        · skip
          exfalso; omega
      · skip
        refine dz_Tsb ?_
        have e12 := dz_l1
        have e13 := dz_l0
        refine dz_Teq (fun h14 => ?_) (fun h14 => ?_)
        · skip
          exfalso; omega
        · skip
          have e15 := dz_l99
          refine dz_Tle (fun h16 => ?_) (fun h16 => ?_)
          · skip
            refine dz_Tin (by omega) (by omega) ?_
            obtain ⟨k1, rfl⟩ : ∃ x, k0 = x + 1 := ⟨k0 - 1, by omega⟩
            show dz_T (s7_X12_take_7 fu c2_stop a38 a39 (F7_X12_take fu c2_stop a38 a39 k1).2.2.2.2.1 ((((10 : Int32) * c2_which) + (a38 c2_next.toNatClampNeg)) - (48 : Int32)) c2_next c2_kind c2_which c2_place) _
            unfold s7_X12_take_7
            have e17 := dz_add (a := c2_next) (b := (1 : Int32)) (by omega) (by omega)
            have e18 := dz_l10
            have e19 := dz_mull (a := (10 : Int32)) (b := c2_which) 10 (by omega) (by omega) (by omega)
            have e20 := dz_add (a := ((10 : Int32) * c2_which)) (b := (a38 c2_next.toNatClampNeg)) (by omega) (by omega)
            have e21 := dz_sub (a := (((10 : Int32) * c2_which) + (a38 c2_next.toNatClampNeg))) (b := (48 : Int32)) (by omega) (by omega)
            exact (ih k1 (by omega)).2.1 (c2_next + (1 : Int32)) c2_kind ((((10 : Int32) * c2_which) + (a38 c2_next.toNatClampNeg)) - (48 : Int32)) c2_place i0 i1 i2 (by omega) (by omega) i5 i6 (by omega) (by omega) i9 i10 i11 i12 (by omega) (by omega) (by omega) i16 (by omega) (by omega)
          · skip
            obtain ⟨k2, rfl⟩ : ∃ x, k0 = x + 1 := ⟨k0 - 1, by omega⟩
            show dz_T (s7_X12_take_7 fu c2_stop a38 a39 (F7_X12_take fu c2_stop a38 a39 k2).2.2.2.2.1 c2_which c2_next c2_kind c2_which c2_place) _
            unfold s7_X12_take_7
            have e22 := dz_add (a := c2_next) (b := (1 : Int32)) (by omega) (by omega)
            exact (ih k2 (by omega)).2.1 (c2_next + (1 : Int32)) c2_kind c2_which c2_place i0 i1 i2 (by omega) (by omega) i5 i6 i7 i8 i9 i10 i11 i12 (by omega) (by omega) (by omega) i16 (by omega) (by omega)
set_option maxHeartbeats 4000000 in
set_option maxRecDepth 10000 in
theorem t7_X12_take_h6 (fu : Nat) (hfu : 1000000000000 ≤ fu) (c2_stop : Int32) (a38 : Nat → Int32) (a39 : Nat → Int32) (gh_c2_next : Int32) (p0 : c2_stop.toInt ≤ 400) (p1 : 0 ≤ c2_stop.toInt) (hr_a39 : dz_pt a39 dz_wd) (k : Nat) (ih : ∀ j9, j9 < k → p7_X12_take fu c2_stop a38 a39 gh_c2_next j9) : ∀ (c2_next : Int32) (c2_kind : Int32) (c2_which : Int32) (c2_place : Int32), 1 ≤ c2_stop.toInt → gh_c2_next.toInt ≤ 399 → 0 ≤ gh_c2_next.toInt → c2_next.toInt ≤ 400 → 0 ≤ c2_next.toInt → c2_kind.toInt ≤ 5 → 0 ≤ c2_kind.toInt → c2_place.toInt ≤ 399 → 0 ≤ c2_place.toInt → c2_place.toInt + 1 ≤ c2_stop.toInt → gh_c2_next.toInt + 1 ≤ c2_stop.toInt → c2_next.toInt ≤ c2_stop.toInt → c2_place.toInt ≤ c2_next.toInt → gh_c2_next.toInt ≤ c2_next.toInt → gh_c2_next.toInt ≤ c2_place.toInt → (c2_place.toInt + 1 ≤ c2_next.toInt ∨ (97 ≤ (a38 c2_next.toNatClampNeg).toInt ∧ (a38 c2_next.toNatClampNeg).toInt ≤ 122)) → 0 + 0 + (400 - c2_next.toInt) * 24 + 12 ≤ ((k : Nat) : Int) → dz_T ((F7_X12_take fu c2_stop a38 a39 k).2.2.2.2.2.1 c2_next c2_kind c2_which c2_place) (fun r => gh_c2_next.toInt ≤ 400 ∧ 0 ≤ gh_c2_next.toInt ∧ r.1.toInt ≤ 400 ∧ 0 ≤ r.1.toInt ∧ r.2.1.toInt ≤ 5 ∧ 0 ≤ r.2.1.toInt ∧ r.2.2.2.toInt ≤ 400 ∧ 0 ≤ r.2.2.2.toInt ∧ r.1.toInt ≤ c2_stop.toInt ∧ gh_c2_next.toInt ≤ r.1.toInt ∧ gh_c2_next.toInt ≤ r.2.2.2.toInt ∧ (r.2.1.toInt = 0 ∨ gh_c2_next.toInt + 1 ≤ r.1.toInt) ∧ (r.2.1.toInt ≠ 1 ∨ (0 ≤ r.2.2.1.toInt ∧ r.2.2.1.toInt ≤ 6))) := by
  intro c2_next c2_kind c2_which c2_place i0 i1 i2 i3 i4 i5 i6 i7 i8 i9 i10 i11 i12 i13 i14 x0 hm
  obtain ⟨k0, rfl⟩ : ∃ x, k = x + 1 := ⟨k - 1, by omega⟩
  show dz_T (s7_X12_take_6 fu c2_stop a38 a39 (F7_X12_take fu c2_stop a38 a39 k0).2.2.2.2.2.1 (F7_X12_take fu c2_stop a38 a39 k0).2.2.2.2.2.2.2  c2_next c2_kind c2_which c2_place) _
  unfold s7_X12_take_6
  refine dz_Tbe (show f4_X12_isSmall fu c2_stop a38 c2_next = (if (c2_stop ≤ c2_next) then (some (0 : Int32)) else (if dz_in c2_next 400 then (if ((a38 c2_next.toNatClampNeg) < (97 : Int32)) then (some (0 : Int32)) else (if dz_in c2_next 400 then (if ((122 : Int32) < (a38 c2_next.toNatClampNeg)) then (some (0 : Int32)) else (some (1 : Int32))) else none)) else none)) from rfl) ?_
  refine dz_Tleb (fun h1 => ?_) (fun h1 => ?_)
  · skip
    refine dz_Tsb ?_
    have e2 := dz_l0
    refine dz_Teq (fun h3 => ?_) (fun h3 => ?_)
    · skip
      refine dz_Tb (t3_X12_wordAt fu hfu _ _ _ _ i8 i12 i3 (hr_a39)) (fun r2 q => ?_)
      obtain ⟨q2_0, q2_1, qo2_0⟩ := q
      refine dz_Tlt (fun h4 => ?_) (fun h4 => ?_)
      · skip
        have e5 := dz_sub (a := c2_next) (b := c2_place) (by omega) (by omega)
        have e6 := dz_l6
        refine dz_Tle (fun h7 => ?_) (fun h7 => ?_)
        · skip
          obtain ⟨k1, rfl⟩ : ∃ x, k0 = x + 1 := ⟨k0 - 1, by omega⟩
          show dz_T (s7_X12_take_8 fu c2_stop a38 a39 (2 : Int32) c2_next c2_kind r2 c2_place) _
          unfold s7_X12_take_8
          have e8 := dz_l2
          refine dz_Teq (fun h9 => ?_) (fun h9 => ?_)
          · skip
            refine dz_Tb (t6_X12_packed fu hfu _ _ _ i8 i3 (by first | assumption | omega)) (fun r3 _ => ?_)
            refine dz_Ts ?_
            dsimp only
            exact ⟨(by first | assumption | omega), i2, i3, i4, (by omega), (by omega), (by first | assumption | omega), i8, i11, i13, i14, (by omega), (by omega)⟩
          · skip
            exfalso; omega
        · skip
          obtain ⟨k2, rfl⟩ : ∃ x, k0 = x + 1 := ⟨k0 - 1, by omega⟩
          show dz_T (s7_X12_take_8 fu c2_stop a38 a39 (5 : Int32) c2_next c2_kind r2 c2_place) _
          unfold s7_X12_take_8
          have e10 := dz_l5
          have e11 := dz_l2
          refine dz_Teq (fun h12 => ?_) (fun h12 => ?_)
          · skip
            exfalso; omega
          · skip
            refine dz_Ts ?_
            dsimp only
            exact ⟨(by first | assumption | omega), i2, i3, i4, (by omega), (by omega), (by first | assumption | omega), i8, i11, i13, i14, (by omega), (by omega)⟩
      · skip
        obtain ⟨k3, rfl⟩ : ∃ x, k0 = x + 1 := ⟨k0 - 1, by omega⟩
        show dz_T (s7_X12_take_8 fu c2_stop a38 a39 (1 : Int32) c2_next c2_kind r2 c2_place) _
        unfold s7_X12_take_8
        have e13 := dz_l1
        have e14 := dz_l2
        refine dz_Teq (fun h15 => ?_) (fun h15 => ?_)
        · skip
          exfalso; omega
        · skip
          refine dz_Ts ?_
          dsimp only
          exact ⟨(by first | assumption | omega), i2, i3, i4, (by omega), (by omega), (by first | assumption | omega), i8, i11, i13, i14, (by omega), (by omega)⟩
    · skip
      exfalso; omega
  · skip
    refine dz_Tinb (by omega) (by omega) ?_
    have e16 := dz_l97
    refine dz_Tltb (fun h17 => ?_) (fun h17 => ?_)
    · skip
      refine dz_Tsb ?_
      have e18 := dz_l0
      refine dz_Teq (fun h19 => ?_) (fun h19 => ?_)
      · skip
        refine dz_Tb (t3_X12_wordAt fu hfu _ _ _ _ i8 i12 i3 (hr_a39)) (fun r4 q => ?_)
        obtain ⟨q4_0, q4_1, qo4_0⟩ := q
        refine dz_Tlt (fun h20 => ?_) (fun h20 => ?_)
        · skip
          have e21 := dz_sub (a := c2_next) (b := c2_place) (by omega) (by omega)
          have e22 := dz_l6
          refine dz_Tle (fun h23 => ?_) (fun h23 => ?_)
          · skip
            obtain ⟨k4, rfl⟩ : ∃ x, k0 = x + 1 := ⟨k0 - 1, by omega⟩
            show dz_T (s7_X12_take_8 fu c2_stop a38 a39 (2 : Int32) c2_next c2_kind r4 c2_place) _
            unfold s7_X12_take_8
            have e24 := dz_l2
            refine dz_Teq (fun h25 => ?_) (fun h25 => ?_)
            · skip
              refine dz_Tb (t6_X12_packed fu hfu _ _ _ i8 i3 (by first | assumption | omega)) (fun r5 _ => ?_)
              refine dz_Ts ?_
              dsimp only
              exact ⟨(by first | assumption | omega), i2, i3, i4, (by omega), (by omega), (by first | assumption | omega), i8, i11, i13, i14, (by omega), (by omega)⟩
            · skip
              exfalso; omega
          · skip
            obtain ⟨k5, rfl⟩ : ∃ x, k0 = x + 1 := ⟨k0 - 1, by omega⟩
            show dz_T (s7_X12_take_8 fu c2_stop a38 a39 (5 : Int32) c2_next c2_kind r4 c2_place) _
            unfold s7_X12_take_8
            have e26 := dz_l5
            have e27 := dz_l2
            refine dz_Teq (fun h28 => ?_) (fun h28 => ?_)
            · skip
              exfalso; omega
            · skip
              refine dz_Ts ?_
              dsimp only
              exact ⟨(by first | assumption | omega), i2, i3, i4, (by omega), (by omega), (by first | assumption | omega), i8, i11, i13, i14, (by omega), (by omega)⟩
        · skip
          obtain ⟨k6, rfl⟩ : ∃ x, k0 = x + 1 := ⟨k0 - 1, by omega⟩
          show dz_T (s7_X12_take_8 fu c2_stop a38 a39 (1 : Int32) c2_next c2_kind r4 c2_place) _
          unfold s7_X12_take_8
          have e29 := dz_l1
          have e30 := dz_l2
          refine dz_Teq (fun h31 => ?_) (fun h31 => ?_)
          · skip
            exfalso; omega
          · skip
            refine dz_Ts ?_
            dsimp only
            exact ⟨(by first | assumption | omega), i2, i3, i4, (by omega), (by omega), (by first | assumption | omega), i8, i11, i13, i14, (by omega), (by omega)⟩
      · skip
        exfalso; omega
    · skip
      refine dz_Tinb (by omega) (by omega) ?_
      have e32 := dz_l122
      refine dz_Tltb (fun h33 => ?_) (fun h33 => ?_)
      · skip
        refine dz_Tsb ?_
        have e34 := dz_l0
        refine dz_Teq (fun h35 => ?_) (fun h35 => ?_)
        · skip
          refine dz_Tb (t3_X12_wordAt fu hfu _ _ _ _ i8 i12 i3 (hr_a39)) (fun r6 q => ?_)
          obtain ⟨q6_0, q6_1, qo6_0⟩ := q
          refine dz_Tlt (fun h36 => ?_) (fun h36 => ?_)
          · skip
            have e37 := dz_sub (a := c2_next) (b := c2_place) (by omega) (by omega)
            have e38 := dz_l6
            refine dz_Tle (fun h39 => ?_) (fun h39 => ?_)
            · skip
              obtain ⟨k7, rfl⟩ : ∃ x, k0 = x + 1 := ⟨k0 - 1, by omega⟩
              show dz_T (s7_X12_take_8 fu c2_stop a38 a39 (2 : Int32) c2_next c2_kind r6 c2_place) _
              unfold s7_X12_take_8
              have e40 := dz_l2
              refine dz_Teq (fun h41 => ?_) (fun h41 => ?_)
              · skip
                refine dz_Tb (t6_X12_packed fu hfu _ _ _ i8 i3 (by first | assumption | omega)) (fun r7 _ => ?_)
                refine dz_Ts ?_
                dsimp only
                exact ⟨(by first | assumption | omega), i2, i3, i4, (by omega), (by omega), (by first | assumption | omega), i8, i11, i13, i14, (by omega), (by omega)⟩
              · skip
                exfalso; omega
            · skip
              obtain ⟨k8, rfl⟩ : ∃ x, k0 = x + 1 := ⟨k0 - 1, by omega⟩
              show dz_T (s7_X12_take_8 fu c2_stop a38 a39 (5 : Int32) c2_next c2_kind r6 c2_place) _
              unfold s7_X12_take_8
              have e42 := dz_l5
              have e43 := dz_l2
              refine dz_Teq (fun h44 => ?_) (fun h44 => ?_)
              · skip
                exfalso; omega
              · skip
                refine dz_Ts ?_
                dsimp only
                exact ⟨(by first | assumption | omega), i2, i3, i4, (by omega), (by omega), (by first | assumption | omega), i8, i11, i13, i14, (by omega), (by omega)⟩
          · skip
            obtain ⟨k9, rfl⟩ : ∃ x, k0 = x + 1 := ⟨k0 - 1, by omega⟩
            show dz_T (s7_X12_take_8 fu c2_stop a38 a39 (1 : Int32) c2_next c2_kind r6 c2_place) _
            unfold s7_X12_take_8
            have e45 := dz_l1
            have e46 := dz_l2
            refine dz_Teq (fun h47 => ?_) (fun h47 => ?_)
            · skip
              exfalso; omega
            · skip
              refine dz_Ts ?_
              dsimp only
              exact ⟨(by first | assumption | omega), i2, i3, i4, (by omega), (by omega), (by first | assumption | omega), i8, i11, i13, i14, (by omega), (by omega)⟩
        · skip
          exfalso; omega
      · skip
        refine dz_Tsb ?_
        have e48 := dz_l1
        have e49 := dz_l0
        refine dz_Teq (fun h50 => ?_) (fun h50 => ?_)
        · skip
          exfalso; omega
        · skip
          have e51 := dz_add (a := c2_next) (b := (1 : Int32)) (by omega) (by omega)
          exact (ih k0 (by omega)).2.2 (c2_next + (1 : Int32)) c2_kind c2_which c2_place i0 i1 i2 (by omega) (by omega) i5 i6 i7 i8 i9 i10 (by omega) (by omega) (by omega) i14 (by omega) (by omega)
theorem t7_X12_take_I (fu : Nat) (hfu : 1000000000000 ≤ fu) (c2_stop : Int32) (a38 : Nat → Int32) (a39 : Nat → Int32) (gh_c2_next : Int32) (p0 : c2_stop.toInt ≤ 400) (p1 : 0 ≤ c2_stop.toInt) (hr_a39 : dz_pt a39 dz_wd) (k : Nat) : p7_X12_take fu c2_stop a38 a39 gh_c2_next k := by
  induction k using Nat.strongRecOn with
  | _ k ih => exact ⟨t7_X12_take_h1 fu hfu c2_stop a38 a39 gh_c2_next p0 p1 hr_a39 k ih, t7_X12_take_h5 fu hfu c2_stop a38 a39 gh_c2_next p0 p1 hr_a39 k ih, t7_X12_take_h6 fu hfu c2_stop a38 a39 gh_c2_next p0 p1 hr_a39 k ih⟩
set_option maxHeartbeats 4000000 in
set_option maxRecDepth 10000 in
theorem t7_X12_take_E (fu : Nat) (hfu : 1000000000000 ≤ fu) (c2_stop : Int32) (a38 : Nat → Int32) (a39 : Nat → Int32) (c2_next : Int32) (c2_kind : Int32) (c2_which : Int32) (c2_place : Int32) (p0 : c2_stop.toInt ≤ 400) (p1 : 0 ≤ c2_stop.toInt) (p2 : c2_next.toInt ≤ 400) (p3 : 0 ≤ c2_next.toInt) (p4 : c2_kind.toInt ≤ 5) (p5 : 0 ≤ c2_kind.toInt) (p6 : c2_place.toInt ≤ 400) (p7 : 0 ≤ c2_place.toInt) (p8 : c2_next.toInt ≤ c2_stop.toInt) (hr_a39 : dz_pt a39 dz_wd) (kv : Nat) (hkv : 1000000000000 ≤ kv) : dz_T (s7_X12_take_0 fu c2_stop a38 a39 (F7_X12_take fu c2_stop a38 a39 kv).1  c2_next c2_kind c2_which c2_place) (fun r => c2_next.toInt ≤ 400 ∧ 0 ≤ c2_next.toInt ∧ r.1.toInt ≤ 400 ∧ 0 ≤ r.1.toInt ∧ r.2.1.toInt ≤ 5 ∧ 0 ≤ r.2.1.toInt ∧ r.2.2.2.toInt ≤ 400 ∧ 0 ≤ r.2.2.2.toInt ∧ r.1.toInt ≤ c2_stop.toInt ∧ c2_next.toInt ≤ r.1.toInt ∧ c2_next.toInt ≤ r.2.2.2.toInt ∧ (r.2.1.toInt = 0 ∨ c2_next.toInt + 1 ≤ r.1.toInt) ∧ (r.2.1.toInt ≠ 1 ∨ (0 ≤ r.2.2.1.toInt ∧ r.2.2.1.toInt ≤ 6))) := by
  unfold s7_X12_take_0
  exact (t7_X12_take_I fu hfu c2_stop a38 a39 c2_next p0 p1 hr_a39 kv).1 c2_next c2_kind c2_which c2_place (by first | assumption | omega) (by first | assumption | omega) p2 p3 p4 p5 p6 p7 p8 (by first | assumption | omega) (by omega)
theorem t7_X12_take (fu : Nat) (hfu : 1000000000000 ≤ fu) (c2_stop : Int32) (a38 : Nat → Int32) (a39 : Nat → Int32) (c2_next : Int32) (c2_kind : Int32) (c2_which : Int32) (c2_place : Int32) (p0 : c2_stop.toInt ≤ 400) (p1 : 0 ≤ c2_stop.toInt) (p2 : c2_next.toInt ≤ 400) (p3 : 0 ≤ c2_next.toInt) (p4 : c2_kind.toInt ≤ 5) (p5 : 0 ≤ c2_kind.toInt) (p6 : c2_place.toInt ≤ 400) (p7 : 0 ≤ c2_place.toInt) (p8 : c2_next.toInt ≤ c2_stop.toInt) (hr_a39 : dz_pt a39 dz_wd) : dz_T (f7_X12_take fu c2_stop a38 a39 c2_next c2_kind c2_which c2_place) (fun r => c2_next.toInt ≤ 400 ∧ 0 ≤ c2_next.toInt ∧ r.1.toInt ≤ 400 ∧ 0 ≤ r.1.toInt ∧ r.2.1.toInt ≤ 5 ∧ 0 ≤ r.2.1.toInt ∧ r.2.2.2.toInt ≤ 400 ∧ 0 ≤ r.2.2.2.toInt ∧ r.1.toInt ≤ c2_stop.toInt ∧ c2_next.toInt ≤ r.1.toInt ∧ c2_next.toInt ≤ r.2.2.2.toInt ∧ (r.2.1.toInt = 0 ∨ c2_next.toInt + 1 ≤ r.1.toInt) ∧ (r.2.1.toInt ≠ 1 ∨ (0 ≤ r.2.2.1.toInt ∧ r.2.2.1.toInt ≤ 6))) :=
  t7_X12_take_E fu hfu c2_stop a38 a39 c2_next c2_kind c2_which c2_place p0 p1 p2 p3 p4 p5 p6 p7 p8 hr_a39 fu hfu
abbrev p11_X12_teamOf (fu : Nat) (c2_teamsRead : Int32) (a44 : Nat → Int32) (k : Nat) : Prop :=
  (∀ (v1 : Int32) (v2 : Int32), v2.toInt ≤ 12 → 0 ≤ v2.toInt → v2.toInt ≤ c2_teamsRead.toInt → 0 + 0 + (12 - v2.toInt) * 10 + 5 ≤ ((k : Nat) : Int) → dz_T ((F11_X12_teamOf fu c2_teamsRead a44 k) v1 v2) (fun r => r.toInt ≤ 11 ∧ (-1) ≤ r.toInt ∧ r.toInt + 1 ≤ c2_teamsRead.toInt))
set_option maxHeartbeats 4000000 in
set_option maxRecDepth 10000 in
theorem t11_X12_teamOf_h1 (fu : Nat) (hfu : 1000000000000 ≤ fu) (c2_teamsRead : Int32) (a44 : Nat → Int32) (p0 : c2_teamsRead.toInt ≤ 12) (p1 : 0 ≤ c2_teamsRead.toInt) (k : Nat) (ih : ∀ j9, j9 < k → p11_X12_teamOf fu c2_teamsRead a44 j9) : ∀ (v1 : Int32) (v2 : Int32), v2.toInt ≤ 12 → 0 ≤ v2.toInt → v2.toInt ≤ c2_teamsRead.toInt → 0 + 0 + (12 - v2.toInt) * 10 + 5 ≤ ((k : Nat) : Int) → dz_T ((F11_X12_teamOf fu c2_teamsRead a44 k) v1 v2) (fun r => r.toInt ≤ 11 ∧ (-1) ≤ r.toInt ∧ r.toInt + 1 ≤ c2_teamsRead.toInt) := by
  intro v1 v2 i0 i1 i2 hm
  obtain ⟨k0, rfl⟩ : ∃ x, k = x + 1 := ⟨k - 1, by omega⟩
  show dz_T (s11_X12_teamOf_1 fu c2_teamsRead a44 (F11_X12_teamOf fu c2_teamsRead a44 k0)  v1 v2) _
  unfold s11_X12_teamOf_1
  refine dz_Tle (fun h1 => ?_) (fun h1 => ?_)
  · skip
    have e2 := dz_lm1
    exact dz_Ts ⟨(by omega), (by omega), (by omega)⟩
  · skip
    refine dz_Tin (by omega) (by omega) ?_
    refine dz_Teq (fun h3 => ?_) (fun h3 => ?_)
    · skip
      exact dz_Ts ⟨(by first | assumption | omega), (by first | assumption | omega), (by first | assumption | omega)⟩
    · skip
      have e4 := dz_l1
      have e5 := dz_add (a := v2) (b := (1 : Int32)) (by omega) (by omega)
      exact (ih k0 (by omega)) v1 (v2 + (1 : Int32)) (by omega) (by omega) (by omega) (by omega)
theorem t11_X12_teamOf_I (fu : Nat) (hfu : 1000000000000 ≤ fu) (c2_teamsRead : Int32) (a44 : Nat → Int32) (p0 : c2_teamsRead.toInt ≤ 12) (p1 : 0 ≤ c2_teamsRead.toInt) (k : Nat) : p11_X12_teamOf fu c2_teamsRead a44 k := by
  induction k using Nat.strongRecOn with
  | _ k ih => exact t11_X12_teamOf_h1 fu hfu c2_teamsRead a44 p0 p1 k ih
set_option maxHeartbeats 4000000 in
set_option maxRecDepth 10000 in
theorem t11_X12_teamOf_E (fu : Nat) (hfu : 1000000000000 ≤ fu) (c2_teamsRead : Int32) (a44 : Nat → Int32) (v1 : Int32) (p0 : c2_teamsRead.toInt ≤ 12) (p1 : 0 ≤ c2_teamsRead.toInt) (kv : Nat) (hkv : 1000000000000 ≤ kv) : dz_T (s11_X12_teamOf_0 fu c2_teamsRead a44 (F11_X12_teamOf fu c2_teamsRead a44 kv)  v1) (fun r => r.toInt ≤ 11 ∧ (-1) ≤ r.toInt ∧ r.toInt + 1 ≤ c2_teamsRead.toInt) := by
  unfold s11_X12_teamOf_0
  have e1 := dz_l0
  exact (t11_X12_teamOf_I fu hfu c2_teamsRead a44 p0 p1 kv) v1 (0 : Int32) (by omega) (by omega) (by omega) (by omega)
theorem t11_X12_teamOf (fu : Nat) (hfu : 1000000000000 ≤ fu) (c2_teamsRead : Int32) (a44 : Nat → Int32) (v1 : Int32) (p0 : c2_teamsRead.toInt ≤ 12) (p1 : 0 ≤ c2_teamsRead.toInt) : dz_T (f11_X12_teamOf fu c2_teamsRead a44 v1) (fun r => r.toInt ≤ 11 ∧ (-1) ≤ r.toInt ∧ r.toInt + 1 ≤ c2_teamsRead.toInt) :=
  t11_X12_teamOf_E fu hfu c2_teamsRead a44 v1 p0 p1 fu hfu
