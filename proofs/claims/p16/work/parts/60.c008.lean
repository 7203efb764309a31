abbrev p173_X10_fillFromNext_g23 (fu : Nat) (c261_many : Int32) (a282 : Nat → Int32) (k : Nat) : Prop :=
  (∀ (v1 : Int32) (v2 : Int32) (v3 : Int32) (v4 : Int32) (a281 : Nat → Int32), v1.toInt ≤ 1 → 0 ≤ v1.toInt → v2.toInt ≤ 2 → 2 ≤ v2.toInt → v3.toInt ≤ 601 → 0 ≤ v3.toInt → v4.toInt ≤ 7 → 0 ≤ v4.toInt → dz_rg a281 601 0 16777215 → ((v1.toInt = 0 ∧ v3.toInt = 1 + (v4.toInt - 0) * 2) ∨ (v1.toInt = 1 ∧ v3.toInt = 3 + (v4.toInt - 1) * 2)) → 0 + 0 + (7 - v4.toInt) * 8456 + 7 ≤ ((k : Nat) : Int) → dz_T ((F173_X10_fillFromNext fu c261_many a282 k).1 v1 v2 v3 v4 a281) (fun r => dz_rg r 601 0 16777215)) ∧ (∀ (v1 : Int32) (v2 : Int32) (v3 : Int32) (v4 : Int32) (v5 : Int32) (v6 : Int32) (a281 : Nat → Int32), v1.toInt ≤ 1 → 0 ≤ v1.toInt → v2.toInt ≤ 2 → 2 ≤ v2.toInt → v3.toInt ≤ 601 → 0 ≤ v3.toInt → v4.toInt ≤ 2 → 0 ≤ v4.toInt → v5.toInt ≤ 3 → 0 ≤ v5.toInt → v6.toInt ≤ 2 → 0 ≤ v6.toInt → v6.toInt ≤ v3.toInt → v4.toInt ≤ v1.toInt + 1 → v5.toInt ≤ v3.toInt + 2 → v5.toInt ≤ v6.toInt + 2 → dz_rg a281 601 0 16777215 → ((v1.toInt = 0 ∧ v4.toInt < 1 ∧ v3.toInt = 1 + (v4.toInt - 0) * 2 + v6.toInt) ∨ (v1.toInt = 1 ∧ v4.toInt < 3 ∧ v3.toInt = 3 + (v4.toInt - 1) * 2 + v6.toInt)) → 0 + 0 + ((7 - v4.toInt) - 1) * 8456 + 0 + (601 - v3.toInt) * 14 + 14 ≤ ((k : Nat) : Int) → dz_T ((F173_X10_fillFromNext fu c261_many a282 k).2.1 v1 v2 v3 v4 v5 v6 a281) (fun r => dz_rg r 601 0 16777215))
set_option maxHeartbeats 1000000 in
set_option maxRecDepth 10000 in
theorem t173_X10_fillFromNext_h1_g23 (fu : Nat) (hfu : 1000000000000 ≤ fu) (c261_many : Int32) (a282 : Nat → Int32) (p0 : c261_many.toInt ≤ 2) (p1 : 2 ≤ c261_many.toInt) (hr_a282 : dz_pt a282 [0, 1, 3, 7]) (k : Nat) (ih : ∀ j9, j9 < k → p173_X10_fillFromNext_g23 fu c261_many a282 j9) : ∀ (v1 : Int32) (v2 : Int32) (v3 : Int32) (v4 : Int32) (a281 : Nat → Int32), v1.toInt ≤ 1 → 0 ≤ v1.toInt → v2.toInt ≤ 2 → 2 ≤ v2.toInt → v3.toInt ≤ 601 → 0 ≤ v3.toInt → v4.toInt ≤ 7 → 0 ≤ v4.toInt → dz_rg a281 601 0 16777215 → ((v1.toInt = 0 ∧ v3.toInt = 1 + (v4.toInt - 0) * 2) ∨ (v1.toInt = 1 ∧ v3.toInt = 3 + (v4.toInt - 1) * 2)) → 0 + 0 + (7 - v4.toInt) * 8456 + 7 ≤ ((k : Nat) : Int) → dz_T ((F173_X10_fillFromNext fu c261_many a282 k).1 v1 v2 v3 v4 a281) (fun r => dz_rg r 601 0 16777215) := by
  intro v1 v2 v3 v4 a281 i0 i1 i2 i3 i4 i5 i6 i7 hr_a281 x0 hm
  obtain ⟨k0, rfl⟩ : ∃ x, k = x + 1 := ⟨k - 1, by omega⟩
  show dz_T (s173_X10_fillFromNext_1 fu c261_many a282 (F173_X10_fillFromNext fu c261_many a282 k0).2.1  v1 v2 v3 v4 a281) _
  unfold s173_X10_fillFromNext_1
  rcases (show v1.toInt = 0 ∨ v1.toInt = 1 by omega) with hs | hs
  · skip
    have e1 := dz_l1
    have e2 := dz_add (a := v1) (b := (1 : Int32)) (by omega) (by omega)
    refine dz_Tin (by omega) (by omega) ?_
    have e3 := dz_ptat (hr_a282) (i := (v1 + (1 : Int32))) (x := 1) 1 (by omega) (by decide)
    refine dz_Tle (fun h4 => ?_) (fun h4 => ?_)
    · skip
      exact dz_Ts (hr_a281)
    · skip
      have e5 := dz_l0
      exact (ih k0 (by omega)).2 v1 v2 v3 v4 (0 : Int32) (0 : Int32) a281 i0 i1 i2 i3 i4 i5 (by first | assumption | omega) i7 (by omega) (by omega) (by omega) (by omega) (by omega) (by first | assumption | omega) (by omega) (by omega) (hr_a281) (by omega) (by omega)
  · skip
    have e6 := dz_l1
    have e7 := dz_add (a := v1) (b := (1 : Int32)) (by omega) (by omega)
    refine dz_Tin (by omega) (by omega) ?_
    have e8 := dz_ptat (hr_a282) (i := (v1 + (1 : Int32))) (x := 3) 2 (by omega) (by decide)
    refine dz_Tle (fun h9 => ?_) (fun h9 => ?_)
    · skip
      exact dz_Ts (hr_a281)
    · skip
      have e10 := dz_l0
      exact (ih k0 (by omega)).2 v1 v2 v3 v4 (0 : Int32) (0 : Int32) a281 i0 i1 i2 i3 i4 i5 (by first | assumption | omega) i7 (by omega) (by omega) (by omega) (by omega) (by omega) (by first | assumption | omega) (by omega) (by omega) (hr_a281) (by omega) (by omega)
set_option maxHeartbeats 1000000 in
set_option maxRecDepth 10000 in
theorem t173_X10_fillFromNext_h2_g23 (fu : Nat) (hfu : 1000000000000 ≤ fu) (c261_many : Int32) (a282 : Nat → Int32) (p0 : c261_many.toInt ≤ 2) (p1 : 2 ≤ c261_many.toInt) (hr_a282 : dz_pt a282 [0, 1, 3, 7]) (k : Nat) (ih : ∀ j9, j9 < k → p173_X10_fillFromNext_g23 fu c261_many a282 j9) : ∀ (v1 : Int32) (v2 : Int32) (v3 : Int32) (v4 : Int32) (v5 : Int32) (v6 : Int32) (a281 : Nat → Int32), v1.toInt ≤ 1 → 0 ≤ v1.toInt → v2.toInt ≤ 2 → 2 ≤ v2.toInt → v3.toInt ≤ 601 → 0 ≤ v3.toInt → v4.toInt ≤ 2 → 0 ≤ v4.toInt → v5.toInt ≤ 3 → 0 ≤ v5.toInt → v6.toInt ≤ 2 → 0 ≤ v6.toInt → v6.toInt ≤ v3.toInt → v4.toInt ≤ v1.toInt + 1 → v5.toInt ≤ v3.toInt + 2 → v5.toInt ≤ v6.toInt + 2 → dz_rg a281 601 0 16777215 → ((v1.toInt = 0 ∧ v4.toInt < 1 ∧ v3.toInt = 1 + (v4.toInt - 0) * 2 + v6.toInt) ∨ (v1.toInt = 1 ∧ v4.toInt < 3 ∧ v3.toInt = 3 + (v4.toInt - 1) * 2 + v6.toInt)) → 0 + 0 + ((7 - v4.toInt) - 1) * 8456 + 0 + (601 - v3.toInt) * 14 + 14 ≤ ((k : Nat) : Int) → dz_T ((F173_X10_fillFromNext fu c261_many a282 k).2.1 v1 v2 v3 v4 v5 v6 a281) (fun r => dz_rg r 601 0 16777215) := by
  intro v1 v2 v3 v4 v5 v6 a281 i0 i1 i2 i3 i4 i5 i6 i7 i8 i9 i10 i11 i12 i13 i14 i15 hr_a281 x0 hm
  obtain ⟨k0, rfl⟩ : ∃ x, k = x + 1 := ⟨k - 1, by omega⟩
  show dz_T (s173_X10_fillFromNext_2 fu c261_many a282 (F173_X10_fillFromNext fu c261_many a282 k0).1 (F173_X10_fillFromNext fu c261_many a282 k0).2.2  v1 v2 v3 v4 v5 v6 a281) _
  unfold s173_X10_fillFromNext_2
  rcases (show v1.toInt = 0 ∨ v1.toInt = 1 by omega) with hs | hs
  · skip
    refine dz_Tle (fun h1 => ?_) (fun h1 => ?_)
    · skip
      refine dz_Tin (by omega) (by omega) ?_
      have e2 := dz_l1
      have e3 := dz_add (a := v4) (b := (1 : Int32)) (by omega) (by omega)
      exact (ih k0 (by omega)).1 v1 v2 v3 (v4 + (1 : Int32)) (upd a281 v4.toNatClampNeg v5) i0 i1 i2 i3 i4 i5 (by omega) (by omega) (dz_rgu (hr_a281) (by omega) (by omega)) (by omega) (by omega)
    · skip
      refine dz_Tin (by omega) (by omega) ?_
      have e4 := dz_rgat (hr_a281) (i := v3) (by omega) (by omega)
      have e5 := dz_l0
      refine dz_Teq (fun h6 => ?_) (fun h6 => ?_)
      · skip
        obtain ⟨k1, rfl⟩ : ∃ x, k0 = x + 1 := ⟨k0 - 1, by omega⟩
        show dz_T (s173_X10_fillFromNext_3 fu c261_many a282 (F173_X10_fillFromNext fu c261_many a282 k1).2.1 v1 v2 v3 v4 v5 v6 a281) _
        unfold s173_X10_fillFromNext_3
        have e7 := dz_l1
        have e8 := dz_add (a := v3) (b := (1 : Int32)) (by omega) (by omega)
        have e9 := dz_add (a := v6) (b := (1 : Int32)) (by omega) (by omega)
        exact (ih k1 (by omega)).2 v1 v2 (v3 + (1 : Int32)) v4 v5 (v6 + (1 : Int32)) a281 i0 i1 i2 i3 (by omega) (by omega) i6 i7 i8 i9 (by omega) (by omega) (by omega) i13 (by omega) (by omega) (hr_a281) (by omega) (by omega)
      · skip
        obtain ⟨k2, rfl⟩ : ∃ x, k0 = x + 1 := ⟨k0 - 1, by omega⟩
        show dz_T (s173_X10_fillFromNext_3 fu c261_many a282 (F173_X10_fillFromNext fu c261_many a282 k2).2.1 v1 v2 v3 v4 (v5 ||| ((1 : Int32) <<< (v6 &&& (31 : Int32)))) v6 a281) _
        unfold s173_X10_fillFromNext_3
        have e10 := dz_l1
        have e11 := dz_add (a := v3) (b := (1 : Int32)) (by omega) (by omega)
        have e12 := dz_l31
        have e13 := dz_andr (a := v6) (b := (31 : Int32)) (by omega)
        have e14 := dz_andl (a := v6) (b := (31 : Int32)) (by omega)
        have e15 := dz_shl1 (b := v6) 0 1 (by omega) (by omega) (by omega)
        have e16 := dz_orb (a := v5) (b := ((1 : Int32) <<< (v6 &&& (31 : Int32)))) 2 (by omega) (by omega) (by omega) (by omega) (by omega)
        have e17 := dz_add (a := v6) (b := (1 : Int32)) (by omega) (by omega)
        exact (ih k2 (by omega)).2 v1 v2 (v3 + (1 : Int32)) v4 (v5 ||| ((1 : Int32) <<< (v6 &&& (31 : Int32)))) (v6 + (1 : Int32)) a281 i0 i1 i2 i3 (by omega) (by omega) i6 i7 (by omega) (by omega) (by omega) (by omega) (by omega) i13 (by omega) (by omega) (hr_a281) (by omega) (by omega)
  · skip
    refine dz_Tle (fun h18 => ?_) (fun h18 => ?_)
    · skip
      refine dz_Tin (by omega) (by omega) ?_
      have e19 := dz_l1
      have e20 := dz_add (a := v4) (b := (1 : Int32)) (by omega) (by omega)
      exact (ih k0 (by omega)).1 v1 v2 v3 (v4 + (1 : Int32)) (upd a281 v4.toNatClampNeg v5) i0 i1 i2 i3 i4 i5 (by omega) (by omega) (dz_rgu (hr_a281) (by omega) (by omega)) (by omega) (by omega)
    · skip
      refine dz_Tin (by omega) (by omega) ?_
      have e21 := dz_rgat (hr_a281) (i := v3) (by omega) (by omega)
      have e22 := dz_l0
      refine dz_Teq (fun h23 => ?_) (fun h23 => ?_)
      · skip
        obtain ⟨k3, rfl⟩ : ∃ x, k0 = x + 1 := ⟨k0 - 1, by omega⟩
        show dz_T (s173_X10_fillFromNext_3 fu c261_many a282 (F173_X10_fillFromNext fu c261_many a282 k3).2.1 v1 v2 v3 v4 v5 v6 a281) _
        unfold s173_X10_fillFromNext_3
        have e24 := dz_l1
        have e25 := dz_add (a := v3) (b := (1 : Int32)) (by omega) (by omega)
        have e26 := dz_add (a := v6) (b := (1 : Int32)) (by omega) (by omega)
        exact (ih k3 (by omega)).2 v1 v2 (v3 + (1 : Int32)) v4 v5 (v6 + (1 : Int32)) a281 i0 i1 i2 i3 (by omega) (by omega) i6 i7 i8 i9 (by omega) (by omega) (by omega) i13 (by omega) (by omega) (hr_a281) (by omega) (by omega)
      · skip
        obtain ⟨k4, rfl⟩ : ∃ x, k0 = x + 1 := ⟨k0 - 1, by omega⟩
        show dz_T (s173_X10_fillFromNext_3 fu c261_many a282 (F173_X10_fillFromNext fu c261_many a282 k4).2.1 v1 v2 v3 v4 (v5 ||| ((1 : Int32) <<< (v6 &&& (31 : Int32)))) v6 a281) _
        unfold s173_X10_fillFromNext_3
        have e27 := dz_l1
        have e28 := dz_add (a := v3) (b := (1 : Int32)) (by omega) (by omega)
        have e29 := dz_l31
        have e30 := dz_andr (a := v6) (b := (31 : Int32)) (by omega)
        have e31 := dz_andl (a := v6) (b := (31 : Int32)) (by omega)
        have e32 := dz_shl1 (b := v6) 0 1 (by omega) (by omega) (by omega)
        have e33 := dz_orb (a := v5) (b := ((1 : Int32) <<< (v6 &&& (31 : Int32)))) 2 (by omega) (by omega) (by omega) (by omega) (by omega)
        have e34 := dz_add (a := v6) (b := (1 : Int32)) (by omega) (by omega)
        exact (ih k4 (by omega)).2 v1 v2 (v3 + (1 : Int32)) v4 (v5 ||| ((1 : Int32) <<< (v6 &&& (31 : Int32)))) (v6 + (1 : Int32)) a281 i0 i1 i2 i3 (by omega) (by omega) i6 i7 (by omega) (by omega) (by omega) (by omega) (by omega) i13 (by omega) (by omega) (hr_a281) (by omega) (by omega)
theorem t173_X10_fillFromNext_I_g23 (fu : Nat) (hfu : 1000000000000 ≤ fu) (c261_many : Int32) (a282 : Nat → Int32) (p0 : c261_many.toInt ≤ 2) (p1 : 2 ≤ c261_many.toInt) (hr_a282 : dz_pt a282 [0, 1, 3, 7]) (k : Nat) : p173_X10_fillFromNext_g23 fu c261_many a282 k := by
  induction k using Nat.strongRecOn with
  | _ k ih => exact ⟨t173_X10_fillFromNext_h1_g23 fu hfu c261_many a282 p0 p1 hr_a282 k ih, t173_X10_fillFromNext_h2_g23 fu hfu c261_many a282 p0 p1 hr_a282 k ih⟩
set_option maxHeartbeats 1000000 in
set_option maxRecDepth 10000 in
theorem t173_X10_fillFromNext_E_g23 (fu : Nat) (hfu : 1000000000000 ≤ fu) (c261_many : Int32) (a282 : Nat → Int32) (v1 : Int32) (a281 : Nat → Int32) (p0 : c261_many.toInt ≤ 2) (p1 : 2 ≤ c261_many.toInt) (p2 : 0 ≤ v1.toInt) (p3 : v1.toInt ≤ 1) (hr_a282 : dz_pt a282 [0, 1, 3, 7]) (hr_a281 : dz_rg a281 601 0 16777215) (kv : Nat) (hkv : 1000000000000 ≤ kv) : dz_T (s173_X10_fillFromNext_0 fu c261_many a282 (F173_X10_fillFromNext fu c261_many a282 kv).1  v1 a281) (fun r => dz_rg r 601 0 16777215) := by
  unfold s173_X10_fillFromNext_0
  have hl1 := dz_l1
  have he1 := dz_add (a := v1) (b := (1 : Int32)) (by omega) (by omega)
  have hsp : (v1.toInt = 0 ∧ (a282 v1.toNatClampNeg).toInt = 0 ∧ (a282 (v1 + (1 : Int32)).toNatClampNeg).toInt = 1) ∨ (v1.toInt = 1 ∧ (a282 v1.toNatClampNeg).toInt = 1 ∧ (a282 (v1 + (1 : Int32)).toNatClampNeg).toInt = 3) := by
    rcases (show v1.toInt = 0 ∨ v1.toInt = 1 by omega) with h | h
    · exact (Or.inl ⟨h, dz_ptat (hr_a282) (i := v1) (x := 0) 0 (by omega) (by decide), dz_ptat (hr_a282) (i := (v1 + (1 : Int32))) (x := 1) 1 (by omega) (by decide)⟩)
    · exact (Or.inr (⟨h, dz_ptat (hr_a282) (i := v1) (x := 1) 1 (by omega) (by decide), dz_ptat (hr_a282) (i := (v1 + (1 : Int32))) (x := 3) 2 (by omega) (by decide)⟩))
  have e1 := dz_l1
  have e2 := dz_add (a := v1) (b := (1 : Int32)) (by omega) (by omega)
  refine dz_Tin (by omega) (by omega) ?_
  refine dz_Tin (by omega) (by omega) ?_
  have e3 := dz_ptrg (hr_a282) (i := (v1 + (1 : Int32))) 0 7 (by decide) (by omega) (by show _ < ((4 : Nat) : Int); omega)
  have e4 := dz_ptrg (hr_a282) (i := v1) 0 7 (by decide) (by omega) (by show _ < ((4 : Nat) : Int); omega)
  exact (t173_X10_fillFromNext_I_g23 fu hfu c261_many a282 p0 p1 hr_a282 kv).1 v1 c261_many (a282 (v1 + (1 : Int32)).toNatClampNeg) (a282 v1.toNatClampNeg) a281 p3 p2 p0 p1 (by omega) (by omega) (by omega) (by omega) (hr_a281) (by omega) (by omega)
theorem t173_X10_fillFromNext_g23 (fu : Nat) (hfu : 1000000000000 ≤ fu) (c261_many : Int32) (a282 : Nat → Int32) (v1 : Int32) (a281 : Nat → Int32) (p0 : c261_many.toInt ≤ 2) (p1 : 2 ≤ c261_many.toInt) (p2 : 0 ≤ v1.toInt) (p3 : v1.toInt ≤ 1) (hr_a282 : dz_pt a282 [0, 1, 3, 7]) (hr_a281 : dz_rg a281 601 0 16777215) : dz_T (f173_X10_fillFromNext fu c261_many a282 v1 a281) (fun r => dz_rg r 601 0 16777215) :=
  t173_X10_fillFromNext_E_g23 fu hfu c261_many a282 v1 a281 p0 p1 p2 p3 hr_a282 hr_a281 fu hfu
abbrev p173_X10_fillFromNext_g24 (fu : Nat) (c261_many : Int32) (a282 : Nat → Int32) (k : Nat) : Prop :=
  (∀ (v1 : Int32) (v2 : Int32) (v3 : Int32) (v4 : Int32) (a281 : Nat → Int32), v1.toInt ≤ 2 → 0 ≤ v1.toInt → v2.toInt ≤ 2 → 2 ≤ v2.toInt → v3.toInt ≤ 601 → 0 ≤ v3.toInt → v4.toInt ≤ 15 → 0 ≤ v4.toInt → dz_rg a281 601 0 16777215 → ((v1.toInt = 0 ∧ v3.toInt = 1 + (v4.toInt - 0) * 2) ∨ (v1.toInt = 1 ∧ v3.toInt = 3 + (v4.toInt - 1) * 2) ∨ (v1.toInt = 2 ∧ v3.toInt = 7 + (v4.toInt - 3) * 2)) → 0 + 0 + (15 - v4.toInt) * 8456 + 7 ≤ ((k : Nat) : Int) → dz_T ((F173_X10_fillFromNext fu c261_many a282 k).1 v1 v2 v3 v4 a281) (fun r => dz_rg r 601 0 16777215)) ∧ (∀ (v1 : Int32) (v2 : Int32) (v3 : Int32) (v4 : Int32) (v5 : Int32) (v6 : Int32) (a281 : Nat → Int32), v1.toInt ≤ 2 → 0 ≤ v1.toInt → v2.toInt ≤ 2 → 2 ≤ v2.toInt → v3.toInt ≤ 601 → 0 ≤ v3.toInt → v4.toInt ≤ 6 → 0 ≤ v4.toInt → v5.toInt ≤ 3 → 0 ≤ v5.toInt → v6.toInt ≤ 2 → 0 ≤ v6.toInt → v6.toInt ≤ v3.toInt → v5.toInt ≤ v3.toInt + 2 → v5.toInt ≤ v6.toInt + 2 → v4.toInt ≤ v1.toInt + 4 → dz_rg a281 601 0 16777215 → ((v1.toInt = 0 ∧ v4.toInt < 1 ∧ v3.toInt = 1 + (v4.toInt - 0) * 2 + v6.toInt) ∨ (v1.toInt = 1 ∧ v4.toInt < 3 ∧ v3.toInt = 3 + (v4.toInt - 1) * 2 + v6.toInt) ∨ (v1.toInt = 2 ∧ v4.toInt < 7 ∧ v3.toInt = 7 + (v4.toInt - 3) * 2 + v6.toInt)) → 0 + 0 + ((15 - v4.toInt) - 1) * 8456 + 0 + (601 - v3.toInt) * 14 + 14 ≤ ((k : Nat) : Int) → dz_T ((F173_X10_fillFromNext fu c261_many a282 k).2.1 v1 v2 v3 v4 v5 v6 a281) (fun r => dz_rg r 601 0 16777215))
set_option maxHeartbeats 1000000 in
set_option maxRecDepth 10000 in
theorem t173_X10_fillFromNext_h1_g24 (fu : Nat) (hfu : 1000000000000 ≤ fu) (c261_many : Int32) (a282 : Nat → Int32) (p0 : c261_many.toInt ≤ 2) (p1 : 2 ≤ c261_many.toInt) (hr_a282 : dz_pt a282 [0, 1, 3, 7, 15]) (k : Nat) (ih : ∀ j9, j9 < k → p173_X10_fillFromNext_g24 fu c261_many a282 j9) : ∀ (v1 : Int32) (v2 : Int32) (v3 : Int32) (v4 : Int32) (a281 : Nat → Int32), v1.toInt ≤ 2 → 0 ≤ v1.toInt → v2.toInt ≤ 2 → 2 ≤ v2.toInt → v3.toInt ≤ 601 → 0 ≤ v3.toInt → v4.toInt ≤ 15 → 0 ≤ v4.toInt → dz_rg a281 601 0 16777215 → ((v1.toInt = 0 ∧ v3.toInt = 1 + (v4.toInt - 0) * 2) ∨ (v1.toInt = 1 ∧ v3.toInt = 3 + (v4.toInt - 1) * 2) ∨ (v1.toInt = 2 ∧ v3.toInt = 7 + (v4.toInt - 3) * 2)) → 0 + 0 + (15 - v4.toInt) * 8456 + 7 ≤ ((k : Nat) : Int) → dz_T ((F173_X10_fillFromNext fu c261_many a282 k).1 v1 v2 v3 v4 a281) (fun r => dz_rg r 601 0 16777215) := by
  intro v1 v2 v3 v4 a281 i0 i1 i2 i3 i4 i5 i6 i7 hr_a281 x0 hm
  obtain ⟨k0, rfl⟩ : ∃ x, k = x + 1 := ⟨k - 1, by omega⟩
  show dz_T (s173_X10_fillFromNext_1 fu c261_many a282 (F173_X10_fillFromNext fu c261_many a282 k0).2.1  v1 v2 v3 v4 a281) _
  unfold s173_X10_fillFromNext_1
  rcases (show v1.toInt = 0 ∨ v1.toInt = 1 ∨ v1.toInt = 2 by omega) with hs | hs | hs
  · skip
    have e1 := dz_l1
    have e2 := dz_add (a := v1) (b := (1 : Int32)) (by omega) (by omega)
    refine dz_Tin (by omega) (by omega) ?_
    have e3 := dz_ptat (hr_a282) (i := (v1 + (1 : Int32))) (x := 1) 1 (by omega) (by decide)
    refine dz_Tle (fun h4 => ?_) (fun h4 => ?_)
    · skip
      exact dz_Ts (hr_a281)
    · skip
      have e5 := dz_l0
      exact (ih k0 (by omega)).2 v1 v2 v3 v4 (0 : Int32) (0 : Int32) a281 i0 i1 i2 i3 i4 i5 (by first | assumption | omega) i7 (by omega) (by omega) (by omega) (by omega) (by omega) (by omega) (by omega) (by first | assumption | omega) (hr_a281) (by omega) (by omega)
  · skip
    have e6 := dz_l1
    have e7 := dz_add (a := v1) (b := (1 : Int32)) (by omega) (by omega)
    refine dz_Tin (by omega) (by omega) ?_
    have e8 := dz_ptat (hr_a282) (i := (v1 + (1 : Int32))) (x := 3) 2 (by omega) (by decide)
    refine dz_Tle (fun h9 => ?_) (fun h9 => ?_)
    · skip
      exact dz_Ts (hr_a281)
    · skip
      have e10 := dz_l0
      exact (ih k0 (by omega)).2 v1 v2 v3 v4 (0 : Int32) (0 : Int32) a281 i0 i1 i2 i3 i4 i5 (by first | assumption | omega) i7 (by omega) (by omega) (by omega) (by omega) (by omega) (by omega) (by omega) (by first | assumption | omega) (hr_a281) (by omega) (by omega)
  · skip
    have e11 := dz_l1
    have e12 := dz_add (a := v1) (b := (1 : Int32)) (by omega) (by omega)
    refine dz_Tin (by omega) (by omega) ?_
    have e13 := dz_ptat (hr_a282) (i := (v1 + (1 : Int32))) (x := 7) 3 (by omega) (by decide)
    refine dz_Tle (fun h14 => ?_) (fun h14 => ?_)
    · skip
      exact dz_Ts (hr_a281)
    · skip
      have e15 := dz_l0
      exact (ih k0 (by omega)).2 v1 v2 v3 v4 (0 : Int32) (0 : Int32) a281 i0 i1 i2 i3 i4 i5 (by first | assumption | omega) i7 (by omega) (by omega) (by omega) (by omega) (by omega) (by omega) (by omega) (by first | assumption | omega) (hr_a281) (by omega) (by omega)
set_option maxHeartbeats 1000000 in
set_option maxRecDepth 10000 in
theorem t173_X10_fillFromNext_h2_g24 (fu : Nat) (hfu : 1000000000000 ≤ fu) (c261_many : Int32) (a282 : Nat → Int32) (p0 : c261_many.toInt ≤ 2) (p1 : 2 ≤ c261_many.toInt) (hr_a282 : dz_pt a282 [0, 1, 3, 7, 15]) (k : Nat) (ih : ∀ j9, j9 < k → p173_X10_fillFromNext_g24 fu c261_many a282 j9) : ∀ (v1 : Int32) (v2 : Int32) (v3 : Int32) (v4 : Int32) (v5 : Int32) (v6 : Int32) (a281 : Nat → Int32), v1.toInt ≤ 2 → 0 ≤ v1.toInt → v2.toInt ≤ 2 → 2 ≤ v2.toInt → v3.toInt ≤ 601 → 0 ≤ v3.toInt → v4.toInt ≤ 6 → 0 ≤ v4.toInt → v5.toInt ≤ 3 → 0 ≤ v5.toInt → v6.toInt ≤ 2 → 0 ≤ v6.toInt → v6.toInt ≤ v3.toInt → v5.toInt ≤ v3.toInt + 2 → v5.toInt ≤ v6.toInt + 2 → v4.toInt ≤ v1.toInt + 4 → dz_rg a281 601 0 16777215 → ((v1.toInt = 0 ∧ v4.toInt < 1 ∧ v3.toInt = 1 + (v4.toInt - 0) * 2 + v6.toInt) ∨ (v1.toInt = 1 ∧ v4.toInt < 3 ∧ v3.toInt = 3 + (v4.toInt - 1) * 2 + v6.toInt) ∨ (v1.toInt = 2 ∧ v4.toInt < 7 ∧ v3.toInt = 7 + (v4.toInt - 3) * 2 + v6.toInt)) → 0 + 0 + ((15 - v4.toInt) - 1) * 8456 + 0 + (601 - v3.toInt) * 14 + 14 ≤ ((k : Nat) : Int) → dz_T ((F173_X10_fillFromNext fu c261_many a282 k).2.1 v1 v2 v3 v4 v5 v6 a281) (fun r => dz_rg r 601 0 16777215) := by
  intro v1 v2 v3 v4 v5 v6 a281 i0 i1 i2 i3 i4 i5 i6 i7 i8 i9 i10 i11 i12 i13 i14 i15 hr_a281 x0 hm
  obtain ⟨k0, rfl⟩ : ∃ x, k = x + 1 := ⟨k - 1, by omega⟩
  show dz_T (s173_X10_fillFromNext_2 fu c261_many a282 (F173_X10_fillFromNext fu c261_many a282 k0).1 (F173_X10_fillFromNext fu c261_many a282 k0).2.2  v1 v2 v3 v4 v5 v6 a281) _
  unfold s173_X10_fillFromNext_2
  rcases (show v1.toInt = 0 ∨ v1.toInt = 1 ∨ v1.toInt = 2 by omega) with hs | hs | hs
  · skip
    refine dz_Tle (fun h1 => ?_) (fun h1 => ?_)
    · skip
      refine dz_Tin (by omega) (by omega) ?_
      have e2 := dz_l1
      have e3 := dz_add (a := v4) (b := (1 : Int32)) (by omega) (by omega)
      exact (ih k0 (by omega)).1 v1 v2 v3 (v4 + (1 : Int32)) (upd a281 v4.toNatClampNeg v5) i0 i1 i2 i3 i4 i5 (by omega) (by omega) (dz_rgu (hr_a281) (by omega) (by omega)) (by omega) (by omega)
    · skip
      refine dz_Tin (by omega) (by omega) ?_
      have e4 := dz_rgat (hr_a281) (i := v3) (by omega) (by omega)
      have e5 := dz_l0
      refine dz_Teq (fun h6 => ?_) (fun h6 => ?_)
      · skip
        obtain ⟨k1, rfl⟩ : ∃ x, k0 = x + 1 := ⟨k0 - 1, by omega⟩
        show dz_T (s173_X10_fillFromNext_3 fu c261_many a282 (F173_X10_fillFromNext fu c261_many a282 k1).2.1 v1 v2 v3 v4 v5 v6 a281) _
        unfold s173_X10_fillFromNext_3
        have e7 := dz_l1
        have e8 := dz_add (a := v3) (b := (1 : Int32)) (by omega) (by omega)
        have e9 := dz_add (a := v6) (b := (1 : Int32)) (by omega) (by omega)
        exact (ih k1 (by omega)).2 v1 v2 (v3 + (1 : Int32)) v4 v5 (v6 + (1 : Int32)) a281 i0 i1 i2 i3 (by omega) (by omega) i6 i7 i8 i9 (by omega) (by omega) (by omega) (by omega) (by omega) i15 (hr_a281) (by omega) (by omega)
      · skip
        obtain ⟨k2, rfl⟩ : ∃ x, k0 = x + 1 := ⟨k0 - 1, by omega⟩
        show dz_T (s173_X10_fillFromNext_3 fu c261_many a282 (F173_X10_fillFromNext fu c261_many a282 k2).2.1 v1 v2 v3 v4 (v5 ||| ((1 : Int32) <<< (v6 &&& (31 : Int32)))) v6 a281) _
        unfold s173_X10_fillFromNext_3
        have e10 := dz_l1
        have e11 := dz_add (a := v3) (b := (1 : Int32)) (by omega) (by omega)
        have e12 := dz_l31
        have e13 := dz_andr (a := v6) (b := (31 : Int32)) (by omega)
        have e14 := dz_andl (a := v6) (b := (31 : Int32)) (by omega)
        have e15 := dz_shl1 (b := v6) 0 1 (by omega) (by omega) (by omega)
        have e16 := dz_orb (a := v5) (b := ((1 : Int32) <<< (v6 &&& (31 : Int32)))) 2 (by omega) (by omega) (by omega) (by omega) (by omega)
        have e17 := dz_add (a := v6) (b := (1 : Int32)) (by omega) (by omega)
        exact (ih k2 (by omega)).2 v1 v2 (v3 + (1 : Int32)) v4 (v5 ||| ((1 : Int32) <<< (v6 &&& (31 : Int32)))) (v6 + (1 : Int32)) a281 i0 i1 i2 i3 (by omega) (by omega) i6 i7 (by omega) (by omega) (by omega) (by omega) (by omega) (by omega) (by omega) i15 (hr_a281) (by omega) (by omega)
  · skip
    refine dz_Tle (fun h18 => ?_) (fun h18 => ?_)
    · skip
      refine dz_Tin (by omega) (by omega) ?_
      have e19 := dz_l1
      have e20 := dz_add (a := v4) (b := (1 : Int32)) (by omega) (by omega)
      exact (ih k0 (by omega)).1 v1 v2 v3 (v4 + (1 : Int32)) (upd a281 v4.toNatClampNeg v5) i0 i1 i2 i3 i4 i5 (by omega) (by omega) (dz_rgu (hr_a281) (by omega) (by omega)) (by omega) (by omega)
    · skip
      refine dz_Tin (by omega) (by omega) ?_
      have e21 := dz_rgat (hr_a281) (i := v3) (by omega) (by omega)
      have e22 := dz_l0
      refine dz_Teq (fun h23 => ?_) (fun h23 => ?_)
      · skip
        obtain ⟨k3, rfl⟩ : ∃ x, k0 = x + 1 := ⟨k0 - 1, by omega⟩
        show dz_T (s173_X10_fillFromNext_3 fu c261_many a282 (F173_X10_fillFromNext fu c261_many a282 k3).2.1 v1 v2 v3 v4 v5 v6 a281) _
        unfold s173_X10_fillFromNext_3
        have e24 := dz_l1
        have e25 := dz_add (a := v3) (b := (1 : Int32)) (by omega) (by omega)
        have e26 := dz_add (a := v6) (b := (1 : Int32)) (by omega) (by omega)
        exact (ih k3 (by omega)).2 v1 v2 (v3 + (1 : Int32)) v4 v5 (v6 + (1 : Int32)) a281 i0 i1 i2 i3 (by omega) (by omega) i6 i7 i8 i9 (by omega) (by omega) (by omega) (by omega) (by omega) i15 (hr_a281) (by omega) (by omega)
      · skip
        obtain ⟨k4, rfl⟩ : ∃ x, k0 = x + 1 := ⟨k0 - 1, by omega⟩
        show dz_T (s173_X10_fillFromNext_3 fu c261_many a282 (F173_X10_fillFromNext fu c261_many a282 k4).2.1 v1 v2 v3 v4 (v5 ||| ((1 : Int32) <<< (v6 &&& (31 : Int32)))) v6 a281) _
        unfold s173_X10_fillFromNext_3
        have e27 := dz_l1
        have e28 := dz_add (a := v3) (b := (1 : Int32)) (by omega) (by omega)
        have e29 := dz_l31
        have e30 := dz_andr (a := v6) (b := (31 : Int32)) (by omega)
        have e31 := dz_andl (a := v6) (b := (31 : Int32)) (by omega)
        have e32 := dz_shl1 (b := v6) 0 1 (by omega) (by omega) (by omega)
        have e33 := dz_orb (a := v5) (b := ((1 : Int32) <<< (v6 &&& (31 : Int32)))) 2 (by omega) (by omega) (by omega) (by omega) (by omega)
        have e34 := dz_add (a := v6) (b := (1 : Int32)) (by omega) (by omega)
        exact (ih k4 (by omega)).2 v1 v2 (v3 + (1 : Int32)) v4 (v5 ||| ((1 : Int32) <<< (v6 &&& (31 : Int32)))) (v6 + (1 : Int32)) a281 i0 i1 i2 i3 (by omega) (by omega) i6 i7 (by omega) (by omega) (by omega) (by omega) (by omega) (by omega) (by omega) i15 (hr_a281) (by omega) (by omega)
  · skip
    refine dz_Tle (fun h35 => ?_) (fun h35 => ?_)
    · skip
      refine dz_Tin (by omega) (by omega) ?_
      have e36 := dz_l1
      have e37 := dz_add (a := v4) (b := (1 : Int32)) (by omega) (by omega)
      exact (ih k0 (by omega)).1 v1 v2 v3 (v4 + (1 : Int32)) (upd a281 v4.toNatClampNeg v5) i0 i1 i2 i3 i4 i5 (by omega) (by omega) (dz_rgu (hr_a281) (by omega) (by omega)) (by omega) (by omega)
    · skip
      refine dz_Tin (by omega) (by omega) ?_
      have e38 := dz_rgat (hr_a281) (i := v3) (by omega) (by omega)
      have e39 := dz_l0
      refine dz_Teq (fun h40 => ?_) (fun h40 => ?_)
      · skip
        obtain ⟨k5, rfl⟩ : ∃ x, k0 = x + 1 := ⟨k0 - 1, by omega⟩
        show dz_T (s173_X10_fillFromNext_3 fu c261_many a282 (F173_X10_fillFromNext fu c261_many a282 k5).2.1 v1 v2 v3 v4 v5 v6 a281) _
        unfold s173_X10_fillFromNext_3
        have e41 := dz_l1
        have e42 := dz_add (a := v3) (b := (1 : Int32)) (by omega) (by omega)
        have e43 := dz_add (a := v6) (b := (1 : Int32)) (by omega) (by omega)
        exact (ih k5 (by omega)).2 v1 v2 (v3 + (1 : Int32)) v4 v5 (v6 + (1 : Int32)) a281 i0 i1 i2 i3 (by omega) (by omega) i6 i7 i8 i9 (by omega) (by omega) (by omega) (by omega) (by omega) i15 (hr_a281) (by omega) (by omega)
      · skip
        obtain ⟨k6, rfl⟩ : ∃ x, k0 = x + 1 := ⟨k0 - 1, by omega⟩
        show dz_T (s173_X10_fillFromNext_3 fu c261_many a282 (F173_X10_fillFromNext fu c261_many a282 k6).2.1 v1 v2 v3 v4 (v5 ||| ((1 : Int32) <<< (v6 &&& (31 : Int32)))) v6 a281) _
        unfold s173_X10_fillFromNext_3
        have e44 := dz_l1
        have e45 := dz_add (a := v3) (b := (1 : Int32)) (by omega) (by omega)
        have e46 := dz_l31
        have e47 := dz_andr (a := v6) (b := (31 : Int32)) (by omega)
        have e48 := dz_andl (a := v6) (b := (31 : Int32)) (by omega)
        have e49 := dz_shl1 (b := v6) 0 1 (by omega) (by omega) (by omega)
        have e50 := dz_orb (a := v5) (b := ((1 : Int32) <<< (v6 &&& (31 : Int32)))) 2 (by omega) (by omega) (by omega) (by omega) (by omega)
        have e51 := dz_add (a := v6) (b := (1 : Int32)) (by omega) (by omega)
        exact (ih k6 (by omega)).2 v1 v2 (v3 + (1 : Int32)) v4 (v5 ||| ((1 : Int32) <<< (v6 &&& (31 : Int32)))) (v6 + (1 : Int32)) a281 i0 i1 i2 i3 (by omega) (by omega) i6 i7 (by omega) (by omega) (by omega) (by omega) (by omega) (by omega) (by omega) i15 (hr_a281) (by omega) (by omega)
theorem t173_X10_fillFromNext_I_g24 (fu : Nat) (hfu : 1000000000000 ≤ fu) (c261_many : Int32) (a282 : Nat → Int32) (p0 : c261_many.toInt ≤ 2) (p1 : 2 ≤ c261_many.toInt) (hr_a282 : dz_pt a282 [0, 1, 3, 7, 15]) (k : Nat) : p173_X10_fillFromNext_g24 fu c261_many a282 k := by
  induction k using Nat.strongRecOn with
  | _ k ih => exact ⟨t173_X10_fillFromNext_h1_g24 fu hfu c261_many a282 p0 p1 hr_a282 k ih, t173_X10_fillFromNext_h2_g24 fu hfu c261_many a282 p0 p1 hr_a282 k ih⟩
set_option maxHeartbeats 1000000 in
set_option maxRecDepth 10000 in
theorem t173_X10_fillFromNext_E_g24 (fu : Nat) (hfu : 1000000000000 ≤ fu) (c261_many : Int32) (a282 : Nat → Int32) (v1 : Int32) (a281 : Nat → Int32) (p0 : c261_many.toInt ≤ 2) (p1 : 2 ≤ c261_many.toInt) (p2 : 0 ≤ v1.toInt) (p3 : v1.toInt ≤ 2) (hr_a282 : dz_pt a282 [0, 1, 3, 7, 15]) (hr_a281 : dz_rg a281 601 0 16777215) (kv : Nat) (hkv : 1000000000000 ≤ kv) : dz_T (s173_X10_fillFromNext_0 fu c261_many a282 (F173_X10_fillFromNext fu c261_many a282 kv).1  v1 a281) (fun r => dz_rg r 601 0 16777215) := by
  unfold s173_X10_fillFromNext_0
  have hl1 := dz_l1
  have he1 := dz_add (a := v1) (b := (1 : Int32)) (by omega) (by omega)
  have hsp : (v1.toInt = 0 ∧ (a282 v1.toNatClampNeg).toInt = 0 ∧ (a282 (v1 + (1 : Int32)).toNatClampNeg).toInt = 1) ∨ (v1.toInt = 1 ∧ (a282 v1.toNatClampNeg).toInt = 1 ∧ (a282 (v1 + (1 : Int32)).toNatClampNeg).toInt = 3) ∨ (v1.toInt = 2 ∧ (a282 v1.toNatClampNeg).toInt = 3 ∧ (a282 (v1 + (1 : Int32)).toNatClampNeg).toInt = 7) := by
    rcases (show v1.toInt = 0 ∨ v1.toInt = 1 ∨ v1.toInt = 2 by omega) with h | h | h
    · exact (Or.inl ⟨h, dz_ptat (hr_a282) (i := v1) (x := 0) 0 (by omega) (by decide), dz_ptat (hr_a282) (i := (v1 + (1 : Int32))) (x := 1) 1 (by omega) (by decide)⟩)
    · exact (Or.inr (Or.inl ⟨h, dz_ptat (hr_a282) (i := v1) (x := 1) 1 (by omega) (by decide), dz_ptat (hr_a282) (i := (v1 + (1 : Int32))) (x := 3) 2 (by omega) (by decide)⟩))
    · exact (Or.inr (Or.inr (⟨h, dz_ptat (hr_a282) (i := v1) (x := 3) 2 (by omega) (by decide), dz_ptat (hr_a282) (i := (v1 + (1 : Int32))) (x := 7) 3 (by omega) (by decide)⟩)))
  have e1 := dz_l1
  have e2 := dz_add (a := v1) (b := (1 : Int32)) (by omega) (by omega)
  refine dz_Tin (by omega) (by omega) ?_
  refine dz_Tin (by omega) (by omega) ?_
  have e3 := dz_ptrg (hr_a282) (i := (v1 + (1 : Int32))) 0 15 (by decide) (by omega) (by show _ < ((5 : Nat) : Int); omega)
  have e4 := dz_ptrg (hr_a282) (i := v1) 0 15 (by decide) (by omega) (by show _ < ((5 : Nat) : Int); omega)
  exact (t173_X10_fillFromNext_I_g24 fu hfu c261_many a282 p0 p1 hr_a282 kv).1 v1 c261_many (a282 (v1 + (1 : Int32)).toNatClampNeg) (a282 v1.toNatClampNeg) a281 p3 p2 p0 p1 (by omega) (by omega) (by omega) (by omega) (hr_a281) (by omega) (by omega)
theorem t173_X10_fillFromNext_g24 (fu : Nat) (hfu : 1000000000000 ≤ fu) (c261_many : Int32) (a282 : Nat → Int32) (v1 : Int32) (a281 : Nat → Int32) (p0 : c261_many.toInt ≤ 2) (p1 : 2 ≤ c261_many.toInt) (p2 : 0 ≤ v1.toInt) (p3 : v1.toInt ≤ 2) (hr_a282 : dz_pt a282 [0, 1, 3, 7, 15]) (hr_a281 : dz_rg a281 601 0 16777215) : dz_T (f173_X10_fillFromNext fu c261_many a282 v1 a281) (fun r => dz_rg r 601 0 16777215) :=
  t173_X10_fillFromNext_E_g24 fu hfu c261_many a282 v1 a281 p0 p1 p2 p3 hr_a282 hr_a281 fu hfu
abbrev p173_X10_fillFromNext_g32 (fu : Nat) (c261_many : Int32) (a282 : Nat → Int32) (k : Nat) : Prop :=
  (∀ (v1 : Int32) (v2 : Int32) (v3 : Int32) (v4 : Int32) (a281 : Nat → Int32), v1.toInt ≤ 0 → 0 ≤ v1.toInt → v2.toInt ≤ 6 → 6 ≤ v2.toInt → v3.toInt ≤ 601 → 1 ≤ v3.toInt → v4.toInt ≤ 1 → 0 ≤ v4.toInt → v4.toInt + 1 ≤ v3.toInt → dz_rg a281 601 0 16777215 → ((v1.toInt = 0 ∧ v3.toInt = 1 + (v4.toInt - 0) * 6)) → 0 + 0 + (1 - v4.toInt) * 8442 + 7 ≤ ((k : Nat) : Int) → dz_T ((F173_X10_fillFromNext fu c261_many a282 k).1 v1 v2 v3 v4 a281) (fun r => dz_rg r 601 0 16777215)) ∧ (∀ (v1 : Int32) (v2 : Int32) (v3 : Int32) (v4 : Int32) (v5 : Int32) (v6 : Int32) (a281 : Nat → Int32), v1.toInt ≤ 0 → 0 ≤ v1.toInt → v2.toInt ≤ 6 → 6 ≤ v2.toInt → v3.toInt ≤ 601 → 1 ≤ v3.toInt → v4.toInt ≤ 0 → 0 ≤ v4.toInt → v5.toInt ≤ 63 → 0 ≤ v5.toInt → v6.toInt ≤ 6 → 0 ≤ v6.toInt → v6.toInt + 1 ≤ v3.toInt → dz_rg a281 601 0 16777215 → ((v1.toInt = 0 ∧ v4.toInt < 1 ∧ v3.toInt = 1 + (v4.toInt - 0) * 6 + v6.toInt)) → 0 + 0 + ((1 - v4.toInt) - 1) * 8442 + 0 + (601 - v3.toInt) * 14 + 14 ≤ ((k : Nat) : Int) → dz_T ((F173_X10_fillFromNext fu c261_many a282 k).2.1 v1 v2 v3 v4 v5 v6 a281) (fun r => dz_rg r 601 0 16777215))
set_option maxHeartbeats 1000000 in
set_option maxRecDepth 10000 in
theorem t173_X10_fillFromNext_h1_g32 (fu : Nat) (hfu : 1000000000000 ≤ fu) (c261_many : Int32) (a282 : Nat → Int32) (p0 : c261_many.toInt ≤ 6) (p1 : 6 ≤ c261_many.toInt) (hr_a282 : dz_pt a282 [0, 1, 7]) (k : Nat) (ih : ∀ j9, j9 < k → p173_X10_fillFromNext_g32 fu c261_many a282 j9) : ∀ (v1 : Int32) (v2 : Int32) (v3 : Int32) (v4 : Int32) (a281 : Nat → Int32), v1.toInt ≤ 0 → 0 ≤ v1.toInt → v2.toInt ≤ 6 → 6 ≤ v2.toInt → v3.toInt ≤ 601 → 1 ≤ v3.toInt → v4.toInt ≤ 1 → 0 ≤ v4.toInt → v4.toInt + 1 ≤ v3.toInt → dz_rg a281 601 0 16777215 → ((v1.toInt = 0 ∧ v3.toInt = 1 + (v4.toInt - 0) * 6)) → 0 + 0 + (1 - v4.toInt) * 8442 + 7 ≤ ((k : Nat) : Int) → dz_T ((F173_X10_fillFromNext fu c261_many a282 k).1 v1 v2 v3 v4 a281) (fun r => dz_rg r 601 0 16777215) := by
  intro v1 v2 v3 v4 a281 i0 i1 i2 i3 i4 i5 i6 i7 i8 hr_a281 x0 hm
  obtain ⟨k0, rfl⟩ : ∃ x, k = x + 1 := ⟨k - 1, by omega⟩
  show dz_T (s173_X10_fillFromNext_1 fu c261_many a282 (F173_X10_fillFromNext fu c261_many a282 k0).2.1  v1 v2 v3 v4 a281) _
  unfold s173_X10_fillFromNext_1
  have hs : v1.toInt = 0 := by omega
  have e1 := dz_l1
  have e2 := dz_add (a := v1) (b := (1 : Int32)) (by omega) (by omega)
  refine dz_Tin (by omega) (by omega) ?_
  have e3 := dz_ptat (hr_a282) (i := (v1 + (1 : Int32))) (x := 1) 1 (by omega) (by decide)
  refine dz_Tle (fun h4 => ?_) (fun h4 => ?_)
  · skip
    exact dz_Ts (hr_a281)
  · skip
    have e5 := dz_l0
    exact (ih k0 (by omega)).2 v1 v2 v3 v4 (0 : Int32) (0 : Int32) a281 i0 i1 i2 i3 i4 i5 (by first | assumption | omega) i7 (by omega) (by omega) (by omega) (by omega) (by omega) (hr_a281) (by omega) (by omega)
set_option maxHeartbeats 1000000 in
set_option maxRecDepth 10000 in
theorem t173_X10_fillFromNext_h2_g32 (fu : Nat) (hfu : 1000000000000 ≤ fu) (c261_many : Int32) (a282 : Nat → Int32) (p0 : c261_many.toInt ≤ 6) (p1 : 6 ≤ c261_many.toInt) (hr_a282 : dz_pt a282 [0, 1, 7]) (k : Nat) (ih : ∀ j9, j9 < k → p173_X10_fillFromNext_g32 fu c261_many a282 j9) : ∀ (v1 : Int32) (v2 : Int32) (v3 : Int32) (v4 : Int32) (v5 : Int32) (v6 : Int32) (a281 : Nat → Int32), v1.toInt ≤ 0 → 0 ≤ v1.toInt → v2.toInt ≤ 6 → 6 ≤ v2.toInt → v3.toInt ≤ 601 → 1 ≤ v3.toInt → v4.toInt ≤ 0 → 0 ≤ v4.toInt → v5.toInt ≤ 63 → 0 ≤ v5.toInt → v6.toInt ≤ 6 → 0 ≤ v6.toInt → v6.toInt + 1 ≤ v3.toInt → dz_rg a281 601 0 16777215 → ((v1.toInt = 0 ∧ v4.toInt < 1 ∧ v3.toInt = 1 + (v4.toInt - 0) * 6 + v6.toInt)) → 0 + 0 + ((1 - v4.toInt) - 1) * 8442 + 0 + (601 - v3.toInt) * 14 + 14 ≤ ((k : Nat) : Int) → dz_T ((F173_X10_fillFromNext fu c261_many a282 k).2.1 v1 v2 v3 v4 v5 v6 a281) (fun r => dz_rg r 601 0 16777215) := by
  intro v1 v2 v3 v4 v5 v6 a281 i0 i1 i2 i3 i4 i5 i6 i7 i8 i9 i10 i11 i12 hr_a281 x0 hm
  obtain ⟨k0, rfl⟩ : ∃ x, k = x + 1 := ⟨k - 1, by omega⟩
  show dz_T (s173_X10_fillFromNext_2 fu c261_many a282 (F173_X10_fillFromNext fu c261_many a282 k0).1 (F173_X10_fillFromNext fu c261_many a282 k0).2.2  v1 v2 v3 v4 v5 v6 a281) _
  unfold s173_X10_fillFromNext_2
  have hs : v1.toInt = 0 := by omega
  refine dz_Tle (fun h1 => ?_) (fun h1 => ?_)
  · skip
    refine dz_Tin (by omega) (by omega) ?_
    have e2 := dz_l1
    have e3 := dz_add (a := v4) (b := (1 : Int32)) (by omega) (by omega)
    exact (ih k0 (by omega)).1 v1 v2 v3 (v4 + (1 : Int32)) (upd a281 v4.toNatClampNeg v5) i0 i1 i2 i3 i4 i5 (by omega) (by omega) (by omega) (dz_rgu (hr_a281) (by omega) (by omega)) (by omega) (by omega)
  · skip
    refine dz_Tin (by omega) (by omega) ?_
    have e4 := dz_rgat (hr_a281) (i := v3) (by omega) (by omega)
    have e5 := dz_l0
    refine dz_Teq (fun h6 => ?_) (fun h6 => ?_)
    · skip
      obtain ⟨k1, rfl⟩ : ∃ x, k0 = x + 1 := ⟨k0 - 1, by omega⟩
      show dz_T (s173_X10_fillFromNext_3 fu c261_many a282 (F173_X10_fillFromNext fu c261_many a282 k1).2.1 v1 v2 v3 v4 v5 v6 a281) _
      unfold s173_X10_fillFromNext_3
      have e7 := dz_l1
      have e8 := dz_add (a := v3) (b := (1 : Int32)) (by omega) (by omega)
      have e9 := dz_add (a := v6) (b := (1 : Int32)) (by omega) (by omega)
      exact (ih k1 (by omega)).2 v1 v2 (v3 + (1 : Int32)) v4 v5 (v6 + (1 : Int32)) a281 i0 i1 i2 i3 (by omega) (by omega) i6 i7 i8 i9 (by omega) (by omega) (by omega) (hr_a281) (by omega) (by omega)
    · skip
      obtain ⟨k2, rfl⟩ : ∃ x, k0 = x + 1 := ⟨k0 - 1, by omega⟩
      show dz_T (s173_X10_fillFromNext_3 fu c261_many a282 (F173_X10_fillFromNext fu c261_many a282 k2).2.1 v1 v2 v3 v4 (v5 ||| ((1 : Int32) <<< (v6 &&& (31 : Int32)))) v6 a281) _
      unfold s173_X10_fillFromNext_3
      have e10 := dz_l1
      have e11 := dz_add (a := v3) (b := (1 : Int32)) (by omega) (by omega)
      have e12 := dz_l31
      have e13 := dz_andr (a := v6) (b := (31 : Int32)) (by omega)
      have e14 := dz_andl (a := v6) (b := (31 : Int32)) (by omega)
      have e15 := dz_shl1 (b := v6) 0 5 (by omega) (by omega) (by omega)
      have e16 := dz_orb (a := v5) (b := ((1 : Int32) <<< (v6 &&& (31 : Int32)))) 6 (by omega) (by omega) (by omega) (by omega) (by omega)
      have e17 := dz_add (a := v6) (b := (1 : Int32)) (by omega) (by omega)
      exact (ih k2 (by omega)).2 v1 v2 (v3 + (1 : Int32)) v4 (v5 ||| ((1 : Int32) <<< (v6 &&& (31 : Int32)))) (v6 + (1 : Int32)) a281 i0 i1 i2 i3 (by omega) (by omega) i6 i7 (by omega) (by omega) (by omega) (by omega) (by omega) (hr_a281) (by omega) (by omega)
theorem t173_X10_fillFromNext_I_g32 (fu : Nat) (hfu : 1000000000000 ≤ fu) (c261_many : Int32) (a282 : Nat → Int32) (p0 : c261_many.toInt ≤ 6) (p1 : 6 ≤ c261_many.toInt) (hr_a282 : dz_pt a282 [0, 1, 7]) (k : Nat) : p173_X10_fillFromNext_g32 fu c261_many a282 k := by
  induction k using Nat.strongRecOn with
  | _ k ih => exact ⟨t173_X10_fillFromNext_h1_g32 fu hfu c261_many a282 p0 p1 hr_a282 k ih, t173_X10_fillFromNext_h2_g32 fu hfu c261_many a282 p0 p1 hr_a282 k ih⟩
set_option maxHeartbeats 1000000 in
set_option maxRecDepth 10000 in
theorem t173_X10_fillFromNext_E_g32 (fu : Nat) (hfu : 1000000000000 ≤ fu) (c261_many : Int32) (a282 : Nat → Int32) (v1 : Int32) (a281 : Nat → Int32) (p0 : c261_many.toInt ≤ 6) (p1 : 6 ≤ c261_many.toInt) (p2 : 0 ≤ v1.toInt) (p3 : v1.toInt ≤ 0) (hr_a282 : dz_pt a282 [0, 1, 7]) (hr_a281 : dz_rg a281 601 0 16777215) (kv : Nat) (hkv : 1000000000000 ≤ kv) : dz_T (s173_X10_fillFromNext_0 fu c261_many a282 (F173_X10_fillFromNext fu c261_many a282 kv).1  v1 a281) (fun r => dz_rg r 601 0 16777215) := by
  unfold s173_X10_fillFromNext_0
  have hl1 := dz_l1
  have he1 := dz_add (a := v1) (b := (1 : Int32)) (by omega) (by omega)
  have hv1 : v1.toInt = 0 := by omega
  have hsp : (v1.toInt = 0 ∧ (a282 v1.toNatClampNeg).toInt = 0 ∧ (a282 (v1 + (1 : Int32)).toNatClampNeg).toInt = 1) := ⟨hv1, dz_ptat (hr_a282) (i := v1) (x := 0) 0 (by omega) (by decide), dz_ptat (hr_a282) (i := (v1 + (1 : Int32))) (x := 1) 1 (by omega) (by decide)⟩
  have e1 := dz_l1
  have e2 := dz_add (a := v1) (b := (1 : Int32)) (by omega) (by omega)
  refine dz_Tin (by omega) (by omega) ?_
  refine dz_Tin (by omega) (by omega) ?_
  have e3 := dz_ptat (hr_a282) (i := (v1 + (1 : Int32))) (x := 1) 1 (by omega) (by decide)
  have e4 := dz_ptat (hr_a282) (i := v1) (x := 0) 0 (by omega) (by decide)
  exact (t173_X10_fillFromNext_I_g32 fu hfu c261_many a282 p0 p1 hr_a282 kv).1 v1 c261_many (a282 (v1 + (1 : Int32)).toNatClampNeg) (a282 v1.toNatClampNeg) a281 p3 p2 p0 p1 (by omega) (by omega) (by omega) (by omega) (by omega) (hr_a281) (by omega) (by omega)
theorem t173_X10_fillFromNext_g32 (fu : Nat) (hfu : 1000000000000 ≤ fu) (c261_many : Int32) (a282 : Nat → Int32) (v1 : Int32) (a281 : Nat → Int32) (p0 : c261_many.toInt ≤ 6) (p1 : 6 ≤ c261_many.toInt) (p2 : 0 ≤ v1.toInt) (p3 : v1.toInt ≤ 0) (hr_a282 : dz_pt a282 [0, 1, 7]) (hr_a281 : dz_rg a281 601 0 16777215) : dz_T (f173_X10_fillFromNext fu c261_many a282 v1 a281) (fun r => dz_rg r 601 0 16777215) :=
  t173_X10_fillFromNext_E_g32 fu hfu c261_many a282 v1 a281 p0 p1 p2 p3 hr_a282 hr_a281 fu hfu
abbrev p173_X10_fillFromNext_g33 (fu : Nat) (c261_many : Int32) (a282 : Nat → Int32) (k : Nat) : Prop :=
  (∀ (v1 : Int32) (v2 : Int32) (v3 : Int32) (v4 : Int32) (a281 : Nat → Int32), v1.toInt ≤ 1 → 0 ≤ v1.toInt → v2.toInt ≤ 6 → 6 ≤ v2.toInt → v3.toInt ≤ 601 → 0 ≤ v3.toInt → v4.toInt ≤ 43 → 0 ≤ v4.toInt → dz_rg a281 601 0 16777215 → ((v1.toInt = 0 ∧ v3.toInt = 1 + (v4.toInt - 0) * 6) ∨ (v1.toInt = 1 ∧ v3.toInt = 7 + (v4.toInt - 1) * 6)) → 0 + 0 + (43 - v4.toInt) * 8456 + 7 ≤ ((k : Nat) : Int) → dz_T ((F173_X10_fillFromNext fu c261_many a282 k).1 v1 v2 v3 v4 a281) (fun r => dz_rg r 601 0 16777215)) ∧ (∀ (v1 : Int32) (v2 : Int32) (v3 : Int32) (v4 : Int32) (v5 : Int32) (v6 : Int32) (a281 : Nat → Int32), v1.toInt ≤ 1 → 0 ≤ v1.toInt → v2.toInt ≤ 6 → 6 ≤ v2.toInt → v3.toInt ≤ 601 → 0 ≤ v3.toInt → v4.toInt ≤ 6 → 0 ≤ v4.toInt → v5.toInt ≤ 63 → 0 ≤ v5.toInt → v6.toInt ≤ 6 → 0 ≤ v6.toInt → v6.toInt ≤ v3.toInt → v4.toInt ≤ v1.toInt + 5 → dz_rg a281 601 0 16777215 → ((v1.toInt = 0 ∧ v4.toInt < 1 ∧ v3.toInt = 1 + (v4.toInt - 0) * 6 + v6.toInt) ∨ (v1.toInt = 1 ∧ v4.toInt < 7 ∧ v3.toInt = 7 + (v4.toInt - 1) * 6 + v6.toInt)) → 0 + 0 + ((43 - v4.toInt) - 1) * 8456 + 0 + (601 - v3.toInt) * 14 + 14 ≤ ((k : Nat) : Int) → dz_T ((F173_X10_fillFromNext fu c261_many a282 k).2.1 v1 v2 v3 v4 v5 v6 a281) (fun r => dz_rg r 601 0 16777215))
set_option maxHeartbeats 1000000 in
set_option maxRecDepth 10000 in
theorem t173_X10_fillFromNext_h1_g33 (fu : Nat) (hfu : 1000000000000 ≤ fu) (c261_many : Int32) (a282 : Nat → Int32) (p0 : c261_many.toInt ≤ 6) (p1 : 6 ≤ c261_many.toInt) (hr_a282 : dz_pt a282 [0, 1, 7, 43]) (k : Nat) (ih : ∀ j9, j9 < k → p173_X10_fillFromNext_g33 fu c261_many a282 j9) : ∀ (v1 : Int32) (v2 : Int32) (v3 : Int32) (v4 : Int32) (a281 : Nat → Int32), v1.toInt ≤ 1 → 0 ≤ v1.toInt → v2.toInt ≤ 6 → 6 ≤ v2.toInt → v3.toInt ≤ 601 → 0 ≤ v3.toInt → v4.toInt ≤ 43 → 0 ≤ v4.toInt → dz_rg a281 601 0 16777215 → ((v1.toInt = 0 ∧ v3.toInt = 1 + (v4.toInt - 0) * 6) ∨ (v1.toInt = 1 ∧ v3.toInt = 7 + (v4.toInt - 1) * 6)) → 0 + 0 + (43 - v4.toInt) * 8456 + 7 ≤ ((k : Nat) : Int) → dz_T ((F173_X10_fillFromNext fu c261_many a282 k).1 v1 v2 v3 v4 a281) (fun r => dz_rg r 601 0 16777215) := by
  intro v1 v2 v3 v4 a281 i0 i1 i2 i3 i4 i5 i6 i7 hr_a281 x0 hm
  obtain ⟨k0, rfl⟩ : ∃ x, k = x + 1 := ⟨k - 1, by omega⟩
  show dz_T (s173_X10_fillFromNext_1 fu c261_many a282 (F173_X10_fillFromNext fu c261_many a282 k0).2.1  v1 v2 v3 v4 a281) _
  unfold s173_X10_fillFromNext_1
  rcases (show v1.toInt = 0 ∨ v1.toInt = 1 by omega) with hs | hs
  · skip
    have e1 := dz_l1
    have e2 := dz_add (a := v1) (b := (1 : Int32)) (by omega) (by omega)
    refine dz_Tin (by omega) (by omega) ?_
    have e3 := dz_ptat (hr_a282) (i := (v1 + (1 : Int32))) (x := 1) 1 (by omega) (by decide)
    refine dz_Tle (fun h4 => ?_) (fun h4 => ?_)
    · skip
      exact dz_Ts (hr_a281)
    · skip
      have e5 := dz_l0
      exact (ih k0 (by omega)).2 v1 v2 v3 v4 (0 : Int32) (0 : Int32) a281 i0 i1 i2 i3 i4 i5 (by first | assumption | omega) i7 (by omega) (by omega) (by omega) (by omega) (by omega) (by first | assumption | omega) (hr_a281) (by omega) (by omega)
  · skip
    have e6 := dz_l1
    have e7 := dz_add (a := v1) (b := (1 : Int32)) (by omega) (by omega)
    refine dz_Tin (by omega) (by omega) ?_
    have e8 := dz_ptat (hr_a282) (i := (v1 + (1 : Int32))) (x := 7) 2 (by omega) (by decide)
    refine dz_Tle (fun h9 => ?_) (fun h9 => ?_)
    · skip
      exact dz_Ts (hr_a281)
    · skip
      have e10 := dz_l0
      exact (ih k0 (by omega)).2 v1 v2 v3 v4 (0 : Int32) (0 : Int32) a281 i0 i1 i2 i3 i4 i5 (by first | assumption | omega) i7 (by omega) (by omega) (by omega) (by omega) (by omega) (by first | assumption | omega) (hr_a281) (by omega) (by omega)
set_option maxHeartbeats 1000000 in
set_option maxRecDepth 10000 in
theorem t173_X10_fillFromNext_h2_g33 (fu : Nat) (hfu : 1000000000000 ≤ fu) (c261_many : Int32) (a282 : Nat → Int32) (p0 : c261_many.toInt ≤ 6) (p1 : 6 ≤ c261_many.toInt) (hr_a282 : dz_pt a282 [0, 1, 7, 43]) (k : Nat) (ih : ∀ j9, j9 < k → p173_X10_fillFromNext_g33 fu c261_many a282 j9) : ∀ (v1 : Int32) (v2 : Int32) (v3 : Int32) (v4 : Int32) (v5 : Int32) (v6 : Int32) (a281 : Nat → Int32), v1.toInt ≤ 1 → 0 ≤ v1.toInt → v2.toInt ≤ 6 → 6 ≤ v2.toInt → v3.toInt ≤ 601 → 0 ≤ v3.toInt → v4.toInt ≤ 6 → 0 ≤ v4.toInt → v5.toInt ≤ 63 → 0 ≤ v5.toInt → v6.toInt ≤ 6 → 0 ≤ v6.toInt → v6.toInt ≤ v3.toInt → v4.toInt ≤ v1.toInt + 5 → dz_rg a281 601 0 16777215 → ((v1.toInt = 0 ∧ v4.toInt < 1 ∧ v3.toInt = 1 + (v4.toInt - 0) * 6 + v6.toInt) ∨ (v1.toInt = 1 ∧ v4.toInt < 7 ∧ v3.toInt = 7 + (v4.toInt - 1) * 6 + v6.toInt)) → 0 + 0 + ((43 - v4.toInt) - 1) * 8456 + 0 + (601 - v3.toInt) * 14 + 14 ≤ ((k : Nat) : Int) → dz_T ((F173_X10_fillFromNext fu c261_many a282 k).2.1 v1 v2 v3 v4 v5 v6 a281) (fun r => dz_rg r 601 0 16777215) := by
  intro v1 v2 v3 v4 v5 v6 a281 i0 i1 i2 i3 i4 i5 i6 i7 i8 i9 i10 i11 i12 i13 hr_a281 x0 hm
  obtain ⟨k0, rfl⟩ : ∃ x, k = x + 1 := ⟨k - 1, by omega⟩
  show dz_T (s173_X10_fillFromNext_2 fu c261_many a282 (F173_X10_fillFromNext fu c261_many a282 k0).1 (F173_X10_fillFromNext fu c261_many a282 k0).2.2  v1 v2 v3 v4 v5 v6 a281) _
  unfold s173_X10_fillFromNext_2
  rcases (show v1.toInt = 0 ∨ v1.toInt = 1 by omega) with hs | hs
  · skip
    refine dz_Tle (fun h1 => ?_) (fun h1 => ?_)
    · skip
      refine dz_Tin (by omega) (by omega) ?_
      have e2 := dz_l1
      have e3 := dz_add (a := v4) (b := (1 : Int32)) (by omega) (by omega)
      exact (ih k0 (by omega)).1 v1 v2 v3 (v4 + (1 : Int32)) (upd a281 v4.toNatClampNeg v5) i0 i1 i2 i3 i4 i5 (by omega) (by omega) (dz_rgu (hr_a281) (by omega) (by omega)) (by omega) (by omega)
    · skip
      refine dz_Tin (by omega) (by omega) ?_
      have e4 := dz_rgat (hr_a281) (i := v3) (by omega) (by omega)
      have e5 := dz_l0
      refine dz_Teq (fun h6 => ?_) (fun h6 => ?_)
      · skip
        obtain ⟨k1, rfl⟩ : ∃ x, k0 = x + 1 := ⟨k0 - 1, by omega⟩
        show dz_T (s173_X10_fillFromNext_3 fu c261_many a282 (F173_X10_fillFromNext fu c261_many a282 k1).2.1 v1 v2 v3 v4 v5 v6 a281) _
        unfold s173_X10_fillFromNext_3
        have e7 := dz_l1
        have e8 := dz_add (a := v3) (b := (1 : Int32)) (by omega) (by omega)
        have e9 := dz_add (a := v6) (b := (1 : Int32)) (by omega) (by omega)
        exact (ih k1 (by omega)).2 v1 v2 (v3 + (1 : Int32)) v4 v5 (v6 + (1 : Int32)) a281 i0 i1 i2 i3 (by omega) (by omega) i6 i7 i8 i9 (by omega) (by omega) (by omega) i13 (hr_a281) (by omega) (by omega)
      · skip
        obtain ⟨k2, rfl⟩ : ∃ x, k0 = x + 1 := ⟨k0 - 1, by omega⟩
        show dz_T (s173_X10_fillFromNext_3 fu c261_many a282 (F173_X10_fillFromNext fu c261_many a282 k2).2.1 v1 v2 v3 v4 (v5 ||| ((1 : Int32) <<< (v6 &&& (31 : Int32)))) v6 a281) _
        unfold s173_X10_fillFromNext_3
        have e10 := dz_l1
        have e11 := dz_add (a := v3) (b := (1 : Int32)) (by omega) (by omega)
        have e12 := dz_l31
        have e13 := dz_andr (a := v6) (b := (31 : Int32)) (by omega)
        have e14 := dz_andl (a := v6) (b := (31 : Int32)) (by omega)
        have e15 := dz_shl1 (b := v6) 0 5 (by omega) (by omega) (by omega)
        have e16 := dz_orb (a := v5) (b := ((1 : Int32) <<< (v6 &&& (31 : Int32)))) 6 (by omega) (by omega) (by omega) (by omega) (by omega)
        have e17 := dz_add (a := v6) (b := (1 : Int32)) (by omega) (by omega)
        exact (ih k2 (by omega)).2 v1 v2 (v3 + (1 : Int32)) v4 (v5 ||| ((1 : Int32) <<< (v6 &&& (31 : Int32)))) (v6 + (1 : Int32)) a281 i0 i1 i2 i3 (by omega) (by omega) i6 i7 (by omega) (by omega) (by omega) (by omega) (by omega) i13 (hr_a281) (by omega) (by omega)
  · skip
    refine dz_Tle (fun h18 => ?_) (fun h18 => ?_)
    · skip
      refine dz_Tin (by omega) (by omega) ?_
      have e19 := dz_l1
      have e20 := dz_add (a := v4) (b := (1 : Int32)) (by omega) (by omega)
      exact (ih k0 (by omega)).1 v1 v2 v3 (v4 + (1 : Int32)) (upd a281 v4.toNatClampNeg v5) i0 i1 i2 i3 i4 i5 (by omega) (by omega) (dz_rgu (hr_a281) (by omega) (by omega)) (by omega) (by omega)
    · skip
      refine dz_Tin (by omega) (by omega) ?_
      have e21 := dz_rgat (hr_a281) (i := v3) (by omega) (by omega)
      have e22 := dz_l0
      refine dz_Teq (fun h23 => ?_) (fun h23 => ?_)
      · skip
        obtain ⟨k3, rfl⟩ : ∃ x, k0 = x + 1 := ⟨k0 - 1, by omega⟩
        show dz_T (s173_X10_fillFromNext_3 fu c261_many a282 (F173_X10_fillFromNext fu c261_many a282 k3).2.1 v1 v2 v3 v4 v5 v6 a281) _
        unfold s173_X10_fillFromNext_3
        have e24 := dz_l1
        have e25 := dz_add (a := v3) (b := (1 : Int32)) (by omega) (by omega)
        have e26 := dz_add (a := v6) (b := (1 : Int32)) (by omega) (by omega)
        exact (ih k3 (by omega)).2 v1 v2 (v3 + (1 : Int32)) v4 v5 (v6 + (1 : Int32)) a281 i0 i1 i2 i3 (by omega) (by omega) i6 i7 i8 i9 (by omega) (by omega) (by omega) i13 (hr_a281) (by omega) (by omega)
      · skip
        obtain ⟨k4, rfl⟩ : ∃ x, k0 = x + 1 := ⟨k0 - 1, by omega⟩
        show dz_T (s173_X10_fillFromNext_3 fu c261_many a282 (F173_X10_fillFromNext fu c261_many a282 k4).2.1 v1 v2 v3 v4 (v5 ||| ((1 : Int32) <<< (v6 &&& (31 : Int32)))) v6 a281) _
        unfold s173_X10_fillFromNext_3
        have e27 := dz_l1
        have e28 := dz_add (a := v3) (b := (1 : Int32)) (by omega) (by omega)
        have e29 := dz_l31
        have e30 := dz_andr (a := v6) (b := (31 : Int32)) (by omega)
        have e31 := dz_andl (a := v6) (b := (31 : Int32)) (by omega)
        have e32 := dz_shl1 (b := v6) 0 5 (by omega) (by omega) (by omega)
        have e33 := dz_orb (a := v5) (b := ((1 : Int32) <<< (v6 &&& (31 : Int32)))) 6 (by omega) (by omega) (by omega) (by omega) (by omega)
        have e34 := dz_add (a := v6) (b := (1 : Int32)) (by omega) (by omega)
        exact (ih k4 (by omega)).2 v1 v2 (v3 + (1 : Int32)) v4 (v5 ||| ((1 : Int32) <<< (v6 &&& (31 : Int32)))) (v6 + (1 : Int32)) a281 i0 i1 i2 i3 (by omega) (by omega) i6 i7 (by omega) (by omega) (by omega) (by omega) (by omega) i13 (hr_a281) (by omega) (by omega)
theorem t173_X10_fillFromNext_I_g33 (fu : Nat) (hfu : 1000000000000 ≤ fu) (c261_many : Int32) (a282 : Nat → Int32) (p0 : c261_many.toInt ≤ 6) (p1 : 6 ≤ c261_many.toInt) (hr_a282 : dz_pt a282 [0, 1, 7, 43]) (k : Nat) : p173_X10_fillFromNext_g33 fu c261_many a282 k := by
  induction k using Nat.strongRecOn with
  | _ k ih => exact ⟨t173_X10_fillFromNext_h1_g33 fu hfu c261_many a282 p0 p1 hr_a282 k ih, t173_X10_fillFromNext_h2_g33 fu hfu c261_many a282 p0 p1 hr_a282 k ih⟩
set_option maxHeartbeats 1000000 in
set_option maxRecDepth 10000 in
theorem t173_X10_fillFromNext_E_g33 (fu : Nat) (hfu : 1000000000000 ≤ fu) (c261_many : Int32) (a282 : Nat → Int32) (v1 : Int32) (a281 : Nat → Int32) (p0 : c261_many.toInt ≤ 6) (p1 : 6 ≤ c261_many.toInt) (p2 : 0 ≤ v1.toInt) (p3 : v1.toInt ≤ 1) (hr_a282 : dz_pt a282 [0, 1, 7, 43]) (hr_a281 : dz_rg a281 601 0 16777215) (kv : Nat) (hkv : 1000000000000 ≤ kv) : dz_T (s173_X10_fillFromNext_0 fu c261_many a282 (F173_X10_fillFromNext fu c261_many a282 kv).1  v1 a281) (fun r => dz_rg r 601 0 16777215) := by
  unfold s173_X10_fillFromNext_0
  have hl1 := dz_l1
  have he1 := dz_add (a := v1) (b := (1 : Int32)) (by omega) (by omega)
  have hsp : (v1.toInt = 0 ∧ (a282 v1.toNatClampNeg).toInt = 0 ∧ (a282 (v1 + (1 : Int32)).toNatClampNeg).toInt = 1) ∨ (v1.toInt = 1 ∧ (a282 v1.toNatClampNeg).toInt = 1 ∧ (a282 (v1 + (1 : Int32)).toNatClampNeg).toInt = 7) := by
    rcases (show v1.toInt = 0 ∨ v1.toInt = 1 by omega) with h | h
    · exact (Or.inl ⟨h, dz_ptat (hr_a282) (i := v1) (x := 0) 0 (by omega) (by decide), dz_ptat (hr_a282) (i := (v1 + (1 : Int32))) (x := 1) 1 (by omega) (by decide)⟩)
    · exact (Or.inr (⟨h, dz_ptat (hr_a282) (i := v1) (x := 1) 1 (by omega) (by decide), dz_ptat (hr_a282) (i := (v1 + (1 : Int32))) (x := 7) 2 (by omega) (by decide)⟩))
  have e1 := dz_l1
  have e2 := dz_add (a := v1) (b := (1 : Int32)) (by omega) (by omega)
  refine dz_Tin (by omega) (by omega) ?_
  refine dz_Tin (by omega) (by omega) ?_
  have e3 := dz_ptrg (hr_a282) (i := (v1 + (1 : Int32))) 0 43 (by decide) (by omega) (by show _ < ((4 : Nat) : Int); omega)
  have e4 := dz_ptrg (hr_a282) (i := v1) 0 43 (by decide) (by omega) (by show _ < ((4 : Nat) : Int); omega)
  exact (t173_X10_fillFromNext_I_g33 fu hfu c261_many a282 p0 p1 hr_a282 kv).1 v1 c261_many (a282 (v1 + (1 : Int32)).toNatClampNeg) (a282 v1.toNatClampNeg) a281 p3 p2 p0 p1 (by omega) (by omega) (by omega) (by omega) (hr_a281) (by omega) (by omega)
theorem t173_X10_fillFromNext_g33 (fu : Nat) (hfu : 1000000000000 ≤ fu) (c261_many : Int32) (a282 : Nat → Int32) (v1 : Int32) (a281 : Nat → Int32) (p0 : c261_many.toInt ≤ 6) (p1 : 6 ≤ c261_many.toInt) (p2 : 0 ≤ v1.toInt) (p3 : v1.toInt ≤ 1) (hr_a282 : dz_pt a282 [0, 1, 7, 43]) (hr_a281 : dz_rg a281 601 0 16777215) : dz_T (f173_X10_fillFromNext fu c261_many a282 v1 a281) (fun r => dz_rg r 601 0 16777215) :=
  t173_X10_fillFromNext_E_g33 fu hfu c261_many a282 v1 a281 p0 p1 p2 p3 hr_a282 hr_a281 fu hfu
abbrev p173_X10_fillFromNext_g34 (fu : Nat) (c261_many : Int32) (a282 : Nat → Int32) (k : Nat) : Prop :=
  (∀ (v1 : Int32) (v2 : Int32) (v3 : Int32) (v4 : Int32) (a281 : Nat → Int32), v1.toInt ≤ 2 → 0 ≤ v1.toInt → v2.toInt ≤ 6 → 6 ≤ v2.toInt → v3.toInt ≤ 601 → 0 ≤ v3.toInt → v4.toInt ≤ 259 → 0 ≤ v4.toInt → dz_rg a281 601 0 16777215 → ((v1.toInt = 0 ∧ v3.toInt = 1 + (v4.toInt - 0) * 6) ∨ (v1.toInt = 1 ∧ v3.toInt = 7 + (v4.toInt - 1) * 6) ∨ (v1.toInt = 2 ∧ v3.toInt = 43 + (v4.toInt - 7) * 6)) → 0 + 0 + (259 - v4.toInt) * 8456 + 7 ≤ ((k : Nat) : Int) → dz_T ((F173_X10_fillFromNext fu c261_many a282 k).1 v1 v2 v3 v4 a281) (fun r => dz_rg r 601 0 16777215)) ∧ (∀ (v1 : Int32) (v2 : Int32) (v3 : Int32) (v4 : Int32) (v5 : Int32) (v6 : Int32) (a281 : Nat → Int32), v1.toInt ≤ 2 → 0 ≤ v1.toInt → v2.toInt ≤ 6 → 6 ≤ v2.toInt → v3.toInt ≤ 601 → 0 ≤ v3.toInt → v4.toInt ≤ 42 → 0 ≤ v4.toInt → v5.toInt ≤ 63 → 0 ≤ v5.toInt → v6.toInt ≤ 6 → 0 ≤ v6.toInt → v6.toInt ≤ v3.toInt → dz_rg a281 601 0 16777215 → ((v1.toInt = 0 ∧ v4.toInt < 1 ∧ v3.toInt = 1 + (v4.toInt - 0) * 6 + v6.toInt) ∨ (v1.toInt = 1 ∧ v4.toInt < 7 ∧ v3.toInt = 7 + (v4.toInt - 1) * 6 + v6.toInt) ∨ (v1.toInt = 2 ∧ v4.toInt < 43 ∧ v3.toInt = 43 + (v4.toInt - 7) * 6 + v6.toInt)) → 0 + 0 + ((259 - v4.toInt) - 1) * 8456 + 0 + (601 - v3.toInt) * 14 + 14 ≤ ((k : Nat) : Int) → dz_T ((F173_X10_fillFromNext fu c261_many a282 k).2.1 v1 v2 v3 v4 v5 v6 a281) (fun r => dz_rg r 601 0 16777215))
set_option maxHeartbeats 1000000 in
set_option maxRecDepth 10000 in
theorem t173_X10_fillFromNext_h1_g34 (fu : Nat) (hfu : 1000000000000 ≤ fu) (c261_many : Int32) (a282 : Nat → Int32) (p0 : c261_many.toInt ≤ 6) (p1 : 6 ≤ c261_many.toInt) (hr_a282 : dz_pt a282 [0, 1, 7, 43, 259]) (k : Nat) (ih : ∀ j9, j9 < k → p173_X10_fillFromNext_g34 fu c261_many a282 j9) : ∀ (v1 : Int32) (v2 : Int32) (v3 : Int32) (v4 : Int32) (a281 : Nat → Int32), v1.toInt ≤ 2 → 0 ≤ v1.toInt → v2.toInt ≤ 6 → 6 ≤ v2.toInt → v3.toInt ≤ 601 → 0 ≤ v3.toInt → v4.toInt ≤ 259 → 0 ≤ v4.toInt → dz_rg a281 601 0 16777215 → ((v1.toInt = 0 ∧ v3.toInt = 1 + (v4.toInt - 0) * 6) ∨ (v1.toInt = 1 ∧ v3.toInt = 7 + (v4.toInt - 1) * 6) ∨ (v1.toInt = 2 ∧ v3.toInt = 43 + (v4.toInt - 7) * 6)) → 0 + 0 + (259 - v4.toInt) * 8456 + 7 ≤ ((k : Nat) : Int) → dz_T ((F173_X10_fillFromNext fu c261_many a282 k).1 v1 v2 v3 v4 a281) (fun r => dz_rg r 601 0 16777215) := by
  intro v1 v2 v3 v4 a281 i0 i1 i2 i3 i4 i5 i6 i7 hr_a281 x0 hm
  obtain ⟨k0, rfl⟩ : ∃ x, k = x + 1 := ⟨k - 1, by omega⟩
  show dz_T (s173_X10_fillFromNext_1 fu c261_many a282 (F173_X10_fillFromNext fu c261_many a282 k0).2.1  v1 v2 v3 v4 a281) _
  unfold s173_X10_fillFromNext_1
  rcases (show v1.toInt = 0 ∨ v1.toInt = 1 ∨ v1.toInt = 2 by omega) with hs | hs | hs
  · skip
    have e1 := dz_l1
    have e2 := dz_add (a := v1) (b := (1 : Int32)) (by omega) (by omega)
    refine dz_Tin (by omega) (by omega) ?_
    have e3 := dz_ptat (hr_a282) (i := (v1 + (1 : Int32))) (x := 1) 1 (by omega) (by decide)
    refine dz_Tle (fun h4 => ?_) (fun h4 => ?_)
    · skip
      exact dz_Ts (hr_a281)
    · skip
      have e5 := dz_l0
      exact (ih k0 (by omega)).2 v1 v2 v3 v4 (0 : Int32) (0 : Int32) a281 i0 i1 i2 i3 i4 i5 (by first | assumption | omega) i7 (by omega) (by omega) (by omega) (by omega) (by omega) (hr_a281) (by omega) (by omega)
  · skip
    have e6 := dz_l1
    have e7 := dz_add (a := v1) (b := (1 : Int32)) (by omega) (by omega)
    refine dz_Tin (by omega) (by omega) ?_
    have e8 := dz_ptat (hr_a282) (i := (v1 + (1 : Int32))) (x := 7) 2 (by omega) (by decide)
    refine dz_Tle (fun h9 => ?_) (fun h9 => ?_)
    · skip
      exact dz_Ts (hr_a281)
    · skip
      have e10 := dz_l0
      exact (ih k0 (by omega)).2 v1 v2 v3 v4 (0 : Int32) (0 : Int32) a281 i0 i1 i2 i3 i4 i5 (by first | assumption | omega) i7 (by omega) (by omega) (by omega) (by omega) (by omega) (hr_a281) (by omega) (by omega)
  · skip
    have e11 := dz_l1
    have e12 := dz_add (a := v1) (b := (1 : Int32)) (by omega) (by omega)
    refine dz_Tin (by omega) (by omega) ?_
    have e13 := dz_ptat (hr_a282) (i := (v1 + (1 : Int32))) (x := 43) 3 (by omega) (by decide)
    refine dz_Tle (fun h14 => ?_) (fun h14 => ?_)
    · skip
      exact dz_Ts (hr_a281)
    · skip
      have e15 := dz_l0
      exact (ih k0 (by omega)).2 v1 v2 v3 v4 (0 : Int32) (0 : Int32) a281 i0 i1 i2 i3 i4 i5 (by first | assumption | omega) i7 (by omega) (by omega) (by omega) (by omega) (by omega) (hr_a281) (by omega) (by omega)
set_option maxHeartbeats 1000000 in
set_option maxRecDepth 10000 in
theorem t173_X10_fillFromNext_h2_g34 (fu : Nat) (hfu : 1000000000000 ≤ fu) (c261_many : Int32) (a282 : Nat → Int32) (p0 : c261_many.toInt ≤ 6) (p1 : 6 ≤ c261_many.toInt) (hr_a282 : dz_pt a282 [0, 1, 7, 43, 259]) (k : Nat) (ih : ∀ j9, j9 < k → p173_X10_fillFromNext_g34 fu c261_many a282 j9) : ∀ (v1 : Int32) (v2 : Int32) (v3 : Int32) (v4 : Int32) (v5 : Int32) (v6 : Int32) (a281 : Nat → Int32), v1.toInt ≤ 2 → 0 ≤ v1.toInt → v2.toInt ≤ 6 → 6 ≤ v2.toInt → v3.toInt ≤ 601 → 0 ≤ v3.toInt → v4.toInt ≤ 42 → 0 ≤ v4.toInt → v5.toInt ≤ 63 → 0 ≤ v5.toInt → v6.toInt ≤ 6 → 0 ≤ v6.toInt → v6.toInt ≤ v3.toInt → dz_rg a281 601 0 16777215 → ((v1.toInt = 0 ∧ v4.toInt < 1 ∧ v3.toInt = 1 + (v4.toInt - 0) * 6 + v6.toInt) ∨ (v1.toInt = 1 ∧ v4.toInt < 7 ∧ v3.toInt = 7 + (v4.toInt - 1) * 6 + v6.toInt) ∨ (v1.toInt = 2 ∧ v4.toInt < 43 ∧ v3.toInt = 43 + (v4.toInt - 7) * 6 + v6.toInt)) → 0 + 0 + ((259 - v4.toInt) - 1) * 8456 + 0 + (601 - v3.toInt) * 14 + 14 ≤ ((k : Nat) : Int) → dz_T ((F173_X10_fillFromNext fu c261_many a282 k).2.1 v1 v2 v3 v4 v5 v6 a281) (fun r => dz_rg r 601 0 16777215) := by
  intro v1 v2 v3 v4 v5 v6 a281 i0 i1 i2 i3 i4 i5 i6 i7 i8 i9 i10 i11 i12 hr_a281 x0 hm
  obtain ⟨k0, rfl⟩ : ∃ x, k = x + 1 := ⟨k - 1, by omega⟩
  show dz_T (s173_X10_fillFromNext_2 fu c261_many a282 (F173_X10_fillFromNext fu c261_many a282 k0).1 (F173_X10_fillFromNext fu c261_many a282 k0).2.2  v1 v2 v3 v4 v5 v6 a281) _
  unfold s173_X10_fillFromNext_2
  rcases (show v1.toInt = 0 ∨ v1.toInt = 1 ∨ v1.toInt = 2 by omega) with hs | hs | hs
  · skip
    refine dz_Tle (fun h1 => ?_) (fun h1 => ?_)
    · skip
      refine dz_Tin (by omega) (by omega) ?_
      have e2 := dz_l1
      have e3 := dz_add (a := v4) (b := (1 : Int32)) (by omega) (by omega)
      exact (ih k0 (by omega)).1 v1 v2 v3 (v4 + (1 : Int32)) (upd a281 v4.toNatClampNeg v5) i0 i1 i2 i3 i4 i5 (by omega) (by omega) (dz_rgu (hr_a281) (by omega) (by omega)) (by omega) (by omega)
    · skip
      refine dz_Tin (by omega) (by omega) ?_
      have e4 := dz_rgat (hr_a281) (i := v3) (by omega) (by omega)
      have e5 := dz_l0
      refine dz_Teq (fun h6 => ?_) (fun h6 => ?_)
      · skip
        obtain ⟨k1, rfl⟩ : ∃ x, k0 = x + 1 := ⟨k0 - 1, by omega⟩
        show dz_T (s173_X10_fillFromNext_3 fu c261_many a282 (F173_X10_fillFromNext fu c261_many a282 k1).2.1 v1 v2 v3 v4 v5 v6 a281) _
        unfold s173_X10_fillFromNext_3
        have e7 := dz_l1
        have e8 := dz_add (a := v3) (b := (1 : Int32)) (by omega) (by omega)
        have e9 := dz_add (a := v6) (b := (1 : Int32)) (by omega) (by omega)
        exact (ih k1 (by omega)).2 v1 v2 (v3 + (1 : Int32)) v4 v5 (v6 + (1 : Int32)) a281 i0 i1 i2 i3 (by omega) (by omega) i6 i7 i8 i9 (by omega) (by omega) (by omega) (hr_a281) (by omega) (by omega)
      · skip
        obtain ⟨k2, rfl⟩ : ∃ x, k0 = x + 1 := ⟨k0 - 1, by omega⟩
        show dz_T (s173_X10_fillFromNext_3 fu c261_many a282 (F173_X10_fillFromNext fu c261_many a282 k2).2.1 v1 v2 v3 v4 (v5 ||| ((1 : Int32) <<< (v6 &&& (31 : Int32)))) v6 a281) _
        unfold s173_X10_fillFromNext_3
        have e10 := dz_l1
        have e11 := dz_add (a := v3) (b := (1 : Int32)) (by omega) (by omega)
        have e12 := dz_l31
        have e13 := dz_andr (a := v6) (b := (31 : Int32)) (by omega)
        have e14 := dz_andl (a := v6) (b := (31 : Int32)) (by omega)
        have e15 := dz_shl1 (b := v6) 0 5 (by omega) (by omega) (by omega)
        have e16 := dz_orb (a := v5) (b := ((1 : Int32) <<< (v6 &&& (31 : Int32)))) 6 (by omega) (by omega) (by omega) (by omega) (by omega)
        have e17 := dz_add (a := v6) (b := (1 : Int32)) (by omega) (by omega)
        exact (ih k2 (by omega)).2 v1 v2 (v3 + (1 : Int32)) v4 (v5 ||| ((1 : Int32) <<< (v6 &&& (31 : Int32)))) (v6 + (1 : Int32)) a281 i0 i1 i2 i3 (by omega) (by omega) i6 i7 (by omega) (by omega) (by omega) (by omega) (by omega) (hr_a281) (by omega) (by omega)
  · skip
    refine dz_Tle (fun h18 => ?_) (fun h18 => ?_)
    · skip
      refine dz_Tin (by omega) (by omega) ?_
      have e19 := dz_l1
      have e20 := dz_add (a := v4) (b := (1 : Int32)) (by omega) (by omega)
      exact (ih k0 (by omega)).1 v1 v2 v3 (v4 + (1 : Int32)) (upd a281 v4.toNatClampNeg v5) i0 i1 i2 i3 i4 i5 (by omega) (by omega) (dz_rgu (hr_a281) (by omega) (by omega)) (by omega) (by omega)
    · skip
      refine dz_Tin (by omega) (by omega) ?_
      have e21 := dz_rgat (hr_a281) (i := v3) (by omega) (by omega)
      have e22 := dz_l0
      refine dz_Teq (fun h23 => ?_) (fun h23 => ?_)
      · skip
        obtain ⟨k3, rfl⟩ : ∃ x, k0 = x + 1 := ⟨k0 - 1, by omega⟩
        show dz_T (s173_X10_fillFromNext_3 fu c261_many a282 (F173_X10_fillFromNext fu c261_many a282 k3).2.1 v1 v2 v3 v4 v5 v6 a281) _
        unfold s173_X10_fillFromNext_3
        have e24 := dz_l1
        have e25 := dz_add (a := v3) (b := (1 : Int32)) (by omega) (by omega)
        have e26 := dz_add (a := v6) (b := (1 : Int32)) (by omega) (by omega)
        exact (ih k3 (by omega)).2 v1 v2 (v3 + (1 : Int32)) v4 v5 (v6 + (1 : Int32)) a281 i0 i1 i2 i3 (by omega) (by omega) i6 i7 i8 i9 (by omega) (by omega) (by omega) (hr_a281) (by omega) (by omega)
      · skip
        obtain ⟨k4, rfl⟩ : ∃ x, k0 = x + 1 := ⟨k0 - 1, by omega⟩
        show dz_T (s173_X10_fillFromNext_3 fu c261_many a282 (F173_X10_fillFromNext fu c261_many a282 k4).2.1 v1 v2 v3 v4 (v5 ||| ((1 : Int32) <<< (v6 &&& (31 : Int32)))) v6 a281) _
        unfold s173_X10_fillFromNext_3
        have e27 := dz_l1
        have e28 := dz_add (a := v3) (b := (1 : Int32)) (by omega) (by omega)
        have e29 := dz_l31
        have e30 := dz_andr (a := v6) (b := (31 : Int32)) (by omega)
        have e31 := dz_andl (a := v6) (b := (31 : Int32)) (by omega)
        have e32 := dz_shl1 (b := v6) 0 5 (by omega) (by omega) (by omega)
        have e33 := dz_orb (a := v5) (b := ((1 : Int32) <<< (v6 &&& (31 : Int32)))) 6 (by omega) (by omega) (by omega) (by omega) (by omega)
        have e34 := dz_add (a := v6) (b := (1 : Int32)) (by omega) (by omega)
        exact (ih k4 (by omega)).2 v1 v2 (v3 + (1 : Int32)) v4 (v5 ||| ((1 : Int32) <<< (v6 &&& (31 : Int32)))) (v6 + (1 : Int32)) a281 i0 i1 i2 i3 (by omega) (by omega) i6 i7 (by omega) (by omega) (by omega) (by omega) (by omega) (hr_a281) (by omega) (by omega)
  · skip
    refine dz_Tle (fun h35 => ?_) (fun h35 => ?_)
    · skip
      refine dz_Tin (by omega) (by omega) ?_
      have e36 := dz_l1
      have e37 := dz_add (a := v4) (b := (1 : Int32)) (by omega) (by omega)
      exact (ih k0 (by omega)).1 v1 v2 v3 (v4 + (1 : Int32)) (upd a281 v4.toNatClampNeg v5) i0 i1 i2 i3 i4 i5 (by omega) (by omega) (dz_rgu (hr_a281) (by omega) (by omega)) (by omega) (by omega)
    · skip
      refine dz_Tin (by omega) (by omega) ?_
      have e38 := dz_rgat (hr_a281) (i := v3) (by omega) (by omega)
      have e39 := dz_l0
      refine dz_Teq (fun h40 => ?_) (fun h40 => ?_)
      · skip
        obtain ⟨k5, rfl⟩ : ∃ x, k0 = x + 1 := ⟨k0 - 1, by omega⟩
        show dz_T (s173_X10_fillFromNext_3 fu c261_many a282 (F173_X10_fillFromNext fu c261_many a282 k5).2.1 v1 v2 v3 v4 v5 v6 a281) _
        unfold s173_X10_fillFromNext_3
        have e41 := dz_l1
        have e42 := dz_add (a := v3) (b := (1 : Int32)) (by omega) (by omega)
        have e43 := dz_add (a := v6) (b := (1 : Int32)) (by omega) (by omega)
        exact (ih k5 (by omega)).2 v1 v2 (v3 + (1 : Int32)) v4 v5 (v6 + (1 : Int32)) a281 i0 i1 i2 i3 (by omega) (by omega) i6 i7 i8 i9 (by omega) (by omega) (by omega) (hr_a281) (by omega) (by omega)
      · skip
        obtain ⟨k6, rfl⟩ : ∃ x, k0 = x + 1 := ⟨k0 - 1, by omega⟩
        show dz_T (s173_X10_fillFromNext_3 fu c261_many a282 (F173_X10_fillFromNext fu c261_many a282 k6).2.1 v1 v2 v3 v4 (v5 ||| ((1 : Int32) <<< (v6 &&& (31 : Int32)))) v6 a281) _
        unfold s173_X10_fillFromNext_3
        have e44 := dz_l1
        have e45 := dz_add (a := v3) (b := (1 : Int32)) (by omega) (by omega)
        have e46 := dz_l31
        have e47 := dz_andr (a := v6) (b := (31 : Int32)) (by omega)
        have e48 := dz_andl (a := v6) (b := (31 : Int32)) (by omega)
        have e49 := dz_shl1 (b := v6) 0 5 (by omega) (by omega) (by omega)
        have e50 := dz_orb (a := v5) (b := ((1 : Int32) <<< (v6 &&& (31 : Int32)))) 6 (by omega) (by omega) (by omega) (by omega) (by omega)
        have e51 := dz_add (a := v6) (b := (1 : Int32)) (by omega) (by omega)
        exact (ih k6 (by omega)).2 v1 v2 (v3 + (1 : Int32)) v4 (v5 ||| ((1 : Int32) <<< (v6 &&& (31 : Int32)))) (v6 + (1 : Int32)) a281 i0 i1 i2 i3 (by omega) (by omega) i6 i7 (by omega) (by omega) (by omega) (by omega) (by omega) (hr_a281) (by omega) (by omega)
theorem t173_X10_fillFromNext_I_g34 (fu : Nat) (hfu : 1000000000000 ≤ fu) (c261_many : Int32) (a282 : Nat → Int32) (p0 : c261_many.toInt ≤ 6) (p1 : 6 ≤ c261_many.toInt) (hr_a282 : dz_pt a282 [0, 1, 7, 43, 259]) (k : Nat) : p173_X10_fillFromNext_g34 fu c261_many a282 k := by
  induction k using Nat.strongRecOn with
  | _ k ih => exact ⟨t173_X10_fillFromNext_h1_g34 fu hfu c261_many a282 p0 p1 hr_a282 k ih, t173_X10_fillFromNext_h2_g34 fu hfu c261_many a282 p0 p1 hr_a282 k ih⟩
set_option maxHeartbeats 1000000 in
set_option maxRecDepth 10000 in
theorem t173_X10_fillFromNext_E_g34 (fu : Nat) (hfu : 1000000000000 ≤ fu) (c261_many : Int32) (a282 : Nat → Int32) (v1 : Int32) (a281 : Nat → Int32) (p0 : c261_many.toInt ≤ 6) (p1 : 6 ≤ c261_many.toInt) (p2 : 0 ≤ v1.toInt) (p3 : v1.toInt ≤ 2) (hr_a282 : dz_pt a282 [0, 1, 7, 43, 259]) (hr_a281 : dz_rg a281 601 0 16777215) (kv : Nat) (hkv : 1000000000000 ≤ kv) : dz_T (s173_X10_fillFromNext_0 fu c261_many a282 (F173_X10_fillFromNext fu c261_many a282 kv).1  v1 a281) (fun r => dz_rg r 601 0 16777215) := by
  unfold s173_X10_fillFromNext_0
  have hl1 := dz_l1
  have he1 := dz_add (a := v1) (b := (1 : Int32)) (by omega) (by omega)
  have hsp : (v1.toInt = 0 ∧ (a282 v1.toNatClampNeg).toInt = 0 ∧ (a282 (v1 + (1 : Int32)).toNatClampNeg).toInt = 1) ∨ (v1.toInt = 1 ∧ (a282 v1.toNatClampNeg).toInt = 1 ∧ (a282 (v1 + (1 : Int32)).toNatClampNeg).toInt = 7) ∨ (v1.toInt = 2 ∧ (a282 v1.toNatClampNeg).toInt = 7 ∧ (a282 (v1 + (1 : Int32)).toNatClampNeg).toInt = 43) := by
    rcases (show v1.toInt = 0 ∨ v1.toInt = 1 ∨ v1.toInt = 2 by omega) with h | h | h
    · exact (Or.inl ⟨h, dz_ptat (hr_a282) (i := v1) (x := 0) 0 (by omega) (by decide), dz_ptat (hr_a282) (i := (v1 + (1 : Int32))) (x := 1) 1 (by omega) (by decide)⟩)
    · exact (Or.inr (Or.inl ⟨h, dz_ptat (hr_a282) (i := v1) (x := 1) 1 (by omega) (by decide), dz_ptat (hr_a282) (i := (v1 + (1 : Int32))) (x := 7) 2 (by omega) (by decide)⟩))
    · exact (Or.inr (Or.inr (⟨h, dz_ptat (hr_a282) (i := v1) (x := 7) 2 (by omega) (by decide), dz_ptat (hr_a282) (i := (v1 + (1 : Int32))) (x := 43) 3 (by omega) (by decide)⟩)))
  have e1 := dz_l1
  have e2 := dz_add (a := v1) (b := (1 : Int32)) (by omega) (by omega)
  refine dz_Tin (by omega) (by omega) ?_
  refine dz_Tin (by omega) (by omega) ?_
  have e3 := dz_ptrg (hr_a282) (i := (v1 + (1 : Int32))) 0 259 (by decide) (by omega) (by show _ < ((5 : Nat) : Int); omega)
  have e4 := dz_ptrg (hr_a282) (i := v1) 0 259 (by decide) (by omega) (by show _ < ((5 : Nat) : Int); omega)
  exact (t173_X10_fillFromNext_I_g34 fu hfu c261_many a282 p0 p1 hr_a282 kv).1 v1 c261_many (a282 (v1 + (1 : Int32)).toNatClampNeg) (a282 v1.toNatClampNeg) a281 p3 p2 p0 p1 (by omega) (by omega) (by omega) (by omega) (hr_a281) (by omega) (by omega)
theorem t173_X10_fillFromNext_g34 (fu : Nat) (hfu : 1000000000000 ≤ fu) (c261_many : Int32) (a282 : Nat → Int32) (v1 : Int32) (a281 : Nat → Int32) (p0 : c261_many.toInt ≤ 6) (p1 : 6 ≤ c261_many.toInt) (p2 : 0 ≤ v1.toInt) (p3 : v1.toInt ≤ 2) (hr_a282 : dz_pt a282 [0, 1, 7, 43, 259]) (hr_a281 : dz_rg a281 601 0 16777215) : dz_T (f173_X10_fillFromNext fu c261_many a282 v1 a281) (fun r => dz_rg r 601 0 16777215) :=
  t173_X10_fillFromNext_E_g34 fu hfu c261_many a282 v1 a281 p0 p1 p2 p3 hr_a282 hr_a281 fu hfu
abbrev p173_X10_fillFromNext_g42 (fu : Nat) (c261_many : Int32) (a282 : Nat → Int32) (k : Nat) : Prop :=
  (∀ (v1 : Int32) (v2 : Int32) (v3 : Int32) (v4 : Int32) (a281 : Nat → Int32), v1.toInt ≤ 0 → 0 ≤ v1.toInt → v2.toInt ≤ 24 → 24 ≤ v2.toInt → v3.toInt ≤ 601 → 1 ≤ v3.toInt → v4.toInt ≤ 1 → 0 ≤ v4.toInt → v4.toInt + 1 ≤ v3.toInt → dz_rg a281 601 0 16777215 → ((v1.toInt = 0 ∧ v3.toInt = 1 + (v4.toInt - 0) * 24)) → 0 + 0 + (1 - v4.toInt) * 8442 + 7 ≤ ((k : Nat) : Int) → dz_T ((F173_X10_fillFromNext fu c261_many a282 k).1 v1 v2 v3 v4 a281) (fun r => dz_rg r 601 0 16777215)) ∧ (∀ (v1 : Int32) (v2 : Int32) (v3 : Int32) (v4 : Int32) (v5 : Int32) (v6 : Int32) (a281 : Nat → Int32), v1.toInt ≤ 0 → 0 ≤ v1.toInt → v2.toInt ≤ 24 → 24 ≤ v2.toInt → v3.toInt ≤ 601 → 1 ≤ v3.toInt → v4.toInt ≤ 0 → 0 ≤ v4.toInt → v5.toInt ≤ 16777215 → 0 ≤ v5.toInt → v6.toInt ≤ 24 → 0 ≤ v6.toInt → v6.toInt + 1 ≤ v3.toInt → dz_rg a281 601 0 16777215 → ((v1.toInt = 0 ∧ v4.toInt < 1 ∧ v3.toInt = 1 + (v4.toInt - 0) * 24 + v6.toInt)) → 0 + 0 + ((1 - v4.toInt) - 1) * 8442 + 0 + (601 - v3.toInt) * 14 + 14 ≤ ((k : Nat) : Int) → dz_T ((F173_X10_fillFromNext fu c261_many a282 k).2.1 v1 v2 v3 v4 v5 v6 a281) (fun r => dz_rg r 601 0 16777215))
set_option maxHeartbeats 1000000 in
set_option maxRecDepth 10000 in
theorem t173_X10_fillFromNext_h1_g42 (fu : Nat) (hfu : 1000000000000 ≤ fu) (c261_many : Int32) (a282 : Nat → Int32) (p0 : c261_many.toInt ≤ 24) (p1 : 24 ≤ c261_many.toInt) (hr_a282 : dz_pt a282 [0, 1, 25]) (k : Nat) (ih : ∀ j9, j9 < k → p173_X10_fillFromNext_g42 fu c261_many a282 j9) : ∀ (v1 : Int32) (v2 : Int32) (v3 : Int32) (v4 : Int32) (a281 : Nat → Int32), v1.toInt ≤ 0 → 0 ≤ v1.toInt → v2.toInt ≤ 24 → 24 ≤ v2.toInt → v3.toInt ≤ 601 → 1 ≤ v3.toInt → v4.toInt ≤ 1 → 0 ≤ v4.toInt → v4.toInt + 1 ≤ v3.toInt → dz_rg a281 601 0 16777215 → ((v1.toInt = 0 ∧ v3.toInt = 1 + (v4.toInt - 0) * 24)) → 0 + 0 + (1 - v4.toInt) * 8442 + 7 ≤ ((k : Nat) : Int) → dz_T ((F173_X10_fillFromNext fu c261_many a282 k).1 v1 v2 v3 v4 a281) (fun r => dz_rg r 601 0 16777215) := by
  intro v1 v2 v3 v4 a281 i0 i1 i2 i3 i4 i5 i6 i7 i8 hr_a281 x0 hm
  obtain ⟨k0, rfl⟩ : ∃ x, k = x + 1 := ⟨k - 1, by omega⟩
  show dz_T (s173_X10_fillFromNext_1 fu c261_many a282 (F173_X10_fillFromNext fu c261_many a282 k0).2.1  v1 v2 v3 v4 a281) _
  unfold s173_X10_fillFromNext_1
  have hs : v1.toInt = 0 := by omega
  have e1 := dz_l1
  have e2 := dz_add (a := v1) (b := (1 : Int32)) (by omega) (by omega)
  refine dz_Tin (by omega) (by omega) ?_
  have e3 := dz_ptat (hr_a282) (i := (v1 + (1 : Int32))) (x := 1) 1 (by omega) (by decide)
  refine dz_Tle (fun h4 => ?_) (fun h4 => ?_)
  · skip
    exact dz_Ts (hr_a281)
  · skip
    have e5 := dz_l0
    exact (ih k0 (by omega)).2 v1 v2 v3 v4 (0 : Int32) (0 : Int32) a281 i0 i1 i2 i3 i4 i5 (by first | assumption | omega) i7 (by omega) (by omega) (by omega) (by omega) (by omega) (hr_a281) (by omega) (by omega)
set_option maxHeartbeats 1000000 in
set_option maxRecDepth 10000 in
theorem t173_X10_fillFromNext_h2_g42 (fu : Nat) (hfu : 1000000000000 ≤ fu) (c261_many : Int32) (a282 : Nat → Int32) (p0 : c261_many.toInt ≤ 24) (p1 : 24 ≤ c261_many.toInt) (hr_a282 : dz_pt a282 [0, 1, 25]) (k : Nat) (ih : ∀ j9, j9 < k → p173_X10_fillFromNext_g42 fu c261_many a282 j9) : ∀ (v1 : Int32) (v2 : Int32) (v3 : Int32) (v4 : Int32) (v5 : Int32) (v6 : Int32) (a281 : Nat → Int32), v1.toInt ≤ 0 → 0 ≤ v1.toInt → v2.toInt ≤ 24 → 24 ≤ v2.toInt → v3.toInt ≤ 601 → 1 ≤ v3.toInt → v4.toInt ≤ 0 → 0 ≤ v4.toInt → v5.toInt ≤ 16777215 → 0 ≤ v5.toInt → v6.toInt ≤ 24 → 0 ≤ v6.toInt → v6.toInt + 1 ≤ v3.toInt → dz_rg a281 601 0 16777215 → ((v1.toInt = 0 ∧ v4.toInt < 1 ∧ v3.toInt = 1 + (v4.toInt - 0) * 24 + v6.toInt)) → 0 + 0 + ((1 - v4.toInt) - 1) * 8442 + 0 + (601 - v3.toInt) * 14 + 14 ≤ ((k : Nat) : Int) → dz_T ((F173_X10_fillFromNext fu c261_many a282 k).2.1 v1 v2 v3 v4 v5 v6 a281) (fun r => dz_rg r 601 0 16777215) := by
  intro v1 v2 v3 v4 v5 v6 a281 i0 i1 i2 i3 i4 i5 i6 i7 i8 i9 i10 i11 i12 hr_a281 x0 hm
  obtain ⟨k0, rfl⟩ : ∃ x, k = x + 1 := ⟨k - 1, by omega⟩
  show dz_T (s173_X10_fillFromNext_2 fu c261_many a282 (F173_X10_fillFromNext fu c261_many a282 k0).1 (F173_X10_fillFromNext fu c261_many a282 k0).2.2  v1 v2 v3 v4 v5 v6 a281) _
  unfold s173_X10_fillFromNext_2
  have hs : v1.toInt = 0 := by omega
  refine dz_Tle (fun h1 => ?_) (fun h1 => ?_)
  · skip
    refine dz_Tin (by omega) (by omega) ?_
    have e2 := dz_l1
    have e3 := dz_add (a := v4) (b := (1 : Int32)) (by omega) (by omega)
    exact (ih k0 (by omega)).1 v1 v2 v3 (v4 + (1 : Int32)) (upd a281 v4.toNatClampNeg v5) i0 i1 i2 i3 i4 i5 (by omega) (by omega) (by omega) (dz_rgu (hr_a281) (by omega) (by omega)) (by omega) (by omega)
  · skip
    refine dz_Tin (by omega) (by omega) ?_
    have e4 := dz_rgat (hr_a281) (i := v3) (by omega) (by omega)
    have e5 := dz_l0
    refine dz_Teq (fun h6 => ?_) (fun h6 => ?_)
    · skip
      obtain ⟨k1, rfl⟩ : ∃ x, k0 = x + 1 := ⟨k0 - 1, by omega⟩
      show dz_T (s173_X10_fillFromNext_3 fu c261_many a282 (F173_X10_fillFromNext fu c261_many a282 k1).2.1 v1 v2 v3 v4 v5 v6 a281) _
      unfold s173_X10_fillFromNext_3
      have e7 := dz_l1
      have e8 := dz_add (a := v3) (b := (1 : Int32)) (by omega) (by omega)
      have e9 := dz_add (a := v6) (b := (1 : Int32)) (by omega) (by omega)
      exact (ih k1 (by omega)).2 v1 v2 (v3 + (1 : Int32)) v4 v5 (v6 + (1 : Int32)) a281 i0 i1 i2 i3 (by omega) (by omega) i6 i7 i8 i9 (by omega) (by omega) (by omega) (hr_a281) (by omega) (by omega)
    · skip
      obtain ⟨k2, rfl⟩ : ∃ x, k0 = x + 1 := ⟨k0 - 1, by omega⟩
      show dz_T (s173_X10_fillFromNext_3 fu c261_many a282 (F173_X10_fillFromNext fu c261_many a282 k2).2.1 v1 v2 v3 v4 (v5 ||| ((1 : Int32) <<< (v6 &&& (31 : Int32)))) v6 a281) _
      unfold s173_X10_fillFromNext_3
      have e10 := dz_l1
      have e11 := dz_add (a := v3) (b := (1 : Int32)) (by omega) (by omega)
      have e12 := dz_l31
      have e13 := dz_andr (a := v6) (b := (31 : Int32)) (by omega)
      have e14 := dz_andl (a := v6) (b := (31 : Int32)) (by omega)
      have e15 := dz_shl1 (b := v6) 0 23 (by omega) (by omega) (by omega)
      have e16 := dz_orb (a := v5) (b := ((1 : Int32) <<< (v6 &&& (31 : Int32)))) 24 (by omega) (by omega) (by omega) (by omega) (by omega)
      have e17 := dz_add (a := v6) (b := (1 : Int32)) (by omega) (by omega)
      exact (ih k2 (by omega)).2 v1 v2 (v3 + (1 : Int32)) v4 (v5 ||| ((1 : Int32) <<< (v6 &&& (31 : Int32)))) (v6 + (1 : Int32)) a281 i0 i1 i2 i3 (by omega) (by omega) i6 i7 (by omega) (by omega) (by omega) (by omega) (by omega) (hr_a281) (by omega) (by omega)
theorem t173_X10_fillFromNext_I_g42 (fu : Nat) (hfu : 1000000000000 ≤ fu) (c261_many : Int32) (a282 : Nat → Int32) (p0 : c261_many.toInt ≤ 24) (p1 : 24 ≤ c261_many.toInt) (hr_a282 : dz_pt a282 [0, 1, 25]) (k : Nat) : p173_X10_fillFromNext_g42 fu c261_many a282 k := by
  induction k using Nat.strongRecOn with
  | _ k ih => exact ⟨t173_X10_fillFromNext_h1_g42 fu hfu c261_many a282 p0 p1 hr_a282 k ih, t173_X10_fillFromNext_h2_g42 fu hfu c261_many a282 p0 p1 hr_a282 k ih⟩
set_option maxHeartbeats 1000000 in
set_option maxRecDepth 10000 in
theorem t173_X10_fillFromNext_E_g42 (fu : Nat) (hfu : 1000000000000 ≤ fu) (c261_many : Int32) (a282 : Nat → Int32) (v1 : Int32) (a281 : Nat → Int32) (p0 : c261_many.toInt ≤ 24) (p1 : 24 ≤ c261_many.toInt) (p2 : 0 ≤ v1.toInt) (p3 : v1.toInt ≤ 0) (hr_a282 : dz_pt a282 [0, 1, 25]) (hr_a281 : dz_rg a281 601 0 16777215) (kv : Nat) (hkv : 1000000000000 ≤ kv) : dz_T (s173_X10_fillFromNext_0 fu c261_many a282 (F173_X10_fillFromNext fu c261_many a282 kv).1  v1 a281) (fun r => dz_rg r 601 0 16777215) := by
  unfold s173_X10_fillFromNext_0
  have hl1 := dz_l1
  have he1 := dz_add (a := v1) (b := (1 : Int32)) (by omega) (by omega)
  have hv1 : v1.toInt = 0 := by omega
  have hsp : (v1.toInt = 0 ∧ (a282 v1.toNatClampNeg).toInt = 0 ∧ (a282 (v1 + (1 : Int32)).toNatClampNeg).toInt = 1) := ⟨hv1, dz_ptat (hr_a282) (i := v1) (x := 0) 0 (by omega) (by decide), dz_ptat (hr_a282) (i := (v1 + (1 : Int32))) (x := 1) 1 (by omega) (by decide)⟩
  have e1 := dz_l1
  have e2 := dz_add (a := v1) (b := (1 : Int32)) (by omega) (by omega)
  refine dz_Tin (by omega) (by omega) ?_
  refine dz_Tin (by omega) (by omega) ?_
  have e3 := dz_ptat (hr_a282) (i := (v1 + (1 : Int32))) (x := 1) 1 (by omega) (by decide)
  have e4 := dz_ptat (hr_a282) (i := v1) (x := 0) 0 (by omega) (by decide)
  exact (t173_X10_fillFromNext_I_g42 fu hfu c261_many a282 p0 p1 hr_a282 kv).1 v1 c261_many (a282 (v1 + (1 : Int32)).toNatClampNeg) (a282 v1.toNatClampNeg) a281 p3 p2 p0 p1 (by omega) (by omega) (by omega) (by omega) (by omega) (hr_a281) (by omega) (by omega)
theorem t173_X10_fillFromNext_g42 (fu : Nat) (hfu : 1000000000000 ≤ fu) (c261_many : Int32) (a282 : Nat → Int32) (v1 : Int32) (a281 : Nat → Int32) (p0 : c261_many.toInt ≤ 24) (p1 : 24 ≤ c261_many.toInt) (p2 : 0 ≤ v1.toInt) (p3 : v1.toInt ≤ 0) (hr_a282 : dz_pt a282 [0, 1, 25]) (hr_a281 : dz_rg a281 601 0 16777215) : dz_T (f173_X10_fillFromNext fu c261_many a282 v1 a281) (fun r => dz_rg r 601 0 16777215) :=
  t173_X10_fillFromNext_E_g42 fu hfu c261_many a282 v1 a281 p0 p1 p2 p3 hr_a282 hr_a281 fu hfu
abbrev p173_X10_fillFromNext_g43 (fu : Nat) (c261_many : Int32) (a282 : Nat → Int32) (k : Nat) : Prop :=
  (∀ (v1 : Int32) (v2 : Int32) (v3 : Int32) (v4 : Int32) (a281 : Nat → Int32), v1.toInt ≤ 1 → 0 ≤ v1.toInt → v2.toInt ≤ 24 → 24 ≤ v2.toInt → v3.toInt ≤ 601 → 0 ≤ v3.toInt → v4.toInt ≤ 601 → 0 ≤ v4.toInt → dz_rg a281 601 0 16777215 → ((v1.toInt = 0 ∧ v3.toInt = 1 + (v4.toInt - 0) * 24) ∨ (v1.toInt = 1 ∧ v3.toInt = 25 + (v4.toInt - 1) * 24)) → 0 + 0 + (601 - v4.toInt) * 8456 + 7 ≤ ((k : Nat) : Int) → dz_T ((F173_X10_fillFromNext fu c261_many a282 k).1 v1 v2 v3 v4 a281) (fun r => dz_rg r 601 0 16777215)) ∧ (∀ (v1 : Int32) (v2 : Int32) (v3 : Int32) (v4 : Int32) (v5 : Int32) (v6 : Int32) (a281 : Nat → Int32), v1.toInt ≤ 1 → 0 ≤ v1.toInt → v2.toInt ≤ 24 → 24 ≤ v2.toInt → v3.toInt ≤ 601 → 0 ≤ v3.toInt → v4.toInt ≤ 24 → 0 ≤ v4.toInt → v5.toInt ≤ 16777215 → 0 ≤ v5.toInt → v6.toInt ≤ 24 → 0 ≤ v6.toInt → v6.toInt ≤ v3.toInt → dz_rg a281 601 0 16777215 → ((v1.toInt = 0 ∧ v4.toInt < 1 ∧ v3.toInt = 1 + (v4.toInt - 0) * 24 + v6.toInt) ∨ (v1.toInt = 1 ∧ v4.toInt < 25 ∧ v3.toInt = 25 + (v4.toInt - 1) * 24 + v6.toInt)) → 0 + 0 + ((601 - v4.toInt) - 1) * 8456 + 0 + (601 - v3.toInt) * 14 + 14 ≤ ((k : Nat) : Int) → dz_T ((F173_X10_fillFromNext fu c261_many a282 k).2.1 v1 v2 v3 v4 v5 v6 a281) (fun r => dz_rg r 601 0 16777215))
set_option maxHeartbeats 1000000 in
set_option maxRecDepth 10000 in
theorem t173_X10_fillFromNext_h1_g43 (fu : Nat) (hfu : 1000000000000 ≤ fu) (c261_many : Int32) (a282 : Nat → Int32) (p0 : c261_many.toInt ≤ 24) (p1 : 24 ≤ c261_many.toInt) (hr_a282 : dz_pt a282 [0, 1, 25, 601]) (k : Nat) (ih : ∀ j9, j9 < k → p173_X10_fillFromNext_g43 fu c261_many a282 j9) : ∀ (v1 : Int32) (v2 : Int32) (v3 : Int32) (v4 : Int32) (a281 : Nat → Int32), v1.toInt ≤ 1 → 0 ≤ v1.toInt → v2.toInt ≤ 24 → 24 ≤ v2.toInt → v3.toInt ≤ 601 → 0 ≤ v3.toInt → v4.toInt ≤ 601 → 0 ≤ v4.toInt → dz_rg a281 601 0 16777215 → ((v1.toInt = 0 ∧ v3.toInt = 1 + (v4.toInt - 0) * 24) ∨ (v1.toInt = 1 ∧ v3.toInt = 25 + (v4.toInt - 1) * 24)) → 0 + 0 + (601 - v4.toInt) * 8456 + 7 ≤ ((k : Nat) : Int) → dz_T ((F173_X10_fillFromNext fu c261_many a282 k).1 v1 v2 v3 v4 a281) (fun r => dz_rg r 601 0 16777215) := by
  intro v1 v2 v3 v4 a281 i0 i1 i2 i3 i4 i5 i6 i7 hr_a281 x0 hm
  obtain ⟨k0, rfl⟩ : ∃ x, k = x + 1 := ⟨k - 1, by omega⟩
  show dz_T (s173_X10_fillFromNext_1 fu c261_many a282 (F173_X10_fillFromNext fu c261_many a282 k0).2.1  v1 v2 v3 v4 a281) _
  unfold s173_X10_fillFromNext_1
  rcases (show v1.toInt = 0 ∨ v1.toInt = 1 by omega) with hs | hs
  · skip
    have e1 := dz_l1
    have e2 := dz_add (a := v1) (b := (1 : Int32)) (by omega) (by omega)
    refine dz_Tin (by omega) (by omega) ?_
    have e3 := dz_ptat (hr_a282) (i := (v1 + (1 : Int32))) (x := 1) 1 (by omega) (by decide)
    refine dz_Tle (fun h4 => ?_) (fun h4 => ?_)
    · skip
      exact dz_Ts (hr_a281)
    · skip
      have e5 := dz_l0
      exact (ih k0 (by omega)).2 v1 v2 v3 v4 (0 : Int32) (0 : Int32) a281 i0 i1 i2 i3 i4 i5 (by first | assumption | omega) i7 (by omega) (by omega) (by omega) (by omega) (by omega) (hr_a281) (by omega) (by omega)
  · skip
    have e6 := dz_l1
    have e7 := dz_add (a := v1) (b := (1 : Int32)) (by omega) (by omega)
    refine dz_Tin (by omega) (by omega) ?_
    have e8 := dz_ptat (hr_a282) (i := (v1 + (1 : Int32))) (x := 25) 2 (by omega) (by decide)
    refine dz_Tle (fun h9 => ?_) (fun h9 => ?_)
    · skip
      exact dz_Ts (hr_a281)
    · skip
      have e10 := dz_l0
      exact (ih k0 (by omega)).2 v1 v2 v3 v4 (0 : Int32) (0 : Int32) a281 i0 i1 i2 i3 i4 i5 (by first | assumption | omega) i7 (by omega) (by omega) (by omega) (by omega) (by omega) (hr_a281) (by omega) (by omega)
set_option maxHeartbeats 1000000 in
set_option maxRecDepth 10000 in
theorem t173_X10_fillFromNext_h2_g43 (fu : Nat) (hfu : 1000000000000 ≤ fu) (c261_many : Int32) (a282 : Nat → Int32) (p0 : c261_many.toInt ≤ 24) (p1 : 24 ≤ c261_many.toInt) (hr_a282 : dz_pt a282 [0, 1, 25, 601]) (k : Nat) (ih : ∀ j9, j9 < k → p173_X10_fillFromNext_g43 fu c261_many a282 j9) : ∀ (v1 : Int32) (v2 : Int32) (v3 : Int32) (v4 : Int32) (v5 : Int32) (v6 : Int32) (a281 : Nat → Int32), v1.toInt ≤ 1 → 0 ≤ v1.toInt → v2.toInt ≤ 24 → 24 ≤ v2.toInt → v3.toInt ≤ 601 → 0 ≤ v3.toInt → v4.toInt ≤ 24 → 0 ≤ v4.toInt → v5.toInt ≤ 16777215 → 0 ≤ v5.toInt → v6.toInt ≤ 24 → 0 ≤ v6.toInt → v6.toInt ≤ v3.toInt → dz_rg a281 601 0 16777215 → ((v1.toInt = 0 ∧ v4.toInt < 1 ∧ v3.toInt = 1 + (v4.toInt - 0) * 24 + v6.toInt) ∨ (v1.toInt = 1 ∧ v4.toInt < 25 ∧ v3.toInt = 25 + (v4.toInt - 1) * 24 + v6.toInt)) → 0 + 0 + ((601 - v4.toInt) - 1) * 8456 + 0 + (601 - v3.toInt) * 14 + 14 ≤ ((k : Nat) : Int) → dz_T ((F173_X10_fillFromNext fu c261_many a282 k).2.1 v1 v2 v3 v4 v5 v6 a281) (fun r => dz_rg r 601 0 16777215) := by
  intro v1 v2 v3 v4 v5 v6 a281 i0 i1 i2 i3 i4 i5 i6 i7 i8 i9 i10 i11 i12 hr_a281 x0 hm
  obtain ⟨k0, rfl⟩ : ∃ x, k = x + 1 := ⟨k - 1, by omega⟩
  show dz_T (s173_X10_fillFromNext_2 fu c261_many a282 (F173_X10_fillFromNext fu c261_many a282 k0).1 (F173_X10_fillFromNext fu c261_many a282 k0).2.2  v1 v2 v3 v4 v5 v6 a281) _
  unfold s173_X10_fillFromNext_2
  rcases (show v1.toInt = 0 ∨ v1.toInt = 1 by omega) with hs | hs
  · skip
    refine dz_Tle (fun h1 => ?_) (fun h1 => ?_)
    · skip
      refine dz_Tin (by omega) (by omega) ?_
      have e2 := dz_l1
      have e3 := dz_add (a := v4) (b := (1 : Int32)) (by omega) (by omega)
      exact (ih k0 (by omega)).1 v1 v2 v3 (v4 + (1 : Int32)) (upd a281 v4.toNatClampNeg v5) i0 i1 i2 i3 i4 i5 (by omega) (by omega) (dz_rgu (hr_a281) (by omega) (by omega)) (by omega) (by omega)
    · skip
      refine dz_Tin (by omega) (by omega) ?_
      have e4 := dz_rgat (hr_a281) (i := v3) (by omega) (by omega)
      have e5 := dz_l0
      refine dz_Teq (fun h6 => ?_) (fun h6 => ?_)
      · skip
        obtain ⟨k1, rfl⟩ : ∃ x, k0 = x + 1 := ⟨k0 - 1, by omega⟩
        show dz_T (s173_X10_fillFromNext_3 fu c261_many a282 (F173_X10_fillFromNext fu c261_many a282 k1).2.1 v1 v2 v3 v4 v5 v6 a281) _
        unfold s173_X10_fillFromNext_3
        have e7 := dz_l1
        have e8 := dz_add (a := v3) (b := (1 : Int32)) (by omega) (by omega)
        have e9 := dz_add (a := v6) (b := (1 : Int32)) (by omega) (by omega)
        exact (ih k1 (by omega)).2 v1 v2 (v3 + (1 : Int32)) v4 v5 (v6 + (1 : Int32)) a281 i0 i1 i2 i3 (by omega) (by omega) i6 i7 i8 i9 (by omega) (by omega) (by omega) (hr_a281) (by omega) (by omega)
      · skip
        obtain ⟨k2, rfl⟩ : ∃ x, k0 = x + 1 := ⟨k0 - 1, by omega⟩
        show dz_T (s173_X10_fillFromNext_3 fu c261_many a282 (F173_X10_fillFromNext fu c261_many a282 k2).2.1 v1 v2 v3 v4 (v5 ||| ((1 : Int32) <<< (v6 &&& (31 : Int32)))) v6 a281) _
        unfold s173_X10_fillFromNext_3
        have e10 := dz_l1
        have e11 := dz_add (a := v3) (b := (1 : Int32)) (by omega) (by omega)
        have e12 := dz_l31
        have e13 := dz_andr (a := v6) (b := (31 : Int32)) (by omega)
        have e14 := dz_andl (a := v6) (b := (31 : Int32)) (by omega)
        have e15 := dz_shl1 (b := v6) 0 23 (by omega) (by omega) (by omega)
        have e16 := dz_orb (a := v5) (b := ((1 : Int32) <<< (v6 &&& (31 : Int32)))) 24 (by omega) (by omega) (by omega) (by omega) (by omega)
        have e17 := dz_add (a := v6) (b := (1 : Int32)) (by omega) (by omega)
        exact (ih k2 (by omega)).2 v1 v2 (v3 + (1 : Int32)) v4 (v5 ||| ((1 : Int32) <<< (v6 &&& (31 : Int32)))) (v6 + (1 : Int32)) a281 i0 i1 i2 i3 (by omega) (by omega) i6 i7 (by omega) (by omega) (by omega) (by omega) (by omega) (hr_a281) (by omega) (by omega)
  · skip
    refine dz_Tle (fun h18 => ?_) (fun h18 => ?_)
    · skip
      refine dz_Tin (by omega) (by omega) ?_
      have e19 := dz_l1
      have e20 := dz_add (a := v4) (b := (1 : Int32)) (by omega) (by omega)
      exact (ih k0 (by omega)).1 v1 v2 v3 (v4 + (1 : Int32)) (upd a281 v4.toNatClampNeg v5) i0 i1 i2 i3 i4 i5 (by omega) (by omega) (dz_rgu (hr_a281) (by omega) (by omega)) (by omega) (by omega)
    · skip
      refine dz_Tin (by omega) (by omega) ?_
      have e21 := dz_rgat (hr_a281) (i := v3) (by omega) (by omega)
      have e22 := dz_l0
      refine dz_Teq (fun h23 => ?_) (fun h23 => ?_)
      · skip
        obtain ⟨k3, rfl⟩ : ∃ x, k0 = x + 1 := ⟨k0 - 1, by omega⟩
        show dz_T (s173_X10_fillFromNext_3 fu c261_many a282 (F173_X10_fillFromNext fu c261_many a282 k3).2.1 v1 v2 v3 v4 v5 v6 a281) _
        unfold s173_X10_fillFromNext_3
        have e24 := dz_l1
        have e25 := dz_add (a := v3) (b := (1 : Int32)) (by omega) (by omega)
        have e26 := dz_add (a := v6) (b := (1 : Int32)) (by omega) (by omega)
        exact (ih k3 (by omega)).2 v1 v2 (v3 + (1 : Int32)) v4 v5 (v6 + (1 : Int32)) a281 i0 i1 i2 i3 (by omega) (by omega) i6 i7 i8 i9 (by omega) (by omega) (by omega) (hr_a281) (by omega) (by omega)
      · skip
        obtain ⟨k4, rfl⟩ : ∃ x, k0 = x + 1 := ⟨k0 - 1, by omega⟩
        show dz_T (s173_X10_fillFromNext_3 fu c261_many a282 (F173_X10_fillFromNext fu c261_many a282 k4).2.1 v1 v2 v3 v4 (v5 ||| ((1 : Int32) <<< (v6 &&& (31 : Int32)))) v6 a281) _
        unfold s173_X10_fillFromNext_3
        have e27 := dz_l1
        have e28 := dz_add (a := v3) (b := (1 : Int32)) (by omega) (by omega)
        have e29 := dz_l31
        have e30 := dz_andr (a := v6) (b := (31 : Int32)) (by omega)
        have e31 := dz_andl (a := v6) (b := (31 : Int32)) (by omega)
        have e32 := dz_shl1 (b := v6) 0 23 (by omega) (by omega) (by omega)
        have e33 := dz_orb (a := v5) (b := ((1 : Int32) <<< (v6 &&& (31 : Int32)))) 24 (by omega) (by omega) (by omega) (by omega) (by omega)
        have e34 := dz_add (a := v6) (b := (1 : Int32)) (by omega) (by omega)
        exact (ih k4 (by omega)).2 v1 v2 (v3 + (1 : Int32)) v4 (v5 ||| ((1 : Int32) <<< (v6 &&& (31 : Int32)))) (v6 + (1 : Int32)) a281 i0 i1 i2 i3 (by omega) (by omega) i6 i7 (by omega) (by omega) (by omega) (by omega) (by omega) (hr_a281) (by omega) (by omega)
theorem t173_X10_fillFromNext_I_g43 (fu : Nat) (hfu : 1000000000000 ≤ fu) (c261_many : Int32) (a282 : Nat → Int32) (p0 : c261_many.toInt ≤ 24) (p1 : 24 ≤ c261_many.toInt) (hr_a282 : dz_pt a282 [0, 1, 25, 601]) (k : Nat) : p173_X10_fillFromNext_g43 fu c261_many a282 k := by
  induction k using Nat.strongRecOn with
  | _ k ih => exact ⟨t173_X10_fillFromNext_h1_g43 fu hfu c261_many a282 p0 p1 hr_a282 k ih, t173_X10_fillFromNext_h2_g43 fu hfu c261_many a282 p0 p1 hr_a282 k ih⟩
set_option maxHeartbeats 1000000 in
set_option maxRecDepth 10000 in
theorem t173_X10_fillFromNext_E_g43 (fu : Nat) (hfu : 1000000000000 ≤ fu) (c261_many : Int32) (a282 : Nat → Int32) (v1 : Int32) (a281 : Nat → Int32) (p0 : c261_many.toInt ≤ 24) (p1 : 24 ≤ c261_many.toInt) (p2 : 0 ≤ v1.toInt) (p3 : v1.toInt ≤ 1) (hr_a282 : dz_pt a282 [0, 1, 25, 601]) (hr_a281 : dz_rg a281 601 0 16777215) (kv : Nat) (hkv : 1000000000000 ≤ kv) : dz_T (s173_X10_fillFromNext_0 fu c261_many a282 (F173_X10_fillFromNext fu c261_many a282 kv).1  v1 a281) (fun r => dz_rg r 601 0 16777215) := by
  unfold s173_X10_fillFromNext_0
  have hl1 := dz_l1
  have he1 := dz_add (a := v1) (b := (1 : Int32)) (by omega) (by omega)
  have hsp : (v1.toInt = 0 ∧ (a282 v1.toNatClampNeg).toInt = 0 ∧ (a282 (v1 + (1 : Int32)).toNatClampNeg).toInt = 1) ∨ (v1.toInt = 1 ∧ (a282 v1.toNatClampNeg).toInt = 1 ∧ (a282 (v1 + (1 : Int32)).toNatClampNeg).toInt = 25) := by
    rcases (show v1.toInt = 0 ∨ v1.toInt = 1 by omega) with h | h
    · exact (Or.inl ⟨h, dz_ptat (hr_a282) (i := v1) (x := 0) 0 (by omega) (by decide), dz_ptat (hr_a282) (i := (v1 + (1 : Int32))) (x := 1) 1 (by omega) (by decide)⟩)
    · exact (Or.inr (⟨h, dz_ptat (hr_a282) (i := v1) (x := 1) 1 (by omega) (by decide), dz_ptat (hr_a282) (i := (v1 + (1 : Int32))) (x := 25) 2 (by omega) (by decide)⟩))
  have e1 := dz_l1
  have e2 := dz_add (a := v1) (b := (1 : Int32)) (by omega) (by omega)
  refine dz_Tin (by omega) (by omega) ?_
  refine dz_Tin (by omega) (by omega) ?_
  have e3 := dz_ptrg (hr_a282) (i := (v1 + (1 : Int32))) 0 601 (by decide) (by omega) (by show _ < ((4 : Nat) : Int); omega)
  have e4 := dz_ptrg (hr_a282) (i := v1) 0 601 (by decide) (by omega) (by show _ < ((4 : Nat) : Int); omega)
  exact (t173_X10_fillFromNext_I_g43 fu hfu c261_many a282 p0 p1 hr_a282 kv).1 v1 c261_many (a282 (v1 + (1 : Int32)).toNatClampNeg) (a282 v1.toNatClampNeg) a281 p3 p2 p0 p1 (by omega) (by omega) (by omega) (by omega) (hr_a281) (by omega) (by omega)
theorem t173_X10_fillFromNext_g43 (fu : Nat) (hfu : 1000000000000 ≤ fu) (c261_many : Int32) (a282 : Nat → Int32) (v1 : Int32) (a281 : Nat → Int32) (p0 : c261_many.toInt ≤ 24) (p1 : 24 ≤ c261_many.toInt) (p2 : 0 ≤ v1.toInt) (p3 : v1.toInt ≤ 1) (hr_a282 : dz_pt a282 [0, 1, 25, 601]) (hr_a281 : dz_rg a281 601 0 16777215) : dz_T (f173_X10_fillFromNext fu c261_many a282 v1 a281) (fun r => dz_rg r 601 0 16777215) :=
  t173_X10_fillFromNext_E_g43 fu hfu c261_many a282 v1 a281 p0 p1 p2 p3 hr_a282 hr_a281 fu hfu
set_option maxHeartbeats 1000000 in
theorem t173_X10_fillFromNext_s (fu : Nat) (hfu : 1000000000000 ≤ fu) (κ : Nat) (hκ : κ < 14) (c261_many : Int32) (a282 : Nat → Int32) (v1 : Int32) (a281 : Nat → Int32) (p0 : c261_many.toInt ≤ 24) (p1 : 0 ≤ c261_many.toInt) (p2 : 0 ≤ v1.toInt) (p3 : v1.toInt ≤ 2) (hr_a282 : dz_pt a282 (dz_kF κ)) (hr_a281 : dz_rg a281 601 0 16777215) (o0 : v1.toInt ≤ ((dz_kp κ : Nat) : Int) - 2) (o1 : c261_many.toInt = ((dz_kr κ : Nat) : Int)) : dz_T (f173_X10_fillFromNext fu c261_many a282 v1 a281) (fun r => dz_rg r 601 0 16777215) := by
  rcases (show κ = 0 ∨ κ = 1 ∨ κ = 2 ∨ κ = 3 ∨ κ = 4 ∨ κ = 5 ∨ κ = 6 ∨ κ = 7 ∨ κ = 8 ∨ κ = 9 ∨ κ = 10 ∨ κ = 11 ∨ κ = 12 ∨ κ = 13 by omega) with rfl | rfl | rfl | rfl | rfl | rfl | rfl | rfl | rfl | rfl | rfl | rfl | rfl | rfl
  · skip
    exfalso
    have o0 : v1.toInt ≤ (0 : Int) - 2 := o0
    have o1 : c261_many.toInt = (2 : Int) := o1
    omega
  · skip
    exfalso
    have o0 : v1.toInt ≤ (1 : Int) - 2 := o0
    have o1 : c261_many.toInt = (2 : Int) := o1
    omega
  · skip
    have o0 : v1.toInt ≤ (2 : Int) - 2 := o0
    have o1 : c261_many.toInt = (2 : Int) := o1
    refine dz_Tw (t173_X10_fillFromNext_g22 fu hfu c261_many a282 v1 a281 (by first | assumption | omega) (by first | assumption | omega) (by first | assumption | omega) (by first | assumption | omega) (by first | exact hr_a282 | exact dz_rgm hr_a282 (by omega) (by omega) | exact dz_pmr hr_a282 (by decide) (by omega) (by omega) (by omega) | exact dz_ptr hr_a282 (by decide) (by decide) (by omega) | exact dz_ptr hr_a282 (by decide) (by decide) (by show _ ≤ 2; omega) | exact dz_rgs hr_a282 (by omega)) (by first | exact hr_a281 | exact dz_rgm hr_a281 (by omega) (by omega) | exact dz_pmr hr_a281 (by decide) (by omega) (by omega) (by omega) | exact dz_ptr hr_a281 (by decide) (by decide) (by omega) | exact dz_ptr hr_a281 (by decide) (by decide) (by show _ ≤ 2; omega) | exact dz_rgs hr_a281 (by omega))) (fun r h => ?_)
    exact (by first | exact h | exact dz_rgm h (by omega) (by omega))
  · skip
    have o0 : v1.toInt ≤ (3 : Int) - 2 := o0
    have o1 : c261_many.toInt = (2 : Int) := o1
    refine dz_Tw (t173_X10_fillFromNext_g23 fu hfu c261_many a282 v1 a281 (by first | assumption | omega) (by first | assumption | omega) (by first | assumption | omega) (by first | assumption | omega) (by first | exact hr_a282 | exact dz_rgm hr_a282 (by omega) (by omega) | exact dz_pmr hr_a282 (by decide) (by omega) (by omega) (by omega) | exact dz_ptr hr_a282 (by decide) (by decide) (by omega) | exact dz_ptr hr_a282 (by decide) (by decide) (by show _ ≤ 3; omega) | exact dz_rgs hr_a282 (by omega)) (by first | exact hr_a281 | exact dz_rgm hr_a281 (by omega) (by omega) | exact dz_pmr hr_a281 (by decide) (by omega) (by omega) (by omega) | exact dz_ptr hr_a281 (by decide) (by decide) (by omega) | exact dz_ptr hr_a281 (by decide) (by decide) (by show _ ≤ 3; omega) | exact dz_rgs hr_a281 (by omega))) (fun r h => ?_)
    exact (by first | exact h | exact dz_rgm h (by omega) (by omega))
  · skip
    have o0 : v1.toInt ≤ (4 : Int) - 2 := o0
    have o1 : c261_many.toInt = (2 : Int) := o1
    refine dz_Tw (t173_X10_fillFromNext_g24 fu hfu c261_many a282 v1 a281 (by first | assumption | omega) (by first | assumption | omega) (by first | assumption | omega) (by first | assumption | omega) (by first | exact hr_a282 | exact dz_rgm hr_a282 (by omega) (by omega) | exact dz_pmr hr_a282 (by decide) (by omega) (by omega) (by omega) | exact dz_ptr hr_a282 (by decide) (by decide) (by omega) | exact dz_ptr hr_a282 (by decide) (by decide) (by show _ ≤ 4; omega) | exact dz_rgs hr_a282 (by omega)) (by first | exact hr_a281 | exact dz_rgm hr_a281 (by omega) (by omega) | exact dz_pmr hr_a281 (by decide) (by omega) (by omega) (by omega) | exact dz_ptr hr_a281 (by decide) (by decide) (by omega) | exact dz_ptr hr_a281 (by decide) (by decide) (by show _ ≤ 4; omega) | exact dz_rgs hr_a281 (by omega))) (fun r h => ?_)
    exact (by first | exact h | exact dz_rgm h (by omega) (by omega))
  · skip
    exfalso
    have o0 : v1.toInt ≤ (0 : Int) - 2 := o0
    have o1 : c261_many.toInt = (6 : Int) := o1
    omega
  · skip
    exfalso
    have o0 : v1.toInt ≤ (1 : Int) - 2 := o0
    have o1 : c261_many.toInt = (6 : Int) := o1
    omega
  · skip
    have o0 : v1.toInt ≤ (2 : Int) - 2 := o0
    have o1 : c261_many.toInt = (6 : Int) := o1
    refine dz_Tw (t173_X10_fillFromNext_g32 fu hfu c261_many a282 v1 a281 (by first | assumption | omega) (by first | assumption | omega) (by first | assumption | omega) (by first | assumption | omega) (by first | exact hr_a282 | exact dz_rgm hr_a282 (by omega) (by omega) | exact dz_pmr hr_a282 (by decide) (by omega) (by omega) (by omega) | exact dz_ptr hr_a282 (by decide) (by decide) (by omega) | exact dz_ptr hr_a282 (by decide) (by decide) (by show _ ≤ 2; omega) | exact dz_rgs hr_a282 (by omega)) (by first | exact hr_a281 | exact dz_rgm hr_a281 (by omega) (by omega) | exact dz_pmr hr_a281 (by decide) (by omega) (by omega) (by omega) | exact dz_ptr hr_a281 (by decide) (by decide) (by omega) | exact dz_ptr hr_a281 (by decide) (by decide) (by show _ ≤ 2; omega) | exact dz_rgs hr_a281 (by omega))) (fun r h => ?_)
    exact (by first | exact h | exact dz_rgm h (by omega) (by omega))
  · skip
    have o0 : v1.toInt ≤ (3 : Int) - 2 := o0
    have o1 : c261_many.toInt = (6 : Int) := o1
    refine dz_Tw (t173_X10_fillFromNext_g33 fu hfu c261_many a282 v1 a281 (by first | assumption | omega) (by first | assumption | omega) (by first | assumption | omega) (by first | assumption | omega) (by first | exact hr_a282 | exact dz_rgm hr_a282 (by omega) (by omega) | exact dz_pmr hr_a282 (by decide) (by omega) (by omega) (by omega) | exact dz_ptr hr_a282 (by decide) (by decide) (by omega) | exact dz_ptr hr_a282 (by decide) (by decide) (by show _ ≤ 3; omega) | exact dz_rgs hr_a282 (by omega)) (by first | exact hr_a281 | exact dz_rgm hr_a281 (by omega) (by omega) | exact dz_pmr hr_a281 (by decide) (by omega) (by omega) (by omega) | exact dz_ptr hr_a281 (by decide) (by decide) (by omega) | exact dz_ptr hr_a281 (by decide) (by decide) (by show _ ≤ 3; omega) | exact dz_rgs hr_a281 (by omega))) (fun r h => ?_)
    exact (by first | exact h | exact dz_rgm h (by omega) (by omega))
  · skip
    have o0 : v1.toInt ≤ (4 : Int) - 2 := o0
    have o1 : c261_many.toInt = (6 : Int) := o1
    refine dz_Tw (t173_X10_fillFromNext_g34 fu hfu c261_many a282 v1 a281 (by first | assumption | omega) (by first | assumption | omega) (by first | assumption | omega) (by first | assumption | omega) (by first | exact hr_a282 | exact dz_rgm hr_a282 (by omega) (by omega) | exact dz_pmr hr_a282 (by decide) (by omega) (by omega) (by omega) | exact dz_ptr hr_a282 (by decide) (by decide) (by omega) | exact dz_ptr hr_a282 (by decide) (by decide) (by show _ ≤ 4; omega) | exact dz_rgs hr_a282 (by omega)) (by first | exact hr_a281 | exact dz_rgm hr_a281 (by omega) (by omega) | exact dz_pmr hr_a281 (by decide) (by omega) (by omega) (by omega) | exact dz_ptr hr_a281 (by decide) (by decide) (by omega) | exact dz_ptr hr_a281 (by decide) (by decide) (by show _ ≤ 4; omega) | exact dz_rgs hr_a281 (by omega))) (fun r h => ?_)
    exact (by first | exact h | exact dz_rgm h (by omega) (by omega))
  · skip
    exfalso
    have o0 : v1.toInt ≤ (0 : Int) - 2 := o0
    have o1 : c261_many.toInt = (24 : Int) := o1
    omega
  · skip
    exfalso
    have o0 : v1.toInt ≤ (1 : Int) - 2 := o0
    have o1 : c261_many.toInt = (24 : Int) := o1
    omega
  · skip
    have o0 : v1.toInt ≤ (2 : Int) - 2 := o0
    have o1 : c261_many.toInt = (24 : Int) := o1
    refine dz_Tw (t173_X10_fillFromNext_g42 fu hfu c261_many a282 v1 a281 (by first | assumption | omega) (by first | assumption | omega) (by first | assumption | omega) (by first | assumption | omega) (by first | exact hr_a282 | exact dz_rgm hr_a282 (by omega) (by omega) | exact dz_pmr hr_a282 (by decide) (by omega) (by omega) (by omega) | exact dz_ptr hr_a282 (by decide) (by decide) (by omega) | exact dz_ptr hr_a282 (by decide) (by decide) (by show _ ≤ 2; omega) | exact dz_rgs hr_a282 (by omega)) (by first | exact hr_a281 | exact dz_rgm hr_a281 (by omega) (by omega) | exact dz_pmr hr_a281 (by decide) (by omega) (by omega) (by omega) | exact dz_ptr hr_a281 (by decide) (by decide) (by omega) | exact dz_ptr hr_a281 (by decide) (by decide) (by show _ ≤ 2; omega) | exact dz_rgs hr_a281 (by omega))) (fun r h => ?_)
    exact (by first | exact h | exact dz_rgm h (by omega) (by omega))
  · skip
    have o0 : v1.toInt ≤ (3 : Int) - 2 := o0
    have o1 : c261_many.toInt = (24 : Int) := o1
    refine dz_Tw (t173_X10_fillFromNext_g43 fu hfu c261_many a282 v1 a281 (by first | assumption | omega) (by first | assumption | omega) (by first | assumption | omega) (by first | assumption | omega) (by first | exact hr_a282 | exact dz_rgm hr_a282 (by omega) (by omega) | exact dz_pmr hr_a282 (by decide) (by omega) (by omega) (by omega) | exact dz_ptr hr_a282 (by decide) (by decide) (by omega) | exact dz_ptr hr_a282 (by decide) (by decide) (by show _ ≤ 3; omega) | exact dz_rgs hr_a282 (by omega)) (by first | exact hr_a281 | exact dz_rgm hr_a281 (by omega) (by omega) | exact dz_pmr hr_a281 (by decide) (by omega) (by omega) (by omega) | exact dz_ptr hr_a281 (by decide) (by decide) (by omega) | exact dz_ptr hr_a281 (by decide) (by decide) (by show _ ≤ 3; omega) | exact dz_rgs hr_a281 (by omega))) (fun r h => ?_)
    exact (by first | exact h | exact dz_rgm h (by omega) (by omega))
set_option maxHeartbeats 1000000 in
set_option maxRecDepth 10000 in
theorem t174_X10_build_E_g20 (fu : Nat) (hfu : 1000000000000 ≤ fu) (c248_pots : Int32) (c261_many : Int32) (c267_total : Int32) (a268 : Nat → Int32) (a269 : Nat → Int32) (n269 : Nat) (a275 : Nat → Int32) (c280_fresh : Int32) (a281 : Nat → Int32) (a282 : Nat → Int32) (a283 : Nat → Int32) (p0 : c248_pots.toInt ≤ 0) (p1 : 0 ≤ c248_pots.toInt) (p2 : c261_many.toInt ≤ 2) (p3 : 2 ≤ c261_many.toInt) (p4 : c267_total.toInt ≤ 1) (p5 : 1 ≤ c267_total.toInt) (p6 : ((n269 : Nat) : Int) ≤ 13824) (p7 : 1 ≤ ((n269 : Nat) : Int)) (p8 : c280_fresh.toInt ≤ 1) (p9 : 0 ≤ c280_fresh.toInt) (p10 : c267_total.toInt ≤ ((n269 : Nat) : Int)) (hr_a269 : dz_rg a269 n269 0 1023) (hr_a275 : dz_pm a275 0) (hr_a281 : dz_rg a281 601 0 16777215) (hr_a282 : dz_rg a282 5 0 14425) (kv : Nat) (hkv : 1000000000000 ≤ kv) : dz_T (s174_X10_build_0 fu c248_pots c261_many c267_total a268 a269 n269 a275 (F174_X10_build fu c248_pots c261_many c267_total a268 a269 n269 a275 kv).1  c280_fresh a281 a282 a283) (fun r => r.1.toInt ≤ 1 ∧ 1 ≤ r.1.toInt ∧ dz_rg r.2.1 601 0 16777215 ∧ dz_rg r.2.2.1 5 0 14425 ∧ dz_pm r.2.2.2 0) := by
  unfold s174_X10_build_0
  have e1 := dz_l0
  refine dz_Tng (by omega) ?_
  refine dz_Tng (by omega) ?_
  have e2 := dz_l4
  refine dz_Tng (by omega) ?_
  have e3 := dz_tn (0 : Int32)
  have e4 := dz_tn (4 : Int32)
  refine dz_Tg (by omega) ?_
  refine dz_Tg (by omega) ?_
  refine dz_Tin (by omega) (by omega) ?_
  obtain ⟨k1, rfl⟩ : ∃ x, kv = x + 1 := ⟨kv - 1, by omega⟩
  show dz_T (s174_X10_build_1 fu c248_pots c261_many c267_total a268 a269 n269 a275 (F174_X10_build fu c248_pots c261_many c267_total a268 a269 n269 a275 k1).1 (F174_X10_build fu c248_pots c261_many c267_total a268 a269 n269 a275 k1).2.1 c248_pots (1 : Int32) (0 : Int32) c280_fresh a281 (upd a282 (0 : Int32).toNatClampNeg (0 : Int32)) (va_cpy a275 a283 (0 : Int32).toNatClampNeg (0 : Int32).toNatClampNeg (4 : Int32).toNatClampNeg)) _
  unfold s174_X10_build_1
  refine dz_Tle (fun h5 => ?_) (fun h5 => ?_)
  · skip
    refine dz_Tle (fun h6 => ?_) (fun h6 => ?_)
    · skip
      obtain ⟨k2, rfl⟩ : ∃ x, k1 = x + 1 := ⟨k1 - 1, by omega⟩
      show dz_T (s174_X10_build_2 fu c248_pots c261_many c267_total a268 a269 n269 a275 (F174_X10_build fu c248_pots c261_many c267_total a268 a269 n269 a275 k2).2.2 c248_pots c280_fresh a281 (upd a282 (0 : Int32).toNatClampNeg (0 : Int32)) (va_cpy a275 a283 (0 : Int32).toNatClampNeg (0 : Int32).toNatClampNeg (4 : Int32).toNatClampNeg)) _
      unfold s174_X10_build_2
      have e7 := dz_l2
      have e8 := dz_sub (a := c248_pots) (b := (2 : Int32)) (by omega) (by omega)
      generalize (c248_pots - (2 : Int32)) = zz4 at *
      obtain ⟨k3, rfl⟩ : ∃ x, k2 = x + 1 := ⟨k2 - 1, by omega⟩
      show dz_T (s174_X10_build_3 fu c248_pots c261_many c267_total a268 a269 n269 a275 (F174_X10_build fu c248_pots c261_many c267_total a268 a269 n269 a275 k3).2.2 zz4 c280_fresh a281 (upd a282 (0 : Int32).toNatClampNeg (0 : Int32)) (va_cpy a275 a283 (0 : Int32).toNatClampNeg (0 : Int32).toNatClampNeg (4 : Int32).toNatClampNeg)) _
      unfold s174_X10_build_3
      refine dz_Tlt (fun h9 => ?_) (fun h9 => ?_)
      · skip
        have e10 := dz_l1
        refine dz_Ts ?_
        dsimp only
        exact ⟨(by omega), (by omega), (hr_a281), (dz_rgu (hr_a282) (by omega) (by omega)), (dz_pmc (hr_a275) (by decide))⟩
      · skip
        exfalso; omega
    · skip
      exfalso; omega
  · skip
    exfalso; omega
theorem t174_X10_build_g20 (fu : Nat) (hfu : 1000000000000 ≤ fu) (c248_pots : Int32) (c261_many : Int32) (c267_total : Int32) (a268 : Nat → Int32) (a269 : Nat → Int32) (n269 : Nat) (a275 : Nat → Int32) (c280_fresh : Int32) (a281 : Nat → Int32) (a282 : Nat → Int32) (a283 : Nat → Int32) (p0 : c248_pots.toInt ≤ 0) (p1 : 0 ≤ c248_pots.toInt) (p2 : c261_many.toInt ≤ 2) (p3 : 2 ≤ c261_many.toInt) (p4 : c267_total.toInt ≤ 1) (p5 : 1 ≤ c267_total.toInt) (p6 : ((n269 : Nat) : Int) ≤ 13824) (p7 : 1 ≤ ((n269 : Nat) : Int)) (p8 : c280_fresh.toInt ≤ 1) (p9 : 0 ≤ c280_fresh.toInt) (p10 : c267_total.toInt ≤ ((n269 : Nat) : Int)) (hr_a269 : dz_rg a269 n269 0 1023) (hr_a275 : dz_pm a275 0) (hr_a281 : dz_rg a281 601 0 16777215) (hr_a282 : dz_rg a282 5 0 14425) : dz_T (f174_X10_build fu c248_pots c261_many c267_total a268 a269 n269 a275 c280_fresh a281 a282 a283) (fun r => r.1.toInt ≤ 1 ∧ 1 ≤ r.1.toInt ∧ dz_rg r.2.1 601 0 16777215 ∧ dz_rg r.2.2.1 5 0 14425 ∧ dz_pm r.2.2.2 0) :=
  t174_X10_build_E_g20 fu hfu c248_pots c261_many c267_total a268 a269 n269 a275 c280_fresh a281 a282 a283 p0 p1 p2 p3 p4 p5 p6 p7 p8 p9 p10 hr_a269 hr_a275 hr_a281 hr_a282 fu hfu
set_option maxHeartbeats 1000000 in
set_option maxRecDepth 10000 in
theorem t174_X10_build_E_g21 (fu : Nat) (hfu : 1000000000000 ≤ fu) (c248_pots : Int32) (c261_many : Int32) (c267_total : Int32) (a268 : Nat → Int32) (a269 : Nat → Int32) (n269 : Nat) (a275 : Nat → Int32) (c280_fresh : Int32) (a281 : Nat → Int32) (a282 : Nat → Int32) (a283 : Nat → Int32) (p0 : c248_pots.toInt ≤ 1) (p1 : 1 ≤ c248_pots.toInt) (p2 : c261_many.toInt ≤ 2) (p3 : 2 ≤ c261_many.toInt) (p4 : c267_total.toInt ≤ 2) (p5 : 2 ≤ c267_total.toInt) (p6 : ((n269 : Nat) : Int) ≤ 13824) (p7 : 1 ≤ ((n269 : Nat) : Int)) (p8 : c280_fresh.toInt ≤ 1) (p9 : 0 ≤ c280_fresh.toInt) (p10 : c267_total.toInt ≤ ((n269 : Nat) : Int)) (hr_a268 : dz_pt a268 [1]) (hr_a269 : dz_rg a269 n269 0 1023) (hr_a275 : dz_pm a275 1) (hr_a281 : dz_rg a281 601 0 16777215) (hr_a282 : dz_rg a282 5 0 14425) (kv : Nat) (hkv : 1000000000000 ≤ kv) : dz_T (s174_X10_build_0 fu c248_pots c261_many c267_total a268 a269 n269 a275 (F174_X10_build fu c248_pots c261_many c267_total a268 a269 n269 a275 kv).1  c280_fresh a281 a282 a283) (fun r => r.1.toInt ≤ 1 ∧ 1 ≤ r.1.toInt ∧ dz_rg r.2.1 601 0 16777215 ∧ dz_rg r.2.2.1 5 0 14425 ∧ dz_pm r.2.2.2 1) := by
  unfold s174_X10_build_0
  have e1 := dz_l0
  refine dz_Tng (by omega) ?_
  refine dz_Tng (by omega) ?_
  have e2 := dz_l4
  refine dz_Tng (by omega) ?_
  have e3 := dz_tn (0 : Int32)
  have e4 := dz_tn (4 : Int32)
  refine dz_Tg (by omega) ?_
  refine dz_Tg (by omega) ?_
  refine dz_Tin (by omega) (by omega) ?_
  obtain ⟨k1, rfl⟩ : ∃ x, kv = x + 1 := ⟨kv - 1, by omega⟩
  show dz_T (s174_X10_build_1 fu c248_pots c261_many c267_total a268 a269 n269 a275 (F174_X10_build fu c248_pots c261_many c267_total a268 a269 n269 a275 k1).1 (F174_X10_build fu c248_pots c261_many c267_total a268 a269 n269 a275 k1).2.1 c248_pots (1 : Int32) (0 : Int32) c280_fresh a281 (upd a282 (0 : Int32).toNatClampNeg (0 : Int32)) (va_cpy a275 a283 (0 : Int32).toNatClampNeg (0 : Int32).toNatClampNeg (4 : Int32).toNatClampNeg)) _
  unfold s174_X10_build_1
  refine dz_Tle (fun h5 => ?_) (fun h5 => ?_)
  · skip
    exfalso; omega
  · skip
    refine dz_Tin (by omega) (by omega) ?_
    have e6 := dz_l1
    have e7 := dz_add (a := (0 : Int32)) (b := (1 : Int32)) (by omega) (by omega)
    refine dz_Tin (by omega) (by omega) ?_
    obtain ⟨k2, rfl⟩ : ∃ x, k1 = x + 1 := ⟨k1 - 1, by omega⟩
    show dz_T (s174_X10_build_1 fu c248_pots c261_many c267_total a268 a269 n269 a275 (F174_X10_build fu c248_pots c261_many c267_total a268 a269 n269 a275 k2).1 (F174_X10_build fu c248_pots c261_many c267_total a268 a269 n269 a275 k2).2.1 c248_pots ((1 : Int32) * c261_many) ((0 : Int32) + (1 : Int32)) c280_fresh a281 (upd (upd a282 (0 : Int32).toNatClampNeg (0 : Int32)) ((0 : Int32) + (1 : Int32)).toNatClampNeg (((upd a282 (0 : Int32).toNatClampNeg (0 : Int32)) (0 : Int32).toNatClampNeg) + (1 : Int32))) (va_cpy a275 a283 (0 : Int32).toNatClampNeg (0 : Int32).toNatClampNeg (4 : Int32).toNatClampNeg)) _
    unfold s174_X10_build_1
    refine dz_Tle (fun h8 => ?_) (fun h8 => ?_)
    · skip
      refine dz_Tle (fun h9 => ?_) (fun h9 => ?_)
      · skip
        exfalso; omega
      · skip
        have e10 := dz_ups (a := a282) (v := (0 : Int32)) (i := (0 : Int32)) (j := (0 : Int32)) (by omega)
        have e11 := dz_add (a := ((upd a282 (0 : Int32).toNatClampNeg (0 : Int32)) (0 : Int32).toNatClampNeg)) (b := (1 : Int32)) (by omega) (by omega)
        refine dz_Tb (t172_X10_fillLast_g21 fu hfu _ _ _ _ _ _ _ _ _ p0 p1 p2 p3 p4 p5 p6 p7 p10 (hr_a268) (hr_a269) (dz_ptmk2 ((dz_upo (j := ((0 : Int32) + (1 : Int32))) 0 (by omega)).trans ((dz_upk (j := (0 : Int32)) 0 (by omega)).trans (by omega))) ((dz_upk (j := ((0 : Int32) + (1 : Int32))) 1 (by omega)).trans (by omega))) (dz_pmc (hr_a275) (by decide)) (hr_a281) (by first | assumption | omega)) (fun r1 q => ?_)
        have qa1_0 := q
        obtain ⟨k3, rfl⟩ : ∃ x, k2 = x + 1 := ⟨k2 - 1, by omega⟩
        show dz_T (s174_X10_build_2 fu c248_pots c261_many c267_total a268 a269 n269 a275 (F174_X10_build fu c248_pots c261_many c267_total a268 a269 n269 a275 k3).2.2 c248_pots c280_fresh r1 (upd (upd a282 (0 : Int32).toNatClampNeg (0 : Int32)) ((0 : Int32) + (1 : Int32)).toNatClampNeg (((upd a282 (0 : Int32).toNatClampNeg (0 : Int32)) (0 : Int32).toNatClampNeg) + (1 : Int32))) (va_cpy a275 a283 (0 : Int32).toNatClampNeg (0 : Int32).toNatClampNeg (4 : Int32).toNatClampNeg)) _
        unfold s174_X10_build_2
        have e12 := dz_l2
        have e13 := dz_sub (a := c248_pots) (b := (2 : Int32)) (by omega) (by omega)
        generalize (c248_pots - (2 : Int32)) = zz4 at *
        obtain ⟨k4, rfl⟩ : ∃ x, k3 = x + 1 := ⟨k3 - 1, by omega⟩
        show dz_T (s174_X10_build_3 fu c248_pots c261_many c267_total a268 a269 n269 a275 (F174_X10_build fu c248_pots c261_many c267_total a268 a269 n269 a275 k4).2.2 zz4 c280_fresh r1 (upd (upd a282 (0 : Int32).toNatClampNeg (0 : Int32)) ((0 : Int32) + (1 : Int32)).toNatClampNeg (((upd a282 (0 : Int32).toNatClampNeg (0 : Int32)) (0 : Int32).toNatClampNeg) + (1 : Int32))) (va_cpy a275 a283 (0 : Int32).toNatClampNeg (0 : Int32).toNatClampNeg (4 : Int32).toNatClampNeg)) _
        unfold s174_X10_build_3
        refine dz_Tlt (fun h14 => ?_) (fun h14 => ?_)
        · skip
          refine dz_Ts ?_
          dsimp only
          exact ⟨(by omega), (by omega), (qa1_0), (dz_rgu (dz_rgu (hr_a282) (by omega) (by omega)) (by omega) (by omega)), (dz_pmc (hr_a275) (by decide))⟩
        · skip
          exfalso; omega
    · skip
      exfalso; omega
theorem t174_X10_build_g21 (fu : Nat) (hfu : 1000000000000 ≤ fu) (c248_pots : Int32) (c261_many : Int32) (c267_total : Int32) (a268 : Nat → Int32) (a269 : Nat → Int32) (n269 : Nat) (a275 : Nat → Int32) (c280_fresh : Int32) (a281 : Nat → Int32) (a282 : Nat → Int32) (a283 : Nat → Int32) (p0 : c248_pots.toInt ≤ 1) (p1 : 1 ≤ c248_pots.toInt) (p2 : c261_many.toInt ≤ 2) (p3 : 2 ≤ c261_many.toInt) (p4 : c267_total.toInt ≤ 2) (p5 : 2 ≤ c267_total.toInt) (p6 : ((n269 : Nat) : Int) ≤ 13824) (p7 : 1 ≤ ((n269 : Nat) : Int)) (p8 : c280_fresh.toInt ≤ 1) (p9 : 0 ≤ c280_fresh.toInt) (p10 : c267_total.toInt ≤ ((n269 : Nat) : Int)) (hr_a268 : dz_pt a268 [1]) (hr_a269 : dz_rg a269 n269 0 1023) (hr_a275 : dz_pm a275 1) (hr_a281 : dz_rg a281 601 0 16777215) (hr_a282 : dz_rg a282 5 0 14425) : dz_T (f174_X10_build fu c248_pots c261_many c267_total a268 a269 n269 a275 c280_fresh a281 a282 a283) (fun r => r.1.toInt ≤ 1 ∧ 1 ≤ r.1.toInt ∧ dz_rg r.2.1 601 0 16777215 ∧ dz_rg r.2.2.1 5 0 14425 ∧ dz_pm r.2.2.2 1) :=
  t174_X10_build_E_g21 fu hfu c248_pots c261_many c267_total a268 a269 n269 a275 c280_fresh a281 a282 a283 p0 p1 p2 p3 p4 p5 p6 p7 p8 p9 p10 hr_a268 hr_a269 hr_a275 hr_a281 hr_a282 fu hfu
set_option maxHeartbeats 1000000 in
set_option maxRecDepth 10000 in
theorem t174_X10_build_E_g22 (fu : Nat) (hfu : 1000000000000 ≤ fu) (c248_pots : Int32) (c261_many : Int32) (c267_total : Int32) (a268 : Nat → Int32) (a269 : Nat → Int32) (n269 : Nat) (a275 : Nat → Int32) (c280_fresh : Int32) (a281 : Nat → Int32) (a282 : Nat → Int32) (a283 : Nat → Int32) (p0 : c248_pots.toInt ≤ 2) (p1 : 2 ≤ c248_pots.toInt) (p2 : c261_many.toInt ≤ 2) (p3 : 2 ≤ c261_many.toInt) (p4 : c267_total.toInt ≤ 4) (p5 : 4 ≤ c267_total.toInt) (p6 : ((n269 : Nat) : Int) ≤ 13824) (p7 : 1 ≤ ((n269 : Nat) : Int)) (p8 : c280_fresh.toInt ≤ 1) (p9 : 0 ≤ c280_fresh.toInt) (p10 : c267_total.toInt ≤ ((n269 : Nat) : Int)) (hr_a268 : dz_pt a268 [2, 1]) (hr_a269 : dz_rg a269 n269 0 1023) (hr_a275 : dz_pm a275 2) (hr_a281 : dz_rg a281 601 0 16777215) (hr_a282 : dz_rg a282 5 0 14425) (kv : Nat) (hkv : 1000000000000 ≤ kv) : dz_T (s174_X10_build_0 fu c248_pots c261_many c267_total a268 a269 n269 a275 (F174_X10_build fu c248_pots c261_many c267_total a268 a269 n269 a275 kv).1  c280_fresh a281 a282 a283) (fun r => r.1.toInt ≤ 1 ∧ 1 ≤ r.1.toInt ∧ dz_rg r.2.1 601 0 16777215 ∧ dz_rg r.2.2.1 5 0 14425 ∧ dz_pm r.2.2.2 2) := by
  unfold s174_X10_build_0
  have e1 := dz_l0
  refine dz_Tng (by omega) ?_
  refine dz_Tng (by omega) ?_
  have e2 := dz_l4
  refine dz_Tng (by omega) ?_
  have e3 := dz_tn (0 : Int32)
  have e4 := dz_tn (4 : Int32)
  refine dz_Tg (by omega) ?_
  refine dz_Tg (by omega) ?_
  refine dz_Tin (by omega) (by omega) ?_
  obtain ⟨k1, rfl⟩ : ∃ x, kv = x + 1 := ⟨kv - 1, by omega⟩
  show dz_T (s174_X10_build_1 fu c248_pots c261_many c267_total a268 a269 n269 a275 (F174_X10_build fu c248_pots c261_many c267_total a268 a269 n269 a275 k1).1 (F174_X10_build fu c248_pots c261_many c267_total a268 a269 n269 a275 k1).2.1 c248_pots (1 : Int32) (0 : Int32) c280_fresh a281 (upd a282 (0 : Int32).toNatClampNeg (0 : Int32)) (va_cpy a275 a283 (0 : Int32).toNatClampNeg (0 : Int32).toNatClampNeg (4 : Int32).toNatClampNeg)) _
  unfold s174_X10_build_1
  refine dz_Tle (fun h5 => ?_) (fun h5 => ?_)
  · skip
    exfalso; omega
  · skip
    refine dz_Tin (by omega) (by omega) ?_
    have e6 := dz_l1
    have e7 := dz_add (a := (0 : Int32)) (b := (1 : Int32)) (by omega) (by omega)
    refine dz_Tin (by omega) (by omega) ?_
    obtain ⟨k2, rfl⟩ : ∃ x, k1 = x + 1 := ⟨k1 - 1, by omega⟩
    show dz_T (s174_X10_build_1 fu c248_pots c261_many c267_total a268 a269 n269 a275 (F174_X10_build fu c248_pots c261_many c267_total a268 a269 n269 a275 k2).1 (F174_X10_build fu c248_pots c261_many c267_total a268 a269 n269 a275 k2).2.1 c248_pots ((1 : Int32) * c261_many) ((0 : Int32) + (1 : Int32)) c280_fresh a281 (upd (upd a282 (0 : Int32).toNatClampNeg (0 : Int32)) ((0 : Int32) + (1 : Int32)).toNatClampNeg (((upd a282 (0 : Int32).toNatClampNeg (0 : Int32)) (0 : Int32).toNatClampNeg) + (1 : Int32))) (va_cpy a275 a283 (0 : Int32).toNatClampNeg (0 : Int32).toNatClampNeg (4 : Int32).toNatClampNeg)) _
    unfold s174_X10_build_1
    refine dz_Tle (fun h8 => ?_) (fun h8 => ?_)
    · skip
      exfalso; omega
    · skip
      refine dz_Tin (by omega) (by omega) ?_
      have e9 := dz_add (a := ((0 : Int32) + (1 : Int32))) (b := (1 : Int32)) (by omega) (by omega)
      refine dz_Tin (by omega) (by omega) ?_
      obtain ⟨k3, rfl⟩ : ∃ x, k2 = x + 1 := ⟨k2 - 1, by omega⟩
      show dz_T (s174_X10_build_1 fu c248_pots c261_many c267_total a268 a269 n269 a275 (F174_X10_build fu c248_pots c261_many c267_total a268 a269 n269 a275 k3).1 (F174_X10_build fu c248_pots c261_many c267_total a268 a269 n269 a275 k3).2.1 c248_pots (((1 : Int32) * c261_many) * c261_many) (((0 : Int32) + (1 : Int32)) + (1 : Int32)) c280_fresh a281 (upd (upd (upd a282 (0 : Int32).toNatClampNeg (0 : Int32)) ((0 : Int32) + (1 : Int32)).toNatClampNeg (((upd a282 (0 : Int32).toNatClampNeg (0 : Int32)) (0 : Int32).toNatClampNeg) + (1 : Int32))) (((0 : Int32) + (1 : Int32)) + (1 : Int32)).toNatClampNeg (((upd (upd a282 (0 : Int32).toNatClampNeg (0 : Int32)) ((0 : Int32) + (1 : Int32)).toNatClampNeg (((upd a282 (0 : Int32).toNatClampNeg (0 : Int32)) (0 : Int32).toNatClampNeg) + (1 : Int32))) ((0 : Int32) + (1 : Int32)).toNatClampNeg) + ((1 : Int32) * c261_many))) (va_cpy a275 a283 (0 : Int32).toNatClampNeg (0 : Int32).toNatClampNeg (4 : Int32).toNatClampNeg)) _
      unfold s174_X10_build_1
      refine dz_Tle (fun h10 => ?_) (fun h10 => ?_)
      · skip
        refine dz_Tle (fun h11 => ?_) (fun h11 => ?_)
        · skip
          exfalso; omega
        · skip
          have e12 := dz_ups (a := a282) (v := (0 : Int32)) (i := (0 : Int32)) (j := (0 : Int32)) (by omega)
          have e13 := dz_add (a := ((upd a282 (0 : Int32).toNatClampNeg (0 : Int32)) (0 : Int32).toNatClampNeg)) (b := (1 : Int32)) (by omega) (by omega)
          have e14 := dz_ups (a := (upd a282 (0 : Int32).toNatClampNeg (0 : Int32))) (v := (((upd a282 (0 : Int32).toNatClampNeg (0 : Int32)) (0 : Int32).toNatClampNeg) + (1 : Int32))) (i := ((0 : Int32) + (1 : Int32))) (j := ((0 : Int32) + (1 : Int32))) (by omega)
          have e15 := dz_mull (a := (1 : Int32)) (b := c261_many) 1 (by omega) (by omega) (by omega)
          have e16 := dz_add (a := ((upd (upd a282 (0 : Int32).toNatClampNeg (0 : Int32)) ((0 : Int32) + (1 : Int32)).toNatClampNeg (((upd a282 (0 : Int32).toNatClampNeg (0 : Int32)) (0 : Int32).toNatClampNeg) + (1 : Int32))) ((0 : Int32) + (1 : Int32)).toNatClampNeg)) (b := ((1 : Int32) * c261_many)) (by omega) (by omega)
          refine dz_Tb (t172_X10_fillLast_g22 fu hfu _ _ _ _ _ _ _ _ _ p0 p1 p2 p3 p4 p5 p6 p7 p10 (hr_a268) (hr_a269) (dz_ptmk3 ((dz_upo (j := (((0 : Int32) + (1 : Int32)) + (1 : Int32))) 0 (by omega)).trans ((dz_upo (j := ((0 : Int32) + (1 : Int32))) 0 (by omega)).trans ((dz_upk (j := (0 : Int32)) 0 (by omega)).trans (by omega)))) ((dz_upo (j := (((0 : Int32) + (1 : Int32)) + (1 : Int32))) 1 (by omega)).trans ((dz_upk (j := ((0 : Int32) + (1 : Int32))) 1 (by omega)).trans (by omega))) ((dz_upk (j := (((0 : Int32) + (1 : Int32)) + (1 : Int32))) 2 (by omega)).trans (by omega))) (dz_pmc (hr_a275) (by decide)) (hr_a281) (by first | assumption | omega)) (fun r1 q => ?_)
          have qa1_0 := q
          obtain ⟨k4, rfl⟩ : ∃ x, k3 = x + 1 := ⟨k3 - 1, by omega⟩
          show dz_T (s174_X10_build_2 fu c248_pots c261_many c267_total a268 a269 n269 a275 (F174_X10_build fu c248_pots c261_many c267_total a268 a269 n269 a275 k4).2.2 c248_pots c280_fresh r1 (upd (upd (upd a282 (0 : Int32).toNatClampNeg (0 : Int32)) ((0 : Int32) + (1 : Int32)).toNatClampNeg (((upd a282 (0 : Int32).toNatClampNeg (0 : Int32)) (0 : Int32).toNatClampNeg) + (1 : Int32))) (((0 : Int32) + (1 : Int32)) + (1 : Int32)).toNatClampNeg (((upd (upd a282 (0 : Int32).toNatClampNeg (0 : Int32)) ((0 : Int32) + (1 : Int32)).toNatClampNeg (((upd a282 (0 : Int32).toNatClampNeg (0 : Int32)) (0 : Int32).toNatClampNeg) + (1 : Int32))) ((0 : Int32) + (1 : Int32)).toNatClampNeg) + ((1 : Int32) * c261_many))) (va_cpy a275 a283 (0 : Int32).toNatClampNeg (0 : Int32).toNatClampNeg (4 : Int32).toNatClampNeg)) _
          unfold s174_X10_build_2
          have e17 := dz_l2
          have e18 := dz_sub (a := c248_pots) (b := (2 : Int32)) (by omega) (by omega)
          generalize (c248_pots - (2 : Int32)) = zz7 at *
          obtain ⟨k5, rfl⟩ : ∃ x, k4 = x + 1 := ⟨k4 - 1, by omega⟩
          show dz_T (s174_X10_build_3 fu c248_pots c261_many c267_total a268 a269 n269 a275 (F174_X10_build fu c248_pots c261_many c267_total a268 a269 n269 a275 k5).2.2 zz7 c280_fresh r1 (upd (upd (upd a282 (0 : Int32).toNatClampNeg (0 : Int32)) ((0 : Int32) + (1 : Int32)).toNatClampNeg (((upd a282 (0 : Int32).toNatClampNeg (0 : Int32)) (0 : Int32).toNatClampNeg) + (1 : Int32))) (((0 : Int32) + (1 : Int32)) + (1 : Int32)).toNatClampNeg (((upd (upd a282 (0 : Int32).toNatClampNeg (0 : Int32)) ((0 : Int32) + (1 : Int32)).toNatClampNeg (((upd a282 (0 : Int32).toNatClampNeg (0 : Int32)) (0 : Int32).toNatClampNeg) + (1 : Int32))) ((0 : Int32) + (1 : Int32)).toNatClampNeg) + ((1 : Int32) * c261_many))) (va_cpy a275 a283 (0 : Int32).toNatClampNeg (0 : Int32).toNatClampNeg (4 : Int32).toNatClampNeg)) _
          unfold s174_X10_build_3
          refine dz_Tlt (fun h19 => ?_) (fun h19 => ?_)
          · skip
            exfalso; omega
          · skip
            refine dz_Tb (t173_X10_fillFromNext_g22 fu hfu _ _ _ _ p2 p3 (by first | assumption | omega) (by first | assumption | omega) (dz_ptmk3 ((dz_upo (j := (((0 : Int32) + (1 : Int32)) + (1 : Int32))) 0 (by omega)).trans ((dz_upo (j := ((0 : Int32) + (1 : Int32))) 0 (by omega)).trans ((dz_upk (j := (0 : Int32)) 0 (by omega)).trans (by omega)))) ((dz_upo (j := (((0 : Int32) + (1 : Int32)) + (1 : Int32))) 1 (by omega)).trans ((dz_upk (j := ((0 : Int32) + (1 : Int32))) 1 (by omega)).trans (by omega))) ((dz_upk (j := (((0 : Int32) + (1 : Int32)) + (1 : Int32))) 2 (by omega)).trans (by omega))) (qa1_0)) (fun r2 q => ?_)
            have qa2_0 := q
            have e20 := dz_lm1
            have e21 := dz_add (a := zz7) (b := (-(1 : Int32))) (by omega) (by omega)
            generalize (zz7 + (-(1 : Int32))) = zz8 at *
            obtain ⟨k6, rfl⟩ : ∃ x, k5 = x + 1 := ⟨k5 - 1, by omega⟩
            show dz_T (s174_X10_build_3 fu c248_pots c261_many c267_total a268 a269 n269 a275 (F174_X10_build fu c248_pots c261_many c267_total a268 a269 n269 a275 k6).2.2 zz8 c280_fresh r2 (upd (upd (upd a282 (0 : Int32).toNatClampNeg (0 : Int32)) ((0 : Int32) + (1 : Int32)).toNatClampNeg (((upd a282 (0 : Int32).toNatClampNeg (0 : Int32)) (0 : Int32).toNatClampNeg) + (1 : Int32))) (((0 : Int32) + (1 : Int32)) + (1 : Int32)).toNatClampNeg (((upd (upd a282 (0 : Int32).toNatClampNeg (0 : Int32)) ((0 : Int32) + (1 : Int32)).toNatClampNeg (((upd a282 (0 : Int32).toNatClampNeg (0 : Int32)) (0 : Int32).toNatClampNeg) + (1 : Int32))) ((0 : Int32) + (1 : Int32)).toNatClampNeg) + ((1 : Int32) * c261_many))) (va_cpy a275 a283 (0 : Int32).toNatClampNeg (0 : Int32).toNatClampNeg (4 : Int32).toNatClampNeg)) _
            unfold s174_X10_build_3
            refine dz_Tlt (fun h22 => ?_) (fun h22 => ?_)
            · skip
              refine dz_Ts ?_
              dsimp only
              exact ⟨(by omega), (by omega), (qa2_0), (dz_rgu (dz_rgu (dz_rgu (hr_a282) (by omega) (by omega)) (by omega) (by omega)) (by omega) (by omega)), (dz_pmc (hr_a275) (by decide))⟩
            · skip
              exfalso; omega
      · skip
        exfalso; omega
theorem t174_X10_build_g22 (fu : Nat) (hfu : 1000000000000 ≤ fu) (c248_pots : Int32) (c261_many : Int32) (c267_total : Int32) (a268 : Nat → Int32) (a269 : Nat → Int32) (n269 : Nat) (a275 : Nat → Int32) (c280_fresh : Int32) (a281 : Nat → Int32) (a282 : Nat → Int32) (a283 : Nat → Int32) (p0 : c248_pots.toInt ≤ 2) (p1 : 2 ≤ c248_pots.toInt) (p2 : c261_many.toInt ≤ 2) (p3 : 2 ≤ c261_many.toInt) (p4 : c267_total.toInt ≤ 4) (p5 : 4 ≤ c267_total.toInt) (p6 : ((n269 : Nat) : Int) ≤ 13824) (p7 : 1 ≤ ((n269 : Nat) : Int)) (p8 : c280_fresh.toInt ≤ 1) (p9 : 0 ≤ c280_fresh.toInt) (p10 : c267_total.toInt ≤ ((n269 : Nat) : Int)) (hr_a268 : dz_pt a268 [2, 1]) (hr_a269 : dz_rg a269 n269 0 1023) (hr_a275 : dz_pm a275 2) (hr_a281 : dz_rg a281 601 0 16777215) (hr_a282 : dz_rg a282 5 0 14425) : dz_T (f174_X10_build fu c248_pots c261_many c267_total a268 a269 n269 a275 c280_fresh a281 a282 a283) (fun r => r.1.toInt ≤ 1 ∧ 1 ≤ r.1.toInt ∧ dz_rg r.2.1 601 0 16777215 ∧ dz_rg r.2.2.1 5 0 14425 ∧ dz_pm r.2.2.2 2) :=
  t174_X10_build_E_g22 fu hfu c248_pots c261_many c267_total a268 a269 n269 a275 c280_fresh a281 a282 a283 p0 p1 p2 p3 p4 p5 p6 p7 p8 p9 p10 hr_a268 hr_a269 hr_a275 hr_a281 hr_a282 fu hfu
set_option maxHeartbeats 1000000 in
set_option maxRecDepth 10000 in
theorem t174_X10_build_E_g23 (fu : Nat) (hfu : 1000000000000 ≤ fu) (c248_pots : Int32) (c261_many : Int32) (c267_total : Int32) (a268 : Nat → Int32) (a269 : Nat → Int32) (n269 : Nat) (a275 : Nat → Int32) (c280_fresh : Int32) (a281 : Nat → Int32) (a282 : Nat → Int32) (a283 : Nat → Int32) (p0 : c248_pots.toInt ≤ 3) (p1 : 3 ≤ c248_pots.toInt) (p2 : c261_many.toInt ≤ 2) (p3 : 2 ≤ c261_many.toInt) (p4 : c267_total.toInt ≤ 8) (p5 : 8 ≤ c267_total.toInt) (p6 : ((n269 : Nat) : Int) ≤ 13824) (p7 : 1 ≤ ((n269 : Nat) : Int)) (p8 : c280_fresh.toInt ≤ 1) (p9 : 0 ≤ c280_fresh.toInt) (p10 : c267_total.toInt ≤ ((n269 : Nat) : Int)) (hr_a268 : dz_pt a268 [4, 2, 1]) (hr_a269 : dz_rg a269 n269 0 1023) (hr_a275 : dz_pm a275 3) (hr_a281 : dz_rg a281 601 0 16777215) (hr_a282 : dz_rg a282 5 0 14425) (kv : Nat) (hkv : 1000000000000 ≤ kv) : dz_T (s174_X10_build_0 fu c248_pots c261_many c267_total a268 a269 n269 a275 (F174_X10_build fu c248_pots c261_many c267_total a268 a269 n269 a275 kv).1  c280_fresh a281 a282 a283) (fun r => r.1.toInt ≤ 1 ∧ 1 ≤ r.1.toInt ∧ dz_rg r.2.1 601 0 16777215 ∧ dz_rg r.2.2.1 5 0 14425 ∧ dz_pm r.2.2.2 3) := by
  unfold s174_X10_build_0
  have e1 := dz_l0
  refine dz_Tng (by omega) ?_
  refine dz_Tng (by omega) ?_
  have e2 := dz_l4
  refine dz_Tng (by omega) ?_
  have e3 := dz_tn (0 : Int32)
  have e4 := dz_tn (4 : Int32)
  refine dz_Tg (by omega) ?_
  refine dz_Tg (by omega) ?_
  refine dz_Tin (by omega) (by omega) ?_
  obtain ⟨k1, rfl⟩ : ∃ x, kv = x + 1 := ⟨kv - 1, by omega⟩
  show dz_T (s174_X10_build_1 fu c248_pots c261_many c267_total a268 a269 n269 a275 (F174_X10_build fu c248_pots c261_many c267_total a268 a269 n269 a275 k1).1 (F174_X10_build fu c248_pots c261_many c267_total a268 a269 n269 a275 k1).2.1 c248_pots (1 : Int32) (0 : Int32) c280_fresh a281 (upd a282 (0 : Int32).toNatClampNeg (0 : Int32)) (va_cpy a275 a283 (0 : Int32).toNatClampNeg (0 : Int32).toNatClampNeg (4 : Int32).toNatClampNeg)) _
  unfold s174_X10_build_1
  refine dz_Tle (fun h5 => ?_) (fun h5 => ?_)
  · skip
    exfalso; omega
  · skip
    refine dz_Tin (by omega) (by omega) ?_
    have e6 := dz_l1
    have e7 := dz_add (a := (0 : Int32)) (b := (1 : Int32)) (by omega) (by omega)
    refine dz_Tin (by omega) (by omega) ?_
    obtain ⟨k2, rfl⟩ : ∃ x, k1 = x + 1 := ⟨k1 - 1, by omega⟩
    show dz_T (s174_X10_build_1 fu c248_pots c261_many c267_total a268 a269 n269 a275 (F174_X10_build fu c248_pots c261_many c267_total a268 a269 n269 a275 k2).1 (F174_X10_build fu c248_pots c261_many c267_total a268 a269 n269 a275 k2).2.1 c248_pots ((1 : Int32) * c261_many) ((0 : Int32) + (1 : Int32)) c280_fresh a281 (upd (upd a282 (0 : Int32).toNatClampNeg (0 : Int32)) ((0 : Int32) + (1 : Int32)).toNatClampNeg (((upd a282 (0 : Int32).toNatClampNeg (0 : Int32)) (0 : Int32).toNatClampNeg) + (1 : Int32))) (va_cpy a275 a283 (0 : Int32).toNatClampNeg (0 : Int32).toNatClampNeg (4 : Int32).toNatClampNeg)) _
    unfold s174_X10_build_1
    refine dz_Tle (fun h8 => ?_) (fun h8 => ?_)
    · skip
      exfalso; omega
    · skip
      refine dz_Tin (by omega) (by omega) ?_
      have e9 := dz_add (a := ((0 : Int32) + (1 : Int32))) (b := (1 : Int32)) (by omega) (by omega)
      refine dz_Tin (by omega) (by omega) ?_
      obtain ⟨k3, rfl⟩ : ∃ x, k2 = x + 1 := ⟨k2 - 1, by omega⟩
      show dz_T (s174_X10_build_1 fu c248_pots c261_many c267_total a268 a269 n269 a275 (F174_X10_build fu c248_pots c261_many c267_total a268 a269 n269 a275 k3).1 (F174_X10_build fu c248_pots c261_many c267_total a268 a269 n269 a275 k3).2.1 c248_pots (((1 : Int32) * c261_many) * c261_many) (((0 : Int32) + (1 : Int32)) + (1 : Int32)) c280_fresh a281 (upd (upd (upd a282 (0 : Int32).toNatClampNeg (0 : Int32)) ((0 : Int32) + (1 : Int32)).toNatClampNeg (((upd a282 (0 : Int32).toNatClampNeg (0 : Int32)) (0 : Int32).toNatClampNeg) + (1 : Int32))) (((0 : Int32) + (1 : Int32)) + (1 : Int32)).toNatClampNeg (((upd (upd a282 (0 : Int32).toNatClampNeg (0 : Int32)) ((0 : Int32) + (1 : Int32)).toNatClampNeg (((upd a282 (0 : Int32).toNatClampNeg (0 : Int32)) (0 : Int32).toNatClampNeg) + (1 : Int32))) ((0 : Int32) + (1 : Int32)).toNatClampNeg) + ((1 : Int32) * c261_many))) (va_cpy a275 a283 (0 : Int32).toNatClampNeg (0 : Int32).toNatClampNeg (4 : Int32).toNatClampNeg)) _
      unfold s174_X10_build_1
      refine dz_Tle (fun h10 => ?_) (fun h10 => ?_)
      · skip
        exfalso; omega
      · skip
        refine dz_Tin (by omega) (by omega) ?_
        have e11 := dz_add (a := (((0 : Int32) + (1 : Int32)) + (1 : Int32))) (b := (1 : Int32)) (by omega) (by omega)
        refine dz_Tin (by omega) (by omega) ?_
        obtain ⟨k4, rfl⟩ : ∃ x, k3 = x + 1 := ⟨k3 - 1, by omega⟩
        show dz_T (s174_X10_build_1 fu c248_pots c261_many c267_total a268 a269 n269 a275 (F174_X10_build fu c248_pots c261_many c267_total a268 a269 n269 a275 k4).1 (F174_X10_build fu c248_pots c261_many c267_total a268 a269 n269 a275 k4).2.1 c248_pots ((((1 : Int32) * c261_many) * c261_many) * c261_many) ((((0 : Int32) + (1 : Int32)) + (1 : Int32)) + (1 : Int32)) c280_fresh a281 (upd (upd (upd (upd a282 (0 : Int32).toNatClampNeg (0 : Int32)) ((0 : Int32) + (1 : Int32)).toNatClampNeg (((upd a282 (0 : Int32).toNatClampNeg (0 : Int32)) (0 : Int32).toNatClampNeg) + (1 : Int32))) (((0 : Int32) + (1 : Int32)) + (1 : Int32)).toNatClampNeg (((upd (upd a282 (0 : Int32).toNatClampNeg (0 : Int32)) ((0 : Int32) + (1 : Int32)).toNatClampNeg (((upd a282 (0 : Int32).toNatClampNeg (0 : Int32)) (0 : Int32).toNatClampNeg) + (1 : Int32))) ((0 : Int32) + (1 : Int32)).toNatClampNeg) + ((1 : Int32) * c261_many))) ((((0 : Int32) + (1 : Int32)) + (1 : Int32)) + (1 : Int32)).toNatClampNeg (((upd (upd (upd a282 (0 : Int32).toNatClampNeg (0 : Int32)) ((0 : Int32) + (1 : Int32)).toNatClampNeg (((upd a282 (0 : Int32).toNatClampNeg (0 : Int32)) (0 : Int32).toNatClampNeg) + (1 : Int32))) (((0 : Int32) + (1 : Int32)) + (1 : Int32)).toNatClampNeg (((upd (upd a282 (0 : Int32).toNatClampNeg (0 : Int32)) ((0 : Int32) + (1 : Int32)).toNatClampNeg (((upd a282 (0 : Int32).toNatClampNeg (0 : Int32)) (0 : Int32).toNatClampNeg) + (1 : Int32))) ((0 : Int32) + (1 : Int32)).toNatClampNeg) + ((1 : Int32) * c261_many))) (((0 : Int32) + (1 : Int32)) + (1 : Int32)).toNatClampNeg) + (((1 : Int32) * c261_many) * c261_many))) (va_cpy a275 a283 (0 : Int32).toNatClampNeg (0 : Int32).toNatClampNeg (4 : Int32).toNatClampNeg)) _
        unfold s174_X10_build_1
        refine dz_Tle (fun h12 => ?_) (fun h12 => ?_)
        · skip
          refine dz_Tle (fun h13 => ?_) (fun h13 => ?_)
          · skip
            exfalso; omega
          · skip
            have e14 := dz_ups (a := a282) (v := (0 : Int32)) (i := (0 : Int32)) (j := (0 : Int32)) (by omega)
            have e15 := dz_add (a := ((upd a282 (0 : Int32).toNatClampNeg (0 : Int32)) (0 : Int32).toNatClampNeg)) (b := (1 : Int32)) (by omega) (by omega)
            have e16 := dz_ups (a := (upd a282 (0 : Int32).toNatClampNeg (0 : Int32))) (v := (((upd a282 (0 : Int32).toNatClampNeg (0 : Int32)) (0 : Int32).toNatClampNeg) + (1 : Int32))) (i := ((0 : Int32) + (1 : Int32))) (j := ((0 : Int32) + (1 : Int32))) (by omega)
            have e17 := dz_mull (a := (1 : Int32)) (b := c261_many) 1 (by omega) (by omega) (by omega)
            have e18 := dz_add (a := ((upd (upd a282 (0 : Int32).toNatClampNeg (0 : Int32)) ((0 : Int32) + (1 : Int32)).toNatClampNeg (((upd a282 (0 : Int32).toNatClampNeg (0 : Int32)) (0 : Int32).toNatClampNeg) + (1 : Int32))) ((0 : Int32) + (1 : Int32)).toNatClampNeg)) (b := ((1 : Int32) * c261_many)) (by omega) (by omega)
            have e19 := dz_ups (a := (upd (upd a282 (0 : Int32).toNatClampNeg (0 : Int32)) ((0 : Int32) + (1 : Int32)).toNatClampNeg (((upd a282 (0 : Int32).toNatClampNeg (0 : Int32)) (0 : Int32).toNatClampNeg) + (1 : Int32)))) (v := (((upd (upd a282 (0 : Int32).toNatClampNeg (0 : Int32)) ((0 : Int32) + (1 : Int32)).toNatClampNeg (((upd a282 (0 : Int32).toNatClampNeg (0 : Int32)) (0 : Int32).toNatClampNeg) + (1 : Int32))) ((0 : Int32) + (1 : Int32)).toNatClampNeg) + ((1 : Int32) * c261_many))) (i := (((0 : Int32) + (1 : Int32)) + (1 : Int32))) (j := (((0 : Int32) + (1 : Int32)) + (1 : Int32))) (by omega)
            have e20 := dz_mull (a := ((1 : Int32) * c261_many)) (b := c261_many) 2 (by omega) (by omega) (by omega)
            have e21 := dz_add (a := ((upd (upd (upd a282 (0 : Int32).toNatClampNeg (0 : Int32)) ((0 : Int32) + (1 : Int32)).toNatClampNeg (((upd a282 (0 : Int32).toNatClampNeg (0 : Int32)) (0 : Int32).toNatClampNeg) + (1 : Int32))) (((0 : Int32) + (1 : Int32)) + (1 : Int32)).toNatClampNeg (((upd (upd a282 (0 : Int32).toNatClampNeg (0 : Int32)) ((0 : Int32) + (1 : Int32)).toNatClampNeg (((upd a282 (0 : Int32).toNatClampNeg (0 : Int32)) (0 : Int32).toNatClampNeg) + (1 : Int32))) ((0 : Int32) + (1 : Int32)).toNatClampNeg) + ((1 : Int32) * c261_many))) (((0 : Int32) + (1 : Int32)) + (1 : Int32)).toNatClampNeg)) (b := (((1 : Int32) * c261_many) * c261_many)) (by omega) (by omega)
            refine dz_Tb (t172_X10_fillLast_g23 fu hfu _ _ _ _ _ _ _ _ _ p0 p1 p2 p3 p4 p5 p6 p7 p10 (hr_a268) (hr_a269) (dz_ptmk4 ((dz_upo (j := ((((0 : Int32) + (1 : Int32)) + (1 : Int32)) + (1 : Int32))) 0 (by omega)).trans ((dz_upo (j := (((0 : Int32) + (1 : Int32)) + (1 : Int32))) 0 (by omega)).trans ((dz_upo (j := ((0 : Int32) + (1 : Int32))) 0 (by omega)).trans ((dz_upk (j := (0 : Int32)) 0 (by omega)).trans (by omega))))) ((dz_upo (j := ((((0 : Int32) + (1 : Int32)) + (1 : Int32)) + (1 : Int32))) 1 (by omega)).trans ((dz_upo (j := (((0 : Int32) + (1 : Int32)) + (1 : Int32))) 1 (by omega)).trans ((dz_upk (j := ((0 : Int32) + (1 : Int32))) 1 (by omega)).trans (by omega)))) ((dz_upo (j := ((((0 : Int32) + (1 : Int32)) + (1 : Int32)) + (1 : Int32))) 2 (by omega)).trans ((dz_upk (j := (((0 : Int32) + (1 : Int32)) + (1 : Int32))) 2 (by omega)).trans (by omega))) ((dz_upk (j := ((((0 : Int32) + (1 : Int32)) + (1 : Int32)) + (1 : Int32))) 3 (by omega)).trans (by omega))) (dz_pmc (hr_a275) (by decide)) (hr_a281) (by first | assumption | omega)) (fun r1 q => ?_)
            have qa1_0 := q
            obtain ⟨k5, rfl⟩ : ∃ x, k4 = x + 1 := ⟨k4 - 1, by omega⟩
            show dz_T (s174_X10_build_2 fu c248_pots c261_many c267_total a268 a269 n269 a275 (F174_X10_build fu c248_pots c261_many c267_total a268 a269 n269 a275 k5).2.2 c248_pots c280_fresh r1 (upd (upd (upd (upd a282 (0 : Int32).toNatClampNeg (0 : Int32)) ((0 : Int32) + (1 : Int32)).toNatClampNeg (((upd a282 (0 : Int32).toNatClampNeg (0 : Int32)) (0 : Int32).toNatClampNeg) + (1 : Int32))) (((0 : Int32) + (1 : Int32)) + (1 : Int32)).toNatClampNeg (((upd (upd a282 (0 : Int32).toNatClampNeg (0 : Int32)) ((0 : Int32) + (1 : Int32)).toNatClampNeg (((upd a282 (0 : Int32).toNatClampNeg (0 : Int32)) (0 : Int32).toNatClampNeg) + (1 : Int32))) ((0 : Int32) + (1 : Int32)).toNatClampNeg) + ((1 : Int32) * c261_many))) ((((0 : Int32) + (1 : Int32)) + (1 : Int32)) + (1 : Int32)).toNatClampNeg (((upd (upd (upd a282 (0 : Int32).toNatClampNeg (0 : Int32)) ((0 : Int32) + (1 : Int32)).toNatClampNeg (((upd a282 (0 : Int32).toNatClampNeg (0 : Int32)) (0 : Int32).toNatClampNeg) + (1 : Int32))) (((0 : Int32) + (1 : Int32)) + (1 : Int32)).toNatClampNeg (((upd (upd a282 (0 : Int32).toNatClampNeg (0 : Int32)) ((0 : Int32) + (1 : Int32)).toNatClampNeg (((upd a282 (0 : Int32).toNatClampNeg (0 : Int32)) (0 : Int32).toNatClampNeg) + (1 : Int32))) ((0 : Int32) + (1 : Int32)).toNatClampNeg) + ((1 : Int32) * c261_many))) (((0 : Int32) + (1 : Int32)) + (1 : Int32)).toNatClampNeg) + (((1 : Int32) * c261_many) * c261_many))) (va_cpy a275 a283 (0 : Int32).toNatClampNeg (0 : Int32).toNatClampNeg (4 : Int32).toNatClampNeg)) _
            unfold s174_X10_build_2
            have e22 := dz_l2
            have e23 := dz_sub (a := c248_pots) (b := (2 : Int32)) (by omega) (by omega)
            generalize (c248_pots - (2 : Int32)) = zz10 at *
            obtain ⟨k6, rfl⟩ : ∃ x, k5 = x + 1 := ⟨k5 - 1, by omega⟩
            show dz_T (s174_X10_build_3 fu c248_pots c261_many c267_total a268 a269 n269 a275 (F174_X10_build fu c248_pots c261_many c267_total a268 a269 n269 a275 k6).2.2 zz10 c280_fresh r1 (upd (upd (upd (upd a282 (0 : Int32).toNatClampNeg (0 : Int32)) ((0 : Int32) + (1 : Int32)).toNatClampNeg (((upd a282 (0 : Int32).toNatClampNeg (0 : Int32)) (0 : Int32).toNatClampNeg) + (1 : Int32))) (((0 : Int32) + (1 : Int32)) + (1 : Int32)).toNatClampNeg (((upd (upd a282 (0 : Int32).toNatClampNeg (0 : Int32)) ((0 : Int32) + (1 : Int32)).toNatClampNeg (((upd a282 (0 : Int32).toNatClampNeg (0 : Int32)) (0 : Int32).toNatClampNeg) + (1 : Int32))) ((0 : Int32) + (1 : Int32)).toNatClampNeg) + ((1 : Int32) * c261_many))) ((((0 : Int32) + (1 : Int32)) + (1 : Int32)) + (1 : Int32)).toNatClampNeg (((upd (upd (upd a282 (0 : Int32).toNatClampNeg (0 : Int32)) ((0 : Int32) + (1 : Int32)).toNatClampNeg (((upd a282 (0 : Int32).toNatClampNeg (0 : Int32)) (0 : Int32).toNatClampNeg) + (1 : Int32))) (((0 : Int32) + (1 : Int32)) + (1 : Int32)).toNatClampNeg (((upd (upd a282 (0 : Int32).toNatClampNeg (0 : Int32)) ((0 : Int32) + (1 : Int32)).toNatClampNeg (((upd a282 (0 : Int32).toNatClampNeg (0 : Int32)) (0 : Int32).toNatClampNeg) + (1 : Int32))) ((0 : Int32) + (1 : Int32)).toNatClampNeg) + ((1 : Int32) * c261_many))) (((0 : Int32) + (1 : Int32)) + (1 : Int32)).toNatClampNeg) + (((1 : Int32) * c261_many) * c261_many))) (va_cpy a275 a283 (0 : Int32).toNatClampNeg (0 : Int32).toNatClampNeg (4 : Int32).toNatClampNeg)) _
            unfold s174_X10_build_3
            refine dz_Tlt (fun h24 => ?_) (fun h24 => ?_)
            · skip
              exfalso; omega
            · skip
              refine dz_Tb (t173_X10_fillFromNext_g23 fu hfu _ _ _ _ p2 p3 (by first | assumption | omega) (by first | assumption | omega) (dz_ptmk4 ((dz_upo (j := ((((0 : Int32) + (1 : Int32)) + (1 : Int32)) + (1 : Int32))) 0 (by omega)).trans ((dz_upo (j := (((0 : Int32) + (1 : Int32)) + (1 : Int32))) 0 (by omega)).trans ((dz_upo (j := ((0 : Int32) + (1 : Int32))) 0 (by omega)).trans ((dz_upk (j := (0 : Int32)) 0 (by omega)).trans (by omega))))) ((dz_upo (j := ((((0 : Int32) + (1 : Int32)) + (1 : Int32)) + (1 : Int32))) 1 (by omega)).trans ((dz_upo (j := (((0 : Int32) + (1 : Int32)) + (1 : Int32))) 1 (by omega)).trans ((dz_upk (j := ((0 : Int32) + (1 : Int32))) 1 (by omega)).trans (by omega)))) ((dz_upo (j := ((((0 : Int32) + (1 : Int32)) + (1 : Int32)) + (1 : Int32))) 2 (by omega)).trans ((dz_upk (j := (((0 : Int32) + (1 : Int32)) + (1 : Int32))) 2 (by omega)).trans (by omega))) ((dz_upk (j := ((((0 : Int32) + (1 : Int32)) + (1 : Int32)) + (1 : Int32))) 3 (by omega)).trans (by omega))) (qa1_0)) (fun r2 q => ?_)
              have qa2_0 := q
              have e25 := dz_lm1
              have e26 := dz_add (a := zz10) (b := (-(1 : Int32))) (by omega) (by omega)
              generalize (zz10 + (-(1 : Int32))) = zz11 at *
              obtain ⟨k7, rfl⟩ : ∃ x, k6 = x + 1 := ⟨k6 - 1, by omega⟩
              show dz_T (s174_X10_build_3 fu c248_pots c261_many c267_total a268 a269 n269 a275 (F174_X10_build fu c248_pots c261_many c267_total a268 a269 n269 a275 k7).2.2 zz11 c280_fresh r2 (upd (upd (upd (upd a282 (0 : Int32).toNatClampNeg (0 : Int32)) ((0 : Int32) + (1 : Int32)).toNatClampNeg (((upd a282 (0 : Int32).toNatClampNeg (0 : Int32)) (0 : Int32).toNatClampNeg) + (1 : Int32))) (((0 : Int32) + (1 : Int32)) + (1 : Int32)).toNatClampNeg (((upd (upd a282 (0 : Int32).toNatClampNeg (0 : Int32)) ((0 : Int32) + (1 : Int32)).toNatClampNeg (((upd a282 (0 : Int32).toNatClampNeg (0 : Int32)) (0 : Int32).toNatClampNeg) + (1 : Int32))) ((0 : Int32) + (1 : Int32)).toNatClampNeg) + ((1 : Int32) * c261_many))) ((((0 : Int32) + (1 : Int32)) + (1 : Int32)) + (1 : Int32)).toNatClampNeg (((upd (upd (upd a282 (0 : Int32).toNatClampNeg (0 : Int32)) ((0 : Int32) + (1 : Int32)).toNatClampNeg (((upd a282 (0 : Int32).toNatClampNeg (0 : Int32)) (0 : Int32).toNatClampNeg) + (1 : Int32))) (((0 : Int32) + (1 : Int32)) + (1 : Int32)).toNatClampNeg (((upd (upd a282 (0 : Int32).toNatClampNeg (0 : Int32)) ((0 : Int32) + (1 : Int32)).toNatClampNeg (((upd a282 (0 : Int32).toNatClampNeg (0 : Int32)) (0 : Int32).toNatClampNeg) + (1 : Int32))) ((0 : Int32) + (1 : Int32)).toNatClampNeg) + ((1 : Int32) * c261_many))) (((0 : Int32) + (1 : Int32)) + (1 : Int32)).toNatClampNeg) + (((1 : Int32) * c261_many) * c261_many))) (va_cpy a275 a283 (0 : Int32).toNatClampNeg (0 : Int32).toNatClampNeg (4 : Int32).toNatClampNeg)) _
              unfold s174_X10_build_3
              refine dz_Tlt (fun h27 => ?_) (fun h27 => ?_)
              · skip
                exfalso; omega
              · skip
                refine dz_Tb (t173_X10_fillFromNext_g23 fu hfu _ _ _ _ p2 p3 (by first | assumption | omega) (by first | assumption | omega) (dz_ptmk4 ((dz_upo (j := ((((0 : Int32) + (1 : Int32)) + (1 : Int32)) + (1 : Int32))) 0 (by omega)).trans ((dz_upo (j := (((0 : Int32) + (1 : Int32)) + (1 : Int32))) 0 (by omega)).trans ((dz_upo (j := ((0 : Int32) + (1 : Int32))) 0 (by omega)).trans ((dz_upk (j := (0 : Int32)) 0 (by omega)).trans (by omega))))) ((dz_upo (j := ((((0 : Int32) + (1 : Int32)) + (1 : Int32)) + (1 : Int32))) 1 (by omega)).trans ((dz_upo (j := (((0 : Int32) + (1 : Int32)) + (1 : Int32))) 1 (by omega)).trans ((dz_upk (j := ((0 : Int32) + (1 : Int32))) 1 (by omega)).trans (by omega)))) ((dz_upo (j := ((((0 : Int32) + (1 : Int32)) + (1 : Int32)) + (1 : Int32))) 2 (by omega)).trans ((dz_upk (j := (((0 : Int32) + (1 : Int32)) + (1 : Int32))) 2 (by omega)).trans (by omega))) ((dz_upk (j := ((((0 : Int32) + (1 : Int32)) + (1 : Int32)) + (1 : Int32))) 3 (by omega)).trans (by omega))) (qa2_0)) (fun r3 q => ?_)
                have qa3_0 := q
                have e28 := dz_add (a := zz11) (b := (-(1 : Int32))) (by omega) (by omega)
                generalize (zz11 + (-(1 : Int32))) = zz12 at *
                obtain ⟨k8, rfl⟩ : ∃ x, k7 = x + 1 := ⟨k7 - 1, by omega⟩
                show dz_T (s174_X10_build_3 fu c248_pots c261_many c267_total a268 a269 n269 a275 (F174_X10_build fu c248_pots c261_many c267_total a268 a269 n269 a275 k8).2.2 zz12 c280_fresh r3 (upd (upd (upd (upd a282 (0 : Int32).toNatClampNeg (0 : Int32)) ((0 : Int32) + (1 : Int32)).toNatClampNeg (((upd a282 (0 : Int32).toNatClampNeg (0 : Int32)) (0 : Int32).toNatClampNeg) + (1 : Int32))) (((0 : Int32) + (1 : Int32)) + (1 : Int32)).toNatClampNeg (((upd (upd a282 (0 : Int32).toNatClampNeg (0 : Int32)) ((0 : Int32) + (1 : Int32)).toNatClampNeg (((upd a282 (0 : Int32).toNatClampNeg (0 : Int32)) (0 : Int32).toNatClampNeg) + (1 : Int32))) ((0 : Int32) + (1 : Int32)).toNatClampNeg) + ((1 : Int32) * c261_many))) ((((0 : Int32) + (1 : Int32)) + (1 : Int32)) + (1 : Int32)).toNatClampNeg (((upd (upd (upd a282 (0 : Int32).toNatClampNeg (0 : Int32)) ((0 : Int32) + (1 : Int32)).toNatClampNeg (((upd a282 (0 : Int32).toNatClampNeg (0 : Int32)) (0 : Int32).toNatClampNeg) + (1 : Int32))) (((0 : Int32) + (1 : Int32)) + (1 : Int32)).toNatClampNeg (((upd (upd a282 (0 : Int32).toNatClampNeg (0 : Int32)) ((0 : Int32) + (1 : Int32)).toNatClampNeg (((upd a282 (0 : Int32).toNatClampNeg (0 : Int32)) (0 : Int32).toNatClampNeg) + (1 : Int32))) ((0 : Int32) + (1 : Int32)).toNatClampNeg) + ((1 : Int32) * c261_many))) (((0 : Int32) + (1 : Int32)) + (1 : Int32)).toNatClampNeg) + (((1 : Int32) * c261_many) * c261_many))) (va_cpy a275 a283 (0 : Int32).toNatClampNeg (0 : Int32).toNatClampNeg (4 : Int32).toNatClampNeg)) _
                unfold s174_X10_build_3
                refine dz_Tlt (fun h29 => ?_) (fun h29 => ?_)
                · skip
                  refine dz_Ts ?_
                  dsimp only
                  exact ⟨(by omega), (by omega), (qa3_0), (dz_rgu (dz_rgu (dz_rgu (dz_rgu (hr_a282) (by omega) (by omega)) (by omega) (by omega)) (by omega) (by omega)) (by omega) (by omega)), (dz_pmc (hr_a275) (by decide))⟩
                · skip
                  exfalso; omega
        · skip
          exfalso; omega
theorem t174_X10_build_g23 (fu : Nat) (hfu : 1000000000000 ≤ fu) (c248_pots : Int32) (c261_many : Int32) (c267_total : Int32) (a268 : Nat → Int32) (a269 : Nat → Int32) (n269 : Nat) (a275 : Nat → Int32) (c280_fresh : Int32) (a281 : Nat → Int32) (a282 : Nat → Int32) (a283 : Nat → Int32) (p0 : c248_pots.toInt ≤ 3) (p1 : 3 ≤ c248_pots.toInt) (p2 : c261_many.toInt ≤ 2) (p3 : 2 ≤ c261_many.toInt) (p4 : c267_total.toInt ≤ 8) (p5 : 8 ≤ c267_total.toInt) (p6 : ((n269 : Nat) : Int) ≤ 13824) (p7 : 1 ≤ ((n269 : Nat) : Int)) (p8 : c280_fresh.toInt ≤ 1) (p9 : 0 ≤ c280_fresh.toInt) (p10 : c267_total.toInt ≤ ((n269 : Nat) : Int)) (hr_a268 : dz_pt a268 [4, 2, 1]) (hr_a269 : dz_rg a269 n269 0 1023) (hr_a275 : dz_pm a275 3) (hr_a281 : dz_rg a281 601 0 16777215) (hr_a282 : dz_rg a282 5 0 14425) : dz_T (f174_X10_build fu c248_pots c261_many c267_total a268 a269 n269 a275 c280_fresh a281 a282 a283) (fun r => r.1.toInt ≤ 1 ∧ 1 ≤ r.1.toInt ∧ dz_rg r.2.1 601 0 16777215 ∧ dz_rg r.2.2.1 5 0 14425 ∧ dz_pm r.2.2.2 3) :=
  t174_X10_build_E_g23 fu hfu c248_pots c261_many c267_total a268 a269 n269 a275 c280_fresh a281 a282 a283 p0 p1 p2 p3 p4 p5 p6 p7 p8 p9 p10 hr_a268 hr_a269 hr_a275 hr_a281 hr_a282 fu hfu
