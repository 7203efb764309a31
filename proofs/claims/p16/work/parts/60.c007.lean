abbrev p172_X10_fillLast_g31 (fu : Nat) (c248_pots : Int32) (c261_many : Int32) (c267_total : Int32) (a268 : Nat → Int32) (a269 : Nat → Int32) (n269 : Nat) (a282 : Nat → Int32) (a283 : Nat → Int32) (k : Nat) : Prop :=
  (∀ (v1 : Int32) (v2 : Int32) (v3 : Int32) (v4 : Int32) (a281 : Nat → Int32), v1.toInt ≤ 0 → 0 ≤ v1.toInt → v2.toInt ≤ 6 → 6 ≤ v2.toInt → v3.toInt ≤ 1 → 1 ≤ v3.toInt → v4.toInt ≤ 1 → 0 ≤ v4.toInt → dz_rg a281 601 0 16777215 → 0 + 0 + (1 - v4.toInt) * 128 + 8 ≤ ((k : Nat) : Int) → dz_T ((F172_X10_fillLast fu c248_pots c261_many c267_total a268 a269 n269 a282 a283 k).1 v1 v2 v3 v4 a281) (fun r => dz_rg r 601 0 16777215)) ∧ (∀ (v1 : Int32) (v2 : Int32) (v3 : Int32) (v4 : Int32) (v5 : Int32) (v6 : Int32) (v7 : Int32) (a281 : Nat → Int32), v1.toInt ≤ 0 → 0 ≤ v1.toInt → v2.toInt ≤ 6 → 6 ≤ v2.toInt → v3.toInt ≤ 1 → 1 ≤ v3.toInt → v4.toInt ≤ 0 → 0 ≤ v4.toInt → v5.toInt ≤ 5 → 0 ≤ v5.toInt → v6.toInt ≤ 31 → 0 ≤ v6.toInt → v7.toInt ≤ 5 → 0 ≤ v7.toInt → v7.toInt ≤ v5.toInt → dz_rg a281 601 0 16777215 → 0 + 0 + ((1 - v4.toInt) - 1) * 128 + 0 + (5 - v7.toInt) * 16 + 16 ≤ ((k : Nat) : Int) → dz_T ((F172_X10_fillLast fu c248_pots c261_many c267_total a268 a269 n269 a282 a283 k).2.1 v1 v2 v3 v4 v5 v6 v7 a281) (fun r => dz_rg r 601 0 16777215))
set_option maxHeartbeats 1000000 in
set_option maxRecDepth 10000 in
theorem t172_X10_fillLast_h1_g31 (fu : Nat) (hfu : 1000000000000 ≤ fu) (c248_pots : Int32) (c261_many : Int32) (c267_total : Int32) (a268 : Nat → Int32) (a269 : Nat → Int32) (n269 : Nat) (a282 : Nat → Int32) (a283 : Nat → Int32) (p0 : c248_pots.toInt ≤ 1) (p1 : 1 ≤ c248_pots.toInt) (p2 : c261_many.toInt ≤ 6) (p3 : 6 ≤ c261_many.toInt) (p4 : c267_total.toInt ≤ 6) (p5 : 6 ≤ c267_total.toInt) (p6 : ((n269 : Nat) : Int) ≤ 13824) (p7 : 1 ≤ ((n269 : Nat) : Int)) (p8 : c267_total.toInt ≤ ((n269 : Nat) : Int)) (hr_a268 : dz_pt a268 [1]) (hr_a269 : dz_rg a269 n269 0 1023) (hr_a282 : dz_pt a282 [0, 1]) (hr_a283 : dz_pm a283 1) (o0 : 1 ≤ c248_pots.toInt) (k : Nat) (ih : ∀ j9, j9 < k → p172_X10_fillLast_g31 fu c248_pots c261_many c267_total a268 a269 n269 a282 a283 j9) : ∀ (v1 : Int32) (v2 : Int32) (v3 : Int32) (v4 : Int32) (a281 : Nat → Int32), v1.toInt ≤ 0 → 0 ≤ v1.toInt → v2.toInt ≤ 6 → 6 ≤ v2.toInt → v3.toInt ≤ 1 → 1 ≤ v3.toInt → v4.toInt ≤ 1 → 0 ≤ v4.toInt → dz_rg a281 601 0 16777215 → 0 + 0 + (1 - v4.toInt) * 128 + 8 ≤ ((k : Nat) : Int) → dz_T ((F172_X10_fillLast fu c248_pots c261_many c267_total a268 a269 n269 a282 a283 k).1 v1 v2 v3 v4 a281) (fun r => dz_rg r 601 0 16777215) := by
  intro v1 v2 v3 v4 a281 i0 i1 i2 i3 i4 i5 i6 i7 hr_a281 hm
  obtain ⟨k0, rfl⟩ : ∃ x, k = x + 1 := ⟨k - 1, by omega⟩
  show dz_T (s172_X10_fillLast_1 fu c248_pots c261_many c267_total a268 a269 n269 a282 a283 (F172_X10_fillLast fu c248_pots c261_many c267_total a268 a269 n269 a282 a283 k0).2.1  v1 v2 v3 v4 a281) _
  unfold s172_X10_fillLast_1
  have e1 := dz_l1
  have e2 := dz_add (a := v1) (b := (1 : Int32)) (by omega) (by omega)
  refine dz_Tin (by omega) (by omega) ?_
  have e3 := dz_ptat (hr_a282) (i := (v1 + (1 : Int32))) (x := 1) 1 (by omega) (by decide)
  refine dz_Tle (fun h4 => ?_) (fun h4 => ?_)
  · skip
    exact dz_Ts (hr_a281)
  · skip
    refine dz_Tin (by omega) (by omega) ?_
    have e5 := dz_ptat (hr_a282) (i := v1) (x := 0) 0 (by omega) (by decide)
    have e6 := dz_sub (a := v4) (b := (a282 v1.toNatClampNeg)) (by omega) (by omega)
    refine dz_Tb (t171_X10_codeOf_g31 fu hfu _ _ _ _ _ p2 p3 (by omega) (by omega) i1 i0 i1 (hr_a268) (hr_a283)) (fun r1 q => ?_)
    obtain ⟨q1_0, q1_1⟩ := q
    have e7 := dz_l0
    exact (ih k0 (by omega)).2 v1 v2 v3 v4 r1 (0 : Int32) (0 : Int32) a281 i0 i1 i2 i3 i4 i5 (by first | assumption | omega) i7 q1_1 q1_0 (by omega) (by omega) (by omega) (by omega) (by omega) (hr_a281) (by omega)
set_option maxHeartbeats 1000000 in
set_option maxRecDepth 10000 in
theorem t172_X10_fillLast_h2_g31 (fu : Nat) (hfu : 1000000000000 ≤ fu) (c248_pots : Int32) (c261_many : Int32) (c267_total : Int32) (a268 : Nat → Int32) (a269 : Nat → Int32) (n269 : Nat) (a282 : Nat → Int32) (a283 : Nat → Int32) (p0 : c248_pots.toInt ≤ 1) (p1 : 1 ≤ c248_pots.toInt) (p2 : c261_many.toInt ≤ 6) (p3 : 6 ≤ c261_many.toInt) (p4 : c267_total.toInt ≤ 6) (p5 : 6 ≤ c267_total.toInt) (p6 : ((n269 : Nat) : Int) ≤ 13824) (p7 : 1 ≤ ((n269 : Nat) : Int)) (p8 : c267_total.toInt ≤ ((n269 : Nat) : Int)) (hr_a268 : dz_pt a268 [1]) (hr_a269 : dz_rg a269 n269 0 1023) (hr_a282 : dz_pt a282 [0, 1]) (hr_a283 : dz_pm a283 1) (o0 : 1 ≤ c248_pots.toInt) (k : Nat) (ih : ∀ j9, j9 < k → p172_X10_fillLast_g31 fu c248_pots c261_many c267_total a268 a269 n269 a282 a283 j9) : ∀ (v1 : Int32) (v2 : Int32) (v3 : Int32) (v4 : Int32) (v5 : Int32) (v6 : Int32) (v7 : Int32) (a281 : Nat → Int32), v1.toInt ≤ 0 → 0 ≤ v1.toInt → v2.toInt ≤ 6 → 6 ≤ v2.toInt → v3.toInt ≤ 1 → 1 ≤ v3.toInt → v4.toInt ≤ 0 → 0 ≤ v4.toInt → v5.toInt ≤ 5 → 0 ≤ v5.toInt → v6.toInt ≤ 31 → 0 ≤ v6.toInt → v7.toInt ≤ 5 → 0 ≤ v7.toInt → v7.toInt ≤ v5.toInt → dz_rg a281 601 0 16777215 → 0 + 0 + ((1 - v4.toInt) - 1) * 128 + 0 + (5 - v7.toInt) * 16 + 16 ≤ ((k : Nat) : Int) → dz_T ((F172_X10_fillLast fu c248_pots c261_many c267_total a268 a269 n269 a282 a283 k).2.1 v1 v2 v3 v4 v5 v6 v7 a281) (fun r => dz_rg r 601 0 16777215) := by
  intro v1 v2 v3 v4 v5 v6 v7 a281 i0 i1 i2 i3 i4 i5 i6 i7 i8 i9 i10 i11 i12 i13 i14 hr_a281 hm
  obtain ⟨k0, rfl⟩ : ∃ x, k = x + 1 := ⟨k - 1, by omega⟩
  show dz_T (s172_X10_fillLast_2 fu c248_pots c261_many c267_total a268 a269 n269 a282 a283 (F172_X10_fillLast fu c248_pots c261_many c267_total a268 a269 n269 a282 a283 k0).2.2.1 (F172_X10_fillLast fu c248_pots c261_many c267_total a268 a269 n269 a282 a283 k0).2.2.2  v1 v2 v3 v4 v5 v6 v7 a281) _
  unfold s172_X10_fillLast_2
  refine dz_Tle (fun h1 => ?_) (fun h1 => ?_)
  · skip
    exfalso; omega
  · skip
    refine dz_Tin (by omega) (by omega) ?_
    have e2 := dz_rgat (hr_a269) (i := v5) (by omega) (by omega)
    have e3 := dz_l0
    refine dz_Teq (fun h4 => ?_) (fun h4 => ?_)
    · skip
      obtain ⟨k1, rfl⟩ : ∃ x, k0 = x + 1 := ⟨k0 - 1, by omega⟩
      show dz_T (s172_X10_fillLast_4 fu c248_pots c261_many c267_total a268 a269 n269 a282 a283 (F172_X10_fillLast fu c248_pots c261_many c267_total a268 a269 n269 a282 a283 k1).2.1 (F172_X10_fillLast fu c248_pots c261_many c267_total a268 a269 n269 a282 a283 k1).2.2.1 v1 v2 v3 v4 v5 (v6 ||| ((1 : Int32) <<< (v7 &&& (31 : Int32)))) v7 a281) _
      unfold s172_X10_fillLast_4
      have e5 := dz_add (a := v5) (b := v3) (by omega) (by omega)
      refine dz_Tlt (fun h6 => ?_) (fun h6 => ?_)
      · skip
        have e7 := dz_l1
        have e8 := dz_l31
        have e9 := dz_andr (a := v7) (b := (31 : Int32)) (by omega)
        have e10 := dz_andl (a := v7) (b := (31 : Int32)) (by omega)
        have e11 := dz_shl1 (b := v7) 0 4 (by omega) (by omega) (by omega)
        have e12 := dz_orb (a := v6) (b := ((1 : Int32) <<< (v7 &&& (31 : Int32)))) 5 (by omega) (by omega) (by omega) (by omega) (by omega)
        have e13 := dz_add (a := v7) (b := (1 : Int32)) (by omega) (by omega)
        exact (ih k1 (by omega)).2 v1 v2 v3 v4 (v5 + v3) (v6 ||| ((1 : Int32) <<< (v7 &&& (31 : Int32)))) (v7 + (1 : Int32)) a281 i0 i1 i2 i3 i4 i5 i6 i7 (by omega) (by omega) (by omega) (by omega) (by omega) (by omega) (by omega) (hr_a281) (by omega)
      · skip
        obtain ⟨k2, rfl⟩ : ∃ x, k1 = x + 1 := ⟨k1 - 1, by omega⟩
        show dz_T (s172_X10_fillLast_3 fu c248_pots c261_many c267_total a268 a269 n269 a282 a283 (F172_X10_fillLast fu c248_pots c261_many c267_total a268 a269 n269 a282 a283 k2).1 v1 v2 v3 v4 (v6 ||| ((1 : Int32) <<< (v7 &&& (31 : Int32)))) a281) _
        unfold s172_X10_fillLast_3
        refine dz_Tin (by omega) (by omega) ?_
        have e14 := dz_l1
        have e15 := dz_add (a := v4) (b := (1 : Int32)) (by omega) (by omega)
        have e16 := dz_l31
        have e17 := dz_andr (a := v7) (b := (31 : Int32)) (by omega)
        have e18 := dz_andl (a := v7) (b := (31 : Int32)) (by omega)
        have e19 := dz_shl1 (b := v7) 0 5 (by omega) (by omega) (by omega)
        have e20 := dz_orb (a := v6) (b := ((1 : Int32) <<< (v7 &&& (31 : Int32)))) 6 (by omega) (by omega) (by omega) (by omega) (by omega)
        exact (ih k2 (by omega)).1 v1 v2 v3 (v4 + (1 : Int32)) (upd a281 v4.toNatClampNeg (v6 ||| ((1 : Int32) <<< (v7 &&& (31 : Int32))))) i0 i1 i2 i3 i4 i5 (by omega) (by omega) (dz_rgu (hr_a281) (by omega) (by omega)) (by omega)
    · skip
      obtain ⟨k3, rfl⟩ : ∃ x, k0 = x + 1 := ⟨k0 - 1, by omega⟩
      show dz_T (s172_X10_fillLast_4 fu c248_pots c261_many c267_total a268 a269 n269 a282 a283 (F172_X10_fillLast fu c248_pots c261_many c267_total a268 a269 n269 a282 a283 k3).2.1 (F172_X10_fillLast fu c248_pots c261_many c267_total a268 a269 n269 a282 a283 k3).2.2.1 v1 v2 v3 v4 v5 v6 v7 a281) _
      unfold s172_X10_fillLast_4
      have e21 := dz_add (a := v5) (b := v3) (by omega) (by omega)
      refine dz_Tlt (fun h22 => ?_) (fun h22 => ?_)
      · skip
        have e23 := dz_l1
        have e24 := dz_add (a := v7) (b := (1 : Int32)) (by omega) (by omega)
        exact (ih k3 (by omega)).2 v1 v2 v3 v4 (v5 + v3) v6 (v7 + (1 : Int32)) a281 i0 i1 i2 i3 i4 i5 i6 i7 (by omega) (by omega) i10 i11 (by omega) (by omega) (by omega) (hr_a281) (by omega)
      · skip
        obtain ⟨k4, rfl⟩ : ∃ x, k3 = x + 1 := ⟨k3 - 1, by omega⟩
        show dz_T (s172_X10_fillLast_3 fu c248_pots c261_many c267_total a268 a269 n269 a282 a283 (F172_X10_fillLast fu c248_pots c261_many c267_total a268 a269 n269 a282 a283 k4).1 v1 v2 v3 v4 v6 a281) _
        unfold s172_X10_fillLast_3
        refine dz_Tin (by omega) (by omega) ?_
        have e25 := dz_l1
        have e26 := dz_add (a := v4) (b := (1 : Int32)) (by omega) (by omega)
        exact (ih k4 (by omega)).1 v1 v2 v3 (v4 + (1 : Int32)) (upd a281 v4.toNatClampNeg v6) i0 i1 i2 i3 i4 i5 (by omega) (by omega) (dz_rgu (hr_a281) (by omega) (by omega)) (by omega)
theorem t172_X10_fillLast_I_g31 (fu : Nat) (hfu : 1000000000000 ≤ fu) (c248_pots : Int32) (c261_many : Int32) (c267_total : Int32) (a268 : Nat → Int32) (a269 : Nat → Int32) (n269 : Nat) (a282 : Nat → Int32) (a283 : Nat → Int32) (p0 : c248_pots.toInt ≤ 1) (p1 : 1 ≤ c248_pots.toInt) (p2 : c261_many.toInt ≤ 6) (p3 : 6 ≤ c261_many.toInt) (p4 : c267_total.toInt ≤ 6) (p5 : 6 ≤ c267_total.toInt) (p6 : ((n269 : Nat) : Int) ≤ 13824) (p7 : 1 ≤ ((n269 : Nat) : Int)) (p8 : c267_total.toInt ≤ ((n269 : Nat) : Int)) (hr_a268 : dz_pt a268 [1]) (hr_a269 : dz_rg a269 n269 0 1023) (hr_a282 : dz_pt a282 [0, 1]) (hr_a283 : dz_pm a283 1) (o0 : 1 ≤ c248_pots.toInt) (k : Nat) : p172_X10_fillLast_g31 fu c248_pots c261_many c267_total a268 a269 n269 a282 a283 k := by
  induction k using Nat.strongRecOn with
  | _ k ih => exact ⟨t172_X10_fillLast_h1_g31 fu hfu c248_pots c261_many c267_total a268 a269 n269 a282 a283 p0 p1 p2 p3 p4 p5 p6 p7 p8 hr_a268 hr_a269 hr_a282 hr_a283 o0 k ih, t172_X10_fillLast_h2_g31 fu hfu c248_pots c261_many c267_total a268 a269 n269 a282 a283 p0 p1 p2 p3 p4 p5 p6 p7 p8 hr_a268 hr_a269 hr_a282 hr_a283 o0 k ih⟩
set_option maxHeartbeats 1000000 in
set_option maxRecDepth 10000 in
theorem t172_X10_fillLast_E_g31 (fu : Nat) (hfu : 1000000000000 ≤ fu) (c248_pots : Int32) (c261_many : Int32) (c267_total : Int32) (a268 : Nat → Int32) (a269 : Nat → Int32) (n269 : Nat) (a282 : Nat → Int32) (a283 : Nat → Int32) (a281 : Nat → Int32) (p0 : c248_pots.toInt ≤ 1) (p1 : 1 ≤ c248_pots.toInt) (p2 : c261_many.toInt ≤ 6) (p3 : 6 ≤ c261_many.toInt) (p4 : c267_total.toInt ≤ 6) (p5 : 6 ≤ c267_total.toInt) (p6 : ((n269 : Nat) : Int) ≤ 13824) (p7 : 1 ≤ ((n269 : Nat) : Int)) (p8 : c267_total.toInt ≤ ((n269 : Nat) : Int)) (hr_a268 : dz_pt a268 [1]) (hr_a269 : dz_rg a269 n269 0 1023) (hr_a282 : dz_pt a282 [0, 1]) (hr_a283 : dz_pm a283 1) (hr_a281 : dz_rg a281 601 0 16777215) (o0 : 1 ≤ c248_pots.toInt) (kv : Nat) (hkv : 1000000000000 ≤ kv) : dz_T (s172_X10_fillLast_0 fu c248_pots c261_many c267_total a268 a269 n269 a282 a283 (F172_X10_fillLast fu c248_pots c261_many c267_total a268 a269 n269 a282 a283 kv).1  a281) (fun r => dz_rg r 601 0 16777215) := by
  unfold s172_X10_fillLast_0
  have e1 := dz_l1
  have e2 := dz_sub (a := c248_pots) (b := (1 : Int32)) (by omega) (by omega)
  refine dz_Tin (by omega) (by omega) ?_
  have e3 := dz_pmat (hr_a283) (i := (c248_pots - (1 : Int32))) (by decide) (by omega) (by omega)
  refine dz_Tin (by omega) (by omega) ?_
  refine dz_Tin (by omega) (by omega) ?_
  have e4 := dz_ptat (hr_a268) (i := (a283 (c248_pots - (1 : Int32)).toNatClampNeg)) (x := 1) 0 (by omega) (by decide)
  have e5 := dz_ptat (hr_a282) (i := (c248_pots - (1 : Int32))) (x := 0) 0 (by omega) (by decide)
  exact (t172_X10_fillLast_I_g31 fu hfu c248_pots c261_many c267_total a268 a269 n269 a282 a283 p0 p1 p2 p3 p4 p5 p6 p7 p8 hr_a268 hr_a269 hr_a282 hr_a283 o0 kv).1 (c248_pots - (1 : Int32)) c261_many (a268 (a283 (c248_pots - (1 : Int32)).toNatClampNeg).toNatClampNeg) (a282 (c248_pots - (1 : Int32)).toNatClampNeg) a281 (by omega) (by omega) p2 p3 (by omega) (by omega) (by omega) (by omega) (hr_a281) (by omega)
theorem t172_X10_fillLast_g31 (fu : Nat) (hfu : 1000000000000 ≤ fu) (c248_pots : Int32) (c261_many : Int32) (c267_total : Int32) (a268 : Nat → Int32) (a269 : Nat → Int32) (n269 : Nat) (a282 : Nat → Int32) (a283 : Nat → Int32) (a281 : Nat → Int32) (p0 : c248_pots.toInt ≤ 1) (p1 : 1 ≤ c248_pots.toInt) (p2 : c261_many.toInt ≤ 6) (p3 : 6 ≤ c261_many.toInt) (p4 : c267_total.toInt ≤ 6) (p5 : 6 ≤ c267_total.toInt) (p6 : ((n269 : Nat) : Int) ≤ 13824) (p7 : 1 ≤ ((n269 : Nat) : Int)) (p8 : c267_total.toInt ≤ ((n269 : Nat) : Int)) (hr_a268 : dz_pt a268 [1]) (hr_a269 : dz_rg a269 n269 0 1023) (hr_a282 : dz_pt a282 [0, 1]) (hr_a283 : dz_pm a283 1) (hr_a281 : dz_rg a281 601 0 16777215) (o0 : 1 ≤ c248_pots.toInt) : dz_T (f172_X10_fillLast fu c248_pots c261_many c267_total a268 a269 n269 a282 a283 a281) (fun r => dz_rg r 601 0 16777215) :=
  t172_X10_fillLast_E_g31 fu hfu c248_pots c261_many c267_total a268 a269 n269 a282 a283 a281 p0 p1 p2 p3 p4 p5 p6 p7 p8 hr_a268 hr_a269 hr_a282 hr_a283 hr_a281 o0 fu hfu
abbrev p172_X10_fillLast_g32 (fu : Nat) (c248_pots : Int32) (c261_many : Int32) (c267_total : Int32) (a268 : Nat → Int32) (a269 : Nat → Int32) (n269 : Nat) (a282 : Nat → Int32) (a283 : Nat → Int32) (k : Nat) : Prop :=
  (∀ (v1 : Int32) (v2 : Int32) (v3 : Int32) (v4 : Int32) (a281 : Nat → Int32), v1.toInt ≤ 1 → 1 ≤ v1.toInt → v2.toInt ≤ 6 → 6 ≤ v2.toInt → v3.toInt ≤ 6 → 1 ≤ v3.toInt → v4.toInt ≤ 7 → 1 ≤ v4.toInt → dz_rg a281 601 0 16777215 → 0 + 0 + (7 - v4.toInt) * 144 + 8 ≤ ((k : Nat) : Int) → dz_T ((F172_X10_fillLast fu c248_pots c261_many c267_total a268 a269 n269 a282 a283 k).1 v1 v2 v3 v4 a281) (fun r => dz_rg r 601 0 16777215)) ∧ (∀ (v1 : Int32) (v2 : Int32) (v3 : Int32) (v4 : Int32) (v5 : Int32) (v6 : Int32) (v7 : Int32) (a281 : Nat → Int32), v1.toInt ≤ 1 → 1 ≤ v1.toInt → v2.toInt ≤ 6 → 6 ≤ v2.toInt → v3.toInt ≤ 6 → 1 ≤ v3.toInt → v4.toInt ≤ 6 → 1 ≤ v4.toInt → v5.toInt ≤ 35 → 0 ≤ v5.toInt → v6.toInt ≤ 63 → 0 ≤ v6.toInt → v7.toInt ≤ 6 → 0 ≤ v7.toInt → v7.toInt ≤ v5.toInt → dz_rg a281 601 0 16777215 → 0 + 0 + ((7 - v4.toInt) - 1) * 144 + 0 + (6 - v7.toInt) * 16 + 16 ≤ ((k : Nat) : Int) → dz_T ((F172_X10_fillLast fu c248_pots c261_many c267_total a268 a269 n269 a282 a283 k).2.1 v1 v2 v3 v4 v5 v6 v7 a281) (fun r => dz_rg r 601 0 16777215))
set_option maxHeartbeats 1000000 in
set_option maxRecDepth 10000 in
theorem t172_X10_fillLast_h1_g32 (fu : Nat) (hfu : 1000000000000 ≤ fu) (c248_pots : Int32) (c261_many : Int32) (c267_total : Int32) (a268 : Nat → Int32) (a269 : Nat → Int32) (n269 : Nat) (a282 : Nat → Int32) (a283 : Nat → Int32) (p0 : c248_pots.toInt ≤ 2) (p1 : 2 ≤ c248_pots.toInt) (p2 : c261_many.toInt ≤ 6) (p3 : 6 ≤ c261_many.toInt) (p4 : c267_total.toInt ≤ 36) (p5 : 36 ≤ c267_total.toInt) (p6 : ((n269 : Nat) : Int) ≤ 13824) (p7 : 1 ≤ ((n269 : Nat) : Int)) (p8 : c267_total.toInt ≤ ((n269 : Nat) : Int)) (hr_a268 : dz_pt a268 [6, 1]) (hr_a269 : dz_rg a269 n269 0 1023) (hr_a282 : dz_pt a282 [0, 1, 7]) (hr_a283 : dz_pm a283 2) (o0 : 1 ≤ c248_pots.toInt) (k : Nat) (ih : ∀ j9, j9 < k → p172_X10_fillLast_g32 fu c248_pots c261_many c267_total a268 a269 n269 a282 a283 j9) : ∀ (v1 : Int32) (v2 : Int32) (v3 : Int32) (v4 : Int32) (a281 : Nat → Int32), v1.toInt ≤ 1 → 1 ≤ v1.toInt → v2.toInt ≤ 6 → 6 ≤ v2.toInt → v3.toInt ≤ 6 → 1 ≤ v3.toInt → v4.toInt ≤ 7 → 1 ≤ v4.toInt → dz_rg a281 601 0 16777215 → 0 + 0 + (7 - v4.toInt) * 144 + 8 ≤ ((k : Nat) : Int) → dz_T ((F172_X10_fillLast fu c248_pots c261_many c267_total a268 a269 n269 a282 a283 k).1 v1 v2 v3 v4 a281) (fun r => dz_rg r 601 0 16777215) := by
  intro v1 v2 v3 v4 a281 i0 i1 i2 i3 i4 i5 i6 i7 hr_a281 hm
  obtain ⟨k0, rfl⟩ : ∃ x, k = x + 1 := ⟨k - 1, by omega⟩
  show dz_T (s172_X10_fillLast_1 fu c248_pots c261_many c267_total a268 a269 n269 a282 a283 (F172_X10_fillLast fu c248_pots c261_many c267_total a268 a269 n269 a282 a283 k0).2.1  v1 v2 v3 v4 a281) _
  unfold s172_X10_fillLast_1
  have e1 := dz_l1
  have e2 := dz_add (a := v1) (b := (1 : Int32)) (by omega) (by omega)
  refine dz_Tin (by omega) (by omega) ?_
  have e3 := dz_ptat (hr_a282) (i := (v1 + (1 : Int32))) (x := 7) 2 (by omega) (by decide)
  refine dz_Tle (fun h4 => ?_) (fun h4 => ?_)
  · skip
    exact dz_Ts (hr_a281)
  · skip
    refine dz_Tin (by omega) (by omega) ?_
    have e5 := dz_ptat (hr_a282) (i := v1) (x := 1) 1 (by omega) (by decide)
    have e6 := dz_sub (a := v4) (b := (a282 v1.toNatClampNeg)) (by omega) (by omega)
    refine dz_Tb (t171_X10_codeOf_g32 fu hfu _ _ _ _ _ p2 p3 (by omega) (by omega) (by first | assumption | omega) i0 i1 (hr_a268) (hr_a283)) (fun r1 q => ?_)
    obtain ⟨q1_0, q1_1⟩ := q
    have e7 := dz_l0
    exact (ih k0 (by omega)).2 v1 v2 v3 v4 r1 (0 : Int32) (0 : Int32) a281 i0 i1 i2 i3 i4 i5 (by first | assumption | omega) i7 q1_1 q1_0 (by omega) (by omega) (by omega) (by omega) (by omega) (hr_a281) (by omega)
set_option maxHeartbeats 1000000 in
set_option maxRecDepth 10000 in
theorem t172_X10_fillLast_h2_g32 (fu : Nat) (hfu : 1000000000000 ≤ fu) (c248_pots : Int32) (c261_many : Int32) (c267_total : Int32) (a268 : Nat → Int32) (a269 : Nat → Int32) (n269 : Nat) (a282 : Nat → Int32) (a283 : Nat → Int32) (p0 : c248_pots.toInt ≤ 2) (p1 : 2 ≤ c248_pots.toInt) (p2 : c261_many.toInt ≤ 6) (p3 : 6 ≤ c261_many.toInt) (p4 : c267_total.toInt ≤ 36) (p5 : 36 ≤ c267_total.toInt) (p6 : ((n269 : Nat) : Int) ≤ 13824) (p7 : 1 ≤ ((n269 : Nat) : Int)) (p8 : c267_total.toInt ≤ ((n269 : Nat) : Int)) (hr_a268 : dz_pt a268 [6, 1]) (hr_a269 : dz_rg a269 n269 0 1023) (hr_a282 : dz_pt a282 [0, 1, 7]) (hr_a283 : dz_pm a283 2) (o0 : 1 ≤ c248_pots.toInt) (k : Nat) (ih : ∀ j9, j9 < k → p172_X10_fillLast_g32 fu c248_pots c261_many c267_total a268 a269 n269 a282 a283 j9) : ∀ (v1 : Int32) (v2 : Int32) (v3 : Int32) (v4 : Int32) (v5 : Int32) (v6 : Int32) (v7 : Int32) (a281 : Nat → Int32), v1.toInt ≤ 1 → 1 ≤ v1.toInt → v2.toInt ≤ 6 → 6 ≤ v2.toInt → v3.toInt ≤ 6 → 1 ≤ v3.toInt → v4.toInt ≤ 6 → 1 ≤ v4.toInt → v5.toInt ≤ 35 → 0 ≤ v5.toInt → v6.toInt ≤ 63 → 0 ≤ v6.toInt → v7.toInt ≤ 6 → 0 ≤ v7.toInt → v7.toInt ≤ v5.toInt → dz_rg a281 601 0 16777215 → 0 + 0 + ((7 - v4.toInt) - 1) * 144 + 0 + (6 - v7.toInt) * 16 + 16 ≤ ((k : Nat) : Int) → dz_T ((F172_X10_fillLast fu c248_pots c261_many c267_total a268 a269 n269 a282 a283 k).2.1 v1 v2 v3 v4 v5 v6 v7 a281) (fun r => dz_rg r 601 0 16777215) := by
  intro v1 v2 v3 v4 v5 v6 v7 a281 i0 i1 i2 i3 i4 i5 i6 i7 i8 i9 i10 i11 i12 i13 i14 hr_a281 hm
  obtain ⟨k0, rfl⟩ : ∃ x, k = x + 1 := ⟨k - 1, by omega⟩
  show dz_T (s172_X10_fillLast_2 fu c248_pots c261_many c267_total a268 a269 n269 a282 a283 (F172_X10_fillLast fu c248_pots c261_many c267_total a268 a269 n269 a282 a283 k0).2.2.1 (F172_X10_fillLast fu c248_pots c261_many c267_total a268 a269 n269 a282 a283 k0).2.2.2  v1 v2 v3 v4 v5 v6 v7 a281) _
  unfold s172_X10_fillLast_2
  refine dz_Tle (fun h1 => ?_) (fun h1 => ?_)
  · skip
    obtain ⟨k1, rfl⟩ : ∃ x, k0 = x + 1 := ⟨k0 - 1, by omega⟩
    show dz_T (s172_X10_fillLast_3 fu c248_pots c261_many c267_total a268 a269 n269 a282 a283 (F172_X10_fillLast fu c248_pots c261_many c267_total a268 a269 n269 a282 a283 k1).1 v1 v2 v3 v4 v6 a281) _
    unfold s172_X10_fillLast_3
    refine dz_Tin (by omega) (by omega) ?_
    have e2 := dz_l1
    have e3 := dz_add (a := v4) (b := (1 : Int32)) (by omega) (by omega)
    exact (ih k1 (by omega)).1 v1 v2 v3 (v4 + (1 : Int32)) (upd a281 v4.toNatClampNeg v6) i0 i1 i2 i3 i4 i5 (by omega) (by omega) (dz_rgu (hr_a281) (by omega) (by omega)) (by omega)
  · skip
    refine dz_Tin (by omega) (by omega) ?_
    have e4 := dz_rgat (hr_a269) (i := v5) (by omega) (by omega)
    have e5 := dz_l0
    refine dz_Teq (fun h6 => ?_) (fun h6 => ?_)
    · skip
      obtain ⟨k2, rfl⟩ : ∃ x, k0 = x + 1 := ⟨k0 - 1, by omega⟩
      show dz_T (s172_X10_fillLast_4 fu c248_pots c261_many c267_total a268 a269 n269 a282 a283 (F172_X10_fillLast fu c248_pots c261_many c267_total a268 a269 n269 a282 a283 k2).2.1 (F172_X10_fillLast fu c248_pots c261_many c267_total a268 a269 n269 a282 a283 k2).2.2.1 v1 v2 v3 v4 v5 (v6 ||| ((1 : Int32) <<< (v7 &&& (31 : Int32)))) v7 a281) _
      unfold s172_X10_fillLast_4
      have e7 := dz_add (a := v5) (b := v3) (by omega) (by omega)
      refine dz_Tlt (fun h8 => ?_) (fun h8 => ?_)
      · skip
        have e9 := dz_l1
        have e10 := dz_l31
        have e11 := dz_andr (a := v7) (b := (31 : Int32)) (by omega)
        have e12 := dz_andl (a := v7) (b := (31 : Int32)) (by omega)
        have e13 := dz_shl1 (b := v7) 0 5 (by omega) (by omega) (by omega)
        have e14 := dz_orb (a := v6) (b := ((1 : Int32) <<< (v7 &&& (31 : Int32)))) 6 (by omega) (by omega) (by omega) (by omega) (by omega)
        have e15 := dz_add (a := v7) (b := (1 : Int32)) (by omega) (by omega)
        exact (ih k2 (by omega)).2 v1 v2 v3 v4 (v5 + v3) (v6 ||| ((1 : Int32) <<< (v7 &&& (31 : Int32)))) (v7 + (1 : Int32)) a281 i0 i1 i2 i3 i4 i5 i6 i7 (by omega) (by omega) (by omega) (by omega) (by omega) (by omega) (by omega) (hr_a281) (by omega)
      · skip
        obtain ⟨k3, rfl⟩ : ∃ x, k2 = x + 1 := ⟨k2 - 1, by omega⟩
        show dz_T (s172_X10_fillLast_3 fu c248_pots c261_many c267_total a268 a269 n269 a282 a283 (F172_X10_fillLast fu c248_pots c261_many c267_total a268 a269 n269 a282 a283 k3).1 v1 v2 v3 v4 (v6 ||| ((1 : Int32) <<< (v7 &&& (31 : Int32)))) a281) _
        unfold s172_X10_fillLast_3
        refine dz_Tin (by omega) (by omega) ?_
        have e16 := dz_l1
        have e17 := dz_add (a := v4) (b := (1 : Int32)) (by omega) (by omega)
        have e18 := dz_l31
        have e19 := dz_andr (a := v7) (b := (31 : Int32)) (by omega)
        have e20 := dz_andl (a := v7) (b := (31 : Int32)) (by omega)
        have e21 := dz_shl1 (b := v7) 0 5 (by omega) (by omega) (by omega)
        have e22 := dz_orb (a := v6) (b := ((1 : Int32) <<< (v7 &&& (31 : Int32)))) 6 (by omega) (by omega) (by omega) (by omega) (by omega)
        exact (ih k3 (by omega)).1 v1 v2 v3 (v4 + (1 : Int32)) (upd a281 v4.toNatClampNeg (v6 ||| ((1 : Int32) <<< (v7 &&& (31 : Int32))))) i0 i1 i2 i3 i4 i5 (by omega) (by omega) (dz_rgu (hr_a281) (by omega) (by omega)) (by omega)
    · skip
      obtain ⟨k4, rfl⟩ : ∃ x, k0 = x + 1 := ⟨k0 - 1, by omega⟩
      show dz_T (s172_X10_fillLast_4 fu c248_pots c261_many c267_total a268 a269 n269 a282 a283 (F172_X10_fillLast fu c248_pots c261_many c267_total a268 a269 n269 a282 a283 k4).2.1 (F172_X10_fillLast fu c248_pots c261_many c267_total a268 a269 n269 a282 a283 k4).2.2.1 v1 v2 v3 v4 v5 v6 v7 a281) _
      unfold s172_X10_fillLast_4
      have e23 := dz_add (a := v5) (b := v3) (by omega) (by omega)
      refine dz_Tlt (fun h24 => ?_) (fun h24 => ?_)
      · skip
        have e25 := dz_l1
        have e26 := dz_add (a := v7) (b := (1 : Int32)) (by omega) (by omega)
        exact (ih k4 (by omega)).2 v1 v2 v3 v4 (v5 + v3) v6 (v7 + (1 : Int32)) a281 i0 i1 i2 i3 i4 i5 i6 i7 (by omega) (by omega) i10 i11 (by omega) (by omega) (by omega) (hr_a281) (by omega)
      · skip
        obtain ⟨k5, rfl⟩ : ∃ x, k4 = x + 1 := ⟨k4 - 1, by omega⟩
        show dz_T (s172_X10_fillLast_3 fu c248_pots c261_many c267_total a268 a269 n269 a282 a283 (F172_X10_fillLast fu c248_pots c261_many c267_total a268 a269 n269 a282 a283 k5).1 v1 v2 v3 v4 v6 a281) _
        unfold s172_X10_fillLast_3
        refine dz_Tin (by omega) (by omega) ?_
        have e27 := dz_l1
        have e28 := dz_add (a := v4) (b := (1 : Int32)) (by omega) (by omega)
        exact (ih k5 (by omega)).1 v1 v2 v3 (v4 + (1 : Int32)) (upd a281 v4.toNatClampNeg v6) i0 i1 i2 i3 i4 i5 (by omega) (by omega) (dz_rgu (hr_a281) (by omega) (by omega)) (by omega)
theorem t172_X10_fillLast_I_g32 (fu : Nat) (hfu : 1000000000000 ≤ fu) (c248_pots : Int32) (c261_many : Int32) (c267_total : Int32) (a268 : Nat → Int32) (a269 : Nat → Int32) (n269 : Nat) (a282 : Nat → Int32) (a283 : Nat → Int32) (p0 : c248_pots.toInt ≤ 2) (p1 : 2 ≤ c248_pots.toInt) (p2 : c261_many.toInt ≤ 6) (p3 : 6 ≤ c261_many.toInt) (p4 : c267_total.toInt ≤ 36) (p5 : 36 ≤ c267_total.toInt) (p6 : ((n269 : Nat) : Int) ≤ 13824) (p7 : 1 ≤ ((n269 : Nat) : Int)) (p8 : c267_total.toInt ≤ ((n269 : Nat) : Int)) (hr_a268 : dz_pt a268 [6, 1]) (hr_a269 : dz_rg a269 n269 0 1023) (hr_a282 : dz_pt a282 [0, 1, 7]) (hr_a283 : dz_pm a283 2) (o0 : 1 ≤ c248_pots.toInt) (k : Nat) : p172_X10_fillLast_g32 fu c248_pots c261_many c267_total a268 a269 n269 a282 a283 k := by
  induction k using Nat.strongRecOn with
  | _ k ih => exact ⟨t172_X10_fillLast_h1_g32 fu hfu c248_pots c261_many c267_total a268 a269 n269 a282 a283 p0 p1 p2 p3 p4 p5 p6 p7 p8 hr_a268 hr_a269 hr_a282 hr_a283 o0 k ih, t172_X10_fillLast_h2_g32 fu hfu c248_pots c261_many c267_total a268 a269 n269 a282 a283 p0 p1 p2 p3 p4 p5 p6 p7 p8 hr_a268 hr_a269 hr_a282 hr_a283 o0 k ih⟩
set_option maxHeartbeats 1000000 in
set_option maxRecDepth 10000 in
theorem t172_X10_fillLast_E_g32 (fu : Nat) (hfu : 1000000000000 ≤ fu) (c248_pots : Int32) (c261_many : Int32) (c267_total : Int32) (a268 : Nat → Int32) (a269 : Nat → Int32) (n269 : Nat) (a282 : Nat → Int32) (a283 : Nat → Int32) (a281 : Nat → Int32) (p0 : c248_pots.toInt ≤ 2) (p1 : 2 ≤ c248_pots.toInt) (p2 : c261_many.toInt ≤ 6) (p3 : 6 ≤ c261_many.toInt) (p4 : c267_total.toInt ≤ 36) (p5 : 36 ≤ c267_total.toInt) (p6 : ((n269 : Nat) : Int) ≤ 13824) (p7 : 1 ≤ ((n269 : Nat) : Int)) (p8 : c267_total.toInt ≤ ((n269 : Nat) : Int)) (hr_a268 : dz_pt a268 [6, 1]) (hr_a269 : dz_rg a269 n269 0 1023) (hr_a282 : dz_pt a282 [0, 1, 7]) (hr_a283 : dz_pm a283 2) (hr_a281 : dz_rg a281 601 0 16777215) (o0 : 1 ≤ c248_pots.toInt) (kv : Nat) (hkv : 1000000000000 ≤ kv) : dz_T (s172_X10_fillLast_0 fu c248_pots c261_many c267_total a268 a269 n269 a282 a283 (F172_X10_fillLast fu c248_pots c261_many c267_total a268 a269 n269 a282 a283 kv).1  a281) (fun r => dz_rg r 601 0 16777215) := by
  unfold s172_X10_fillLast_0
  have e1 := dz_l1
  have e2 := dz_sub (a := c248_pots) (b := (1 : Int32)) (by omega) (by omega)
  refine dz_Tin (by omega) (by omega) ?_
  have e3 := dz_pmat (hr_a283) (i := (c248_pots - (1 : Int32))) (by decide) (by omega) (by omega)
  refine dz_Tin (by omega) (by omega) ?_
  refine dz_Tin (by omega) (by omega) ?_
  have e4 := dz_ptrg (hr_a268) (i := (a283 (c248_pots - (1 : Int32)).toNatClampNeg)) 1 6 (by decide) (by omega) (by show _ < ((2 : Nat) : Int); omega)
  have e5 := dz_ptat (hr_a282) (i := (c248_pots - (1 : Int32))) (x := 1) 1 (by omega) (by decide)
  exact (t172_X10_fillLast_I_g32 fu hfu c248_pots c261_many c267_total a268 a269 n269 a282 a283 p0 p1 p2 p3 p4 p5 p6 p7 p8 hr_a268 hr_a269 hr_a282 hr_a283 o0 kv).1 (c248_pots - (1 : Int32)) c261_many (a268 (a283 (c248_pots - (1 : Int32)).toNatClampNeg).toNatClampNeg) (a282 (c248_pots - (1 : Int32)).toNatClampNeg) a281 (by omega) (by omega) p2 p3 (by omega) (by omega) (by omega) (by omega) (hr_a281) (by omega)
theorem t172_X10_fillLast_g32 (fu : Nat) (hfu : 1000000000000 ≤ fu) (c248_pots : Int32) (c261_many : Int32) (c267_total : Int32) (a268 : Nat → Int32) (a269 : Nat → Int32) (n269 : Nat) (a282 : Nat → Int32) (a283 : Nat → Int32) (a281 : Nat → Int32) (p0 : c248_pots.toInt ≤ 2) (p1 : 2 ≤ c248_pots.toInt) (p2 : c261_many.toInt ≤ 6) (p3 : 6 ≤ c261_many.toInt) (p4 : c267_total.toInt ≤ 36) (p5 : 36 ≤ c267_total.toInt) (p6 : ((n269 : Nat) : Int) ≤ 13824) (p7 : 1 ≤ ((n269 : Nat) : Int)) (p8 : c267_total.toInt ≤ ((n269 : Nat) : Int)) (hr_a268 : dz_pt a268 [6, 1]) (hr_a269 : dz_rg a269 n269 0 1023) (hr_a282 : dz_pt a282 [0, 1, 7]) (hr_a283 : dz_pm a283 2) (hr_a281 : dz_rg a281 601 0 16777215) (o0 : 1 ≤ c248_pots.toInt) : dz_T (f172_X10_fillLast fu c248_pots c261_many c267_total a268 a269 n269 a282 a283 a281) (fun r => dz_rg r 601 0 16777215) :=
  t172_X10_fillLast_E_g32 fu hfu c248_pots c261_many c267_total a268 a269 n269 a282 a283 a281 p0 p1 p2 p3 p4 p5 p6 p7 p8 hr_a268 hr_a269 hr_a282 hr_a283 hr_a281 o0 fu hfu
abbrev p172_X10_fillLast_g33 (fu : Nat) (c248_pots : Int32) (c261_many : Int32) (c267_total : Int32) (a268 : Nat → Int32) (a269 : Nat → Int32) (n269 : Nat) (a282 : Nat → Int32) (a283 : Nat → Int32) (k : Nat) : Prop :=
  (∀ (v1 : Int32) (v2 : Int32) (v3 : Int32) (v4 : Int32) (a281 : Nat → Int32), v1.toInt ≤ 2 → 2 ≤ v1.toInt → v2.toInt ≤ 6 → 6 ≤ v2.toInt → v3.toInt ≤ 36 → 1 ≤ v3.toInt → v4.toInt ≤ 64 → 7 ≤ v4.toInt → dz_rg a281 601 0 16777215 → 0 + 0 + (64 - v4.toInt) * 144 + 8 ≤ ((k : Nat) : Int) → dz_T ((F172_X10_fillLast fu c248_pots c261_many c267_total a268 a269 n269 a282 a283 k).1 v1 v2 v3 v4 a281) (fun r => dz_rg r 601 0 16777215)) ∧ (∀ (v1 : Int32) (v2 : Int32) (v3 : Int32) (v4 : Int32) (v5 : Int32) (v6 : Int32) (v7 : Int32) (a281 : Nat → Int32), v1.toInt ≤ 2 → 2 ≤ v1.toInt → v2.toInt ≤ 6 → 6 ≤ v2.toInt → v3.toInt ≤ 36 → 1 ≤ v3.toInt → v4.toInt ≤ 63 → 7 ≤ v4.toInt → v5.toInt ≤ 215 → 0 ≤ v5.toInt → v6.toInt ≤ 63 → 0 ≤ v6.toInt → v7.toInt ≤ 6 → 0 ≤ v7.toInt → v7.toInt ≤ v5.toInt → dz_rg a281 601 0 16777215 → 0 + 0 + ((64 - v4.toInt) - 1) * 144 + 0 + (6 - v7.toInt) * 16 + 16 ≤ ((k : Nat) : Int) → dz_T ((F172_X10_fillLast fu c248_pots c261_many c267_total a268 a269 n269 a282 a283 k).2.1 v1 v2 v3 v4 v5 v6 v7 a281) (fun r => dz_rg r 601 0 16777215))
set_option maxHeartbeats 1000000 in
set_option maxRecDepth 10000 in
theorem t172_X10_fillLast_h1_g33 (fu : Nat) (hfu : 1000000000000 ≤ fu) (c248_pots : Int32) (c261_many : Int32) (c267_total : Int32) (a268 : Nat → Int32) (a269 : Nat → Int32) (n269 : Nat) (a282 : Nat → Int32) (a283 : Nat → Int32) (p0 : c248_pots.toInt ≤ 3) (p1 : 3 ≤ c248_pots.toInt) (p2 : c261_many.toInt ≤ 6) (p3 : 6 ≤ c261_many.toInt) (p4 : c267_total.toInt ≤ 216) (p5 : 216 ≤ c267_total.toInt) (p6 : ((n269 : Nat) : Int) ≤ 13824) (p7 : 1 ≤ ((n269 : Nat) : Int)) (p8 : c267_total.toInt ≤ ((n269 : Nat) : Int)) (hr_a268 : dz_pt a268 [36, 6, 1]) (hr_a269 : dz_rg a269 n269 0 1023) (hr_a282 : dz_pt a282 [0, 1, 7, 43]) (hr_a283 : dz_pm a283 3) (o0 : 1 ≤ c248_pots.toInt) (k : Nat) (ih : ∀ j9, j9 < k → p172_X10_fillLast_g33 fu c248_pots c261_many c267_total a268 a269 n269 a282 a283 j9) : ∀ (v1 : Int32) (v2 : Int32) (v3 : Int32) (v4 : Int32) (a281 : Nat → Int32), v1.toInt ≤ 2 → 2 ≤ v1.toInt → v2.toInt ≤ 6 → 6 ≤ v2.toInt → v3.toInt ≤ 36 → 1 ≤ v3.toInt → v4.toInt ≤ 64 → 7 ≤ v4.toInt → dz_rg a281 601 0 16777215 → 0 + 0 + (64 - v4.toInt) * 144 + 8 ≤ ((k : Nat) : Int) → dz_T ((F172_X10_fillLast fu c248_pots c261_many c267_total a268 a269 n269 a282 a283 k).1 v1 v2 v3 v4 a281) (fun r => dz_rg r 601 0 16777215) := by
  intro v1 v2 v3 v4 a281 i0 i1 i2 i3 i4 i5 i6 i7 hr_a281 hm
  obtain ⟨k0, rfl⟩ : ∃ x, k = x + 1 := ⟨k - 1, by omega⟩
  show dz_T (s172_X10_fillLast_1 fu c248_pots c261_many c267_total a268 a269 n269 a282 a283 (F172_X10_fillLast fu c248_pots c261_many c267_total a268 a269 n269 a282 a283 k0).2.1  v1 v2 v3 v4 a281) _
  unfold s172_X10_fillLast_1
  have e1 := dz_l1
  have e2 := dz_add (a := v1) (b := (1 : Int32)) (by omega) (by omega)
  refine dz_Tin (by omega) (by omega) ?_
  have e3 := dz_ptat (hr_a282) (i := (v1 + (1 : Int32))) (x := 43) 3 (by omega) (by decide)
  refine dz_Tle (fun h4 => ?_) (fun h4 => ?_)
  · skip
    exact dz_Ts (hr_a281)
  · skip
    refine dz_Tin (by omega) (by omega) ?_
    have e5 := dz_ptat (hr_a282) (i := v1) (x := 7) 2 (by omega) (by decide)
    have e6 := dz_sub (a := v4) (b := (a282 v1.toNatClampNeg)) (by omega) (by omega)
    refine dz_Tb (t171_X10_codeOf_g33 fu hfu _ _ _ _ _ p2 p3 (by omega) (by omega) (by first | assumption | omega) i0 i1 (hr_a268) (hr_a283)) (fun r1 q => ?_)
    obtain ⟨q1_0, q1_1⟩ := q
    have e7 := dz_l0
    exact (ih k0 (by omega)).2 v1 v2 v3 v4 r1 (0 : Int32) (0 : Int32) a281 i0 i1 i2 i3 i4 i5 (by first | assumption | omega) i7 q1_1 q1_0 (by omega) (by omega) (by omega) (by omega) (by omega) (hr_a281) (by omega)
set_option maxHeartbeats 1000000 in
set_option maxRecDepth 10000 in
theorem t172_X10_fillLast_h2_g33 (fu : Nat) (hfu : 1000000000000 ≤ fu) (c248_pots : Int32) (c261_many : Int32) (c267_total : Int32) (a268 : Nat → Int32) (a269 : Nat → Int32) (n269 : Nat) (a282 : Nat → Int32) (a283 : Nat → Int32) (p0 : c248_pots.toInt ≤ 3) (p1 : 3 ≤ c248_pots.toInt) (p2 : c261_many.toInt ≤ 6) (p3 : 6 ≤ c261_many.toInt) (p4 : c267_total.toInt ≤ 216) (p5 : 216 ≤ c267_total.toInt) (p6 : ((n269 : Nat) : Int) ≤ 13824) (p7 : 1 ≤ ((n269 : Nat) : Int)) (p8 : c267_total.toInt ≤ ((n269 : Nat) : Int)) (hr_a268 : dz_pt a268 [36, 6, 1]) (hr_a269 : dz_rg a269 n269 0 1023) (hr_a282 : dz_pt a282 [0, 1, 7, 43]) (hr_a283 : dz_pm a283 3) (o0 : 1 ≤ c248_pots.toInt) (k : Nat) (ih : ∀ j9, j9 < k → p172_X10_fillLast_g33 fu c248_pots c261_many c267_total a268 a269 n269 a282 a283 j9) : ∀ (v1 : Int32) (v2 : Int32) (v3 : Int32) (v4 : Int32) (v5 : Int32) (v6 : Int32) (v7 : Int32) (a281 : Nat → Int32), v1.toInt ≤ 2 → 2 ≤ v1.toInt → v2.toInt ≤ 6 → 6 ≤ v2.toInt → v3.toInt ≤ 36 → 1 ≤ v3.toInt → v4.toInt ≤ 63 → 7 ≤ v4.toInt → v5.toInt ≤ 215 → 0 ≤ v5.toInt → v6.toInt ≤ 63 → 0 ≤ v6.toInt → v7.toInt ≤ 6 → 0 ≤ v7.toInt → v7.toInt ≤ v5.toInt → dz_rg a281 601 0 16777215 → 0 + 0 + ((64 - v4.toInt) - 1) * 144 + 0 + (6 - v7.toInt) * 16 + 16 ≤ ((k : Nat) : Int) → dz_T ((F172_X10_fillLast fu c248_pots c261_many c267_total a268 a269 n269 a282 a283 k).2.1 v1 v2 v3 v4 v5 v6 v7 a281) (fun r => dz_rg r 601 0 16777215) := by
  intro v1 v2 v3 v4 v5 v6 v7 a281 i0 i1 i2 i3 i4 i5 i6 i7 i8 i9 i10 i11 i12 i13 i14 hr_a281 hm
  obtain ⟨k0, rfl⟩ : ∃ x, k = x + 1 := ⟨k - 1, by omega⟩
  show dz_T (s172_X10_fillLast_2 fu c248_pots c261_many c267_total a268 a269 n269 a282 a283 (F172_X10_fillLast fu c248_pots c261_many c267_total a268 a269 n269 a282 a283 k0).2.2.1 (F172_X10_fillLast fu c248_pots c261_many c267_total a268 a269 n269 a282 a283 k0).2.2.2  v1 v2 v3 v4 v5 v6 v7 a281) _
  unfold s172_X10_fillLast_2
  refine dz_Tle (fun h1 => ?_) (fun h1 => ?_)
  · skip
    obtain ⟨k1, rfl⟩ : ∃ x, k0 = x + 1 := ⟨k0 - 1, by omega⟩
    show dz_T (s172_X10_fillLast_3 fu c248_pots c261_many c267_total a268 a269 n269 a282 a283 (F172_X10_fillLast fu c248_pots c261_many c267_total a268 a269 n269 a282 a283 k1).1 v1 v2 v3 v4 v6 a281) _
    unfold s172_X10_fillLast_3
    refine dz_Tin (by omega) (by omega) ?_
    have e2 := dz_l1
    have e3 := dz_add (a := v4) (b := (1 : Int32)) (by omega) (by omega)
    exact (ih k1 (by omega)).1 v1 v2 v3 (v4 + (1 : Int32)) (upd a281 v4.toNatClampNeg v6) i0 i1 i2 i3 i4 i5 (by omega) (by omega) (dz_rgu (hr_a281) (by omega) (by omega)) (by omega)
  · skip
    refine dz_Tin (by omega) (by omega) ?_
    have e4 := dz_rgat (hr_a269) (i := v5) (by omega) (by omega)
    have e5 := dz_l0
    refine dz_Teq (fun h6 => ?_) (fun h6 => ?_)
    · skip
      obtain ⟨k2, rfl⟩ : ∃ x, k0 = x + 1 := ⟨k0 - 1, by omega⟩
      show dz_T (s172_X10_fillLast_4 fu c248_pots c261_many c267_total a268 a269 n269 a282 a283 (F172_X10_fillLast fu c248_pots c261_many c267_total a268 a269 n269 a282 a283 k2).2.1 (F172_X10_fillLast fu c248_pots c261_many c267_total a268 a269 n269 a282 a283 k2).2.2.1 v1 v2 v3 v4 v5 (v6 ||| ((1 : Int32) <<< (v7 &&& (31 : Int32)))) v7 a281) _
      unfold s172_X10_fillLast_4
      have e7 := dz_add (a := v5) (b := v3) (by omega) (by omega)
      refine dz_Tlt (fun h8 => ?_) (fun h8 => ?_)
      · skip
        have e9 := dz_l1
        have e10 := dz_l31
        have e11 := dz_andr (a := v7) (b := (31 : Int32)) (by omega)
        have e12 := dz_andl (a := v7) (b := (31 : Int32)) (by omega)
        have e13 := dz_shl1 (b := v7) 0 5 (by omega) (by omega) (by omega)
        have e14 := dz_orb (a := v6) (b := ((1 : Int32) <<< (v7 &&& (31 : Int32)))) 6 (by omega) (by omega) (by omega) (by omega) (by omega)
        have e15 := dz_add (a := v7) (b := (1 : Int32)) (by omega) (by omega)
        exact (ih k2 (by omega)).2 v1 v2 v3 v4 (v5 + v3) (v6 ||| ((1 : Int32) <<< (v7 &&& (31 : Int32)))) (v7 + (1 : Int32)) a281 i0 i1 i2 i3 i4 i5 i6 i7 (by omega) (by omega) (by omega) (by omega) (by omega) (by omega) (by omega) (hr_a281) (by omega)
      · skip
        obtain ⟨k3, rfl⟩ : ∃ x, k2 = x + 1 := ⟨k2 - 1, by omega⟩
        show dz_T (s172_X10_fillLast_3 fu c248_pots c261_many c267_total a268 a269 n269 a282 a283 (F172_X10_fillLast fu c248_pots c261_many c267_total a268 a269 n269 a282 a283 k3).1 v1 v2 v3 v4 (v6 ||| ((1 : Int32) <<< (v7 &&& (31 : Int32)))) a281) _
        unfold s172_X10_fillLast_3
        refine dz_Tin (by omega) (by omega) ?_
        have e16 := dz_l1
        have e17 := dz_add (a := v4) (b := (1 : Int32)) (by omega) (by omega)
        have e18 := dz_l31
        have e19 := dz_andr (a := v7) (b := (31 : Int32)) (by omega)
        have e20 := dz_andl (a := v7) (b := (31 : Int32)) (by omega)
        have e21 := dz_shl1 (b := v7) 0 5 (by omega) (by omega) (by omega)
        have e22 := dz_orb (a := v6) (b := ((1 : Int32) <<< (v7 &&& (31 : Int32)))) 6 (by omega) (by omega) (by omega) (by omega) (by omega)
        exact (ih k3 (by omega)).1 v1 v2 v3 (v4 + (1 : Int32)) (upd a281 v4.toNatClampNeg (v6 ||| ((1 : Int32) <<< (v7 &&& (31 : Int32))))) i0 i1 i2 i3 i4 i5 (by omega) (by omega) (dz_rgu (hr_a281) (by omega) (by omega)) (by omega)
    · skip
      obtain ⟨k4, rfl⟩ : ∃ x, k0 = x + 1 := ⟨k0 - 1, by omega⟩
      show dz_T (s172_X10_fillLast_4 fu c248_pots c261_many c267_total a268 a269 n269 a282 a283 (F172_X10_fillLast fu c248_pots c261_many c267_total a268 a269 n269 a282 a283 k4).2.1 (F172_X10_fillLast fu c248_pots c261_many c267_total a268 a269 n269 a282 a283 k4).2.2.1 v1 v2 v3 v4 v5 v6 v7 a281) _
      unfold s172_X10_fillLast_4
      have e23 := dz_add (a := v5) (b := v3) (by omega) (by omega)
      refine dz_Tlt (fun h24 => ?_) (fun h24 => ?_)
      · skip
        have e25 := dz_l1
        have e26 := dz_add (a := v7) (b := (1 : Int32)) (by omega) (by omega)
        exact (ih k4 (by omega)).2 v1 v2 v3 v4 (v5 + v3) v6 (v7 + (1 : Int32)) a281 i0 i1 i2 i3 i4 i5 i6 i7 (by omega) (by omega) i10 i11 (by omega) (by omega) (by omega) (hr_a281) (by omega)
      · skip
        obtain ⟨k5, rfl⟩ : ∃ x, k4 = x + 1 := ⟨k4 - 1, by omega⟩
        show dz_T (s172_X10_fillLast_3 fu c248_pots c261_many c267_total a268 a269 n269 a282 a283 (F172_X10_fillLast fu c248_pots c261_many c267_total a268 a269 n269 a282 a283 k5).1 v1 v2 v3 v4 v6 a281) _
        unfold s172_X10_fillLast_3
        refine dz_Tin (by omega) (by omega) ?_
        have e27 := dz_l1
        have e28 := dz_add (a := v4) (b := (1 : Int32)) (by omega) (by omega)
        exact (ih k5 (by omega)).1 v1 v2 v3 (v4 + (1 : Int32)) (upd a281 v4.toNatClampNeg v6) i0 i1 i2 i3 i4 i5 (by omega) (by omega) (dz_rgu (hr_a281) (by omega) (by omega)) (by omega)
theorem t172_X10_fillLast_I_g33 (fu : Nat) (hfu : 1000000000000 ≤ fu) (c248_pots : Int32) (c261_many : Int32) (c267_total : Int32) (a268 : Nat → Int32) (a269 : Nat → Int32) (n269 : Nat) (a282 : Nat → Int32) (a283 : Nat → Int32) (p0 : c248_pots.toInt ≤ 3) (p1 : 3 ≤ c248_pots.toInt) (p2 : c261_many.toInt ≤ 6) (p3 : 6 ≤ c261_many.toInt) (p4 : c267_total.toInt ≤ 216) (p5 : 216 ≤ c267_total.toInt) (p6 : ((n269 : Nat) : Int) ≤ 13824) (p7 : 1 ≤ ((n269 : Nat) : Int)) (p8 : c267_total.toInt ≤ ((n269 : Nat) : Int)) (hr_a268 : dz_pt a268 [36, 6, 1]) (hr_a269 : dz_rg a269 n269 0 1023) (hr_a282 : dz_pt a282 [0, 1, 7, 43]) (hr_a283 : dz_pm a283 3) (o0 : 1 ≤ c248_pots.toInt) (k : Nat) : p172_X10_fillLast_g33 fu c248_pots c261_many c267_total a268 a269 n269 a282 a283 k := by
  induction k using Nat.strongRecOn with
  | _ k ih => exact ⟨t172_X10_fillLast_h1_g33 fu hfu c248_pots c261_many c267_total a268 a269 n269 a282 a283 p0 p1 p2 p3 p4 p5 p6 p7 p8 hr_a268 hr_a269 hr_a282 hr_a283 o0 k ih, t172_X10_fillLast_h2_g33 fu hfu c248_pots c261_many c267_total a268 a269 n269 a282 a283 p0 p1 p2 p3 p4 p5 p6 p7 p8 hr_a268 hr_a269 hr_a282 hr_a283 o0 k ih⟩
set_option maxHeartbeats 1000000 in
set_option maxRecDepth 10000 in
theorem t172_X10_fillLast_E_g33 (fu : Nat) (hfu : 1000000000000 ≤ fu) (c248_pots : Int32) (c261_many : Int32) (c267_total : Int32) (a268 : Nat → Int32) (a269 : Nat → Int32) (n269 : Nat) (a282 : Nat → Int32) (a283 : Nat → Int32) (a281 : Nat → Int32) (p0 : c248_pots.toInt ≤ 3) (p1 : 3 ≤ c248_pots.toInt) (p2 : c261_many.toInt ≤ 6) (p3 : 6 ≤ c261_many.toInt) (p4 : c267_total.toInt ≤ 216) (p5 : 216 ≤ c267_total.toInt) (p6 : ((n269 : Nat) : Int) ≤ 13824) (p7 : 1 ≤ ((n269 : Nat) : Int)) (p8 : c267_total.toInt ≤ ((n269 : Nat) : Int)) (hr_a268 : dz_pt a268 [36, 6, 1]) (hr_a269 : dz_rg a269 n269 0 1023) (hr_a282 : dz_pt a282 [0, 1, 7, 43]) (hr_a283 : dz_pm a283 3) (hr_a281 : dz_rg a281 601 0 16777215) (o0 : 1 ≤ c248_pots.toInt) (kv : Nat) (hkv : 1000000000000 ≤ kv) : dz_T (s172_X10_fillLast_0 fu c248_pots c261_many c267_total a268 a269 n269 a282 a283 (F172_X10_fillLast fu c248_pots c261_many c267_total a268 a269 n269 a282 a283 kv).1  a281) (fun r => dz_rg r 601 0 16777215) := by
  unfold s172_X10_fillLast_0
  have e1 := dz_l1
  have e2 := dz_sub (a := c248_pots) (b := (1 : Int32)) (by omega) (by omega)
  refine dz_Tin (by omega) (by omega) ?_
  have e3 := dz_pmat (hr_a283) (i := (c248_pots - (1 : Int32))) (by decide) (by omega) (by omega)
  refine dz_Tin (by omega) (by omega) ?_
  refine dz_Tin (by omega) (by omega) ?_
  have e4 := dz_ptrg (hr_a268) (i := (a283 (c248_pots - (1 : Int32)).toNatClampNeg)) 1 36 (by decide) (by omega) (by show _ < ((3 : Nat) : Int); omega)
  have e5 := dz_ptat (hr_a282) (i := (c248_pots - (1 : Int32))) (x := 7) 2 (by omega) (by decide)
  exact (t172_X10_fillLast_I_g33 fu hfu c248_pots c261_many c267_total a268 a269 n269 a282 a283 p0 p1 p2 p3 p4 p5 p6 p7 p8 hr_a268 hr_a269 hr_a282 hr_a283 o0 kv).1 (c248_pots - (1 : Int32)) c261_many (a268 (a283 (c248_pots - (1 : Int32)).toNatClampNeg).toNatClampNeg) (a282 (c248_pots - (1 : Int32)).toNatClampNeg) a281 (by omega) (by omega) p2 p3 (by omega) (by omega) (by omega) (by omega) (hr_a281) (by omega)
theorem t172_X10_fillLast_g33 (fu : Nat) (hfu : 1000000000000 ≤ fu) (c248_pots : Int32) (c261_many : Int32) (c267_total : Int32) (a268 : Nat → Int32) (a269 : Nat → Int32) (n269 : Nat) (a282 : Nat → Int32) (a283 : Nat → Int32) (a281 : Nat → Int32) (p0 : c248_pots.toInt ≤ 3) (p1 : 3 ≤ c248_pots.toInt) (p2 : c261_many.toInt ≤ 6) (p3 : 6 ≤ c261_many.toInt) (p4 : c267_total.toInt ≤ 216) (p5 : 216 ≤ c267_total.toInt) (p6 : ((n269 : Nat) : Int) ≤ 13824) (p7 : 1 ≤ ((n269 : Nat) : Int)) (p8 : c267_total.toInt ≤ ((n269 : Nat) : Int)) (hr_a268 : dz_pt a268 [36, 6, 1]) (hr_a269 : dz_rg a269 n269 0 1023) (hr_a282 : dz_pt a282 [0, 1, 7, 43]) (hr_a283 : dz_pm a283 3) (hr_a281 : dz_rg a281 601 0 16777215) (o0 : 1 ≤ c248_pots.toInt) : dz_T (f172_X10_fillLast fu c248_pots c261_many c267_total a268 a269 n269 a282 a283 a281) (fun r => dz_rg r 601 0 16777215) :=
  t172_X10_fillLast_E_g33 fu hfu c248_pots c261_many c267_total a268 a269 n269 a282 a283 a281 p0 p1 p2 p3 p4 p5 p6 p7 p8 hr_a268 hr_a269 hr_a282 hr_a283 hr_a281 o0 fu hfu
abbrev p172_X10_fillLast_g34 (fu : Nat) (c248_pots : Int32) (c261_many : Int32) (c267_total : Int32) (a268 : Nat → Int32) (a269 : Nat → Int32) (n269 : Nat) (a282 : Nat → Int32) (a283 : Nat → Int32) (k : Nat) : Prop :=
  (∀ (v1 : Int32) (v2 : Int32) (v3 : Int32) (v4 : Int32) (a281 : Nat → Int32), v1.toInt ≤ 3 → 3 ≤ v1.toInt → v2.toInt ≤ 6 → 6 ≤ v2.toInt → v3.toInt ≤ 216 → 1 ≤ v3.toInt → v4.toInt ≤ 384 → 43 ≤ v4.toInt → dz_rg a281 601 0 16777215 → 0 + 0 + (384 - v4.toInt) * 144 + 8 ≤ ((k : Nat) : Int) → dz_T ((F172_X10_fillLast fu c248_pots c261_many c267_total a268 a269 n269 a282 a283 k).1 v1 v2 v3 v4 a281) (fun r => dz_rg r 601 0 16777215)) ∧ (∀ (v1 : Int32) (v2 : Int32) (v3 : Int32) (v4 : Int32) (v5 : Int32) (v6 : Int32) (v7 : Int32) (a281 : Nat → Int32), v1.toInt ≤ 3 → 3 ≤ v1.toInt → v2.toInt ≤ 6 → 6 ≤ v2.toInt → v3.toInt ≤ 216 → 1 ≤ v3.toInt → v4.toInt ≤ 383 → 43 ≤ v4.toInt → v5.toInt ≤ 1295 → 0 ≤ v5.toInt → v6.toInt ≤ 63 → 0 ≤ v6.toInt → v7.toInt ≤ 6 → 0 ≤ v7.toInt → v7.toInt ≤ v5.toInt → dz_rg a281 601 0 16777215 → 0 + 0 + ((384 - v4.toInt) - 1) * 144 + 0 + (6 - v7.toInt) * 16 + 16 ≤ ((k : Nat) : Int) → dz_T ((F172_X10_fillLast fu c248_pots c261_many c267_total a268 a269 n269 a282 a283 k).2.1 v1 v2 v3 v4 v5 v6 v7 a281) (fun r => dz_rg r 601 0 16777215))
set_option maxHeartbeats 1000000 in
set_option maxRecDepth 10000 in
theorem t172_X10_fillLast_h1_g34 (fu : Nat) (hfu : 1000000000000 ≤ fu) (c248_pots : Int32) (c261_many : Int32) (c267_total : Int32) (a268 : Nat → Int32) (a269 : Nat → Int32) (n269 : Nat) (a282 : Nat → Int32) (a283 : Nat → Int32) (p0 : c248_pots.toInt ≤ 4) (p1 : 4 ≤ c248_pots.toInt) (p2 : c261_many.toInt ≤ 6) (p3 : 6 ≤ c261_many.toInt) (p4 : c267_total.toInt ≤ 1296) (p5 : 1296 ≤ c267_total.toInt) (p6 : ((n269 : Nat) : Int) ≤ 13824) (p7 : 1 ≤ ((n269 : Nat) : Int)) (p8 : c267_total.toInt ≤ ((n269 : Nat) : Int)) (hr_a268 : dz_pt a268 [216, 36, 6, 1]) (hr_a269 : dz_rg a269 n269 0 1023) (hr_a282 : dz_pt a282 [0, 1, 7, 43, 259]) (hr_a283 : dz_pm a283 4) (o0 : 1 ≤ c248_pots.toInt) (k : Nat) (ih : ∀ j9, j9 < k → p172_X10_fillLast_g34 fu c248_pots c261_many c267_total a268 a269 n269 a282 a283 j9) : ∀ (v1 : Int32) (v2 : Int32) (v3 : Int32) (v4 : Int32) (a281 : Nat → Int32), v1.toInt ≤ 3 → 3 ≤ v1.toInt → v2.toInt ≤ 6 → 6 ≤ v2.toInt → v3.toInt ≤ 216 → 1 ≤ v3.toInt → v4.toInt ≤ 384 → 43 ≤ v4.toInt → dz_rg a281 601 0 16777215 → 0 + 0 + (384 - v4.toInt) * 144 + 8 ≤ ((k : Nat) : Int) → dz_T ((F172_X10_fillLast fu c248_pots c261_many c267_total a268 a269 n269 a282 a283 k).1 v1 v2 v3 v4 a281) (fun r => dz_rg r 601 0 16777215) := by
  intro v1 v2 v3 v4 a281 i0 i1 i2 i3 i4 i5 i6 i7 hr_a281 hm
  obtain ⟨k0, rfl⟩ : ∃ x, k = x + 1 := ⟨k - 1, by omega⟩
  show dz_T (s172_X10_fillLast_1 fu c248_pots c261_many c267_total a268 a269 n269 a282 a283 (F172_X10_fillLast fu c248_pots c261_many c267_total a268 a269 n269 a282 a283 k0).2.1  v1 v2 v3 v4 a281) _
  unfold s172_X10_fillLast_1
  have e1 := dz_l1
  have e2 := dz_add (a := v1) (b := (1 : Int32)) (by omega) (by omega)
  refine dz_Tin (by omega) (by omega) ?_
  have e3 := dz_ptat (hr_a282) (i := (v1 + (1 : Int32))) (x := 259) 4 (by omega) (by decide)
  refine dz_Tle (fun h4 => ?_) (fun h4 => ?_)
  · skip
    exact dz_Ts (hr_a281)
  · skip
    refine dz_Tin (by omega) (by omega) ?_
    have e5 := dz_ptat (hr_a282) (i := v1) (x := 43) 3 (by omega) (by decide)
    have e6 := dz_sub (a := v4) (b := (a282 v1.toNatClampNeg)) (by omega) (by omega)
    refine dz_Tb (t171_X10_codeOf_g34 fu hfu _ _ _ _ _ p2 p3 (by omega) (by omega) (by first | assumption | omega) i0 i1 (hr_a268) (hr_a283)) (fun r1 q => ?_)
    obtain ⟨q1_0, q1_1⟩ := q
    have e7 := dz_l0
    exact (ih k0 (by omega)).2 v1 v2 v3 v4 r1 (0 : Int32) (0 : Int32) a281 i0 i1 i2 i3 i4 i5 (by first | assumption | omega) i7 q1_1 q1_0 (by omega) (by omega) (by omega) (by omega) (by omega) (hr_a281) (by omega)
set_option maxHeartbeats 1000000 in
set_option maxRecDepth 10000 in
theorem t172_X10_fillLast_h2_g34 (fu : Nat) (hfu : 1000000000000 ≤ fu) (c248_pots : Int32) (c261_many : Int32) (c267_total : Int32) (a268 : Nat → Int32) (a269 : Nat → Int32) (n269 : Nat) (a282 : Nat → Int32) (a283 : Nat → Int32) (p0 : c248_pots.toInt ≤ 4) (p1 : 4 ≤ c248_pots.toInt) (p2 : c261_many.toInt ≤ 6) (p3 : 6 ≤ c261_many.toInt) (p4 : c267_total.toInt ≤ 1296) (p5 : 1296 ≤ c267_total.toInt) (p6 : ((n269 : Nat) : Int) ≤ 13824) (p7 : 1 ≤ ((n269 : Nat) : Int)) (p8 : c267_total.toInt ≤ ((n269 : Nat) : Int)) (hr_a268 : dz_pt a268 [216, 36, 6, 1]) (hr_a269 : dz_rg a269 n269 0 1023) (hr_a282 : dz_pt a282 [0, 1, 7, 43, 259]) (hr_a283 : dz_pm a283 4) (o0 : 1 ≤ c248_pots.toInt) (k : Nat) (ih : ∀ j9, j9 < k → p172_X10_fillLast_g34 fu c248_pots c261_many c267_total a268 a269 n269 a282 a283 j9) : ∀ (v1 : Int32) (v2 : Int32) (v3 : Int32) (v4 : Int32) (v5 : Int32) (v6 : Int32) (v7 : Int32) (a281 : Nat → Int32), v1.toInt ≤ 3 → 3 ≤ v1.toInt → v2.toInt ≤ 6 → 6 ≤ v2.toInt → v3.toInt ≤ 216 → 1 ≤ v3.toInt → v4.toInt ≤ 383 → 43 ≤ v4.toInt → v5.toInt ≤ 1295 → 0 ≤ v5.toInt → v6.toInt ≤ 63 → 0 ≤ v6.toInt → v7.toInt ≤ 6 → 0 ≤ v7.toInt → v7.toInt ≤ v5.toInt → dz_rg a281 601 0 16777215 → 0 + 0 + ((384 - v4.toInt) - 1) * 144 + 0 + (6 - v7.toInt) * 16 + 16 ≤ ((k : Nat) : Int) → dz_T ((F172_X10_fillLast fu c248_pots c261_many c267_total a268 a269 n269 a282 a283 k).2.1 v1 v2 v3 v4 v5 v6 v7 a281) (fun r => dz_rg r 601 0 16777215) := by
  intro v1 v2 v3 v4 v5 v6 v7 a281 i0 i1 i2 i3 i4 i5 i6 i7 i8 i9 i10 i11 i12 i13 i14 hr_a281 hm
  obtain ⟨k0, rfl⟩ : ∃ x, k = x + 1 := ⟨k - 1, by omega⟩
  show dz_T (s172_X10_fillLast_2 fu c248_pots c261_many c267_total a268 a269 n269 a282 a283 (F172_X10_fillLast fu c248_pots c261_many c267_total a268 a269 n269 a282 a283 k0).2.2.1 (F172_X10_fillLast fu c248_pots c261_many c267_total a268 a269 n269 a282 a283 k0).2.2.2  v1 v2 v3 v4 v5 v6 v7 a281) _
  unfold s172_X10_fillLast_2
  refine dz_Tle (fun h1 => ?_) (fun h1 => ?_)
  · skip
    obtain ⟨k1, rfl⟩ : ∃ x, k0 = x + 1 := ⟨k0 - 1, by omega⟩
    show dz_T (s172_X10_fillLast_3 fu c248_pots c261_many c267_total a268 a269 n269 a282 a283 (F172_X10_fillLast fu c248_pots c261_many c267_total a268 a269 n269 a282 a283 k1).1 v1 v2 v3 v4 v6 a281) _
    unfold s172_X10_fillLast_3
    refine dz_Tin (by omega) (by omega) ?_
    have e2 := dz_l1
    have e3 := dz_add (a := v4) (b := (1 : Int32)) (by omega) (by omega)
    exact (ih k1 (by omega)).1 v1 v2 v3 (v4 + (1 : Int32)) (upd a281 v4.toNatClampNeg v6) i0 i1 i2 i3 i4 i5 (by omega) (by omega) (dz_rgu (hr_a281) (by omega) (by omega)) (by omega)
  · skip
    refine dz_Tin (by omega) (by omega) ?_
    have e4 := dz_rgat (hr_a269) (i := v5) (by omega) (by omega)
    have e5 := dz_l0
    refine dz_Teq (fun h6 => ?_) (fun h6 => ?_)
    · skip
      obtain ⟨k2, rfl⟩ : ∃ x, k0 = x + 1 := ⟨k0 - 1, by omega⟩
      show dz_T (s172_X10_fillLast_4 fu c248_pots c261_many c267_total a268 a269 n269 a282 a283 (F172_X10_fillLast fu c248_pots c261_many c267_total a268 a269 n269 a282 a283 k2).2.1 (F172_X10_fillLast fu c248_pots c261_many c267_total a268 a269 n269 a282 a283 k2).2.2.1 v1 v2 v3 v4 v5 (v6 ||| ((1 : Int32) <<< (v7 &&& (31 : Int32)))) v7 a281) _
      unfold s172_X10_fillLast_4
      have e7 := dz_add (a := v5) (b := v3) (by omega) (by omega)
      refine dz_Tlt (fun h8 => ?_) (fun h8 => ?_)
      · skip
        have e9 := dz_l1
        have e10 := dz_l31
        have e11 := dz_andr (a := v7) (b := (31 : Int32)) (by omega)
        have e12 := dz_andl (a := v7) (b := (31 : Int32)) (by omega)
        have e13 := dz_shl1 (b := v7) 0 5 (by omega) (by omega) (by omega)
        have e14 := dz_orb (a := v6) (b := ((1 : Int32) <<< (v7 &&& (31 : Int32)))) 6 (by omega) (by omega) (by omega) (by omega) (by omega)
        have e15 := dz_add (a := v7) (b := (1 : Int32)) (by omega) (by omega)
        exact (ih k2 (by omega)).2 v1 v2 v3 v4 (v5 + v3) (v6 ||| ((1 : Int32) <<< (v7 &&& (31 : Int32)))) (v7 + (1 : Int32)) a281 i0 i1 i2 i3 i4 i5 i6 i7 (by omega) (by omega) (by omega) (by omega) (by omega) (by omega) (by omega) (hr_a281) (by omega)
      · skip
        obtain ⟨k3, rfl⟩ : ∃ x, k2 = x + 1 := ⟨k2 - 1, by omega⟩
        show dz_T (s172_X10_fillLast_3 fu c248_pots c261_many c267_total a268 a269 n269 a282 a283 (F172_X10_fillLast fu c248_pots c261_many c267_total a268 a269 n269 a282 a283 k3).1 v1 v2 v3 v4 (v6 ||| ((1 : Int32) <<< (v7 &&& (31 : Int32)))) a281) _
        unfold s172_X10_fillLast_3
        refine dz_Tin (by omega) (by omega) ?_
        have e16 := dz_l1
        have e17 := dz_add (a := v4) (b := (1 : Int32)) (by omega) (by omega)
        have e18 := dz_l31
        have e19 := dz_andr (a := v7) (b := (31 : Int32)) (by omega)
        have e20 := dz_andl (a := v7) (b := (31 : Int32)) (by omega)
        have e21 := dz_shl1 (b := v7) 0 5 (by omega) (by omega) (by omega)
        have e22 := dz_orb (a := v6) (b := ((1 : Int32) <<< (v7 &&& (31 : Int32)))) 6 (by omega) (by omega) (by omega) (by omega) (by omega)
        exact (ih k3 (by omega)).1 v1 v2 v3 (v4 + (1 : Int32)) (upd a281 v4.toNatClampNeg (v6 ||| ((1 : Int32) <<< (v7 &&& (31 : Int32))))) i0 i1 i2 i3 i4 i5 (by omega) (by omega) (dz_rgu (hr_a281) (by omega) (by omega)) (by omega)
    · skip
      obtain ⟨k4, rfl⟩ : ∃ x, k0 = x + 1 := ⟨k0 - 1, by omega⟩
      show dz_T (s172_X10_fillLast_4 fu c248_pots c261_many c267_total a268 a269 n269 a282 a283 (F172_X10_fillLast fu c248_pots c261_many c267_total a268 a269 n269 a282 a283 k4).2.1 (F172_X10_fillLast fu c248_pots c261_many c267_total a268 a269 n269 a282 a283 k4).2.2.1 v1 v2 v3 v4 v5 v6 v7 a281) _
      unfold s172_X10_fillLast_4
      have e23 := dz_add (a := v5) (b := v3) (by omega) (by omega)
      refine dz_Tlt (fun h24 => ?_) (fun h24 => ?_)
      · skip
        have e25 := dz_l1
        have e26 := dz_add (a := v7) (b := (1 : Int32)) (by omega) (by omega)
        exact (ih k4 (by omega)).2 v1 v2 v3 v4 (v5 + v3) v6 (v7 + (1 : Int32)) a281 i0 i1 i2 i3 i4 i5 i6 i7 (by omega) (by omega) i10 i11 (by omega) (by omega) (by omega) (hr_a281) (by omega)
      · skip
        obtain ⟨k5, rfl⟩ : ∃ x, k4 = x + 1 := ⟨k4 - 1, by omega⟩
        show dz_T (s172_X10_fillLast_3 fu c248_pots c261_many c267_total a268 a269 n269 a282 a283 (F172_X10_fillLast fu c248_pots c261_many c267_total a268 a269 n269 a282 a283 k5).1 v1 v2 v3 v4 v6 a281) _
        unfold s172_X10_fillLast_3
        refine dz_Tin (by omega) (by omega) ?_
        have e27 := dz_l1
        have e28 := dz_add (a := v4) (b := (1 : Int32)) (by omega) (by omega)
        exact (ih k5 (by omega)).1 v1 v2 v3 (v4 + (1 : Int32)) (upd a281 v4.toNatClampNeg v6) i0 i1 i2 i3 i4 i5 (by omega) (by omega) (dz_rgu (hr_a281) (by omega) (by omega)) (by omega)
theorem t172_X10_fillLast_I_g34 (fu : Nat) (hfu : 1000000000000 ≤ fu) (c248_pots : Int32) (c261_many : Int32) (c267_total : Int32) (a268 : Nat → Int32) (a269 : Nat → Int32) (n269 : Nat) (a282 : Nat → Int32) (a283 : Nat → Int32) (p0 : c248_pots.toInt ≤ 4) (p1 : 4 ≤ c248_pots.toInt) (p2 : c261_many.toInt ≤ 6) (p3 : 6 ≤ c261_many.toInt) (p4 : c267_total.toInt ≤ 1296) (p5 : 1296 ≤ c267_total.toInt) (p6 : ((n269 : Nat) : Int) ≤ 13824) (p7 : 1 ≤ ((n269 : Nat) : Int)) (p8 : c267_total.toInt ≤ ((n269 : Nat) : Int)) (hr_a268 : dz_pt a268 [216, 36, 6, 1]) (hr_a269 : dz_rg a269 n269 0 1023) (hr_a282 : dz_pt a282 [0, 1, 7, 43, 259]) (hr_a283 : dz_pm a283 4) (o0 : 1 ≤ c248_pots.toInt) (k : Nat) : p172_X10_fillLast_g34 fu c248_pots c261_many c267_total a268 a269 n269 a282 a283 k := by
  induction k using Nat.strongRecOn with
  | _ k ih => exact ⟨t172_X10_fillLast_h1_g34 fu hfu c248_pots c261_many c267_total a268 a269 n269 a282 a283 p0 p1 p2 p3 p4 p5 p6 p7 p8 hr_a268 hr_a269 hr_a282 hr_a283 o0 k ih, t172_X10_fillLast_h2_g34 fu hfu c248_pots c261_many c267_total a268 a269 n269 a282 a283 p0 p1 p2 p3 p4 p5 p6 p7 p8 hr_a268 hr_a269 hr_a282 hr_a283 o0 k ih⟩
set_option maxHeartbeats 1000000 in
set_option maxRecDepth 10000 in
theorem t172_X10_fillLast_E_g34 (fu : Nat) (hfu : 1000000000000 ≤ fu) (c248_pots : Int32) (c261_many : Int32) (c267_total : Int32) (a268 : Nat → Int32) (a269 : Nat → Int32) (n269 : Nat) (a282 : Nat → Int32) (a283 : Nat → Int32) (a281 : Nat → Int32) (p0 : c248_pots.toInt ≤ 4) (p1 : 4 ≤ c248_pots.toInt) (p2 : c261_many.toInt ≤ 6) (p3 : 6 ≤ c261_many.toInt) (p4 : c267_total.toInt ≤ 1296) (p5 : 1296 ≤ c267_total.toInt) (p6 : ((n269 : Nat) : Int) ≤ 13824) (p7 : 1 ≤ ((n269 : Nat) : Int)) (p8 : c267_total.toInt ≤ ((n269 : Nat) : Int)) (hr_a268 : dz_pt a268 [216, 36, 6, 1]) (hr_a269 : dz_rg a269 n269 0 1023) (hr_a282 : dz_pt a282 [0, 1, 7, 43, 259]) (hr_a283 : dz_pm a283 4) (hr_a281 : dz_rg a281 601 0 16777215) (o0 : 1 ≤ c248_pots.toInt) (kv : Nat) (hkv : 1000000000000 ≤ kv) : dz_T (s172_X10_fillLast_0 fu c248_pots c261_many c267_total a268 a269 n269 a282 a283 (F172_X10_fillLast fu c248_pots c261_many c267_total a268 a269 n269 a282 a283 kv).1  a281) (fun r => dz_rg r 601 0 16777215) := by
  unfold s172_X10_fillLast_0
  have e1 := dz_l1
  have e2 := dz_sub (a := c248_pots) (b := (1 : Int32)) (by omega) (by omega)
  refine dz_Tin (by omega) (by omega) ?_
  have e3 := dz_pmat (hr_a283) (i := (c248_pots - (1 : Int32))) (by decide) (by omega) (by omega)
  refine dz_Tin (by omega) (by omega) ?_
  refine dz_Tin (by omega) (by omega) ?_
  have e4 := dz_ptrg (hr_a268) (i := (a283 (c248_pots - (1 : Int32)).toNatClampNeg)) 1 216 (by decide) (by omega) (by show _ < ((4 : Nat) : Int); omega)
  have e5 := dz_ptat (hr_a282) (i := (c248_pots - (1 : Int32))) (x := 43) 3 (by omega) (by decide)
  exact (t172_X10_fillLast_I_g34 fu hfu c248_pots c261_many c267_total a268 a269 n269 a282 a283 p0 p1 p2 p3 p4 p5 p6 p7 p8 hr_a268 hr_a269 hr_a282 hr_a283 o0 kv).1 (c248_pots - (1 : Int32)) c261_many (a268 (a283 (c248_pots - (1 : Int32)).toNatClampNeg).toNatClampNeg) (a282 (c248_pots - (1 : Int32)).toNatClampNeg) a281 (by omega) (by omega) p2 p3 (by omega) (by omega) (by omega) (by omega) (hr_a281) (by omega)
theorem t172_X10_fillLast_g34 (fu : Nat) (hfu : 1000000000000 ≤ fu) (c248_pots : Int32) (c261_many : Int32) (c267_total : Int32) (a268 : Nat → Int32) (a269 : Nat → Int32) (n269 : Nat) (a282 : Nat → Int32) (a283 : Nat → Int32) (a281 : Nat → Int32) (p0 : c248_pots.toInt ≤ 4) (p1 : 4 ≤ c248_pots.toInt) (p2 : c261_many.toInt ≤ 6) (p3 : 6 ≤ c261_many.toInt) (p4 : c267_total.toInt ≤ 1296) (p5 : 1296 ≤ c267_total.toInt) (p6 : ((n269 : Nat) : Int) ≤ 13824) (p7 : 1 ≤ ((n269 : Nat) : Int)) (p8 : c267_total.toInt ≤ ((n269 : Nat) : Int)) (hr_a268 : dz_pt a268 [216, 36, 6, 1]) (hr_a269 : dz_rg a269 n269 0 1023) (hr_a282 : dz_pt a282 [0, 1, 7, 43, 259]) (hr_a283 : dz_pm a283 4) (hr_a281 : dz_rg a281 601 0 16777215) (o0 : 1 ≤ c248_pots.toInt) : dz_T (f172_X10_fillLast fu c248_pots c261_many c267_total a268 a269 n269 a282 a283 a281) (fun r => dz_rg r 601 0 16777215) :=
  t172_X10_fillLast_E_g34 fu hfu c248_pots c261_many c267_total a268 a269 n269 a282 a283 a281 p0 p1 p2 p3 p4 p5 p6 p7 p8 hr_a268 hr_a269 hr_a282 hr_a283 hr_a281 o0 fu hfu
abbrev p172_X10_fillLast_g41 (fu : Nat) (c248_pots : Int32) (c261_many : Int32) (c267_total : Int32) (a268 : Nat → Int32) (a269 : Nat → Int32) (n269 : Nat) (a282 : Nat → Int32) (a283 : Nat → Int32) (k : Nat) : Prop :=
  (∀ (v1 : Int32) (v2 : Int32) (v3 : Int32) (v4 : Int32) (a281 : Nat → Int32), v1.toInt ≤ 0 → 0 ≤ v1.toInt → v2.toInt ≤ 24 → 24 ≤ v2.toInt → v3.toInt ≤ 1 → 1 ≤ v3.toInt → v4.toInt ≤ 1 → 0 ≤ v4.toInt → dz_rg a281 601 0 16777215 → 0 + 0 + (1 - v4.toInt) * 416 + 8 ≤ ((k : Nat) : Int) → dz_T ((F172_X10_fillLast fu c248_pots c261_many c267_total a268 a269 n269 a282 a283 k).1 v1 v2 v3 v4 a281) (fun r => dz_rg r 601 0 16777215)) ∧ (∀ (v1 : Int32) (v2 : Int32) (v3 : Int32) (v4 : Int32) (v5 : Int32) (v6 : Int32) (v7 : Int32) (a281 : Nat → Int32), v1.toInt ≤ 0 → 0 ≤ v1.toInt → v2.toInt ≤ 24 → 24 ≤ v2.toInt → v3.toInt ≤ 1 → 1 ≤ v3.toInt → v4.toInt ≤ 0 → 0 ≤ v4.toInt → v5.toInt ≤ 23 → 0 ≤ v5.toInt → v6.toInt ≤ 16777215 → 0 ≤ v6.toInt → v7.toInt ≤ 23 → 0 ≤ v7.toInt → v7.toInt ≤ v5.toInt → dz_rg a281 601 0 16777215 → 0 + 0 + ((1 - v4.toInt) - 1) * 416 + 0 + (23 - v7.toInt) * 16 + 16 ≤ ((k : Nat) : Int) → dz_T ((F172_X10_fillLast fu c248_pots c261_many c267_total a268 a269 n269 a282 a283 k).2.1 v1 v2 v3 v4 v5 v6 v7 a281) (fun r => dz_rg r 601 0 16777215))
set_option maxHeartbeats 1000000 in
set_option maxRecDepth 10000 in
theorem t172_X10_fillLast_h1_g41 (fu : Nat) (hfu : 1000000000000 ≤ fu) (c248_pots : Int32) (c261_many : Int32) (c267_total : Int32) (a268 : Nat → Int32) (a269 : Nat → Int32) (n269 : Nat) (a282 : Nat → Int32) (a283 : Nat → Int32) (p0 : c248_pots.toInt ≤ 1) (p1 : 1 ≤ c248_pots.toInt) (p2 : c261_many.toInt ≤ 24) (p3 : 24 ≤ c261_many.toInt) (p4 : c267_total.toInt ≤ 24) (p5 : 24 ≤ c267_total.toInt) (p6 : ((n269 : Nat) : Int) ≤ 13824) (p7 : 1 ≤ ((n269 : Nat) : Int)) (p8 : c267_total.toInt ≤ ((n269 : Nat) : Int)) (hr_a268 : dz_pt a268 [1]) (hr_a269 : dz_rg a269 n269 0 1023) (hr_a282 : dz_pt a282 [0, 1]) (hr_a283 : dz_pm a283 1) (o0 : 1 ≤ c248_pots.toInt) (k : Nat) (ih : ∀ j9, j9 < k → p172_X10_fillLast_g41 fu c248_pots c261_many c267_total a268 a269 n269 a282 a283 j9) : ∀ (v1 : Int32) (v2 : Int32) (v3 : Int32) (v4 : Int32) (a281 : Nat → Int32), v1.toInt ≤ 0 → 0 ≤ v1.toInt → v2.toInt ≤ 24 → 24 ≤ v2.toInt → v3.toInt ≤ 1 → 1 ≤ v3.toInt → v4.toInt ≤ 1 → 0 ≤ v4.toInt → dz_rg a281 601 0 16777215 → 0 + 0 + (1 - v4.toInt) * 416 + 8 ≤ ((k : Nat) : Int) → dz_T ((F172_X10_fillLast fu c248_pots c261_many c267_total a268 a269 n269 a282 a283 k).1 v1 v2 v3 v4 a281) (fun r => dz_rg r 601 0 16777215) := by
  intro v1 v2 v3 v4 a281 i0 i1 i2 i3 i4 i5 i6 i7 hr_a281 hm
  obtain ⟨k0, rfl⟩ : ∃ x, k = x + 1 := ⟨k - 1, by omega⟩
  show dz_T (s172_X10_fillLast_1 fu c248_pots c261_many c267_total a268 a269 n269 a282 a283 (F172_X10_fillLast fu c248_pots c261_many c267_total a268 a269 n269 a282 a283 k0).2.1  v1 v2 v3 v4 a281) _
  unfold s172_X10_fillLast_1
  have e1 := dz_l1
  have e2 := dz_add (a := v1) (b := (1 : Int32)) (by omega) (by omega)
  refine dz_Tin (by omega) (by omega) ?_
  have e3 := dz_ptat (hr_a282) (i := (v1 + (1 : Int32))) (x := 1) 1 (by omega) (by decide)
  refine dz_Tle (fun h4 => ?_) (fun h4 => ?_)
  · skip
    exact dz_Ts (hr_a281)
  · skip
    refine dz_Tin (by omega) (by omega) ?_
    have e5 := dz_ptat (hr_a282) (i := v1) (x := 0) 0 (by omega) (by decide)
    have e6 := dz_sub (a := v4) (b := (a282 v1.toNatClampNeg)) (by omega) (by omega)
    refine dz_Tb (t171_X10_codeOf_g41 fu hfu _ _ _ _ _ p2 p3 (by omega) (by omega) i1 i0 i1 (hr_a268) (hr_a283)) (fun r1 q => ?_)
    obtain ⟨q1_0, q1_1⟩ := q
    have e7 := dz_l0
    exact (ih k0 (by omega)).2 v1 v2 v3 v4 r1 (0 : Int32) (0 : Int32) a281 i0 i1 i2 i3 i4 i5 (by first | assumption | omega) i7 q1_1 q1_0 (by omega) (by omega) (by omega) (by omega) (by omega) (hr_a281) (by omega)
set_option maxHeartbeats 1000000 in
set_option maxRecDepth 10000 in
theorem t172_X10_fillLast_h2_g41 (fu : Nat) (hfu : 1000000000000 ≤ fu) (c248_pots : Int32) (c261_many : Int32) (c267_total : Int32) (a268 : Nat → Int32) (a269 : Nat → Int32) (n269 : Nat) (a282 : Nat → Int32) (a283 : Nat → Int32) (p0 : c248_pots.toInt ≤ 1) (p1 : 1 ≤ c248_pots.toInt) (p2 : c261_many.toInt ≤ 24) (p3 : 24 ≤ c261_many.toInt) (p4 : c267_total.toInt ≤ 24) (p5 : 24 ≤ c267_total.toInt) (p6 : ((n269 : Nat) : Int) ≤ 13824) (p7 : 1 ≤ ((n269 : Nat) : Int)) (p8 : c267_total.toInt ≤ ((n269 : Nat) : Int)) (hr_a268 : dz_pt a268 [1]) (hr_a269 : dz_rg a269 n269 0 1023) (hr_a282 : dz_pt a282 [0, 1]) (hr_a283 : dz_pm a283 1) (o0 : 1 ≤ c248_pots.toInt) (k : Nat) (ih : ∀ j9, j9 < k → p172_X10_fillLast_g41 fu c248_pots c261_many c267_total a268 a269 n269 a282 a283 j9) : ∀ (v1 : Int32) (v2 : Int32) (v3 : Int32) (v4 : Int32) (v5 : Int32) (v6 : Int32) (v7 : Int32) (a281 : Nat → Int32), v1.toInt ≤ 0 → 0 ≤ v1.toInt → v2.toInt ≤ 24 → 24 ≤ v2.toInt → v3.toInt ≤ 1 → 1 ≤ v3.toInt → v4.toInt ≤ 0 → 0 ≤ v4.toInt → v5.toInt ≤ 23 → 0 ≤ v5.toInt → v6.toInt ≤ 16777215 → 0 ≤ v6.toInt → v7.toInt ≤ 23 → 0 ≤ v7.toInt → v7.toInt ≤ v5.toInt → dz_rg a281 601 0 16777215 → 0 + 0 + ((1 - v4.toInt) - 1) * 416 + 0 + (23 - v7.toInt) * 16 + 16 ≤ ((k : Nat) : Int) → dz_T ((F172_X10_fillLast fu c248_pots c261_many c267_total a268 a269 n269 a282 a283 k).2.1 v1 v2 v3 v4 v5 v6 v7 a281) (fun r => dz_rg r 601 0 16777215) := by
  intro v1 v2 v3 v4 v5 v6 v7 a281 i0 i1 i2 i3 i4 i5 i6 i7 i8 i9 i10 i11 i12 i13 i14 hr_a281 hm
  obtain ⟨k0, rfl⟩ : ∃ x, k = x + 1 := ⟨k - 1, by omega⟩
  show dz_T (s172_X10_fillLast_2 fu c248_pots c261_many c267_total a268 a269 n269 a282 a283 (F172_X10_fillLast fu c248_pots c261_many c267_total a268 a269 n269 a282 a283 k0).2.2.1 (F172_X10_fillLast fu c248_pots c261_many c267_total a268 a269 n269 a282 a283 k0).2.2.2  v1 v2 v3 v4 v5 v6 v7 a281) _
  unfold s172_X10_fillLast_2
  refine dz_Tle (fun h1 => ?_) (fun h1 => ?_)
  · skip
    exfalso; omega
  · skip
    refine dz_Tin (by omega) (by omega) ?_
    have e2 := dz_rgat (hr_a269) (i := v5) (by omega) (by omega)
    have e3 := dz_l0
    refine dz_Teq (fun h4 => ?_) (fun h4 => ?_)
    · skip
      obtain ⟨k1, rfl⟩ : ∃ x, k0 = x + 1 := ⟨k0 - 1, by omega⟩
      show dz_T (s172_X10_fillLast_4 fu c248_pots c261_many c267_total a268 a269 n269 a282 a283 (F172_X10_fillLast fu c248_pots c261_many c267_total a268 a269 n269 a282 a283 k1).2.1 (F172_X10_fillLast fu c248_pots c261_many c267_total a268 a269 n269 a282 a283 k1).2.2.1 v1 v2 v3 v4 v5 (v6 ||| ((1 : Int32) <<< (v7 &&& (31 : Int32)))) v7 a281) _
      unfold s172_X10_fillLast_4
      have e5 := dz_add (a := v5) (b := v3) (by omega) (by omega)
      refine dz_Tlt (fun h6 => ?_) (fun h6 => ?_)
      · skip
        have e7 := dz_l1
        have e8 := dz_l31
        have e9 := dz_andr (a := v7) (b := (31 : Int32)) (by omega)
        have e10 := dz_andl (a := v7) (b := (31 : Int32)) (by omega)
        have e11 := dz_shl1 (b := v7) 0 22 (by omega) (by omega) (by omega)
        have e12 := dz_orb (a := v6) (b := ((1 : Int32) <<< (v7 &&& (31 : Int32)))) 24 (by omega) (by omega) (by omega) (by omega) (by omega)
        have e13 := dz_add (a := v7) (b := (1 : Int32)) (by omega) (by omega)
        exact (ih k1 (by omega)).2 v1 v2 v3 v4 (v5 + v3) (v6 ||| ((1 : Int32) <<< (v7 &&& (31 : Int32)))) (v7 + (1 : Int32)) a281 i0 i1 i2 i3 i4 i5 i6 i7 (by omega) (by omega) (by omega) (by omega) (by omega) (by omega) (by omega) (hr_a281) (by omega)
      · skip
        obtain ⟨k2, rfl⟩ : ∃ x, k1 = x + 1 := ⟨k1 - 1, by omega⟩
        show dz_T (s172_X10_fillLast_3 fu c248_pots c261_many c267_total a268 a269 n269 a282 a283 (F172_X10_fillLast fu c248_pots c261_many c267_total a268 a269 n269 a282 a283 k2).1 v1 v2 v3 v4 (v6 ||| ((1 : Int32) <<< (v7 &&& (31 : Int32)))) a281) _
        unfold s172_X10_fillLast_3
        refine dz_Tin (by omega) (by omega) ?_
        have e14 := dz_l1
        have e15 := dz_add (a := v4) (b := (1 : Int32)) (by omega) (by omega)
        have e16 := dz_l31
        have e17 := dz_andr (a := v7) (b := (31 : Int32)) (by omega)
        have e18 := dz_andl (a := v7) (b := (31 : Int32)) (by omega)
        have e19 := dz_shl1 (b := v7) 0 23 (by omega) (by omega) (by omega)
        have e20 := dz_orb (a := v6) (b := ((1 : Int32) <<< (v7 &&& (31 : Int32)))) 24 (by omega) (by omega) (by omega) (by omega) (by omega)
        exact (ih k2 (by omega)).1 v1 v2 v3 (v4 + (1 : Int32)) (upd a281 v4.toNatClampNeg (v6 ||| ((1 : Int32) <<< (v7 &&& (31 : Int32))))) i0 i1 i2 i3 i4 i5 (by omega) (by omega) (dz_rgu (hr_a281) (by omega) (by omega)) (by omega)
    · skip
      obtain ⟨k3, rfl⟩ : ∃ x, k0 = x + 1 := ⟨k0 - 1, by omega⟩
      show dz_T (s172_X10_fillLast_4 fu c248_pots c261_many c267_total a268 a269 n269 a282 a283 (F172_X10_fillLast fu c248_pots c261_many c267_total a268 a269 n269 a282 a283 k3).2.1 (F172_X10_fillLast fu c248_pots c261_many c267_total a268 a269 n269 a282 a283 k3).2.2.1 v1 v2 v3 v4 v5 v6 v7 a281) _
      unfold s172_X10_fillLast_4
      have e21 := dz_add (a := v5) (b := v3) (by omega) (by omega)
      refine dz_Tlt (fun h22 => ?_) (fun h22 => ?_)
      · skip
        have e23 := dz_l1
        have e24 := dz_add (a := v7) (b := (1 : Int32)) (by omega) (by omega)
        exact (ih k3 (by omega)).2 v1 v2 v3 v4 (v5 + v3) v6 (v7 + (1 : Int32)) a281 i0 i1 i2 i3 i4 i5 i6 i7 (by omega) (by omega) i10 i11 (by omega) (by omega) (by omega) (hr_a281) (by omega)
      · skip
        obtain ⟨k4, rfl⟩ : ∃ x, k3 = x + 1 := ⟨k3 - 1, by omega⟩
        show dz_T (s172_X10_fillLast_3 fu c248_pots c261_many c267_total a268 a269 n269 a282 a283 (F172_X10_fillLast fu c248_pots c261_many c267_total a268 a269 n269 a282 a283 k4).1 v1 v2 v3 v4 v6 a281) _
        unfold s172_X10_fillLast_3
        refine dz_Tin (by omega) (by omega) ?_
        have e25 := dz_l1
        have e26 := dz_add (a := v4) (b := (1 : Int32)) (by omega) (by omega)
        exact (ih k4 (by omega)).1 v1 v2 v3 (v4 + (1 : Int32)) (upd a281 v4.toNatClampNeg v6) i0 i1 i2 i3 i4 i5 (by omega) (by omega) (dz_rgu (hr_a281) (by omega) (by omega)) (by omega)
theorem t172_X10_fillLast_I_g41 (fu : Nat) (hfu : 1000000000000 ≤ fu) (c248_pots : Int32) (c261_many : Int32) (c267_total : Int32) (a268 : Nat → Int32) (a269 : Nat → Int32) (n269 : Nat) (a282 : Nat → Int32) (a283 : Nat → Int32) (p0 : c248_pots.toInt ≤ 1) (p1 : 1 ≤ c248_pots.toInt) (p2 : c261_many.toInt ≤ 24) (p3 : 24 ≤ c261_many.toInt) (p4 : c267_total.toInt ≤ 24) (p5 : 24 ≤ c267_total.toInt) (p6 : ((n269 : Nat) : Int) ≤ 13824) (p7 : 1 ≤ ((n269 : Nat) : Int)) (p8 : c267_total.toInt ≤ ((n269 : Nat) : Int)) (hr_a268 : dz_pt a268 [1]) (hr_a269 : dz_rg a269 n269 0 1023) (hr_a282 : dz_pt a282 [0, 1]) (hr_a283 : dz_pm a283 1) (o0 : 1 ≤ c248_pots.toInt) (k : Nat) : p172_X10_fillLast_g41 fu c248_pots c261_many c267_total a268 a269 n269 a282 a283 k := by
  induction k using Nat.strongRecOn with
  | _ k ih => exact ⟨t172_X10_fillLast_h1_g41 fu hfu c248_pots c261_many c267_total a268 a269 n269 a282 a283 p0 p1 p2 p3 p4 p5 p6 p7 p8 hr_a268 hr_a269 hr_a282 hr_a283 o0 k ih, t172_X10_fillLast_h2_g41 fu hfu c248_pots c261_many c267_total a268 a269 n269 a282 a283 p0 p1 p2 p3 p4 p5 p6 p7 p8 hr_a268 hr_a269 hr_a282 hr_a283 o0 k ih⟩
set_option maxHeartbeats 1000000 in
set_option maxRecDepth 10000 in
theorem t172_X10_fillLast_E_g41 (fu : Nat) (hfu : 1000000000000 ≤ fu) (c248_pots : Int32) (c261_many : Int32) (c267_total : Int32) (a268 : Nat → Int32) (a269 : Nat → Int32) (n269 : Nat) (a282 : Nat → Int32) (a283 : Nat → Int32) (a281 : Nat → Int32) (p0 : c248_pots.toInt ≤ 1) (p1 : 1 ≤ c248_pots.toInt) (p2 : c261_many.toInt ≤ 24) (p3 : 24 ≤ c261_many.toInt) (p4 : c267_total.toInt ≤ 24) (p5 : 24 ≤ c267_total.toInt) (p6 : ((n269 : Nat) : Int) ≤ 13824) (p7 : 1 ≤ ((n269 : Nat) : Int)) (p8 : c267_total.toInt ≤ ((n269 : Nat) : Int)) (hr_a268 : dz_pt a268 [1]) (hr_a269 : dz_rg a269 n269 0 1023) (hr_a282 : dz_pt a282 [0, 1]) (hr_a283 : dz_pm a283 1) (hr_a281 : dz_rg a281 601 0 16777215) (o0 : 1 ≤ c248_pots.toInt) (kv : Nat) (hkv : 1000000000000 ≤ kv) : dz_T (s172_X10_fillLast_0 fu c248_pots c261_many c267_total a268 a269 n269 a282 a283 (F172_X10_fillLast fu c248_pots c261_many c267_total a268 a269 n269 a282 a283 kv).1  a281) (fun r => dz_rg r 601 0 16777215) := by
  unfold s172_X10_fillLast_0
  have e1 := dz_l1
  have e2 := dz_sub (a := c248_pots) (b := (1 : Int32)) (by omega) (by omega)
  refine dz_Tin (by omega) (by omega) ?_
  have e3 := dz_pmat (hr_a283) (i := (c248_pots - (1 : Int32))) (by decide) (by omega) (by omega)
  refine dz_Tin (by omega) (by omega) ?_
  refine dz_Tin (by omega) (by omega) ?_
  have e4 := dz_ptat (hr_a268) (i := (a283 (c248_pots - (1 : Int32)).toNatClampNeg)) (x := 1) 0 (by omega) (by decide)
  have e5 := dz_ptat (hr_a282) (i := (c248_pots - (1 : Int32))) (x := 0) 0 (by omega) (by decide)
  exact (t172_X10_fillLast_I_g41 fu hfu c248_pots c261_many c267_total a268 a269 n269 a282 a283 p0 p1 p2 p3 p4 p5 p6 p7 p8 hr_a268 hr_a269 hr_a282 hr_a283 o0 kv).1 (c248_pots - (1 : Int32)) c261_many (a268 (a283 (c248_pots - (1 : Int32)).toNatClampNeg).toNatClampNeg) (a282 (c248_pots - (1 : Int32)).toNatClampNeg) a281 (by omega) (by omega) p2 p3 (by omega) (by omega) (by omega) (by omega) (hr_a281) (by omega)
theorem t172_X10_fillLast_g41 (fu : Nat) (hfu : 1000000000000 ≤ fu) (c248_pots : Int32) (c261_many : Int32) (c267_total : Int32) (a268 : Nat → Int32) (a269 : Nat → Int32) (n269 : Nat) (a282 : Nat → Int32) (a283 : Nat → Int32) (a281 : Nat → Int32) (p0 : c248_pots.toInt ≤ 1) (p1 : 1 ≤ c248_pots.toInt) (p2 : c261_many.toInt ≤ 24) (p3 : 24 ≤ c261_many.toInt) (p4 : c267_total.toInt ≤ 24) (p5 : 24 ≤ c267_total.toInt) (p6 : ((n269 : Nat) : Int) ≤ 13824) (p7 : 1 ≤ ((n269 : Nat) : Int)) (p8 : c267_total.toInt ≤ ((n269 : Nat) : Int)) (hr_a268 : dz_pt a268 [1]) (hr_a269 : dz_rg a269 n269 0 1023) (hr_a282 : dz_pt a282 [0, 1]) (hr_a283 : dz_pm a283 1) (hr_a281 : dz_rg a281 601 0 16777215) (o0 : 1 ≤ c248_pots.toInt) : dz_T (f172_X10_fillLast fu c248_pots c261_many c267_total a268 a269 n269 a282 a283 a281) (fun r => dz_rg r 601 0 16777215) :=
  t172_X10_fillLast_E_g41 fu hfu c248_pots c261_many c267_total a268 a269 n269 a282 a283 a281 p0 p1 p2 p3 p4 p5 p6 p7 p8 hr_a268 hr_a269 hr_a282 hr_a283 hr_a281 o0 fu hfu
abbrev p172_X10_fillLast_g42 (fu : Nat) (c248_pots : Int32) (c261_many : Int32) (c267_total : Int32) (a268 : Nat → Int32) (a269 : Nat → Int32) (n269 : Nat) (a282 : Nat → Int32) (a283 : Nat → Int32) (k : Nat) : Prop :=
  (∀ (v1 : Int32) (v2 : Int32) (v3 : Int32) (v4 : Int32) (a281 : Nat → Int32), v1.toInt ≤ 1 → 1 ≤ v1.toInt → v2.toInt ≤ 24 → 24 ≤ v2.toInt → v3.toInt ≤ 24 → 1 ≤ v3.toInt → v4.toInt ≤ 25 → 1 ≤ v4.toInt → dz_rg a281 601 0 16777215 → 0 + 0 + (25 - v4.toInt) * 432 + 8 ≤ ((k : Nat) : Int) → dz_T ((F172_X10_fillLast fu c248_pots c261_many c267_total a268 a269 n269 a282 a283 k).1 v1 v2 v3 v4 a281) (fun r => dz_rg r 601 0 16777215)) ∧ (∀ (v1 : Int32) (v2 : Int32) (v3 : Int32) (v4 : Int32) (v5 : Int32) (v6 : Int32) (v7 : Int32) (a281 : Nat → Int32), v1.toInt ≤ 1 → 1 ≤ v1.toInt → v2.toInt ≤ 24 → 24 ≤ v2.toInt → v3.toInt ≤ 24 → 1 ≤ v3.toInt → v4.toInt ≤ 24 → 1 ≤ v4.toInt → v5.toInt ≤ 575 → 0 ≤ v5.toInt → v6.toInt ≤ 16777215 → 0 ≤ v6.toInt → v7.toInt ≤ 24 → 0 ≤ v7.toInt → v7.toInt ≤ v5.toInt → dz_rg a281 601 0 16777215 → 0 + 0 + ((25 - v4.toInt) - 1) * 432 + 0 + (24 - v7.toInt) * 16 + 16 ≤ ((k : Nat) : Int) → dz_T ((F172_X10_fillLast fu c248_pots c261_many c267_total a268 a269 n269 a282 a283 k).2.1 v1 v2 v3 v4 v5 v6 v7 a281) (fun r => dz_rg r 601 0 16777215))
set_option maxHeartbeats 1000000 in
set_option maxRecDepth 10000 in
theorem t172_X10_fillLast_h1_g42 (fu : Nat) (hfu : 1000000000000 ≤ fu) (c248_pots : Int32) (c261_many : Int32) (c267_total : Int32) (a268 : Nat → Int32) (a269 : Nat → Int32) (n269 : Nat) (a282 : Nat → Int32) (a283 : Nat → Int32) (p0 : c248_pots.toInt ≤ 2) (p1 : 2 ≤ c248_pots.toInt) (p2 : c261_many.toInt ≤ 24) (p3 : 24 ≤ c261_many.toInt) (p4 : c267_total.toInt ≤ 576) (p5 : 576 ≤ c267_total.toInt) (p6 : ((n269 : Nat) : Int) ≤ 13824) (p7 : 1 ≤ ((n269 : Nat) : Int)) (p8 : c267_total.toInt ≤ ((n269 : Nat) : Int)) (hr_a268 : dz_pt a268 [24, 1]) (hr_a269 : dz_rg a269 n269 0 1023) (hr_a282 : dz_pt a282 [0, 1, 25]) (hr_a283 : dz_pm a283 2) (o0 : 1 ≤ c248_pots.toInt) (k : Nat) (ih : ∀ j9, j9 < k → p172_X10_fillLast_g42 fu c248_pots c261_many c267_total a268 a269 n269 a282 a283 j9) : ∀ (v1 : Int32) (v2 : Int32) (v3 : Int32) (v4 : Int32) (a281 : Nat → Int32), v1.toInt ≤ 1 → 1 ≤ v1.toInt → v2.toInt ≤ 24 → 24 ≤ v2.toInt → v3.toInt ≤ 24 → 1 ≤ v3.toInt → v4.toInt ≤ 25 → 1 ≤ v4.toInt → dz_rg a281 601 0 16777215 → 0 + 0 + (25 - v4.toInt) * 432 + 8 ≤ ((k : Nat) : Int) → dz_T ((F172_X10_fillLast fu c248_pots c261_many c267_total a268 a269 n269 a282 a283 k).1 v1 v2 v3 v4 a281) (fun r => dz_rg r 601 0 16777215) := by
  intro v1 v2 v3 v4 a281 i0 i1 i2 i3 i4 i5 i6 i7 hr_a281 hm
  obtain ⟨k0, rfl⟩ : ∃ x, k = x + 1 := ⟨k - 1, by omega⟩
  show dz_T (s172_X10_fillLast_1 fu c248_pots c261_many c267_total a268 a269 n269 a282 a283 (F172_X10_fillLast fu c248_pots c261_many c267_total a268 a269 n269 a282 a283 k0).2.1  v1 v2 v3 v4 a281) _
  unfold s172_X10_fillLast_1
  have e1 := dz_l1
  have e2 := dz_add (a := v1) (b := (1 : Int32)) (by omega) (by omega)
  refine dz_Tin (by omega) (by omega) ?_
  have e3 := dz_ptat (hr_a282) (i := (v1 + (1 : Int32))) (x := 25) 2 (by omega) (by decide)
  refine dz_Tle (fun h4 => ?_) (fun h4 => ?_)
  · skip
    exact dz_Ts (hr_a281)
  · skip
    refine dz_Tin (by omega) (by omega) ?_
    have e5 := dz_ptat (hr_a282) (i := v1) (x := 1) 1 (by omega) (by decide)
    have e6 := dz_sub (a := v4) (b := (a282 v1.toNatClampNeg)) (by omega) (by omega)
    refine dz_Tb (t171_X10_codeOf_g42 fu hfu _ _ _ _ _ p2 p3 (by omega) (by omega) (by first | assumption | omega) i0 i1 (hr_a268) (hr_a283)) (fun r1 q => ?_)
    obtain ⟨q1_0, q1_1⟩ := q
    have e7 := dz_l0
    exact (ih k0 (by omega)).2 v1 v2 v3 v4 r1 (0 : Int32) (0 : Int32) a281 i0 i1 i2 i3 i4 i5 (by first | assumption | omega) i7 q1_1 q1_0 (by omega) (by omega) (by omega) (by omega) (by omega) (hr_a281) (by omega)
set_option maxHeartbeats 1000000 in
set_option maxRecDepth 10000 in
theorem t172_X10_fillLast_h2_g42 (fu : Nat) (hfu : 1000000000000 ≤ fu) (c248_pots : Int32) (c261_many : Int32) (c267_total : Int32) (a268 : Nat → Int32) (a269 : Nat → Int32) (n269 : Nat) (a282 : Nat → Int32) (a283 : Nat → Int32) (p0 : c248_pots.toInt ≤ 2) (p1 : 2 ≤ c248_pots.toInt) (p2 : c261_many.toInt ≤ 24) (p3 : 24 ≤ c261_many.toInt) (p4 : c267_total.toInt ≤ 576) (p5 : 576 ≤ c267_total.toInt) (p6 : ((n269 : Nat) : Int) ≤ 13824) (p7 : 1 ≤ ((n269 : Nat) : Int)) (p8 : c267_total.toInt ≤ ((n269 : Nat) : Int)) (hr_a268 : dz_pt a268 [24, 1]) (hr_a269 : dz_rg a269 n269 0 1023) (hr_a282 : dz_pt a282 [0, 1, 25]) (hr_a283 : dz_pm a283 2) (o0 : 1 ≤ c248_pots.toInt) (k : Nat) (ih : ∀ j9, j9 < k → p172_X10_fillLast_g42 fu c248_pots c261_many c267_total a268 a269 n269 a282 a283 j9) : ∀ (v1 : Int32) (v2 : Int32) (v3 : Int32) (v4 : Int32) (v5 : Int32) (v6 : Int32) (v7 : Int32) (a281 : Nat → Int32), v1.toInt ≤ 1 → 1 ≤ v1.toInt → v2.toInt ≤ 24 → 24 ≤ v2.toInt → v3.toInt ≤ 24 → 1 ≤ v3.toInt → v4.toInt ≤ 24 → 1 ≤ v4.toInt → v5.toInt ≤ 575 → 0 ≤ v5.toInt → v6.toInt ≤ 16777215 → 0 ≤ v6.toInt → v7.toInt ≤ 24 → 0 ≤ v7.toInt → v7.toInt ≤ v5.toInt → dz_rg a281 601 0 16777215 → 0 + 0 + ((25 - v4.toInt) - 1) * 432 + 0 + (24 - v7.toInt) * 16 + 16 ≤ ((k : Nat) : Int) → dz_T ((F172_X10_fillLast fu c248_pots c261_many c267_total a268 a269 n269 a282 a283 k).2.1 v1 v2 v3 v4 v5 v6 v7 a281) (fun r => dz_rg r 601 0 16777215) := by
  intro v1 v2 v3 v4 v5 v6 v7 a281 i0 i1 i2 i3 i4 i5 i6 i7 i8 i9 i10 i11 i12 i13 i14 hr_a281 hm
  obtain ⟨k0, rfl⟩ : ∃ x, k = x + 1 := ⟨k - 1, by omega⟩
  show dz_T (s172_X10_fillLast_2 fu c248_pots c261_many c267_total a268 a269 n269 a282 a283 (F172_X10_fillLast fu c248_pots c261_many c267_total a268 a269 n269 a282 a283 k0).2.2.1 (F172_X10_fillLast fu c248_pots c261_many c267_total a268 a269 n269 a282 a283 k0).2.2.2  v1 v2 v3 v4 v5 v6 v7 a281) _
  unfold s172_X10_fillLast_2
  refine dz_Tle (fun h1 => ?_) (fun h1 => ?_)
  · skip
    obtain ⟨k1, rfl⟩ : ∃ x, k0 = x + 1 := ⟨k0 - 1, by omega⟩
    show dz_T (s172_X10_fillLast_3 fu c248_pots c261_many c267_total a268 a269 n269 a282 a283 (F172_X10_fillLast fu c248_pots c261_many c267_total a268 a269 n269 a282 a283 k1).1 v1 v2 v3 v4 v6 a281) _
    unfold s172_X10_fillLast_3
    refine dz_Tin (by omega) (by omega) ?_
    have e2 := dz_l1
    have e3 := dz_add (a := v4) (b := (1 : Int32)) (by omega) (by omega)
    exact (ih k1 (by omega)).1 v1 v2 v3 (v4 + (1 : Int32)) (upd a281 v4.toNatClampNeg v6) i0 i1 i2 i3 i4 i5 (by omega) (by omega) (dz_rgu (hr_a281) (by omega) (by omega)) (by omega)
  · skip
    refine dz_Tin (by omega) (by omega) ?_
    have e4 := dz_rgat (hr_a269) (i := v5) (by omega) (by omega)
    have e5 := dz_l0
    refine dz_Teq (fun h6 => ?_) (fun h6 => ?_)
    · skip
      obtain ⟨k2, rfl⟩ : ∃ x, k0 = x + 1 := ⟨k0 - 1, by omega⟩
      show dz_T (s172_X10_fillLast_4 fu c248_pots c261_many c267_total a268 a269 n269 a282 a283 (F172_X10_fillLast fu c248_pots c261_many c267_total a268 a269 n269 a282 a283 k2).2.1 (F172_X10_fillLast fu c248_pots c261_many c267_total a268 a269 n269 a282 a283 k2).2.2.1 v1 v2 v3 v4 v5 (v6 ||| ((1 : Int32) <<< (v7 &&& (31 : Int32)))) v7 a281) _
      unfold s172_X10_fillLast_4
      have e7 := dz_add (a := v5) (b := v3) (by omega) (by omega)
      refine dz_Tlt (fun h8 => ?_) (fun h8 => ?_)
      · skip
        have e9 := dz_l1
        have e10 := dz_l31
        have e11 := dz_andr (a := v7) (b := (31 : Int32)) (by omega)
        have e12 := dz_andl (a := v7) (b := (31 : Int32)) (by omega)
        have e13 := dz_shl1 (b := v7) 0 23 (by omega) (by omega) (by omega)
        have e14 := dz_orb (a := v6) (b := ((1 : Int32) <<< (v7 &&& (31 : Int32)))) 24 (by omega) (by omega) (by omega) (by omega) (by omega)
        have e15 := dz_add (a := v7) (b := (1 : Int32)) (by omega) (by omega)
        exact (ih k2 (by omega)).2 v1 v2 v3 v4 (v5 + v3) (v6 ||| ((1 : Int32) <<< (v7 &&& (31 : Int32)))) (v7 + (1 : Int32)) a281 i0 i1 i2 i3 i4 i5 i6 i7 (by omega) (by omega) (by omega) (by omega) (by omega) (by omega) (by omega) (hr_a281) (by omega)
      · skip
        obtain ⟨k3, rfl⟩ : ∃ x, k2 = x + 1 := ⟨k2 - 1, by omega⟩
        show dz_T (s172_X10_fillLast_3 fu c248_pots c261_many c267_total a268 a269 n269 a282 a283 (F172_X10_fillLast fu c248_pots c261_many c267_total a268 a269 n269 a282 a283 k3).1 v1 v2 v3 v4 (v6 ||| ((1 : Int32) <<< (v7 &&& (31 : Int32)))) a281) _
        unfold s172_X10_fillLast_3
        refine dz_Tin (by omega) (by omega) ?_
        have e16 := dz_l1
        have e17 := dz_add (a := v4) (b := (1 : Int32)) (by omega) (by omega)
        have e18 := dz_l31
        have e19 := dz_andr (a := v7) (b := (31 : Int32)) (by omega)
        have e20 := dz_andl (a := v7) (b := (31 : Int32)) (by omega)
        have e21 := dz_shl1 (b := v7) 0 23 (by omega) (by omega) (by omega)
        have e22 := dz_orb (a := v6) (b := ((1 : Int32) <<< (v7 &&& (31 : Int32)))) 24 (by omega) (by omega) (by omega) (by omega) (by omega)
        exact (ih k3 (by omega)).1 v1 v2 v3 (v4 + (1 : Int32)) (upd a281 v4.toNatClampNeg (v6 ||| ((1 : Int32) <<< (v7 &&& (31 : Int32))))) i0 i1 i2 i3 i4 i5 (by omega) (by omega) (dz_rgu (hr_a281) (by omega) (by omega)) (by omega)
    · skip
      obtain ⟨k4, rfl⟩ : ∃ x, k0 = x + 1 := ⟨k0 - 1, by omega⟩
      show dz_T (s172_X10_fillLast_4 fu c248_pots c261_many c267_total a268 a269 n269 a282 a283 (F172_X10_fillLast fu c248_pots c261_many c267_total a268 a269 n269 a282 a283 k4).2.1 (F172_X10_fillLast fu c248_pots c261_many c267_total a268 a269 n269 a282 a283 k4).2.2.1 v1 v2 v3 v4 v5 v6 v7 a281) _
      unfold s172_X10_fillLast_4
      have e23 := dz_add (a := v5) (b := v3) (by omega) (by omega)
      refine dz_Tlt (fun h24 => ?_) (fun h24 => ?_)
      · skip
        have e25 := dz_l1
        have e26 := dz_add (a := v7) (b := (1 : Int32)) (by omega) (by omega)
        exact (ih k4 (by omega)).2 v1 v2 v3 v4 (v5 + v3) v6 (v7 + (1 : Int32)) a281 i0 i1 i2 i3 i4 i5 i6 i7 (by omega) (by omega) i10 i11 (by omega) (by omega) (by omega) (hr_a281) (by omega)
      · skip
        obtain ⟨k5, rfl⟩ : ∃ x, k4 = x + 1 := ⟨k4 - 1, by omega⟩
        show dz_T (s172_X10_fillLast_3 fu c248_pots c261_many c267_total a268 a269 n269 a282 a283 (F172_X10_fillLast fu c248_pots c261_many c267_total a268 a269 n269 a282 a283 k5).1 v1 v2 v3 v4 v6 a281) _
        unfold s172_X10_fillLast_3
        refine dz_Tin (by omega) (by omega) ?_
        have e27 := dz_l1
        have e28 := dz_add (a := v4) (b := (1 : Int32)) (by omega) (by omega)
        exact (ih k5 (by omega)).1 v1 v2 v3 (v4 + (1 : Int32)) (upd a281 v4.toNatClampNeg v6) i0 i1 i2 i3 i4 i5 (by omega) (by omega) (dz_rgu (hr_a281) (by omega) (by omega)) (by omega)
theorem t172_X10_fillLast_I_g42 (fu : Nat) (hfu : 1000000000000 ≤ fu) (c248_pots : Int32) (c261_many : Int32) (c267_total : Int32) (a268 : Nat → Int32) (a269 : Nat → Int32) (n269 : Nat) (a282 : Nat → Int32) (a283 : Nat → Int32) (p0 : c248_pots.toInt ≤ 2) (p1 : 2 ≤ c248_pots.toInt) (p2 : c261_many.toInt ≤ 24) (p3 : 24 ≤ c261_many.toInt) (p4 : c267_total.toInt ≤ 576) (p5 : 576 ≤ c267_total.toInt) (p6 : ((n269 : Nat) : Int) ≤ 13824) (p7 : 1 ≤ ((n269 : Nat) : Int)) (p8 : c267_total.toInt ≤ ((n269 : Nat) : Int)) (hr_a268 : dz_pt a268 [24, 1]) (hr_a269 : dz_rg a269 n269 0 1023) (hr_a282 : dz_pt a282 [0, 1, 25]) (hr_a283 : dz_pm a283 2) (o0 : 1 ≤ c248_pots.toInt) (k : Nat) : p172_X10_fillLast_g42 fu c248_pots c261_many c267_total a268 a269 n269 a282 a283 k := by
  induction k using Nat.strongRecOn with
  | _ k ih => exact ⟨t172_X10_fillLast_h1_g42 fu hfu c248_pots c261_many c267_total a268 a269 n269 a282 a283 p0 p1 p2 p3 p4 p5 p6 p7 p8 hr_a268 hr_a269 hr_a282 hr_a283 o0 k ih, t172_X10_fillLast_h2_g42 fu hfu c248_pots c261_many c267_total a268 a269 n269 a282 a283 p0 p1 p2 p3 p4 p5 p6 p7 p8 hr_a268 hr_a269 hr_a282 hr_a283 o0 k ih⟩
set_option maxHeartbeats 1000000 in
set_option maxRecDepth 10000 in
theorem t172_X10_fillLast_E_g42 (fu : Nat) (hfu : 1000000000000 ≤ fu) (c248_pots : Int32) (c261_many : Int32) (c267_total : Int32) (a268 : Nat → Int32) (a269 : Nat → Int32) (n269 : Nat) (a282 : Nat → Int32) (a283 : Nat → Int32) (a281 : Nat → Int32) (p0 : c248_pots.toInt ≤ 2) (p1 : 2 ≤ c248_pots.toInt) (p2 : c261_many.toInt ≤ 24) (p3 : 24 ≤ c261_many.toInt) (p4 : c267_total.toInt ≤ 576) (p5 : 576 ≤ c267_total.toInt) (p6 : ((n269 : Nat) : Int) ≤ 13824) (p7 : 1 ≤ ((n269 : Nat) : Int)) (p8 : c267_total.toInt ≤ ((n269 : Nat) : Int)) (hr_a268 : dz_pt a268 [24, 1]) (hr_a269 : dz_rg a269 n269 0 1023) (hr_a282 : dz_pt a282 [0, 1, 25]) (hr_a283 : dz_pm a283 2) (hr_a281 : dz_rg a281 601 0 16777215) (o0 : 1 ≤ c248_pots.toInt) (kv : Nat) (hkv : 1000000000000 ≤ kv) : dz_T (s172_X10_fillLast_0 fu c248_pots c261_many c267_total a268 a269 n269 a282 a283 (F172_X10_fillLast fu c248_pots c261_many c267_total a268 a269 n269 a282 a283 kv).1  a281) (fun r => dz_rg r 601 0 16777215) := by
  unfold s172_X10_fillLast_0
  have e1 := dz_l1
  have e2 := dz_sub (a := c248_pots) (b := (1 : Int32)) (by omega) (by omega)
  refine dz_Tin (by omega) (by omega) ?_
  have e3 := dz_pmat (hr_a283) (i := (c248_pots - (1 : Int32))) (by decide) (by omega) (by omega)
  refine dz_Tin (by omega) (by omega) ?_
  refine dz_Tin (by omega) (by omega) ?_
  have e4 := dz_ptrg (hr_a268) (i := (a283 (c248_pots - (1 : Int32)).toNatClampNeg)) 1 24 (by decide) (by omega) (by show _ < ((2 : Nat) : Int); omega)
  have e5 := dz_ptat (hr_a282) (i := (c248_pots - (1 : Int32))) (x := 1) 1 (by omega) (by decide)
  exact (t172_X10_fillLast_I_g42 fu hfu c248_pots c261_many c267_total a268 a269 n269 a282 a283 p0 p1 p2 p3 p4 p5 p6 p7 p8 hr_a268 hr_a269 hr_a282 hr_a283 o0 kv).1 (c248_pots - (1 : Int32)) c261_many (a268 (a283 (c248_pots - (1 : Int32)).toNatClampNeg).toNatClampNeg) (a282 (c248_pots - (1 : Int32)).toNatClampNeg) a281 (by omega) (by omega) p2 p3 (by omega) (by omega) (by omega) (by omega) (hr_a281) (by omega)
theorem t172_X10_fillLast_g42 (fu : Nat) (hfu : 1000000000000 ≤ fu) (c248_pots : Int32) (c261_many : Int32) (c267_total : Int32) (a268 : Nat → Int32) (a269 : Nat → Int32) (n269 : Nat) (a282 : Nat → Int32) (a283 : Nat → Int32) (a281 : Nat → Int32) (p0 : c248_pots.toInt ≤ 2) (p1 : 2 ≤ c248_pots.toInt) (p2 : c261_many.toInt ≤ 24) (p3 : 24 ≤ c261_many.toInt) (p4 : c267_total.toInt ≤ 576) (p5 : 576 ≤ c267_total.toInt) (p6 : ((n269 : Nat) : Int) ≤ 13824) (p7 : 1 ≤ ((n269 : Nat) : Int)) (p8 : c267_total.toInt ≤ ((n269 : Nat) : Int)) (hr_a268 : dz_pt a268 [24, 1]) (hr_a269 : dz_rg a269 n269 0 1023) (hr_a282 : dz_pt a282 [0, 1, 25]) (hr_a283 : dz_pm a283 2) (hr_a281 : dz_rg a281 601 0 16777215) (o0 : 1 ≤ c248_pots.toInt) : dz_T (f172_X10_fillLast fu c248_pots c261_many c267_total a268 a269 n269 a282 a283 a281) (fun r => dz_rg r 601 0 16777215) :=
  t172_X10_fillLast_E_g42 fu hfu c248_pots c261_many c267_total a268 a269 n269 a282 a283 a281 p0 p1 p2 p3 p4 p5 p6 p7 p8 hr_a268 hr_a269 hr_a282 hr_a283 hr_a281 o0 fu hfu
abbrev p172_X10_fillLast_g43 (fu : Nat) (c248_pots : Int32) (c261_many : Int32) (c267_total : Int32) (a268 : Nat → Int32) (a269 : Nat → Int32) (n269 : Nat) (a282 : Nat → Int32) (a283 : Nat → Int32) (k : Nat) : Prop :=
  (∀ (v1 : Int32) (v2 : Int32) (v3 : Int32) (v4 : Int32) (a281 : Nat → Int32), v1.toInt ≤ 2 → 2 ≤ v1.toInt → v2.toInt ≤ 24 → 24 ≤ v2.toInt → v3.toInt ≤ 576 → 1 ≤ v3.toInt → v4.toInt ≤ 601 → 25 ≤ v4.toInt → dz_rg a281 601 0 16777215 → 0 + 0 + (601 - v4.toInt) * 432 + 8 ≤ ((k : Nat) : Int) → dz_T ((F172_X10_fillLast fu c248_pots c261_many c267_total a268 a269 n269 a282 a283 k).1 v1 v2 v3 v4 a281) (fun r => dz_rg r 601 0 16777215)) ∧ (∀ (v1 : Int32) (v2 : Int32) (v3 : Int32) (v4 : Int32) (v5 : Int32) (v6 : Int32) (v7 : Int32) (a281 : Nat → Int32), v1.toInt ≤ 2 → 2 ≤ v1.toInt → v2.toInt ≤ 24 → 24 ≤ v2.toInt → v3.toInt ≤ 576 → 1 ≤ v3.toInt → v4.toInt ≤ 600 → 25 ≤ v4.toInt → v5.toInt ≤ 13823 → 0 ≤ v5.toInt → v6.toInt ≤ 16777215 → 0 ≤ v6.toInt → v7.toInt ≤ 24 → 0 ≤ v7.toInt → v7.toInt ≤ v5.toInt → dz_rg a281 601 0 16777215 → 0 + 0 + ((601 - v4.toInt) - 1) * 432 + 0 + (24 - v7.toInt) * 16 + 16 ≤ ((k : Nat) : Int) → dz_T ((F172_X10_fillLast fu c248_pots c261_many c267_total a268 a269 n269 a282 a283 k).2.1 v1 v2 v3 v4 v5 v6 v7 a281) (fun r => dz_rg r 601 0 16777215))
set_option maxHeartbeats 1000000 in
set_option maxRecDepth 10000 in
theorem t172_X10_fillLast_h1_g43 (fu : Nat) (hfu : 1000000000000 ≤ fu) (c248_pots : Int32) (c261_many : Int32) (c267_total : Int32) (a268 : Nat → Int32) (a269 : Nat → Int32) (n269 : Nat) (a282 : Nat → Int32) (a283 : Nat → Int32) (p0 : c248_pots.toInt ≤ 3) (p1 : 3 ≤ c248_pots.toInt) (p2 : c261_many.toInt ≤ 24) (p3 : 24 ≤ c261_many.toInt) (p4 : c267_total.toInt ≤ 13824) (p5 : 13824 ≤ c267_total.toInt) (p6 : ((n269 : Nat) : Int) ≤ 13824) (p7 : 1 ≤ ((n269 : Nat) : Int)) (p8 : c267_total.toInt ≤ ((n269 : Nat) : Int)) (hr_a268 : dz_pt a268 [576, 24, 1]) (hr_a269 : dz_rg a269 n269 0 1023) (hr_a282 : dz_pt a282 [0, 1, 25, 601]) (hr_a283 : dz_pm a283 3) (o0 : 1 ≤ c248_pots.toInt) (k : Nat) (ih : ∀ j9, j9 < k → p172_X10_fillLast_g43 fu c248_pots c261_many c267_total a268 a269 n269 a282 a283 j9) : ∀ (v1 : Int32) (v2 : Int32) (v3 : Int32) (v4 : Int32) (a281 : Nat → Int32), v1.toInt ≤ 2 → 2 ≤ v1.toInt → v2.toInt ≤ 24 → 24 ≤ v2.toInt → v3.toInt ≤ 576 → 1 ≤ v3.toInt → v4.toInt ≤ 601 → 25 ≤ v4.toInt → dz_rg a281 601 0 16777215 → 0 + 0 + (601 - v4.toInt) * 432 + 8 ≤ ((k : Nat) : Int) → dz_T ((F172_X10_fillLast fu c248_pots c261_many c267_total a268 a269 n269 a282 a283 k).1 v1 v2 v3 v4 a281) (fun r => dz_rg r 601 0 16777215) := by
  intro v1 v2 v3 v4 a281 i0 i1 i2 i3 i4 i5 i6 i7 hr_a281 hm
  obtain ⟨k0, rfl⟩ : ∃ x, k = x + 1 := ⟨k - 1, by omega⟩
  show dz_T (s172_X10_fillLast_1 fu c248_pots c261_many c267_total a268 a269 n269 a282 a283 (F172_X10_fillLast fu c248_pots c261_many c267_total a268 a269 n269 a282 a283 k0).2.1  v1 v2 v3 v4 a281) _
  unfold s172_X10_fillLast_1
  have e1 := dz_l1
  have e2 := dz_add (a := v1) (b := (1 : Int32)) (by omega) (by omega)
  refine dz_Tin (by omega) (by omega) ?_
  have e3 := dz_ptat (hr_a282) (i := (v1 + (1 : Int32))) (x := 601) 3 (by omega) (by decide)
  refine dz_Tle (fun h4 => ?_) (fun h4 => ?_)
  · skip
    exact dz_Ts (hr_a281)
  · skip
    refine dz_Tin (by omega) (by omega) ?_
    have e5 := dz_ptat (hr_a282) (i := v1) (x := 25) 2 (by omega) (by decide)
    have e6 := dz_sub (a := v4) (b := (a282 v1.toNatClampNeg)) (by omega) (by omega)
    refine dz_Tb (t171_X10_codeOf_g43 fu hfu _ _ _ _ _ p2 p3 (by omega) (by omega) (by first | assumption | omega) i0 i1 (hr_a268) (hr_a283)) (fun r1 q => ?_)
    obtain ⟨q1_0, q1_1⟩ := q
    have e7 := dz_l0
    exact (ih k0 (by omega)).2 v1 v2 v3 v4 r1 (0 : Int32) (0 : Int32) a281 i0 i1 i2 i3 i4 i5 (by first | assumption | omega) i7 q1_1 q1_0 (by omega) (by omega) (by omega) (by omega) (by omega) (hr_a281) (by omega)
set_option maxHeartbeats 1000000 in
set_option maxRecDepth 10000 in
theorem t172_X10_fillLast_h2_g43 (fu : Nat) (hfu : 1000000000000 ≤ fu) (c248_pots : Int32) (c261_many : Int32) (c267_total : Int32) (a268 : Nat → Int32) (a269 : Nat → Int32) (n269 : Nat) (a282 : Nat → Int32) (a283 : Nat → Int32) (p0 : c248_pots.toInt ≤ 3) (p1 : 3 ≤ c248_pots.toInt) (p2 : c261_many.toInt ≤ 24) (p3 : 24 ≤ c261_many.toInt) (p4 : c267_total.toInt ≤ 13824) (p5 : 13824 ≤ c267_total.toInt) (p6 : ((n269 : Nat) : Int) ≤ 13824) (p7 : 1 ≤ ((n269 : Nat) : Int)) (p8 : c267_total.toInt ≤ ((n269 : Nat) : Int)) (hr_a268 : dz_pt a268 [576, 24, 1]) (hr_a269 : dz_rg a269 n269 0 1023) (hr_a282 : dz_pt a282 [0, 1, 25, 601]) (hr_a283 : dz_pm a283 3) (o0 : 1 ≤ c248_pots.toInt) (k : Nat) (ih : ∀ j9, j9 < k → p172_X10_fillLast_g43 fu c248_pots c261_many c267_total a268 a269 n269 a282 a283 j9) : ∀ (v1 : Int32) (v2 : Int32) (v3 : Int32) (v4 : Int32) (v5 : Int32) (v6 : Int32) (v7 : Int32) (a281 : Nat → Int32), v1.toInt ≤ 2 → 2 ≤ v1.toInt → v2.toInt ≤ 24 → 24 ≤ v2.toInt → v3.toInt ≤ 576 → 1 ≤ v3.toInt → v4.toInt ≤ 600 → 25 ≤ v4.toInt → v5.toInt ≤ 13823 → 0 ≤ v5.toInt → v6.toInt ≤ 16777215 → 0 ≤ v6.toInt → v7.toInt ≤ 24 → 0 ≤ v7.toInt → v7.toInt ≤ v5.toInt → dz_rg a281 601 0 16777215 → 0 + 0 + ((601 - v4.toInt) - 1) * 432 + 0 + (24 - v7.toInt) * 16 + 16 ≤ ((k : Nat) : Int) → dz_T ((F172_X10_fillLast fu c248_pots c261_many c267_total a268 a269 n269 a282 a283 k).2.1 v1 v2 v3 v4 v5 v6 v7 a281) (fun r => dz_rg r 601 0 16777215) := by
  intro v1 v2 v3 v4 v5 v6 v7 a281 i0 i1 i2 i3 i4 i5 i6 i7 i8 i9 i10 i11 i12 i13 i14 hr_a281 hm
  obtain ⟨k0, rfl⟩ : ∃ x, k = x + 1 := ⟨k - 1, by omega⟩
  show dz_T (s172_X10_fillLast_2 fu c248_pots c261_many c267_total a268 a269 n269 a282 a283 (F172_X10_fillLast fu c248_pots c261_many c267_total a268 a269 n269 a282 a283 k0).2.2.1 (F172_X10_fillLast fu c248_pots c261_many c267_total a268 a269 n269 a282 a283 k0).2.2.2  v1 v2 v3 v4 v5 v6 v7 a281) _
  unfold s172_X10_fillLast_2
  refine dz_Tle (fun h1 => ?_) (fun h1 => ?_)
  · skip
    obtain ⟨k1, rfl⟩ : ∃ x, k0 = x + 1 := ⟨k0 - 1, by omega⟩
    show dz_T (s172_X10_fillLast_3 fu c248_pots c261_many c267_total a268 a269 n269 a282 a283 (F172_X10_fillLast fu c248_pots c261_many c267_total a268 a269 n269 a282 a283 k1).1 v1 v2 v3 v4 v6 a281) _
    unfold s172_X10_fillLast_3
    refine dz_Tin (by omega) (by omega) ?_
    have e2 := dz_l1
    have e3 := dz_add (a := v4) (b := (1 : Int32)) (by omega) (by omega)
    exact (ih k1 (by omega)).1 v1 v2 v3 (v4 + (1 : Int32)) (upd a281 v4.toNatClampNeg v6) i0 i1 i2 i3 i4 i5 (by omega) (by omega) (dz_rgu (hr_a281) (by omega) (by omega)) (by omega)
  · skip
    refine dz_Tin (by omega) (by omega) ?_
    have e4 := dz_rgat (hr_a269) (i := v5) (by omega) (by omega)
    have e5 := dz_l0
    refine dz_Teq (fun h6 => ?_) (fun h6 => ?_)
    · skip
      obtain ⟨k2, rfl⟩ : ∃ x, k0 = x + 1 := ⟨k0 - 1, by omega⟩
      show dz_T (s172_X10_fillLast_4 fu c248_pots c261_many c267_total a268 a269 n269 a282 a283 (F172_X10_fillLast fu c248_pots c261_many c267_total a268 a269 n269 a282 a283 k2).2.1 (F172_X10_fillLast fu c248_pots c261_many c267_total a268 a269 n269 a282 a283 k2).2.2.1 v1 v2 v3 v4 v5 (v6 ||| ((1 : Int32) <<< (v7 &&& (31 : Int32)))) v7 a281) _
      unfold s172_X10_fillLast_4
      have e7 := dz_add (a := v5) (b := v3) (by omega) (by omega)
      refine dz_Tlt (fun h8 => ?_) (fun h8 => ?_)
      · skip
        have e9 := dz_l1
        have e10 := dz_l31
        have e11 := dz_andr (a := v7) (b := (31 : Int32)) (by omega)
        have e12 := dz_andl (a := v7) (b := (31 : Int32)) (by omega)
        have e13 := dz_shl1 (b := v7) 0 23 (by omega) (by omega) (by omega)
        have e14 := dz_orb (a := v6) (b := ((1 : Int32) <<< (v7 &&& (31 : Int32)))) 24 (by omega) (by omega) (by omega) (by omega) (by omega)
        have e15 := dz_add (a := v7) (b := (1 : Int32)) (by omega) (by omega)
        exact (ih k2 (by omega)).2 v1 v2 v3 v4 (v5 + v3) (v6 ||| ((1 : Int32) <<< (v7 &&& (31 : Int32)))) (v7 + (1 : Int32)) a281 i0 i1 i2 i3 i4 i5 i6 i7 (by omega) (by omega) (by omega) (by omega) (by omega) (by omega) (by omega) (hr_a281) (by omega)
      · skip
        obtain ⟨k3, rfl⟩ : ∃ x, k2 = x + 1 := ⟨k2 - 1, by omega⟩
        show dz_T (s172_X10_fillLast_3 fu c248_pots c261_many c267_total a268 a269 n269 a282 a283 (F172_X10_fillLast fu c248_pots c261_many c267_total a268 a269 n269 a282 a283 k3).1 v1 v2 v3 v4 (v6 ||| ((1 : Int32) <<< (v7 &&& (31 : Int32)))) a281) _
        unfold s172_X10_fillLast_3
        refine dz_Tin (by omega) (by omega) ?_
        have e16 := dz_l1
        have e17 := dz_add (a := v4) (b := (1 : Int32)) (by omega) (by omega)
        have e18 := dz_l31
        have e19 := dz_andr (a := v7) (b := (31 : Int32)) (by omega)
        have e20 := dz_andl (a := v7) (b := (31 : Int32)) (by omega)
        have e21 := dz_shl1 (b := v7) 0 23 (by omega) (by omega) (by omega)
        have e22 := dz_orb (a := v6) (b := ((1 : Int32) <<< (v7 &&& (31 : Int32)))) 24 (by omega) (by omega) (by omega) (by omega) (by omega)
        exact (ih k3 (by omega)).1 v1 v2 v3 (v4 + (1 : Int32)) (upd a281 v4.toNatClampNeg (v6 ||| ((1 : Int32) <<< (v7 &&& (31 : Int32))))) i0 i1 i2 i3 i4 i5 (by omega) (by omega) (dz_rgu (hr_a281) (by omega) (by omega)) (by omega)
    · skip
      obtain ⟨k4, rfl⟩ : ∃ x, k0 = x + 1 := ⟨k0 - 1, by omega⟩
      show dz_T (s172_X10_fillLast_4 fu c248_pots c261_many c267_total a268 a269 n269 a282 a283 (F172_X10_fillLast fu c248_pots c261_many c267_total a268 a269 n269 a282 a283 k4).2.1 (F172_X10_fillLast fu c248_pots c261_many c267_total a268 a269 n269 a282 a283 k4).2.2.1 v1 v2 v3 v4 v5 v6 v7 a281) _
      unfold s172_X10_fillLast_4
      have e23 := dz_add (a := v5) (b := v3) (by omega) (by omega)
      refine dz_Tlt (fun h24 => ?_) (fun h24 => ?_)
      · skip
        have e25 := dz_l1
        have e26 := dz_add (a := v7) (b := (1 : Int32)) (by omega) (by omega)
        exact (ih k4 (by omega)).2 v1 v2 v3 v4 (v5 + v3) v6 (v7 + (1 : Int32)) a281 i0 i1 i2 i3 i4 i5 i6 i7 (by omega) (by omega) i10 i11 (by omega) (by omega) (by omega) (hr_a281) (by omega)
      · skip
        obtain ⟨k5, rfl⟩ : ∃ x, k4 = x + 1 := ⟨k4 - 1, by omega⟩
        show dz_T (s172_X10_fillLast_3 fu c248_pots c261_many c267_total a268 a269 n269 a282 a283 (F172_X10_fillLast fu c248_pots c261_many c267_total a268 a269 n269 a282 a283 k5).1 v1 v2 v3 v4 v6 a281) _
        unfold s172_X10_fillLast_3
        refine dz_Tin (by omega) (by omega) ?_
        have e27 := dz_l1
        have e28 := dz_add (a := v4) (b := (1 : Int32)) (by omega) (by omega)
        exact (ih k5 (by omega)).1 v1 v2 v3 (v4 + (1 : Int32)) (upd a281 v4.toNatClampNeg v6) i0 i1 i2 i3 i4 i5 (by omega) (by omega) (dz_rgu (hr_a281) (by omega) (by omega)) (by omega)
theorem t172_X10_fillLast_I_g43 (fu : Nat) (hfu : 1000000000000 ≤ fu) (c248_pots : Int32) (c261_many : Int32) (c267_total : Int32) (a268 : Nat → Int32) (a269 : Nat → Int32) (n269 : Nat) (a282 : Nat → Int32) (a283 : Nat → Int32) (p0 : c248_pots.toInt ≤ 3) (p1 : 3 ≤ c248_pots.toInt) (p2 : c261_many.toInt ≤ 24) (p3 : 24 ≤ c261_many.toInt) (p4 : c267_total.toInt ≤ 13824) (p5 : 13824 ≤ c267_total.toInt) (p6 : ((n269 : Nat) : Int) ≤ 13824) (p7 : 1 ≤ ((n269 : Nat) : Int)) (p8 : c267_total.toInt ≤ ((n269 : Nat) : Int)) (hr_a268 : dz_pt a268 [576, 24, 1]) (hr_a269 : dz_rg a269 n269 0 1023) (hr_a282 : dz_pt a282 [0, 1, 25, 601]) (hr_a283 : dz_pm a283 3) (o0 : 1 ≤ c248_pots.toInt) (k : Nat) : p172_X10_fillLast_g43 fu c248_pots c261_many c267_total a268 a269 n269 a282 a283 k := by
  induction k using Nat.strongRecOn with
  | _ k ih => exact ⟨t172_X10_fillLast_h1_g43 fu hfu c248_pots c261_many c267_total a268 a269 n269 a282 a283 p0 p1 p2 p3 p4 p5 p6 p7 p8 hr_a268 hr_a269 hr_a282 hr_a283 o0 k ih, t172_X10_fillLast_h2_g43 fu hfu c248_pots c261_many c267_total a268 a269 n269 a282 a283 p0 p1 p2 p3 p4 p5 p6 p7 p8 hr_a268 hr_a269 hr_a282 hr_a283 o0 k ih⟩
set_option maxHeartbeats 1000000 in
set_option maxRecDepth 10000 in
theorem t172_X10_fillLast_E_g43 (fu : Nat) (hfu : 1000000000000 ≤ fu) (c248_pots : Int32) (c261_many : Int32) (c267_total : Int32) (a268 : Nat → Int32) (a269 : Nat → Int32) (n269 : Nat) (a282 : Nat → Int32) (a283 : Nat → Int32) (a281 : Nat → Int32) (p0 : c248_pots.toInt ≤ 3) (p1 : 3 ≤ c248_pots.toInt) (p2 : c261_many.toInt ≤ 24) (p3 : 24 ≤ c261_many.toInt) (p4 : c267_total.toInt ≤ 13824) (p5 : 13824 ≤ c267_total.toInt) (p6 : ((n269 : Nat) : Int) ≤ 13824) (p7 : 1 ≤ ((n269 : Nat) : Int)) (p8 : c267_total.toInt ≤ ((n269 : Nat) : Int)) (hr_a268 : dz_pt a268 [576, 24, 1]) (hr_a269 : dz_rg a269 n269 0 1023) (hr_a282 : dz_pt a282 [0, 1, 25, 601]) (hr_a283 : dz_pm a283 3) (hr_a281 : dz_rg a281 601 0 16777215) (o0 : 1 ≤ c248_pots.toInt) (kv : Nat) (hkv : 1000000000000 ≤ kv) : dz_T (s172_X10_fillLast_0 fu c248_pots c261_many c267_total a268 a269 n269 a282 a283 (F172_X10_fillLast fu c248_pots c261_many c267_total a268 a269 n269 a282 a283 kv).1  a281) (fun r => dz_rg r 601 0 16777215) := by
  unfold s172_X10_fillLast_0
  have e1 := dz_l1
  have e2 := dz_sub (a := c248_pots) (b := (1 : Int32)) (by omega) (by omega)
  refine dz_Tin (by omega) (by omega) ?_
  have e3 := dz_pmat (hr_a283) (i := (c248_pots - (1 : Int32))) (by decide) (by omega) (by omega)
  refine dz_Tin (by omega) (by omega) ?_
  refine dz_Tin (by omega) (by omega) ?_
  have e4 := dz_ptrg (hr_a268) (i := (a283 (c248_pots - (1 : Int32)).toNatClampNeg)) 1 576 (by decide) (by omega) (by show _ < ((3 : Nat) : Int); omega)
  have e5 := dz_ptat (hr_a282) (i := (c248_pots - (1 : Int32))) (x := 25) 2 (by omega) (by decide)
  exact (t172_X10_fillLast_I_g43 fu hfu c248_pots c261_many c267_total a268 a269 n269 a282 a283 p0 p1 p2 p3 p4 p5 p6 p7 p8 hr_a268 hr_a269 hr_a282 hr_a283 o0 kv).1 (c248_pots - (1 : Int32)) c261_many (a268 (a283 (c248_pots - (1 : Int32)).toNatClampNeg).toNatClampNeg) (a282 (c248_pots - (1 : Int32)).toNatClampNeg) a281 (by omega) (by omega) p2 p3 (by omega) (by omega) (by omega) (by omega) (hr_a281) (by omega)
theorem t172_X10_fillLast_g43 (fu : Nat) (hfu : 1000000000000 ≤ fu) (c248_pots : Int32) (c261_many : Int32) (c267_total : Int32) (a268 : Nat → Int32) (a269 : Nat → Int32) (n269 : Nat) (a282 : Nat → Int32) (a283 : Nat → Int32) (a281 : Nat → Int32) (p0 : c248_pots.toInt ≤ 3) (p1 : 3 ≤ c248_pots.toInt) (p2 : c261_many.toInt ≤ 24) (p3 : 24 ≤ c261_many.toInt) (p4 : c267_total.toInt ≤ 13824) (p5 : 13824 ≤ c267_total.toInt) (p6 : ((n269 : Nat) : Int) ≤ 13824) (p7 : 1 ≤ ((n269 : Nat) : Int)) (p8 : c267_total.toInt ≤ ((n269 : Nat) : Int)) (hr_a268 : dz_pt a268 [576, 24, 1]) (hr_a269 : dz_rg a269 n269 0 1023) (hr_a282 : dz_pt a282 [0, 1, 25, 601]) (hr_a283 : dz_pm a283 3) (hr_a281 : dz_rg a281 601 0 16777215) (o0 : 1 ≤ c248_pots.toInt) : dz_T (f172_X10_fillLast fu c248_pots c261_many c267_total a268 a269 n269 a282 a283 a281) (fun r => dz_rg r 601 0 16777215) :=
  t172_X10_fillLast_E_g43 fu hfu c248_pots c261_many c267_total a268 a269 n269 a282 a283 a281 p0 p1 p2 p3 p4 p5 p6 p7 p8 hr_a268 hr_a269 hr_a282 hr_a283 hr_a281 o0 fu hfu
set_option maxHeartbeats 1000000 in
theorem t172_X10_fillLast_s (fu : Nat) (hfu : 1000000000000 ≤ fu) (κ : Nat) (hκ : κ < 14) (c248_pots : Int32) (c261_many : Int32) (c267_total : Int32) (a268 : Nat → Int32) (a269 : Nat → Int32) (n269 : Nat) (a282 : Nat → Int32) (a283 : Nat → Int32) (a281 : Nat → Int32) (p0 : c248_pots.toInt ≤ 4) (p1 : 0 ≤ c248_pots.toInt) (p2 : c261_many.toInt ≤ 24) (p3 : 0 ≤ c261_many.toInt) (p4 : c267_total.toInt ≤ 13824) (p5 : 1 ≤ c267_total.toInt) (p6 : ((n269 : Nat) : Int) ≤ 13824) (p7 : 1 ≤ ((n269 : Nat) : Int)) (p8 : c267_total.toInt ≤ ((n269 : Nat) : Int)) (hr_a268 : dz_pt a268 (dz_kS κ)) (hr_a269 : dz_rg a269 n269 0 1023) (hr_a282 : dz_pt a282 (dz_kF κ)) (hr_a283 : dz_pm a283 (dz_kp κ)) (hr_a281 : dz_rg a281 601 0 16777215) (o0 : 1 ≤ c248_pots.toInt) (o1 : c248_pots.toInt = ((dz_kp κ : Nat) : Int)) (o2 : c261_many.toInt = ((dz_kr κ : Nat) : Int)) (o3 : c267_total.toInt = ((dz_kt κ : Nat) : Int)) : dz_T (f172_X10_fillLast fu c248_pots c261_many c267_total a268 a269 n269 a282 a283 a281) (fun r => dz_rg r 601 0 16777215) := by
  rcases (show κ = 0 ∨ κ = 1 ∨ κ = 2 ∨ κ = 3 ∨ κ = 4 ∨ κ = 5 ∨ κ = 6 ∨ κ = 7 ∨ κ = 8 ∨ κ = 9 ∨ κ = 10 ∨ κ = 11 ∨ κ = 12 ∨ κ = 13 by omega) with rfl | rfl | rfl | rfl | rfl | rfl | rfl | rfl | rfl | rfl | rfl | rfl | rfl | rfl
  · skip
    exfalso
    have o0 : 1 ≤ c248_pots.toInt := o0
    have o1 : c248_pots.toInt = (0 : Int) := o1
    have o2 : c261_many.toInt = (2 : Int) := o2
    have o3 : c267_total.toInt = (1 : Int) := o3
    omega
  · skip
    have o0 : 1 ≤ c248_pots.toInt := o0
    have o1 : c248_pots.toInt = (1 : Int) := o1
    have o2 : c261_many.toInt = (2 : Int) := o2
    have o3 : c267_total.toInt = (2 : Int) := o3
    refine dz_Tw (t172_X10_fillLast_g21 fu hfu c248_pots c261_many c267_total a268 a269 n269 a282 a283 a281 (by first | assumption | omega) (by first | assumption | omega) (by first | assumption | omega) (by first | assumption | omega) (by first | assumption | omega) (by first | assumption | omega) (by first | assumption | omega) (by first | assumption | omega) (by first | assumption | omega) (by first | exact hr_a268 | exact dz_rgm hr_a268 (by omega) (by omega) | exact dz_pmr hr_a268 (by decide) (by omega) (by omega) (by omega) | exact dz_ptr hr_a268 (by decide) (by decide) (by omega) | exact dz_ptr hr_a268 (by decide) (by decide) (by show _ ≤ 1; omega) | exact dz_rgs hr_a268 (by omega)) (by first | exact hr_a269 | exact dz_rgm hr_a269 (by omega) (by omega) | exact dz_pmr hr_a269 (by decide) (by omega) (by omega) (by omega) | exact dz_ptr hr_a269 (by decide) (by decide) (by omega) | exact dz_ptr hr_a269 (by decide) (by decide) (by show _ ≤ 1; omega) | exact dz_rgs hr_a269 (by omega)) (by first | exact hr_a282 | exact dz_rgm hr_a282 (by omega) (by omega) | exact dz_pmr hr_a282 (by decide) (by omega) (by omega) (by omega) | exact dz_ptr hr_a282 (by decide) (by decide) (by omega) | exact dz_ptr hr_a282 (by decide) (by decide) (by show _ ≤ 1; omega) | exact dz_rgs hr_a282 (by omega)) (by first | exact hr_a283 | exact dz_rgm hr_a283 (by omega) (by omega) | exact dz_pmr hr_a283 (by decide) (by omega) (by omega) (by omega) | exact dz_ptr hr_a283 (by decide) (by decide) (by omega) | exact dz_ptr hr_a283 (by decide) (by decide) (by show _ ≤ 1; omega) | exact dz_rgs hr_a283 (by omega)) (by first | exact hr_a281 | exact dz_rgm hr_a281 (by omega) (by omega) | exact dz_pmr hr_a281 (by decide) (by omega) (by omega) (by omega) | exact dz_ptr hr_a281 (by decide) (by decide) (by omega) | exact dz_ptr hr_a281 (by decide) (by decide) (by show _ ≤ 1; omega) | exact dz_rgs hr_a281 (by omega)) (by first | assumption | omega)) (fun r h => ?_)
    exact (by first | exact h | exact dz_rgm h (by omega) (by omega))
  · skip
    have o0 : 1 ≤ c248_pots.toInt := o0
    have o1 : c248_pots.toInt = (2 : Int) := o1
    have o2 : c261_many.toInt = (2 : Int) := o2
    have o3 : c267_total.toInt = (4 : Int) := o3
    refine dz_Tw (t172_X10_fillLast_g22 fu hfu c248_pots c261_many c267_total a268 a269 n269 a282 a283 a281 (by first | assumption | omega) (by first | assumption | omega) (by first | assumption | omega) (by first | assumption | omega) (by first | assumption | omega) (by first | assumption | omega) (by first | assumption | omega) (by first | assumption | omega) (by first | assumption | omega) (by first | exact hr_a268 | exact dz_rgm hr_a268 (by omega) (by omega) | exact dz_pmr hr_a268 (by decide) (by omega) (by omega) (by omega) | exact dz_ptr hr_a268 (by decide) (by decide) (by omega) | exact dz_ptr hr_a268 (by decide) (by decide) (by show _ ≤ 2; omega) | exact dz_rgs hr_a268 (by omega)) (by first | exact hr_a269 | exact dz_rgm hr_a269 (by omega) (by omega) | exact dz_pmr hr_a269 (by decide) (by omega) (by omega) (by omega) | exact dz_ptr hr_a269 (by decide) (by decide) (by omega) | exact dz_ptr hr_a269 (by decide) (by decide) (by show _ ≤ 2; omega) | exact dz_rgs hr_a269 (by omega)) (by first | exact hr_a282 | exact dz_rgm hr_a282 (by omega) (by omega) | exact dz_pmr hr_a282 (by decide) (by omega) (by omega) (by omega) | exact dz_ptr hr_a282 (by decide) (by decide) (by omega) | exact dz_ptr hr_a282 (by decide) (by decide) (by show _ ≤ 2; omega) | exact dz_rgs hr_a282 (by omega)) (by first | exact hr_a283 | exact dz_rgm hr_a283 (by omega) (by omega) | exact dz_pmr hr_a283 (by decide) (by omega) (by omega) (by omega) | exact dz_ptr hr_a283 (by decide) (by decide) (by omega) | exact dz_ptr hr_a283 (by decide) (by decide) (by show _ ≤ 2; omega) | exact dz_rgs hr_a283 (by omega)) (by first | exact hr_a281 | exact dz_rgm hr_a281 (by omega) (by omega) | exact dz_pmr hr_a281 (by decide) (by omega) (by omega) (by omega) | exact dz_ptr hr_a281 (by decide) (by decide) (by omega) | exact dz_ptr hr_a281 (by decide) (by decide) (by show _ ≤ 2; omega) | exact dz_rgs hr_a281 (by omega)) (by first | assumption | omega)) (fun r h => ?_)
    exact (by first | exact h | exact dz_rgm h (by omega) (by omega))
  · skip
    have o0 : 1 ≤ c248_pots.toInt := o0
    have o1 : c248_pots.toInt = (3 : Int) := o1
    have o2 : c261_many.toInt = (2 : Int) := o2
    have o3 : c267_total.toInt = (8 : Int) := o3
    refine dz_Tw (t172_X10_fillLast_g23 fu hfu c248_pots c261_many c267_total a268 a269 n269 a282 a283 a281 (by first | assumption | omega) (by first | assumption | omega) (by first | assumption | omega) (by first | assumption | omega) (by first | assumption | omega) (by first | assumption | omega) (by first | assumption | omega) (by first | assumption | omega) (by first | assumption | omega) (by first | exact hr_a268 | exact dz_rgm hr_a268 (by omega) (by omega) | exact dz_pmr hr_a268 (by decide) (by omega) (by omega) (by omega) | exact dz_ptr hr_a268 (by decide) (by decide) (by omega) | exact dz_ptr hr_a268 (by decide) (by decide) (by show _ ≤ 3; omega) | exact dz_rgs hr_a268 (by omega)) (by first | exact hr_a269 | exact dz_rgm hr_a269 (by omega) (by omega) | exact dz_pmr hr_a269 (by decide) (by omega) (by omega) (by omega) | exact dz_ptr hr_a269 (by decide) (by decide) (by omega) | exact dz_ptr hr_a269 (by decide) (by decide) (by show _ ≤ 3; omega) | exact dz_rgs hr_a269 (by omega)) (by first | exact hr_a282 | exact dz_rgm hr_a282 (by omega) (by omega) | exact dz_pmr hr_a282 (by decide) (by omega) (by omega) (by omega) | exact dz_ptr hr_a282 (by decide) (by decide) (by omega) | exact dz_ptr hr_a282 (by decide) (by decide) (by show _ ≤ 3; omega) | exact dz_rgs hr_a282 (by omega)) (by first | exact hr_a283 | exact dz_rgm hr_a283 (by omega) (by omega) | exact dz_pmr hr_a283 (by decide) (by omega) (by omega) (by omega) | exact dz_ptr hr_a283 (by decide) (by decide) (by omega) | exact dz_ptr hr_a283 (by decide) (by decide) (by show _ ≤ 3; omega) | exact dz_rgs hr_a283 (by omega)) (by first | exact hr_a281 | exact dz_rgm hr_a281 (by omega) (by omega) | exact dz_pmr hr_a281 (by decide) (by omega) (by omega) (by omega) | exact dz_ptr hr_a281 (by decide) (by decide) (by omega) | exact dz_ptr hr_a281 (by decide) (by decide) (by show _ ≤ 3; omega) | exact dz_rgs hr_a281 (by omega)) (by first | assumption | omega)) (fun r h => ?_)
    exact (by first | exact h | exact dz_rgm h (by omega) (by omega))
  · skip
    have o0 : 1 ≤ c248_pots.toInt := o0
    have o1 : c248_pots.toInt = (4 : Int) := o1
    have o2 : c261_many.toInt = (2 : Int) := o2
    have o3 : c267_total.toInt = (16 : Int) := o3
    refine dz_Tw (t172_X10_fillLast_g24 fu hfu c248_pots c261_many c267_total a268 a269 n269 a282 a283 a281 (by first | assumption | omega) (by first | assumption | omega) (by first | assumption | omega) (by first | assumption | omega) (by first | assumption | omega) (by first | assumption | omega) (by first | assumption | omega) (by first | assumption | omega) (by first | assumption | omega) (by first | exact hr_a268 | exact dz_rgm hr_a268 (by omega) (by omega) | exact dz_pmr hr_a268 (by decide) (by omega) (by omega) (by omega) | exact dz_ptr hr_a268 (by decide) (by decide) (by omega) | exact dz_ptr hr_a268 (by decide) (by decide) (by show _ ≤ 4; omega) | exact dz_rgs hr_a268 (by omega)) (by first | exact hr_a269 | exact dz_rgm hr_a269 (by omega) (by omega) | exact dz_pmr hr_a269 (by decide) (by omega) (by omega) (by omega) | exact dz_ptr hr_a269 (by decide) (by decide) (by omega) | exact dz_ptr hr_a269 (by decide) (by decide) (by show _ ≤ 4; omega) | exact dz_rgs hr_a269 (by omega)) (by first | exact hr_a282 | exact dz_rgm hr_a282 (by omega) (by omega) | exact dz_pmr hr_a282 (by decide) (by omega) (by omega) (by omega) | exact dz_ptr hr_a282 (by decide) (by decide) (by omega) | exact dz_ptr hr_a282 (by decide) (by decide) (by show _ ≤ 4; omega) | exact dz_rgs hr_a282 (by omega)) (by first | exact hr_a283 | exact dz_rgm hr_a283 (by omega) (by omega) | exact dz_pmr hr_a283 (by decide) (by omega) (by omega) (by omega) | exact dz_ptr hr_a283 (by decide) (by decide) (by omega) | exact dz_ptr hr_a283 (by decide) (by decide) (by show _ ≤ 4; omega) | exact dz_rgs hr_a283 (by omega)) (by first | exact hr_a281 | exact dz_rgm hr_a281 (by omega) (by omega) | exact dz_pmr hr_a281 (by decide) (by omega) (by omega) (by omega) | exact dz_ptr hr_a281 (by decide) (by decide) (by omega) | exact dz_ptr hr_a281 (by decide) (by decide) (by show _ ≤ 4; omega) | exact dz_rgs hr_a281 (by omega)) (by first | assumption | omega)) (fun r h => ?_)
    exact (by first | exact h | exact dz_rgm h (by omega) (by omega))
  · skip
    exfalso
    have o0 : 1 ≤ c248_pots.toInt := o0
    have o1 : c248_pots.toInt = (0 : Int) := o1
    have o2 : c261_many.toInt = (6 : Int) := o2
    have o3 : c267_total.toInt = (1 : Int) := o3
    omega
  · skip
    have o0 : 1 ≤ c248_pots.toInt := o0
    have o1 : c248_pots.toInt = (1 : Int) := o1
    have o2 : c261_many.toInt = (6 : Int) := o2
    have o3 : c267_total.toInt = (6 : Int) := o3
    refine dz_Tw (t172_X10_fillLast_g31 fu hfu c248_pots c261_many c267_total a268 a269 n269 a282 a283 a281 (by first | assumption | omega) (by first | assumption | omega) (by first | assumption | omega) (by first | assumption | omega) (by first | assumption | omega) (by first | assumption | omega) (by first | assumption | omega) (by first | assumption | omega) (by first | assumption | omega) (by first | exact hr_a268 | exact dz_rgm hr_a268 (by omega) (by omega) | exact dz_pmr hr_a268 (by decide) (by omega) (by omega) (by omega) | exact dz_ptr hr_a268 (by decide) (by decide) (by omega) | exact dz_ptr hr_a268 (by decide) (by decide) (by show _ ≤ 1; omega) | exact dz_rgs hr_a268 (by omega)) (by first | exact hr_a269 | exact dz_rgm hr_a269 (by omega) (by omega) | exact dz_pmr hr_a269 (by decide) (by omega) (by omega) (by omega) | exact dz_ptr hr_a269 (by decide) (by decide) (by omega) | exact dz_ptr hr_a269 (by decide) (by decide) (by show _ ≤ 1; omega) | exact dz_rgs hr_a269 (by omega)) (by first | exact hr_a282 | exact dz_rgm hr_a282 (by omega) (by omega) | exact dz_pmr hr_a282 (by decide) (by omega) (by omega) (by omega) | exact dz_ptr hr_a282 (by decide) (by decide) (by omega) | exact dz_ptr hr_a282 (by decide) (by decide) (by show _ ≤ 1; omega) | exact dz_rgs hr_a282 (by omega)) (by first | exact hr_a283 | exact dz_rgm hr_a283 (by omega) (by omega) | exact dz_pmr hr_a283 (by decide) (by omega) (by omega) (by omega) | exact dz_ptr hr_a283 (by decide) (by decide) (by omega) | exact dz_ptr hr_a283 (by decide) (by decide) (by show _ ≤ 1; omega) | exact dz_rgs hr_a283 (by omega)) (by first | exact hr_a281 | exact dz_rgm hr_a281 (by omega) (by omega) | exact dz_pmr hr_a281 (by decide) (by omega) (by omega) (by omega) | exact dz_ptr hr_a281 (by decide) (by decide) (by omega) | exact dz_ptr hr_a281 (by decide) (by decide) (by show _ ≤ 1; omega) | exact dz_rgs hr_a281 (by omega)) (by first | assumption | omega)) (fun r h => ?_)
    exact (by first | exact h | exact dz_rgm h (by omega) (by omega))
  · skip
    have o0 : 1 ≤ c248_pots.toInt := o0
    have o1 : c248_pots.toInt = (2 : Int) := o1
    have o2 : c261_many.toInt = (6 : Int) := o2
    have o3 : c267_total.toInt = (36 : Int) := o3
    refine dz_Tw (t172_X10_fillLast_g32 fu hfu c248_pots c261_many c267_total a268 a269 n269 a282 a283 a281 (by first | assumption | omega) (by first | assumption | omega) (by first | assumption | omega) (by first | assumption | omega) (by first | assumption | omega) (by first | assumption | omega) (by first | assumption | omega) (by first | assumption | omega) (by first | assumption | omega) (by first | exact hr_a268 | exact dz_rgm hr_a268 (by omega) (by omega) | exact dz_pmr hr_a268 (by decide) (by omega) (by omega) (by omega) | exact dz_ptr hr_a268 (by decide) (by decide) (by omega) | exact dz_ptr hr_a268 (by decide) (by decide) (by show _ ≤ 2; omega) | exact dz_rgs hr_a268 (by omega)) (by first | exact hr_a269 | exact dz_rgm hr_a269 (by omega) (by omega) | exact dz_pmr hr_a269 (by decide) (by omega) (by omega) (by omega) | exact dz_ptr hr_a269 (by decide) (by decide) (by omega) | exact dz_ptr hr_a269 (by decide) (by decide) (by show _ ≤ 2; omega) | exact dz_rgs hr_a269 (by omega)) (by first | exact hr_a282 | exact dz_rgm hr_a282 (by omega) (by omega) | exact dz_pmr hr_a282 (by decide) (by omega) (by omega) (by omega) | exact dz_ptr hr_a282 (by decide) (by decide) (by omega) | exact dz_ptr hr_a282 (by decide) (by decide) (by show _ ≤ 2; omega) | exact dz_rgs hr_a282 (by omega)) (by first | exact hr_a283 | exact dz_rgm hr_a283 (by omega) (by omega) | exact dz_pmr hr_a283 (by decide) (by omega) (by omega) (by omega) | exact dz_ptr hr_a283 (by decide) (by decide) (by omega) | exact dz_ptr hr_a283 (by decide) (by decide) (by show _ ≤ 2; omega) | exact dz_rgs hr_a283 (by omega)) (by first | exact hr_a281 | exact dz_rgm hr_a281 (by omega) (by omega) | exact dz_pmr hr_a281 (by decide) (by omega) (by omega) (by omega) | exact dz_ptr hr_a281 (by decide) (by decide) (by omega) | exact dz_ptr hr_a281 (by decide) (by decide) (by show _ ≤ 2; omega) | exact dz_rgs hr_a281 (by omega)) (by first | assumption | omega)) (fun r h => ?_)
    exact (by first | exact h | exact dz_rgm h (by omega) (by omega))
  · skip
    have o0 : 1 ≤ c248_pots.toInt := o0
    have o1 : c248_pots.toInt = (3 : Int) := o1
    have o2 : c261_many.toInt = (6 : Int) := o2
    have o3 : c267_total.toInt = (216 : Int) := o3
    refine dz_Tw (t172_X10_fillLast_g33 fu hfu c248_pots c261_many c267_total a268 a269 n269 a282 a283 a281 (by first | assumption | omega) (by first | assumption | omega) (by first | assumption | omega) (by first | assumption | omega) (by first | assumption | omega) (by first | assumption | omega) (by first | assumption | omega) (by first | assumption | omega) (by first | assumption | omega) (by first | exact hr_a268 | exact dz_rgm hr_a268 (by omega) (by omega) | exact dz_pmr hr_a268 (by decide) (by omega) (by omega) (by omega) | exact dz_ptr hr_a268 (by decide) (by decide) (by omega) | exact dz_ptr hr_a268 (by decide) (by decide) (by show _ ≤ 3; omega) | exact dz_rgs hr_a268 (by omega)) (by first | exact hr_a269 | exact dz_rgm hr_a269 (by omega) (by omega) | exact dz_pmr hr_a269 (by decide) (by omega) (by omega) (by omega) | exact dz_ptr hr_a269 (by decide) (by decide) (by omega) | exact dz_ptr hr_a269 (by decide) (by decide) (by show _ ≤ 3; omega) | exact dz_rgs hr_a269 (by omega)) (by first | exact hr_a282 | exact dz_rgm hr_a282 (by omega) (by omega) | exact dz_pmr hr_a282 (by decide) (by omega) (by omega) (by omega) | exact dz_ptr hr_a282 (by decide) (by decide) (by omega) | exact dz_ptr hr_a282 (by decide) (by decide) (by show _ ≤ 3; omega) | exact dz_rgs hr_a282 (by omega)) (by first | exact hr_a283 | exact dz_rgm hr_a283 (by omega) (by omega) | exact dz_pmr hr_a283 (by decide) (by omega) (by omega) (by omega) | exact dz_ptr hr_a283 (by decide) (by decide) (by omega) | exact dz_ptr hr_a283 (by decide) (by decide) (by show _ ≤ 3; omega) | exact dz_rgs hr_a283 (by omega)) (by first | exact hr_a281 | exact dz_rgm hr_a281 (by omega) (by omega) | exact dz_pmr hr_a281 (by decide) (by omega) (by omega) (by omega) | exact dz_ptr hr_a281 (by decide) (by decide) (by omega) | exact dz_ptr hr_a281 (by decide) (by decide) (by show _ ≤ 3; omega) | exact dz_rgs hr_a281 (by omega)) (by first | assumption | omega)) (fun r h => ?_)
    exact (by first | exact h | exact dz_rgm h (by omega) (by omega))
  · skip
    have o0 : 1 ≤ c248_pots.toInt := o0
    have o1 : c248_pots.toInt = (4 : Int) := o1
    have o2 : c261_many.toInt = (6 : Int) := o2
    have o3 : c267_total.toInt = (1296 : Int) := o3
    refine dz_Tw (t172_X10_fillLast_g34 fu hfu c248_pots c261_many c267_total a268 a269 n269 a282 a283 a281 (by first | assumption | omega) (by first | assumption | omega) (by first | assumption | omega) (by first | assumption | omega) (by first | assumption | omega) (by first | assumption | omega) (by first | assumption | omega) (by first | assumption | omega) (by first | assumption | omega) (by first | exact hr_a268 | exact dz_rgm hr_a268 (by omega) (by omega) | exact dz_pmr hr_a268 (by decide) (by omega) (by omega) (by omega) | exact dz_ptr hr_a268 (by decide) (by decide) (by omega) | exact dz_ptr hr_a268 (by decide) (by decide) (by show _ ≤ 4; omega) | exact dz_rgs hr_a268 (by omega)) (by first | exact hr_a269 | exact dz_rgm hr_a269 (by omega) (by omega) | exact dz_pmr hr_a269 (by decide) (by omega) (by omega) (by omega) | exact dz_ptr hr_a269 (by decide) (by decide) (by omega) | exact dz_ptr hr_a269 (by decide) (by decide) (by show _ ≤ 4; omega) | exact dz_rgs hr_a269 (by omega)) (by first | exact hr_a282 | exact dz_rgm hr_a282 (by omega) (by omega) | exact dz_pmr hr_a282 (by decide) (by omega) (by omega) (by omega) | exact dz_ptr hr_a282 (by decide) (by decide) (by omega) | exact dz_ptr hr_a282 (by decide) (by decide) (by show _ ≤ 4; omega) | exact dz_rgs hr_a282 (by omega)) (by first | exact hr_a283 | exact dz_rgm hr_a283 (by omega) (by omega) | exact dz_pmr hr_a283 (by decide) (by omega) (by omega) (by omega) | exact dz_ptr hr_a283 (by decide) (by decide) (by omega) | exact dz_ptr hr_a283 (by decide) (by decide) (by show _ ≤ 4; omega) | exact dz_rgs hr_a283 (by omega)) (by first | exact hr_a281 | exact dz_rgm hr_a281 (by omega) (by omega) | exact dz_pmr hr_a281 (by decide) (by omega) (by omega) (by omega) | exact dz_ptr hr_a281 (by decide) (by decide) (by omega) | exact dz_ptr hr_a281 (by decide) (by decide) (by show _ ≤ 4; omega) | exact dz_rgs hr_a281 (by omega)) (by first | assumption | omega)) (fun r h => ?_)
    exact (by first | exact h | exact dz_rgm h (by omega) (by omega))
  · skip
    exfalso
    have o0 : 1 ≤ c248_pots.toInt := o0
    have o1 : c248_pots.toInt = (0 : Int) := o1
    have o2 : c261_many.toInt = (24 : Int) := o2
    have o3 : c267_total.toInt = (1 : Int) := o3
    omega
  · skip
    have o0 : 1 ≤ c248_pots.toInt := o0
    have o1 : c248_pots.toInt = (1 : Int) := o1
    have o2 : c261_many.toInt = (24 : Int) := o2
    have o3 : c267_total.toInt = (24 : Int) := o3
    refine dz_Tw (t172_X10_fillLast_g41 fu hfu c248_pots c261_many c267_total a268 a269 n269 a282 a283 a281 (by first | assumption | omega) (by first | assumption | omega) (by first | assumption | omega) (by first | assumption | omega) (by first | assumption | omega) (by first | assumption | omega) (by first | assumption | omega) (by first | assumption | omega) (by first | assumption | omega) (by first | exact hr_a268 | exact dz_rgm hr_a268 (by omega) (by omega) | exact dz_pmr hr_a268 (by decide) (by omega) (by omega) (by omega) | exact dz_ptr hr_a268 (by decide) (by decide) (by omega) | exact dz_ptr hr_a268 (by decide) (by decide) (by show _ ≤ 1; omega) | exact dz_rgs hr_a268 (by omega)) (by first | exact hr_a269 | exact dz_rgm hr_a269 (by omega) (by omega) | exact dz_pmr hr_a269 (by decide) (by omega) (by omega) (by omega) | exact dz_ptr hr_a269 (by decide) (by decide) (by omega) | exact dz_ptr hr_a269 (by decide) (by decide) (by show _ ≤ 1; omega) | exact dz_rgs hr_a269 (by omega)) (by first | exact hr_a282 | exact dz_rgm hr_a282 (by omega) (by omega) | exact dz_pmr hr_a282 (by decide) (by omega) (by omega) (by omega) | exact dz_ptr hr_a282 (by decide) (by decide) (by omega) | exact dz_ptr hr_a282 (by decide) (by decide) (by show _ ≤ 1; omega) | exact dz_rgs hr_a282 (by omega)) (by first | exact hr_a283 | exact dz_rgm hr_a283 (by omega) (by omega) | exact dz_pmr hr_a283 (by decide) (by omega) (by omega) (by omega) | exact dz_ptr hr_a283 (by decide) (by decide) (by omega) | exact dz_ptr hr_a283 (by decide) (by decide) (by show _ ≤ 1; omega) | exact dz_rgs hr_a283 (by omega)) (by first | exact hr_a281 | exact dz_rgm hr_a281 (by omega) (by omega) | exact dz_pmr hr_a281 (by decide) (by omega) (by omega) (by omega) | exact dz_ptr hr_a281 (by decide) (by decide) (by omega) | exact dz_ptr hr_a281 (by decide) (by decide) (by show _ ≤ 1; omega) | exact dz_rgs hr_a281 (by omega)) (by first | assumption | omega)) (fun r h => ?_)
    exact (by first | exact h | exact dz_rgm h (by omega) (by omega))
  · skip
    have o0 : 1 ≤ c248_pots.toInt := o0
    have o1 : c248_pots.toInt = (2 : Int) := o1
    have o2 : c261_many.toInt = (24 : Int) := o2
    have o3 : c267_total.toInt = (576 : Int) := o3
    refine dz_Tw (t172_X10_fillLast_g42 fu hfu c248_pots c261_many c267_total a268 a269 n269 a282 a283 a281 (by first | assumption | omega) (by first | assumption | omega) (by first | assumption | omega) (by first | assumption | omega) (by first | assumption | omega) (by first | assumption | omega) (by first | assumption | omega) (by first | assumption | omega) (by first | assumption | omega) (by first | exact hr_a268 | exact dz_rgm hr_a268 (by omega) (by omega) | exact dz_pmr hr_a268 (by decide) (by omega) (by omega) (by omega) | exact dz_ptr hr_a268 (by decide) (by decide) (by omega) | exact dz_ptr hr_a268 (by decide) (by decide) (by show _ ≤ 2; omega) | exact dz_rgs hr_a268 (by omega)) (by first | exact hr_a269 | exact dz_rgm hr_a269 (by omega) (by omega) | exact dz_pmr hr_a269 (by decide) (by omega) (by omega) (by omega) | exact dz_ptr hr_a269 (by decide) (by decide) (by omega) | exact dz_ptr hr_a269 (by decide) (by decide) (by show _ ≤ 2; omega) | exact dz_rgs hr_a269 (by omega)) (by first | exact hr_a282 | exact dz_rgm hr_a282 (by omega) (by omega) | exact dz_pmr hr_a282 (by decide) (by omega) (by omega) (by omega) | exact dz_ptr hr_a282 (by decide) (by decide) (by omega) | exact dz_ptr hr_a282 (by decide) (by decide) (by show _ ≤ 2; omega) | exact dz_rgs hr_a282 (by omega)) (by first | exact hr_a283 | exact dz_rgm hr_a283 (by omega) (by omega) | exact dz_pmr hr_a283 (by decide) (by omega) (by omega) (by omega) | exact dz_ptr hr_a283 (by decide) (by decide) (by omega) | exact dz_ptr hr_a283 (by decide) (by decide) (by show _ ≤ 2; omega) | exact dz_rgs hr_a283 (by omega)) (by first | exact hr_a281 | exact dz_rgm hr_a281 (by omega) (by omega) | exact dz_pmr hr_a281 (by decide) (by omega) (by omega) (by omega) | exact dz_ptr hr_a281 (by decide) (by decide) (by omega) | exact dz_ptr hr_a281 (by decide) (by decide) (by show _ ≤ 2; omega) | exact dz_rgs hr_a281 (by omega)) (by first | assumption | omega)) (fun r h => ?_)
    exact (by first | exact h | exact dz_rgm h (by omega) (by omega))
  · skip
    have o0 : 1 ≤ c248_pots.toInt := o0
    have o1 : c248_pots.toInt = (3 : Int) := o1
    have o2 : c261_many.toInt = (24 : Int) := o2
    have o3 : c267_total.toInt = (13824 : Int) := o3
    refine dz_Tw (t172_X10_fillLast_g43 fu hfu c248_pots c261_many c267_total a268 a269 n269 a282 a283 a281 (by first | assumption | omega) (by first | assumption | omega) (by first | assumption | omega) (by first | assumption | omega) (by first | assumption | omega) (by first | assumption | omega) (by first | assumption | omega) (by first | assumption | omega) (by first | assumption | omega) (by first | exact hr_a268 | exact dz_rgm hr_a268 (by omega) (by omega) | exact dz_pmr hr_a268 (by decide) (by omega) (by omega) (by omega) | exact dz_ptr hr_a268 (by decide) (by decide) (by omega) | exact dz_ptr hr_a268 (by decide) (by decide) (by show _ ≤ 3; omega) | exact dz_rgs hr_a268 (by omega)) (by first | exact hr_a269 | exact dz_rgm hr_a269 (by omega) (by omega) | exact dz_pmr hr_a269 (by decide) (by omega) (by omega) (by omega) | exact dz_ptr hr_a269 (by decide) (by decide) (by omega) | exact dz_ptr hr_a269 (by decide) (by decide) (by show _ ≤ 3; omega) | exact dz_rgs hr_a269 (by omega)) (by first | exact hr_a282 | exact dz_rgm hr_a282 (by omega) (by omega) | exact dz_pmr hr_a282 (by decide) (by omega) (by omega) (by omega) | exact dz_ptr hr_a282 (by decide) (by decide) (by omega) | exact dz_ptr hr_a282 (by decide) (by decide) (by show _ ≤ 3; omega) | exact dz_rgs hr_a282 (by omega)) (by first | exact hr_a283 | exact dz_rgm hr_a283 (by omega) (by omega) | exact dz_pmr hr_a283 (by decide) (by omega) (by omega) (by omega) | exact dz_ptr hr_a283 (by decide) (by decide) (by omega) | exact dz_ptr hr_a283 (by decide) (by decide) (by show _ ≤ 3; omega) | exact dz_rgs hr_a283 (by omega)) (by first | exact hr_a281 | exact dz_rgm hr_a281 (by omega) (by omega) | exact dz_pmr hr_a281 (by decide) (by omega) (by omega) (by omega) | exact dz_ptr hr_a281 (by decide) (by decide) (by omega) | exact dz_ptr hr_a281 (by decide) (by decide) (by show _ ≤ 3; omega) | exact dz_rgs hr_a281 (by omega)) (by first | assumption | omega)) (fun r h => ?_)
    exact (by first | exact h | exact dz_rgm h (by omega) (by omega))
abbrev p173_X10_fillFromNext_g22 (fu : Nat) (c261_many : Int32) (a282 : Nat → Int32) (k : Nat) : Prop :=
  (∀ (v1 : Int32) (v2 : Int32) (v3 : Int32) (v4 : Int32) (a281 : Nat → Int32), v1.toInt ≤ 0 → 0 ≤ v1.toInt → v2.toInt ≤ 2 → 2 ≤ v2.toInt → v3.toInt ≤ 601 → 1 ≤ v3.toInt → v4.toInt ≤ 1 → 0 ≤ v4.toInt → v4.toInt + 1 ≤ v3.toInt → dz_rg a281 601 0 16777215 → ((v1.toInt = 0 ∧ v3.toInt = 1 + (v4.toInt - 0) * 2)) → 0 + 0 + (1 - v4.toInt) * 8442 + 7 ≤ ((k : Nat) : Int) → dz_T ((F173_X10_fillFromNext fu c261_many a282 k).1 v1 v2 v3 v4 a281) (fun r => dz_rg r 601 0 16777215)) ∧ (∀ (v1 : Int32) (v2 : Int32) (v3 : Int32) (v4 : Int32) (v5 : Int32) (v6 : Int32) (a281 : Nat → Int32), v1.toInt ≤ 0 → 0 ≤ v1.toInt → v2.toInt ≤ 2 → 2 ≤ v2.toInt → v3.toInt ≤ 601 → 1 ≤ v3.toInt → v4.toInt ≤ 0 → 0 ≤ v4.toInt → v5.toInt ≤ 3 → 0 ≤ v5.toInt → v6.toInt ≤ 2 → 0 ≤ v6.toInt → v6.toInt + 1 ≤ v3.toInt → v5.toInt ≤ v3.toInt + 1 → v5.toInt ≤ v6.toInt + 2 → dz_rg a281 601 0 16777215 → ((v1.toInt = 0 ∧ v4.toInt < 1 ∧ v3.toInt = 1 + (v4.toInt - 0) * 2 + v6.toInt)) → 0 + 0 + ((1 - v4.toInt) - 1) * 8442 + 0 + (601 - v3.toInt) * 14 + 14 ≤ ((k : Nat) : Int) → dz_T ((F173_X10_fillFromNext fu c261_many a282 k).2.1 v1 v2 v3 v4 v5 v6 a281) (fun r => dz_rg r 601 0 16777215))
set_option maxHeartbeats 1000000 in
set_option maxRecDepth 10000 in
theorem t173_X10_fillFromNext_h1_g22 (fu : Nat) (hfu : 1000000000000 ≤ fu) (c261_many : Int32) (a282 : Nat → Int32) (p0 : c261_many.toInt ≤ 2) (p1 : 2 ≤ c261_many.toInt) (hr_a282 : dz_pt a282 [0, 1, 3]) (k : Nat) (ih : ∀ j9, j9 < k → p173_X10_fillFromNext_g22 fu c261_many a282 j9) : ∀ (v1 : Int32) (v2 : Int32) (v3 : Int32) (v4 : Int32) (a281 : Nat → Int32), v1.toInt ≤ 0 → 0 ≤ v1.toInt → v2.toInt ≤ 2 → 2 ≤ v2.toInt → v3.toInt ≤ 601 → 1 ≤ v3.toInt → v4.toInt ≤ 1 → 0 ≤ v4.toInt → v4.toInt + 1 ≤ v3.toInt → dz_rg a281 601 0 16777215 → ((v1.toInt = 0 ∧ v3.toInt = 1 + (v4.toInt - 0) * 2)) → 0 + 0 + (1 - v4.toInt) * 8442 + 7 ≤ ((k : Nat) : Int) → dz_T ((F173_X10_fillFromNext fu c261_many a282 k).1 v1 v2 v3 v4 a281) (fun r => dz_rg r 601 0 16777215) := by
  intro v1 v2 v3 v4 a281 i0 i1 i2 i3 i4 i5 i6 i7 i8 hr_a281 x0 hm
  obtain ⟨k0, rfl⟩ : ∃ x, k = x + 1 := ⟨k - 1, by omega⟩
  show dz_T (s173_X10_fillFromNext_1 fu c261_many a282 (F173_X10_fillFromNext fu c261_many a282 k0).2.1  v1 v2 v3 v4 a281) _
  unfold s173_X10_fillFromNext_1
  have hs : v1.toInt = 0 := by omega
  have e1 := dz_l1
  have e2 := dz_add (a := v1) (b := (1 : Int32)) (by omega) (by omega)
  refine dz_Tin (by omega) (by omega) ?_
  have e3 := dz_ptat (hr_a282) (i := (v1 + (1 : Int32))) (x := 1) 1 (by omega) (by decide)
  refine dz_Tle (fun h4 => ?_) (fun h4 => ?_)
  · skip
    exact dz_Ts (hr_a281)
  · skip
    have e5 := dz_l0
    exact (ih k0 (by omega)).2 v1 v2 v3 v4 (0 : Int32) (0 : Int32) a281 i0 i1 i2 i3 i4 i5 (by first | assumption | omega) i7 (by omega) (by omega) (by omega) (by omega) (by omega) (by omega) (by omega) (hr_a281) (by omega) (by omega)
set_option maxHeartbeats 1000000 in
set_option maxRecDepth 10000 in
theorem t173_X10_fillFromNext_h2_g22 (fu : Nat) (hfu : 1000000000000 ≤ fu) (c261_many : Int32) (a282 : Nat → Int32) (p0 : c261_many.toInt ≤ 2) (p1 : 2 ≤ c261_many.toInt) (hr_a282 : dz_pt a282 [0, 1, 3]) (k : Nat) (ih : ∀ j9, j9 < k → p173_X10_fillFromNext_g22 fu c261_many a282 j9) : ∀ (v1 : Int32) (v2 : Int32) (v3 : Int32) (v4 : Int32) (v5 : Int32) (v6 : Int32) (a281 : Nat → Int32), v1.toInt ≤ 0 → 0 ≤ v1.toInt → v2.toInt ≤ 2 → 2 ≤ v2.toInt → v3.toInt ≤ 601 → 1 ≤ v3.toInt → v4.toInt ≤ 0 → 0 ≤ v4.toInt → v5.toInt ≤ 3 → 0 ≤ v5.toInt → v6.toInt ≤ 2 → 0 ≤ v6.toInt → v6.toInt + 1 ≤ v3.toInt → v5.toInt ≤ v3.toInt + 1 → v5.toInt ≤ v6.toInt + 2 → dz_rg a281 601 0 16777215 → ((v1.toInt = 0 ∧ v4.toInt < 1 ∧ v3.toInt = 1 + (v4.toInt - 0) * 2 + v6.toInt)) → 0 + 0 + ((1 - v4.toInt) - 1) * 8442 + 0 + (601 - v3.toInt) * 14 + 14 ≤ ((k : Nat) : Int) → dz_T ((F173_X10_fillFromNext fu c261_many a282 k).2.1 v1 v2 v3 v4 v5 v6 a281) (fun r => dz_rg r 601 0 16777215) := by
  intro v1 v2 v3 v4 v5 v6 a281 i0 i1 i2 i3 i4 i5 i6 i7 i8 i9 i10 i11 i12 i13 i14 hr_a281 x0 hm
  obtain ⟨k0, rfl⟩ : ∃ x, k = x + 1 := ⟨k - 1, by omega⟩
  show dz_T (s173_X10_fillFromNext_2 fu c261_many a282 (F173_X10_fillFromNext fu c261_many a282 k0).1 (F173_X10_fillFromNext fu c261_many a282 k0).2.2  v1 v2 v3 v4 v5 v6 a281) _
  unfold s173_X10_fillFromNext_2
  have hs : v1.toInt = 0 := by omega
  refine dz_Tle (fun h1 => ?_) (fun h1 => ?_)
  · skip
    refine dz_Tin (by omega) (by omega) ?_
    have e2 := dz_l1
    have e3 := dz_add (a := v4) (b := (1 : Int32)) (by omega) (by omega)
    exact (ih k0 (by omega)).1 v1 v2 v3 (v4 + (1 : Int32)) (upd a281 v4.toNatClampNeg v5) i0 i1 i2 i3 i4 i5 (by omega) (by omega) (by omega) (dz_rgu (hr_a281) (by omega) (by omega)) (by omega) (by omega)
  · skip
    refine dz_Tin (by omega) (by omega) ?_
    have e4 := dz_rgat (hr_a281) (i := v3) (by omega) (by omega)
    have e5 := dz_l0
    refine dz_Teq (fun h6 => ?_) (fun h6 => ?_)
    · skip
      obtain ⟨k1, rfl⟩ : ∃ x, k0 = x + 1 := ⟨k0 - 1, by omega⟩
      show dz_T (s173_X10_fillFromNext_3 fu c261_many a282 (F173_X10_fillFromNext fu c261_many a282 k1).2.1 v1 v2 v3 v4 v5 v6 a281) _
      unfold s173_X10_fillFromNext_3
      have e7 := dz_l1
      have e8 := dz_add (a := v3) (b := (1 : Int32)) (by omega) (by omega)
      have e9 := dz_add (a := v6) (b := (1 : Int32)) (by omega) (by omega)
      exact (ih k1 (by omega)).2 v1 v2 (v3 + (1 : Int32)) v4 v5 (v6 + (1 : Int32)) a281 i0 i1 i2 i3 (by omega) (by omega) i6 i7 i8 i9 (by omega) (by omega) (by omega) (by omega) (by omega) (hr_a281) (by omega) (by omega)
    · skip
      obtain ⟨k2, rfl⟩ : ∃ x, k0 = x + 1 := ⟨k0 - 1, by omega⟩
      show dz_T (s173_X10_fillFromNext_3 fu c261_many a282 (F173_X10_fillFromNext fu c261_many a282 k2).2.1 v1 v2 v3 v4 (v5 ||| ((1 : Int32) <<< (v6 &&& (31 : Int32)))) v6 a281) _
      unfold s173_X10_fillFromNext_3
      have e10 := dz_l1
      have e11 := dz_add (a := v3) (b := (1 : Int32)) (by omega) (by omega)
      have e12 := dz_l31
      have e13 := dz_andr (a := v6) (b := (31 : Int32)) (by omega)
      have e14 := dz_andl (a := v6) (b := (31 : Int32)) (by omega)
      have e15 := dz_shl1 (b := v6) 0 1 (by omega) (by omega) (by omega)
      have e16 := dz_orb (a := v5) (b := ((1 : Int32) <<< (v6 &&& (31 : Int32)))) 2 (by omega) (by omega) (by omega) (by omega) (by omega)
      have e17 := dz_add (a := v6) (b := (1 : Int32)) (by omega) (by omega)
      exact (ih k2 (by omega)).2 v1 v2 (v3 + (1 : Int32)) v4 (v5 ||| ((1 : Int32) <<< (v6 &&& (31 : Int32)))) (v6 + (1 : Int32)) a281 i0 i1 i2 i3 (by omega) (by omega) i6 i7 (by omega) (by omega) (by omega) (by omega) (by omega) (by omega) (by omega) (hr_a281) (by omega) (by omega)
theorem t173_X10_fillFromNext_I_g22 (fu : Nat) (hfu : 1000000000000 ≤ fu) (c261_many : Int32) (a282 : Nat → Int32) (p0 : c261_many.toInt ≤ 2) (p1 : 2 ≤ c261_many.toInt) (hr_a282 : dz_pt a282 [0, 1, 3]) (k : Nat) : p173_X10_fillFromNext_g22 fu c261_many a282 k := by
  induction k using Nat.strongRecOn with
  | _ k ih => exact ⟨t173_X10_fillFromNext_h1_g22 fu hfu c261_many a282 p0 p1 hr_a282 k ih, t173_X10_fillFromNext_h2_g22 fu hfu c261_many a282 p0 p1 hr_a282 k ih⟩
set_option maxHeartbeats 1000000 in
set_option maxRecDepth 10000 in
theorem t173_X10_fillFromNext_E_g22 (fu : Nat) (hfu : 1000000000000 ≤ fu) (c261_many : Int32) (a282 : Nat → Int32) (v1 : Int32) (a281 : Nat → Int32) (p0 : c261_many.toInt ≤ 2) (p1 : 2 ≤ c261_many.toInt) (p2 : 0 ≤ v1.toInt) (p3 : v1.toInt ≤ 0) (hr_a282 : dz_pt a282 [0, 1, 3]) (hr_a281 : dz_rg a281 601 0 16777215) (kv : Nat) (hkv : 1000000000000 ≤ kv) : dz_T (s173_X10_fillFromNext_0 fu c261_many a282 (F173_X10_fillFromNext fu c261_many a282 kv).1  v1 a281) (fun r => dz_rg r 601 0 16777215) := by
  unfold s173_X10_fillFromNext_0
  have hl1 := dz_l1
  have he1 := dz_add (a := v1) (b := (1 : Int32)) (by omega) (by omega)
  have hv1 : v1.toInt = 0 := by omega
  have hsp : (v1.toInt = 0 ∧ (a282 v1.toNatClampNeg).toInt = 0 ∧ (a282 (v1 + (1 : Int32)).toNatClampNeg).toInt = 1) := ⟨hv1, dz_ptat (hr_a282) (i := v1) (x := 0) 0 (by omega) (by decide), dz_ptat (hr_a282) (i := (v1 + (1 : Int32))) (x := 1) 1 (by omega) (by decide)⟩
  have e1 := dz_l1
  have e2 := dz_add (a := v1) (b := (1 : Int32)) (by omega) (by omega)
  refine dz_Tin (by omega) (by omega) ?_
  refine dz_Tin (by omega) (by omega) ?_
  have e3 := dz_ptat (hr_a282) (i := (v1 + (1 : Int32))) (x := 1) 1 (by omega) (by decide)
  have e4 := dz_ptat (hr_a282) (i := v1) (x := 0) 0 (by omega) (by decide)
  exact (t173_X10_fillFromNext_I_g22 fu hfu c261_many a282 p0 p1 hr_a282 kv).1 v1 c261_many (a282 (v1 + (1 : Int32)).toNatClampNeg) (a282 v1.toNatClampNeg) a281 p3 p2 p0 p1 (by omega) (by omega) (by omega) (by omega) (by omega) (hr_a281) (by omega) (by omega)
theorem t173_X10_fillFromNext_g22 (fu : Nat) (hfu : 1000000000000 ≤ fu) (c261_many : Int32) (a282 : Nat → Int32) (v1 : Int32) (a281 : Nat → Int32) (p0 : c261_many.toInt ≤ 2) (p1 : 2 ≤ c261_many.toInt) (p2 : 0 ≤ v1.toInt) (p3 : v1.toInt ≤ 0) (hr_a282 : dz_pt a282 [0, 1, 3]) (hr_a281 : dz_rg a281 601 0 16777215) : dz_T (f173_X10_fillFromNext fu c261_many a282 v1 a281) (fun r => dz_rg r 601 0 16777215) :=
  t173_X10_fillFromNext_E_g22 fu hfu c261_many a282 v1 a281 p0 p1 p2 p3 hr_a282 hr_a281 fu hfu
