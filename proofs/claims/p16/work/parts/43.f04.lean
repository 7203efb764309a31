set_option maxHeartbeats 4000000 in
set_option maxRecDepth 10000 in
theorem t50_X12_digit_g3 (fu : Nat) (hfu : 1000000000000 ≤ fu) (c2_groups : Int32) (a63 : Nat → Int32) (v1 : Int32) (v2 : Int32) (p0 : c2_groups.toInt ≤ 3) (p1 : 3 ≤ c2_groups.toInt) (p2 : 0 ≤ v1.toInt) (p3 : v1.toInt ≤ 63) (p4 : 0 ≤ v2.toInt) (p5 : v2.toInt ≤ 2) (hr_a63 : dz_pt a63 [1, 4, 16]) : dz_T (f50_X12_digit fu c2_groups a63 v1 v2) (fun r => r.toInt ≤ 3 ∧ 0 ≤ r.toInt ∧ r.toInt ≤ v1.toInt ∧ (r.toInt = ((dz_dg 3 v1.toInt.toNat v2.toInt.toNat : Nat) : Int))) := by
  unfold f50_X12_digit s50_X12_digit_0
  rcases (show v2.toInt = 0 ∨ v2.toInt = 1 ∨ v2.toInt = 2 by omega) with hs | hs | hs
  · skip
    refine dz_Tin (by omega) (by omega) ?_
    have e1 := dz_ptat (hr_a63) (i := v2) (x := 1) 0 (by omega) (by decide)
    refine dz_Tz (by omega) ?_
    have e2 := dz_l1
    have e3 := dz_add (a := c2_groups) (b := (1 : Int32)) (by omega) (by omega)
    refine dz_Tz (by omega) ?_
    have e4 := dz_divn (a := v1) (b := (a63 v2.toNatClampNeg)) 1 (by omega) (by omega) (by omega)
    have e5 := dz_remn (a := (v1 / (a63 v2.toNatClampNeg))) (b := (c2_groups + (1 : Int32))) 4 (by omega) (by omega) (by omega)
    exact dz_Ts ⟨(by omega), (by omega), (by omega), (by first | exact dz_dgk 0 (by omega) 1 4 (by decide) (by decide) (by omega) (by omega) | exact dz_dgk 1 (by omega) 4 4 (by decide) (by decide) (by omega) (by omega) | exact dz_dgk 2 (by omega) 16 4 (by decide) (by decide) (by omega) (by omega))⟩
  · skip
    refine dz_Tin (by omega) (by omega) ?_
    have e6 := dz_ptat (hr_a63) (i := v2) (x := 4) 1 (by omega) (by decide)
    refine dz_Tz (by omega) ?_
    have e7 := dz_l1
    have e8 := dz_add (a := c2_groups) (b := (1 : Int32)) (by omega) (by omega)
    refine dz_Tz (by omega) ?_
    have e9 := dz_divn (a := v1) (b := (a63 v2.toNatClampNeg)) 4 (by omega) (by omega) (by omega)
    have e10 := dz_remn (a := (v1 / (a63 v2.toNatClampNeg))) (b := (c2_groups + (1 : Int32))) 4 (by omega) (by omega) (by omega)
    exact dz_Ts ⟨(by omega), (by omega), (by omega), (by first | exact dz_dgk 0 (by omega) 1 4 (by decide) (by decide) (by omega) (by omega) | exact dz_dgk 1 (by omega) 4 4 (by decide) (by decide) (by omega) (by omega) | exact dz_dgk 2 (by omega) 16 4 (by decide) (by decide) (by omega) (by omega))⟩
  · skip
    refine dz_Tin (by omega) (by omega) ?_
    have e11 := dz_ptat (hr_a63) (i := v2) (x := 16) 2 (by omega) (by decide)
    refine dz_Tz (by omega) ?_
    have e12 := dz_l1
    have e13 := dz_add (a := c2_groups) (b := (1 : Int32)) (by omega) (by omega)
    refine dz_Tz (by omega) ?_
    have e14 := dz_divn (a := v1) (b := (a63 v2.toNatClampNeg)) 16 (by omega) (by omega) (by omega)
    have e15 := dz_remn (a := (v1 / (a63 v2.toNatClampNeg))) (b := (c2_groups + (1 : Int32))) 4 (by omega) (by omega) (by omega)
    exact dz_Ts ⟨(by omega), (by omega), (by omega), (by first | exact dz_dgk 0 (by omega) 1 4 (by decide) (by decide) (by omega) (by omega) | exact dz_dgk 1 (by omega) 4 4 (by decide) (by decide) (by omega) (by omega) | exact dz_dgk 2 (by omega) 16 4 (by decide) (by decide) (by omega) (by omega))⟩
abbrev p51_X12_agreeing_g3 (fu : Nat) (c2_groups : Int32) (a62 : Nat → Int32) (a63 : Nat → Int32) (gh_v2 : Int32) (k : Nat) : Prop :=
  (∀ (v1 : Int32) (v3 : Int32) (v4 : Int32), v1.toInt ≤ 63 → 0 ≤ v1.toInt → v3.toInt ≤ 16777215 → 0 ≤ v3.toInt → v4.toInt ≤ 3 → 0 ≤ v4.toInt → dz_ag 3 a62 v1.toInt.toNat gh_v2 v3 v4.toInt.toNat → 0 + 0 + (3 - v4.toInt) * 12 + 6 ≤ ((k : Nat) : Int) → dz_T ((F51_X12_agreeing fu c2_groups a62 a63 k).1 v1 v3 v4) (fun r => r.toInt ≤ 16777215 ∧ 0 ≤ r.toInt ∧ (dz_ag 3 a62 v1.toInt.toNat gh_v2 r 3)))
set_option maxHeartbeats 4000000 in
set_option maxRecDepth 10000 in
theorem t51_X12_agreeing_h1_g3 (fu : Nat) (hfu : 1000000000000 ≤ fu) (c2_groups : Int32) (a62 : Nat → Int32) (a63 : Nat → Int32) (gh_v2 : Int32) (p0 : c2_groups.toInt ≤ 3) (p1 : 3 ≤ c2_groups.toInt) (hr_a62 : dz_rg a62 16 0 16777215) (hr_a63 : dz_pt a63 [1, 4, 16]) (k : Nat) (ih : ∀ j9, j9 < k → p51_X12_agreeing_g3 fu c2_groups a62 a63 gh_v2 j9) : ∀ (v1 : Int32) (v3 : Int32) (v4 : Int32), v1.toInt ≤ 63 → 0 ≤ v1.toInt → v3.toInt ≤ 16777215 → 0 ≤ v3.toInt → v4.toInt ≤ 3 → 0 ≤ v4.toInt → dz_ag 3 a62 v1.toInt.toNat gh_v2 v3 v4.toInt.toNat → 0 + 0 + (3 - v4.toInt) * 12 + 6 ≤ ((k : Nat) : Int) → dz_T ((F51_X12_agreeing fu c2_groups a62 a63 k).1 v1 v3 v4) (fun r => r.toInt ≤ 16777215 ∧ 0 ≤ r.toInt ∧ (dz_ag 3 a62 v1.toInt.toNat gh_v2 r 3)) := by
  intro v1 v3 v4 i0 i1 i2 i3 i4 i5 x0 hm
  obtain ⟨k0, rfl⟩ : ∃ x, k = x + 1 := ⟨k - 1, by omega⟩
  show dz_T (s51_X12_agreeing_1 fu c2_groups a62 a63 (F51_X12_agreeing fu c2_groups a62 a63 k0).2  v1 v3 v4) _
  unfold s51_X12_agreeing_1
  refine dz_Tle (fun h1 => ?_) (fun h1 => ?_)
  · skip
    exact dz_Ts ⟨i2, i3, (dz_agm x0 (by omega))⟩
  · skip
    refine dz_Tb (t50_X12_digit_g3 fu hfu _ _ _ _ p0 p1 i1 i0 i5 (by first | assumption | omega) (hr_a63)) (fun r1 q => ?_)
    obtain ⟨q1_0, q1_1, q1_2, qo1_0⟩ := q
    refine dz_Tle (fun h2 => ?_) (fun h2 => ?_)
    · skip
      obtain ⟨k1, rfl⟩ : ∃ x, k0 = x + 1 := ⟨k0 - 1, by omega⟩
      show dz_T (s51_X12_agreeing_2 fu c2_groups a62 a63 (F51_X12_agreeing fu c2_groups a62 a63 k1).1 v1 v3 v4) _
      unfold s51_X12_agreeing_2
      have e3 := dz_l1
      have e4 := dz_add (a := v4) (b := (1 : Int32)) (by omega) (by omega)
      exact (ih k1 (by omega)) v1 v3 (v4 + (1 : Int32)) i0 i1 i2 i3 (by omega) (by omega) (by first | exact dz_ag0 (by omega) | exact dz_ags x0 (by omega) (by omega) (by omega) qo2_0 (by omega) (by omega) | exact dz_agn x0 (by omega) (by omega) qo1_0 (by omega)) (by omega)
    · skip
      refine dz_Tb (t50_X12_digit_g3 fu hfu _ _ _ _ p0 p1 i1 i0 i5 (by first | assumption | omega) (hr_a63)) (fun r2 q => ?_)
      obtain ⟨q2_0, q2_1, q2_2, qo2_0⟩ := q
      have e5 := dz_l4
      have e6 := dz_mull (a := (4 : Int32)) (b := v4) 4 (by omega) (by omega) (by omega)
      have e7 := dz_add (a := ((4 : Int32) * v4)) (b := r2) (by omega) (by omega)
      refine dz_Tin (by omega) (by omega) ?_
      obtain ⟨k2, rfl⟩ : ∃ x, k0 = x + 1 := ⟨k0 - 1, by omega⟩
      show dz_T (s51_X12_agreeing_2 fu c2_groups a62 a63 (F51_X12_agreeing fu c2_groups a62 a63 k2).1 v1 (v3 &&& (a62 (((4 : Int32) * v4) + r2).toNatClampNeg)) v4) _
      unfold s51_X12_agreeing_2
      have e8 := dz_rgat (hr_a62) (i := (((4 : Int32) * v4) + r2)) (by omega) (by omega)
      have e9 := dz_andr (a := v3) (b := (a62 (((4 : Int32) * v4) + r2).toNatClampNeg)) (by omega)
      have e10 := dz_andl (a := v3) (b := (a62 (((4 : Int32) * v4) + r2).toNatClampNeg)) (by omega)
      have e11 := dz_l1
      have e12 := dz_add (a := v4) (b := (1 : Int32)) (by omega) (by omega)
      exact (ih k2 (by omega)) v1 (v3 &&& (a62 (((4 : Int32) * v4) + r2).toNatClampNeg)) (v4 + (1 : Int32)) i0 i1 (by omega) (by omega) (by omega) (by omega) (by first | exact dz_ag0 (by omega) | exact dz_ags x0 (by omega) (by omega) (by omega) qo2_0 (by omega) (by omega) | exact dz_agn x0 (by omega) (by omega) qo1_0 (by omega)) (by omega)
theorem t51_X12_agreeing_I_g3 (fu : Nat) (hfu : 1000000000000 ≤ fu) (c2_groups : Int32) (a62 : Nat → Int32) (a63 : Nat → Int32) (gh_v2 : Int32) (p0 : c2_groups.toInt ≤ 3) (p1 : 3 ≤ c2_groups.toInt) (hr_a62 : dz_rg a62 16 0 16777215) (hr_a63 : dz_pt a63 [1, 4, 16]) (k : Nat) : p51_X12_agreeing_g3 fu c2_groups a62 a63 gh_v2 k := by
  induction k using Nat.strongRecOn with
  | _ k ih => exact t51_X12_agreeing_h1_g3 fu hfu c2_groups a62 a63 gh_v2 p0 p1 hr_a62 hr_a63 k ih
set_option maxHeartbeats 4000000 in
set_option maxRecDepth 10000 in
theorem t51_X12_agreeing_E_g3 (fu : Nat) (hfu : 1000000000000 ≤ fu) (c2_groups : Int32) (a62 : Nat → Int32) (a63 : Nat → Int32) (v1 : Int32) (v2 : Int32) (p0 : c2_groups.toInt ≤ 3) (p1 : 3 ≤ c2_groups.toInt) (p2 : 0 ≤ v1.toInt) (p3 : v1.toInt ≤ 63) (p4 : 0 ≤ v2.toInt) (p5 : v2.toInt ≤ 16777215) (hr_a62 : dz_rg a62 16 0 16777215) (hr_a63 : dz_pt a63 [1, 4, 16]) (kv : Nat) (hkv : 1000000000000 ≤ kv) : dz_T (s51_X12_agreeing_0 fu c2_groups a62 a63 (F51_X12_agreeing fu c2_groups a62 a63 kv).1  v1 v2) (fun r => r.toInt ≤ 16777215 ∧ 0 ≤ r.toInt ∧ (dz_ag 3 a62 v1.toInt.toNat v2 r 3)) := by
  unfold s51_X12_agreeing_0
  have e1 := dz_l0
  exact (t51_X12_agreeing_I_g3 fu hfu c2_groups a62 a63 v2 p0 p1 hr_a62 hr_a63 kv) v1 v2 (0 : Int32) p3 p2 p5 p4 (by omega) (by omega) (by first | exact dz_ag0 (by omega) | exact dz_ags x0 (by omega) (by omega) (by omega) qo2_0 (by omega) (by omega) | exact dz_agn x0 (by omega) (by omega) qo1_0 (by omega)) (by omega)
theorem t51_X12_agreeing_g3 (fu : Nat) (hfu : 1000000000000 ≤ fu) (c2_groups : Int32) (a62 : Nat → Int32) (a63 : Nat → Int32) (v1 : Int32) (v2 : Int32) (p0 : c2_groups.toInt ≤ 3) (p1 : 3 ≤ c2_groups.toInt) (p2 : 0 ≤ v1.toInt) (p3 : v1.toInt ≤ 63) (p4 : 0 ≤ v2.toInt) (p5 : v2.toInt ≤ 16777215) (hr_a62 : dz_rg a62 16 0 16777215) (hr_a63 : dz_pt a63 [1, 4, 16]) : dz_T (f51_X12_agreeing fu c2_groups a62 a63 v1 v2) (fun r => r.toInt ≤ 16777215 ∧ 0 ≤ r.toInt ∧ (dz_ag 3 a62 v1.toInt.toNat v2 r 3)) :=
  t51_X12_agreeing_E_g3 fu hfu c2_groups a62 a63 v1 v2 p0 p1 p2 p3 p4 p5 hr_a62 hr_a63 fu hfu
abbrev p68_X12_putOne_g3 (fu : Nat) (c2_groups : Int32) (a57 : Nat → Int32) (a62 : Nat → Int32) (a63 : Nat → Int32) (gh_v3 : Int32) (k : Nat) : Prop :=
  (∀ (v1 : Int32) (v2 : Int32) (v4 : Int32) (v5 : Int32), v1.toInt ≤ 63 → 0 ≤ v1.toInt → v2.toInt ≤ 2 → 0 ≤ v2.toInt → v4.toInt ≤ 16777215 → 0 ≤ v4.toInt → v5.toInt ≤ 3 → 0 ≤ v5.toInt → dz_pe a57 a62 v4 v2 v5 3 → dz_ag 3 a62 v1.toInt.toNat gh_v3 v4 3 → dz_dg 3 v1.toInt.toNat v2.toInt.toNat = 3 → 0 + 0 + (3 - v5.toInt) * 10 + 5 ≤ ((k : Nat) : Int) → dz_T ((F68_X12_putOne fu c2_groups a57 a62 a63 k) v1 v2 v4 v5) (fun r => r.toInt ≤ 63 ∧ (-48) ≤ r.toInt ∧ (dz_po 3 6 gh_v3 v1.toInt.toNat r.toInt.toNat v2.toInt.toNat) ∧ (0 ≤ r.toInt) ∧ (r.toInt ≤ 63)))
set_option maxHeartbeats 4000000 in
set_option maxRecDepth 10000 in
theorem t68_X12_putOne_h1_g3 (fu : Nat) (hfu : 1000000000000 ≤ fu) (c2_groups : Int32) (a57 : Nat → Int32) (a62 : Nat → Int32) (a63 : Nat → Int32) (gh_v3 : Int32) (p0 : c2_groups.toInt ≤ 3) (p1 : 3 ≤ c2_groups.toInt) (hr_a57 : dz_rg a57 4 0 3) (hr_a62 : dz_rg a62 16 0 16777215) (hr_a63 : dz_pt a63 [1, 4, 16]) (o0 : dz_hv 3 6 a62) (o1 : dz_pm a57 3) (k : Nat) (ih : ∀ j9, j9 < k → p68_X12_putOne_g3 fu c2_groups a57 a62 a63 gh_v3 j9) : ∀ (v1 : Int32) (v2 : Int32) (v4 : Int32) (v5 : Int32), v1.toInt ≤ 63 → 0 ≤ v1.toInt → v2.toInt ≤ 2 → 0 ≤ v2.toInt → v4.toInt ≤ 16777215 → 0 ≤ v4.toInt → v5.toInt ≤ 3 → 0 ≤ v5.toInt → dz_pe a57 a62 v4 v2 v5 3 → dz_ag 3 a62 v1.toInt.toNat gh_v3 v4 3 → dz_dg 3 v1.toInt.toNat v2.toInt.toNat = 3 → 0 + 0 + (3 - v5.toInt) * 10 + 5 ≤ ((k : Nat) : Int) → dz_T ((F68_X12_putOne fu c2_groups a57 a62 a63 k) v1 v2 v4 v5) (fun r => r.toInt ≤ 63 ∧ (-48) ≤ r.toInt ∧ (dz_po 3 6 gh_v3 v1.toInt.toNat r.toInt.toNat v2.toInt.toNat) ∧ (0 ≤ r.toInt) ∧ (r.toInt ≤ 63)) := by
  intro v1 v2 v4 v5 i0 i1 i2 i3 i4 i5 i6 i7 x0 x1 x2 hm
  obtain ⟨k0, rfl⟩ : ∃ x, k = x + 1 := ⟨k - 1, by omega⟩
  show dz_T (s68_X12_putOne_1 fu c2_groups a57 a62 a63 (F68_X12_putOne fu c2_groups a57 a62 a63 k0)  v1 v2 v4 v5) _
  unfold s68_X12_putOne_1
  have hpl := dz_pel x0
  have hl := dz_pmat o1 (i := v5) (by decide) (by omega) (by omega)
  have hdd := dz_dgD3 x2 (by omega) (by omega) (by omega)
  rcases (show v2.toInt = 0 ∨ v2.toInt = 1 ∨ v2.toInt = 2 by omega) with hs | hs | hs
  · skip
    refine dz_Tin (by omega) (by omega) ?_
    have e1 := dz_l4
    have e2 := dz_mull (a := (4 : Int32)) (b := v2) 4 (by omega) (by omega) (by omega)
    have e3 := dz_rgat (hr_a57) (i := v5) (by omega) (by omega)
    have e4 := dz_add (a := ((4 : Int32) * v2)) (b := (a57 v5.toNatClampNeg)) (by omega) (by omega)
    refine dz_Tin (by omega) (by omega) ?_
    have e5 := dz_rgat (hr_a62) (i := (((4 : Int32) * v2) + (a57 v5.toNatClampNeg))) (by omega) (by omega)
    have e6 := dz_andr (a := v4) (b := (a62 (((4 : Int32) * v2) + (a57 v5.toNatClampNeg)).toNatClampNeg)) (by omega)
    have e7 := dz_andl (a := v4) (b := (a62 (((4 : Int32) * v2) + (a57 v5.toNatClampNeg)).toNatClampNeg)) (by omega)
    have e8 := dz_l0
    refine dz_Teq (fun h9 => ?_) (fun h9 => ?_)
    · skip
      have e10 := dz_l1
      have e11 := dz_add (a := v5) (b := (1 : Int32)) (by omega) (by omega)
      exact (ih k0 (by omega)) v1 v2 v4 (v5 + (1 : Int32)) i0 i1 i2 i3 i4 i5 (by omega) (by omega) (by first | exact dz_pe0 (by decide) (by decide) o1 qo1_0 o0 o2 (by omega) (by omega) (by omega) | exact dz_pes (j := ((4 : Int32) * v2) + (a57 v5.toNatClampNeg)) x0 (by omega) (by omega) (by omega) (by omega) (by omega) (by omega)) (by first | exact x1 | exact qo1_0) (by first | exact x2 | exact o3) (by omega)
    · skip
      refine dz_Tin (by omega) (by omega) ?_
      refine dz_Tin (by omega) (by omega) ?_
      have e12 := dz_sub (a := c2_groups) (b := (a57 v5.toNatClampNeg)) (by omega) (by omega)
      have e13 := dz_ptat (hr_a63) (i := v2) (x := 1) 0 (by omega) (by decide)
      have e14 := dz_mulr (a := (c2_groups - (a57 v5.toNatClampNeg))) (b := (a63 v2.toNatClampNeg)) 1 (by omega) (by omega) (by omega)
      have e15 := dz_sub (a := v1) (b := ((c2_groups - (a57 v5.toNatClampNeg)) * (a63 v2.toNatClampNeg))) (by omega) (by omega)
      exact dz_Ts ⟨(by omega), (by omega), (by first | exact dz_poj (a57 := a57) (k := v5) (j := ((4 : Int32) * v2) + (a57 v5.toNatClampNeg)) 0 1 64 (by omega) (by decide) (by decide) (by decide) x1 o0 x2 (by omega) (by omega) (by omega) (by omega) (by assumption) (by omega) (by omega) (by omega) (by omega) | exact dz_poj (a57 := a57) (k := v5) (j := ((4 : Int32) * v2) + (a57 v5.toNatClampNeg)) 1 4 64 (by omega) (by decide) (by decide) (by decide) x1 o0 x2 (by omega) (by omega) (by omega) (by omega) (by assumption) (by omega) (by omega) (by omega) (by omega) | exact dz_poj (a57 := a57) (k := v5) (j := ((4 : Int32) * v2) + (a57 v5.toNatClampNeg)) 2 16 64 (by omega) (by decide) (by decide) (by decide) x1 o0 x2 (by omega) (by omega) (by omega) (by omega) (by assumption) (by omega) (by omega) (by omega) (by omega)), (by omega), (by omega)⟩
  · skip
    refine dz_Tin (by omega) (by omega) ?_
    have e16 := dz_l4
    have e17 := dz_mull (a := (4 : Int32)) (b := v2) 4 (by omega) (by omega) (by omega)
    have e18 := dz_rgat (hr_a57) (i := v5) (by omega) (by omega)
    have e19 := dz_add (a := ((4 : Int32) * v2)) (b := (a57 v5.toNatClampNeg)) (by omega) (by omega)
    refine dz_Tin (by omega) (by omega) ?_
    have e20 := dz_rgat (hr_a62) (i := (((4 : Int32) * v2) + (a57 v5.toNatClampNeg))) (by omega) (by omega)
    have e21 := dz_andr (a := v4) (b := (a62 (((4 : Int32) * v2) + (a57 v5.toNatClampNeg)).toNatClampNeg)) (by omega)
    have e22 := dz_andl (a := v4) (b := (a62 (((4 : Int32) * v2) + (a57 v5.toNatClampNeg)).toNatClampNeg)) (by omega)
    have e23 := dz_l0
    refine dz_Teq (fun h24 => ?_) (fun h24 => ?_)
    · skip
      have e25 := dz_l1
      have e26 := dz_add (a := v5) (b := (1 : Int32)) (by omega) (by omega)
      exact (ih k0 (by omega)) v1 v2 v4 (v5 + (1 : Int32)) i0 i1 i2 i3 i4 i5 (by omega) (by omega) (by first | exact dz_pe0 (by decide) (by decide) o1 qo1_0 o0 o2 (by omega) (by omega) (by omega) | exact dz_pes (j := ((4 : Int32) * v2) + (a57 v5.toNatClampNeg)) x0 (by omega) (by omega) (by omega) (by omega) (by omega) (by omega)) (by first | exact x1 | exact qo1_0) (by first | exact x2 | exact o3) (by omega)
    · skip
      refine dz_Tin (by omega) (by omega) ?_
      refine dz_Tin (by omega) (by omega) ?_
      have e27 := dz_sub (a := c2_groups) (b := (a57 v5.toNatClampNeg)) (by omega) (by omega)
      have e28 := dz_ptat (hr_a63) (i := v2) (x := 4) 1 (by omega) (by decide)
      have e29 := dz_mulr (a := (c2_groups - (a57 v5.toNatClampNeg))) (b := (a63 v2.toNatClampNeg)) 4 (by omega) (by omega) (by omega)
      have e30 := dz_sub (a := v1) (b := ((c2_groups - (a57 v5.toNatClampNeg)) * (a63 v2.toNatClampNeg))) (by omega) (by omega)
      exact dz_Ts ⟨(by omega), (by omega), (by first | exact dz_poj (a57 := a57) (k := v5) (j := ((4 : Int32) * v2) + (a57 v5.toNatClampNeg)) 0 1 64 (by omega) (by decide) (by decide) (by decide) x1 o0 x2 (by omega) (by omega) (by omega) (by omega) (by assumption) (by omega) (by omega) (by omega) (by omega) | exact dz_poj (a57 := a57) (k := v5) (j := ((4 : Int32) * v2) + (a57 v5.toNatClampNeg)) 1 4 64 (by omega) (by decide) (by decide) (by decide) x1 o0 x2 (by omega) (by omega) (by omega) (by omega) (by assumption) (by omega) (by omega) (by omega) (by omega) | exact dz_poj (a57 := a57) (k := v5) (j := ((4 : Int32) * v2) + (a57 v5.toNatClampNeg)) 2 16 64 (by omega) (by decide) (by decide) (by decide) x1 o0 x2 (by omega) (by omega) (by omega) (by omega) (by assumption) (by omega) (by omega) (by omega) (by omega)), (by omega), (by omega)⟩
  · skip
    refine dz_Tin (by omega) (by omega) ?_
    have e31 := dz_l4
    have e32 := dz_mull (a := (4 : Int32)) (b := v2) 4 (by omega) (by omega) (by omega)
    have e33 := dz_rgat (hr_a57) (i := v5) (by omega) (by omega)
    have e34 := dz_add (a := ((4 : Int32) * v2)) (b := (a57 v5.toNatClampNeg)) (by omega) (by omega)
    refine dz_Tin (by omega) (by omega) ?_
    have e35 := dz_rgat (hr_a62) (i := (((4 : Int32) * v2) + (a57 v5.toNatClampNeg))) (by omega) (by omega)
    have e36 := dz_andr (a := v4) (b := (a62 (((4 : Int32) * v2) + (a57 v5.toNatClampNeg)).toNatClampNeg)) (by omega)
    have e37 := dz_andl (a := v4) (b := (a62 (((4 : Int32) * v2) + (a57 v5.toNatClampNeg)).toNatClampNeg)) (by omega)
    have e38 := dz_l0
    refine dz_Teq (fun h39 => ?_) (fun h39 => ?_)
    · skip
      have e40 := dz_l1
      have e41 := dz_add (a := v5) (b := (1 : Int32)) (by omega) (by omega)
      exact (ih k0 (by omega)) v1 v2 v4 (v5 + (1 : Int32)) i0 i1 i2 i3 i4 i5 (by omega) (by omega) (by first | exact dz_pe0 (by decide) (by decide) o1 qo1_0 o0 o2 (by omega) (by omega) (by omega) | exact dz_pes (j := ((4 : Int32) * v2) + (a57 v5.toNatClampNeg)) x0 (by omega) (by omega) (by omega) (by omega) (by omega) (by omega)) (by first | exact x1 | exact qo1_0) (by first | exact x2 | exact o3) (by omega)
    · skip
      refine dz_Tin (by omega) (by omega) ?_
      refine dz_Tin (by omega) (by omega) ?_
      have e42 := dz_sub (a := c2_groups) (b := (a57 v5.toNatClampNeg)) (by omega) (by omega)
      have e43 := dz_ptat (hr_a63) (i := v2) (x := 16) 2 (by omega) (by decide)
      have e44 := dz_mulr (a := (c2_groups - (a57 v5.toNatClampNeg))) (b := (a63 v2.toNatClampNeg)) 16 (by omega) (by omega) (by omega)
      have e45 := dz_sub (a := v1) (b := ((c2_groups - (a57 v5.toNatClampNeg)) * (a63 v2.toNatClampNeg))) (by omega) (by omega)
      exact dz_Ts ⟨(by omega), (by omega), (by first | exact dz_poj (a57 := a57) (k := v5) (j := ((4 : Int32) * v2) + (a57 v5.toNatClampNeg)) 0 1 64 (by omega) (by decide) (by decide) (by decide) x1 o0 x2 (by omega) (by omega) (by omega) (by omega) (by assumption) (by omega) (by omega) (by omega) (by omega) | exact dz_poj (a57 := a57) (k := v5) (j := ((4 : Int32) * v2) + (a57 v5.toNatClampNeg)) 1 4 64 (by omega) (by decide) (by decide) (by decide) x1 o0 x2 (by omega) (by omega) (by omega) (by omega) (by assumption) (by omega) (by omega) (by omega) (by omega) | exact dz_poj (a57 := a57) (k := v5) (j := ((4 : Int32) * v2) + (a57 v5.toNatClampNeg)) 2 16 64 (by omega) (by decide) (by decide) (by decide) x1 o0 x2 (by omega) (by omega) (by omega) (by omega) (by assumption) (by omega) (by omega) (by omega) (by omega)), (by omega), (by omega)⟩
theorem t68_X12_putOne_I_g3 (fu : Nat) (hfu : 1000000000000 ≤ fu) (c2_groups : Int32) (a57 : Nat → Int32) (a62 : Nat → Int32) (a63 : Nat → Int32) (gh_v3 : Int32) (p0 : c2_groups.toInt ≤ 3) (p1 : 3 ≤ c2_groups.toInt) (hr_a57 : dz_rg a57 4 0 3) (hr_a62 : dz_rg a62 16 0 16777215) (hr_a63 : dz_pt a63 [1, 4, 16]) (o0 : dz_hv 3 6 a62) (o1 : dz_pm a57 3) (k : Nat) : p68_X12_putOne_g3 fu c2_groups a57 a62 a63 gh_v3 k := by
  induction k using Nat.strongRecOn with
  | _ k ih => exact t68_X12_putOne_h1_g3 fu hfu c2_groups a57 a62 a63 gh_v3 p0 p1 hr_a57 hr_a62 hr_a63 o0 o1 k ih
set_option maxHeartbeats 4000000 in
set_option maxRecDepth 10000 in
theorem t68_X12_putOne_E_g3 (fu : Nat) (hfu : 1000000000000 ≤ fu) (c2_groups : Int32) (a57 : Nat → Int32) (a62 : Nat → Int32) (a63 : Nat → Int32) (v1 : Int32) (v2 : Int32) (v3 : Int32) (p0 : c2_groups.toInt ≤ 3) (p1 : 3 ≤ c2_groups.toInt) (p2 : 0 ≤ v1.toInt) (p3 : v1.toInt ≤ 63) (p4 : 0 ≤ v2.toInt) (p5 : v2.toInt ≤ 2) (p6 : 0 ≤ v3.toInt) (p7 : v3.toInt ≤ 16777215) (hr_a57 : dz_rg a57 4 0 3) (hr_a62 : dz_rg a62 16 0 16777215) (hr_a63 : dz_pt a63 [1, 4, 16]) (o0 : dz_hv 3 6 a62) (o1 : dz_pm a57 3) (o2 : dz_me 3 6 v3 v1.toInt.toNat) (o3 : dz_dg 3 v1.toInt.toNat v2.toInt.toNat = 3) (kv : Nat) (hkv : 1000000000000 ≤ kv) : dz_T (s68_X12_putOne_0 fu c2_groups a57 a62 a63 (F68_X12_putOne fu c2_groups a57 a62 a63 kv)  v1 v2 v3) (fun r => r.toInt ≤ 63 ∧ (-48) ≤ r.toInt ∧ (dz_po 3 6 v3 v1.toInt.toNat r.toInt.toNat v2.toInt.toNat) ∧ (0 ≤ r.toInt) ∧ (r.toInt ≤ 63)) := by
  unfold s68_X12_putOne_0
  refine dz_Tb (t51_X12_agreeing_g3 fu hfu _ _ _ _ _ p0 p1 p2 p3 p6 p7 (hr_a62) (hr_a63)) (fun r1 q => ?_)
  obtain ⟨q1_0, q1_1, qo1_0⟩ := q
  have e1 := dz_l0
  exact (t68_X12_putOne_I_g3 fu hfu c2_groups a57 a62 a63 v3 p0 p1 hr_a57 hr_a62 hr_a63 o0 o1 kv) v1 v2 r1 (0 : Int32) p3 p2 p5 p4 q1_0 q1_1 (by omega) (by omega) (by first | exact dz_pe0 (by decide) (by decide) o1 qo1_0 o0 o2 (by omega) (by omega) (by omega) | exact dz_pes (j := ((4 : Int32) * v2) + (a57 v5.toNatClampNeg)) x0 (by omega) (by omega) (by omega) (by omega) (by omega) (by omega)) (by first | exact x1 | exact qo1_0) (by first | exact x2 | exact o3) (by omega)
theorem t68_X12_putOne_g3 (fu : Nat) (hfu : 1000000000000 ≤ fu) (c2_groups : Int32) (a57 : Nat → Int32) (a62 : Nat → Int32) (a63 : Nat → Int32) (v1 : Int32) (v2 : Int32) (v3 : Int32) (p0 : c2_groups.toInt ≤ 3) (p1 : 3 ≤ c2_groups.toInt) (p2 : 0 ≤ v1.toInt) (p3 : v1.toInt ≤ 63) (p4 : 0 ≤ v2.toInt) (p5 : v2.toInt ≤ 2) (p6 : 0 ≤ v3.toInt) (p7 : v3.toInt ≤ 16777215) (hr_a57 : dz_rg a57 4 0 3) (hr_a62 : dz_rg a62 16 0 16777215) (hr_a63 : dz_pt a63 [1, 4, 16]) (o0 : dz_hv 3 6 a62) (o1 : dz_pm a57 3) (o2 : dz_me 3 6 v3 v1.toInt.toNat) (o3 : dz_dg 3 v1.toInt.toNat v2.toInt.toNat = 3) : dz_T (f68_X12_putOne fu c2_groups a57 a62 a63 v1 v2 v3) (fun r => r.toInt ≤ 63 ∧ (-48) ≤ r.toInt ∧ (dz_po 3 6 v3 v1.toInt.toNat r.toInt.toNat v2.toInt.toNat) ∧ (0 ≤ r.toInt) ∧ (r.toInt ≤ 63)) :=
  t68_X12_putOne_E_g3 fu hfu c2_groups a57 a62 a63 v1 v2 v3 p0 p1 p2 p3 p4 p5 p6 p7 hr_a57 hr_a62 hr_a63 o0 o1 o2 o3 fu hfu
abbrev p55_X12_rankOf_g3 (fu : Nat) (c2_groups : Int32) (c2_ranks : Int32) (a62 : Nat → Int32) (a63 : Nat → Int32) (gh_v1 : Int32) (k : Nat) : Prop :=
  (∀ (v2 : Int32) (v3 : Int32), v2.toInt ≤ 16777215 → 0 ≤ v2.toInt → v3.toInt ≤ 6 → 0 ≤ v3.toInt → dz_be v2 v3 6 → dz_bs 3 6 gh_v1.toInt.toNat v2 → 0 + 0 + (6 - v3.toInt) * 10 + 5 ≤ ((k : Nat) : Int) → dz_T ((F55_X12_rankOf fu c2_groups c2_ranks a62 a63 k) v2 v3) (fun r => r.toInt ≤ 6 ∧ 0 ≤ r.toInt ∧ (r.toInt ≤ 5) ∧ (dz_ft 3 gh_v1.toInt.toNat r.toInt.toNat)))
set_option maxHeartbeats 4000000 in
set_option maxRecDepth 10000 in
theorem t55_X12_rankOf_h1_g3 (fu : Nat) (hfu : 1000000000000 ≤ fu) (c2_groups : Int32) (c2_ranks : Int32) (a62 : Nat → Int32) (a63 : Nat → Int32) (gh_v1 : Int32) (p0 : c2_groups.toInt ≤ 3) (p1 : 3 ≤ c2_groups.toInt) (p2 : c2_ranks.toInt ≤ 6) (p3 : 6 ≤ c2_ranks.toInt) (hr_a62 : dz_rg a62 16 0 16777215) (hr_a63 : dz_pt a63 [1, 4, 16]) (o0 : dz_hv 3 6 a62) (k : Nat) (ih : ∀ j9, j9 < k → p55_X12_rankOf_g3 fu c2_groups c2_ranks a62 a63 gh_v1 j9) : ∀ (v2 : Int32) (v3 : Int32), v2.toInt ≤ 16777215 → 0 ≤ v2.toInt → v3.toInt ≤ 6 → 0 ≤ v3.toInt → dz_be v2 v3 6 → dz_bs 3 6 gh_v1.toInt.toNat v2 → 0 + 0 + (6 - v3.toInt) * 10 + 5 ≤ ((k : Nat) : Int) → dz_T ((F55_X12_rankOf fu c2_groups c2_ranks a62 a63 k) v2 v3) (fun r => r.toInt ≤ 6 ∧ 0 ≤ r.toInt ∧ (r.toInt ≤ 5) ∧ (dz_ft 3 gh_v1.toInt.toNat r.toInt.toNat)) := by
  intro v2 v3 i0 i1 i2 i3 x0 x1 hm
  obtain ⟨k0, rfl⟩ : ∃ x, k = x + 1 := ⟨k - 1, by omega⟩
  show dz_T (s55_X12_rankOf_1 fu c2_groups c2_ranks a62 a63 (F55_X12_rankOf fu c2_groups c2_ranks a62 a63 k0)  v2 v3) _
  unfold s55_X12_rankOf_1
  have hbe := dz_bel x0
  have e1 := dz_l31
  have e2 := dz_andr (a := v3) (b := (31 : Int32)) (by omega)
  have e3 := dz_andl (a := v3) (b := (31 : Int32)) (by omega)
  have e4 := dz_shr (a := v2) (b := (v3 &&& (31 : Int32))) (by omega)
  have e5 := dz_l1
  have e6 := dz_andr (a := (v2 >>> (v3 &&& (31 : Int32)))) (b := (1 : Int32)) (by omega)
  have e7 := dz_andl (a := (v2 >>> (v3 &&& (31 : Int32)))) (b := (1 : Int32)) (by omega)
  have e8 := dz_l0
  refine dz_Teq (fun h9 => ?_) (fun h9 => ?_)
  · skip
    have e10 := dz_add (a := v3) (b := (1 : Int32)) (by omega) (by omega)
    exact (ih k0 (by omega)) v2 (v3 + (1 : Int32)) i0 i1 (by omega) (by omega) (by first | exact dz_be0 (by decide) (by decide) (by omega) qo1_0 o0 o1 (by omega) | exact dz_bes x0 (by omega) (by omega) (by omega) (by omega)) (by first | exact x1 | exact dz_bs0 qo1_0 o0) (by omega)
  · skip
    exact dz_Ts ⟨i2, i3, (by omega), (dz_bsr x1 (by omega) (by omega) (by omega) (by omega))⟩
theorem t55_X12_rankOf_I_g3 (fu : Nat) (hfu : 1000000000000 ≤ fu) (c2_groups : Int32) (c2_ranks : Int32) (a62 : Nat → Int32) (a63 : Nat → Int32) (gh_v1 : Int32) (p0 : c2_groups.toInt ≤ 3) (p1 : 3 ≤ c2_groups.toInt) (p2 : c2_ranks.toInt ≤ 6) (p3 : 6 ≤ c2_ranks.toInt) (hr_a62 : dz_rg a62 16 0 16777215) (hr_a63 : dz_pt a63 [1, 4, 16]) (o0 : dz_hv 3 6 a62) (k : Nat) : p55_X12_rankOf_g3 fu c2_groups c2_ranks a62 a63 gh_v1 k := by
  induction k using Nat.strongRecOn with
  | _ k ih => exact t55_X12_rankOf_h1_g3 fu hfu c2_groups c2_ranks a62 a63 gh_v1 p0 p1 p2 p3 hr_a62 hr_a63 o0 k ih
set_option maxHeartbeats 4000000 in
set_option maxRecDepth 10000 in
theorem t55_X12_rankOf_E_g3 (fu : Nat) (hfu : 1000000000000 ≤ fu) (c2_groups : Int32) (c2_ranks : Int32) (a62 : Nat → Int32) (a63 : Nat → Int32) (v1 : Int32) (p0 : c2_groups.toInt ≤ 3) (p1 : 3 ≤ c2_groups.toInt) (p2 : c2_ranks.toInt ≤ 6) (p3 : 6 ≤ c2_ranks.toInt) (p4 : 0 ≤ v1.toInt) (p5 : v1.toInt ≤ 63) (hr_a62 : dz_rg a62 16 0 16777215) (hr_a63 : dz_pt a63 [1, 4, 16]) (o0 : dz_hv 3 6 a62) (o1 : dz_fe 3 6 v1.toInt.toNat) (kv : Nat) (hkv : 1000000000000 ≤ kv) : dz_T (s55_X12_rankOf_0 fu c2_groups c2_ranks a62 a63 (F55_X12_rankOf fu c2_groups c2_ranks a62 a63 kv)  v1) (fun r => r.toInt ≤ 6 ∧ 0 ≤ r.toInt ∧ (r.toInt ≤ 5) ∧ (dz_ft 3 v1.toInt.toNat r.toInt.toNat)) := by
  unfold s55_X12_rankOf_0
  have e1 := dz_l1
  have e2 := dz_l31
  have e3 := dz_andr (a := c2_ranks) (b := (31 : Int32)) (by omega)
  have e4 := dz_andl (a := c2_ranks) (b := (31 : Int32)) (by omega)
  have e5 := dz_shl1 (b := c2_ranks) 6 6 (by omega) (by omega) (by omega)
  have e6 := dz_sub (a := ((1 : Int32) <<< (c2_ranks &&& (31 : Int32)))) (b := (1 : Int32)) (by omega) (by omega)
  refine dz_Tb (t51_X12_agreeing_g3 fu hfu _ _ _ _ _ p0 p1 p4 p5 (by omega) (by omega) (hr_a62) (hr_a63)) (fun r1 q => ?_)
  obtain ⟨q1_0, q1_1, qo1_0⟩ := q
  have e7 := dz_l0
  exact (t55_X12_rankOf_I_g3 fu hfu c2_groups c2_ranks a62 a63 v1 p0 p1 p2 p3 hr_a62 hr_a63 o0 kv) r1 (0 : Int32) q1_0 q1_1 (by omega) (by omega) (by first | exact dz_be0 (by decide) (by decide) (by omega) qo1_0 o0 o1 (by omega) | exact dz_bes x0 (by omega) (by omega) (by omega) (by omega)) (by first | exact x1 | exact dz_bs0 qo1_0 o0) (by omega)
theorem t55_X12_rankOf_g3 (fu : Nat) (hfu : 1000000000000 ≤ fu) (c2_groups : Int32) (c2_ranks : Int32) (a62 : Nat → Int32) (a63 : Nat → Int32) (v1 : Int32) (p0 : c2_groups.toInt ≤ 3) (p1 : 3 ≤ c2_groups.toInt) (p2 : c2_ranks.toInt ≤ 6) (p3 : 6 ≤ c2_ranks.toInt) (p4 : 0 ≤ v1.toInt) (p5 : v1.toInt ≤ 63) (hr_a62 : dz_rg a62 16 0 16777215) (hr_a63 : dz_pt a63 [1, 4, 16]) (o0 : dz_hv 3 6 a62) (o1 : dz_fe 3 6 v1.toInt.toNat) : dz_T (f55_X12_rankOf fu c2_groups c2_ranks a62 a63 v1) (fun r => r.toInt ≤ 6 ∧ 0 ≤ r.toInt ∧ (r.toInt ≤ 5) ∧ (dz_ft 3 v1.toInt.toNat r.toInt.toNat)) :=
  t55_X12_rankOf_E_g3 fu hfu c2_groups c2_ranks a62 a63 v1 p0 p1 p2 p3 p4 p5 hr_a62 hr_a63 o0 o1 fu hfu
abbrev p69_X12_put_g3 (fu : Nat) (c2_groups : Int32) (c2_ranks : Int32) (c2_parts : Int32) (a48 : Nat → Int32) (a57 : Nat → Int32) (a58 : Nat → Int32) (a59 : Nat → Int32) (a62 : Nat → Int32) (a63 : Nat → Int32) (k : Nat) : Prop :=
  (∀ (v1 : Int32) (v2 : Int32) (v3 : Int32) (v4 : Int32) (v5 : Int32), v1.toInt ≤ 3 → 0 ≤ v1.toInt → v2.toInt ≤ 1295 → 0 ≤ v2.toInt → v3.toInt ≤ 5 → 0 ≤ v3.toInt → v4.toInt ≤ 63 → 0 ≤ v4.toInt → v5.toInt ≤ 3 → 0 ≤ v5.toInt → dz_me 3 6 (a59 ((a58 v1.toNatClampNeg) + v2).toNatClampNeg) v4.toInt.toNat → dz_dn 3 v3.toInt.toNat v4.toInt.toNat v5.toInt.toNat → 0 ≤ ((a58 v1.toNatClampNeg) + v2).toInt ∧ ((a58 v1.toNatClampNeg) + v2).toInt < 14425 → 0 + 0 + (3 - v5.toInt) * 10 + 5 ≤ ((k : Nat) : Int) → dz_T ((F69_X12_put fu c2_groups c2_ranks c2_parts a48 a57 a58 a59 a62 a63 k) v1 v2 v3 v4 v5) (fun r => r.toInt ≤ 6 ∧ 0 ≤ r.toInt ∧ (r.toInt ≤ 5) ∧ (dz_bit (a59 ((a58 v1.toNatClampNeg) + v2).toNatClampNeg) r.toInt.toNat)))
set_option maxHeartbeats 4000000 in
set_option maxRecDepth 10000 in
theorem t69_X12_put_h1_g3 (fu : Nat) (hfu : 1000000000000 ≤ fu) (c2_groups : Int32) (c2_ranks : Int32) (c2_parts : Int32) (a48 : Nat → Int32) (a57 : Nat → Int32) (a58 : Nat → Int32) (a59 : Nat → Int32) (a62 : Nat → Int32) (a63 : Nat → Int32) (p0 : c2_groups.toInt ≤ 3) (p1 : 3 ≤ c2_groups.toInt) (p2 : c2_ranks.toInt ≤ 6) (p3 : 6 ≤ c2_ranks.toInt) (p4 : c2_parts.toInt ≤ 64) (p5 : 64 ≤ c2_parts.toInt) (hr_a48 : dz_rg a48 100 0 3) (hr_a57 : dz_rg a57 4 0 3) (hr_a59 : dz_rg a59 14425 0 16777215) (hr_a62 : dz_rg a62 16 0 16777215) (hr_a63 : dz_pt a63 [1, 4, 16]) (o0 : dz_hv 3 6 a62) (o1 : dz_pm a57 3) (o2 : dz_rw 3 6 a48) (k : Nat) (ih : ∀ j9, j9 < k → p69_X12_put_g3 fu c2_groups c2_ranks c2_parts a48 a57 a58 a59 a62 a63 j9) : ∀ (v1 : Int32) (v2 : Int32) (v3 : Int32) (v4 : Int32) (v5 : Int32), v1.toInt ≤ 3 → 0 ≤ v1.toInt → v2.toInt ≤ 1295 → 0 ≤ v2.toInt → v3.toInt ≤ 5 → 0 ≤ v3.toInt → v4.toInt ≤ 63 → 0 ≤ v4.toInt → v5.toInt ≤ 3 → 0 ≤ v5.toInt → dz_me 3 6 (a59 ((a58 v1.toNatClampNeg) + v2).toNatClampNeg) v4.toInt.toNat → dz_dn 3 v3.toInt.toNat v4.toInt.toNat v5.toInt.toNat → 0 ≤ ((a58 v1.toNatClampNeg) + v2).toInt ∧ ((a58 v1.toNatClampNeg) + v2).toInt < 14425 → 0 + 0 + (3 - v5.toInt) * 10 + 5 ≤ ((k : Nat) : Int) → dz_T ((F69_X12_put fu c2_groups c2_ranks c2_parts a48 a57 a58 a59 a62 a63 k) v1 v2 v3 v4 v5) (fun r => r.toInt ≤ 6 ∧ 0 ≤ r.toInt ∧ (r.toInt ≤ 5) ∧ (dz_bit (a59 ((a58 v1.toNatClampNeg) + v2).toNatClampNeg) r.toInt.toNat)) := by
  intro v1 v2 v3 v4 v5 i0 i1 i2 i3 i4 i5 i6 i7 i8 i9 x0 x1 x2 hm
  obtain ⟨k0, rfl⟩ : ∃ x, k = x + 1 := ⟨k - 1, by omega⟩
  show dz_T (s69_X12_put_1 fu c2_groups c2_ranks c2_parts a48 a57 a58 a59 a62 a63 (F69_X12_put fu c2_groups c2_ranks c2_parts a48 a57 a58 a59 a62 a63 k0)  v1 v2 v3 v4 v5) _
  unfold s69_X12_put_1
  have hrow := dz_rwat (r := v3) (i := v5) (by decide) (by decide) o2 (by omega)
  refine dz_Tle (fun h1 => ?_) (fun h1 => ?_)
  · skip
    refine dz_Tb (t55_X12_rankOf_g3 fu hfu _ _ _ _ _ p0 p1 p2 p3 i7 i6 (hr_a62) (hr_a63) o0 (dz_mf x0)) (fun r1 q => ?_)
    obtain ⟨q1_0, q1_1, qo1_0, qo1_1⟩ := q
    exact dz_Ts ⟨q1_0, q1_1, (by omega), (dz_putR (by decide) (by decide) x0 x1 (by omega) (by omega) (by omega) qo1_1)⟩
  · skip
    have e2 := dz_l4
    have e3 := dz_mull (a := (4 : Int32)) (b := v3) 4 (by omega) (by omega) (by omega)
    have e4 := dz_add (a := ((4 : Int32) * v3)) (b := v5) (by omega) (by omega)
    refine dz_Tin (by omega) (by omega) ?_
    refine dz_Tin (by omega) (by omega) ?_
    have e5 := dz_rng (a58 v1.toNatClampNeg)
    refine dz_Tin (by omega) (by omega) ?_
    have e6 := dz_rgat (hr_a48) (i := (((4 : Int32) * v3) + v5)) (by omega) (by omega)
    have e7 := dz_rgat (hr_a59) (i := ((a58 v1.toNatClampNeg) + v2)) (by omega) (by omega)
    refine dz_Tb (t68_X12_putOne_g3 fu hfu _ _ _ _ _ _ _ p0 p1 i7 i6 (by omega) (by omega) (by omega) (by omega) (hr_a57) (hr_a62) (hr_a63) o0 o1 (x0) (dz_dng x1 (by omega) (by omega))) (fun r2 q => ?_)
    obtain ⟨q2_0, q2_1, qo2_0, qo2_1, qo2_2⟩ := q
    have e8 := dz_l1
    have e9 := dz_add (a := v5) (b := (1 : Int32)) (by omega) (by omega)
    exact (ih k0 (by omega)) v1 v2 v3 r2 (v5 + (1 : Int32)) i0 i1 i2 i3 i4 i5 q2_0 (by first | assumption | omega) (by omega) (by omega) (by first | exact dz_me0 (by decide) o4 (by show _ = 63; omega) | exact qo2_0.1) (by first | exact dz_dn0 (R := 6) (by decide) (by decide) (by omega) (by show _ = 63; omega) (by omega) | exact dz_dns (R := 6) (w := a48 (((4 : Int32) * v3) + v5).toNatClampNeg) (by decide) (by decide) (by omega) x1 (by omega) (by omega) qo2_0.2 (by omega)) (by assumption) (by omega)
theorem t69_X12_put_I_g3 (fu : Nat) (hfu : 1000000000000 ≤ fu) (c2_groups : Int32) (c2_ranks : Int32) (c2_parts : Int32) (a48 : Nat → Int32) (a57 : Nat → Int32) (a58 : Nat → Int32) (a59 : Nat → Int32) (a62 : Nat → Int32) (a63 : Nat → Int32) (p0 : c2_groups.toInt ≤ 3) (p1 : 3 ≤ c2_groups.toInt) (p2 : c2_ranks.toInt ≤ 6) (p3 : 6 ≤ c2_ranks.toInt) (p4 : c2_parts.toInt ≤ 64) (p5 : 64 ≤ c2_parts.toInt) (hr_a48 : dz_rg a48 100 0 3) (hr_a57 : dz_rg a57 4 0 3) (hr_a59 : dz_rg a59 14425 0 16777215) (hr_a62 : dz_rg a62 16 0 16777215) (hr_a63 : dz_pt a63 [1, 4, 16]) (o0 : dz_hv 3 6 a62) (o1 : dz_pm a57 3) (o2 : dz_rw 3 6 a48) (k : Nat) : p69_X12_put_g3 fu c2_groups c2_ranks c2_parts a48 a57 a58 a59 a62 a63 k := by
  induction k using Nat.strongRecOn with
  | _ k ih => exact t69_X12_put_h1_g3 fu hfu c2_groups c2_ranks c2_parts a48 a57 a58 a59 a62 a63 p0 p1 p2 p3 p4 p5 hr_a48 hr_a57 hr_a59 hr_a62 hr_a63 o0 o1 o2 k ih
set_option maxHeartbeats 4000000 in
set_option maxRecDepth 10000 in
theorem t69_X12_put_E_g3 (fu : Nat) (hfu : 1000000000000 ≤ fu) (c2_groups : Int32) (c2_ranks : Int32) (c2_parts : Int32) (a48 : Nat → Int32) (a57 : Nat → Int32) (a58 : Nat → Int32) (a59 : Nat → Int32) (a62 : Nat → Int32) (a63 : Nat → Int32) (v1 : Int32) (v2 : Int32) (v3 : Int32) (p0 : c2_groups.toInt ≤ 3) (p1 : 3 ≤ c2_groups.toInt) (p2 : c2_ranks.toInt ≤ 6) (p3 : 6 ≤ c2_ranks.toInt) (p4 : 0 ≤ v1.toInt) (p5 : v1.toInt ≤ 3) (p6 : 0 ≤ v2.toInt) (p7 : v2.toInt ≤ 1295) (p8 : 0 ≤ v3.toInt) (p9 : v3.toInt ≤ 5) (p10 : c2_parts.toInt ≤ 64) (p11 : 64 ≤ c2_parts.toInt) (hr_a48 : dz_rg a48 100 0 3) (hr_a57 : dz_rg a57 4 0 3) (hr_a59 : dz_rg a59 14425 0 16777215) (hr_a62 : dz_rg a62 16 0 16777215) (hr_a63 : dz_pt a63 [1, 4, 16]) (o0 : dz_hv 3 6 a62) (o1 : dz_pm a57 3) (o2 : dz_rw 3 6 a48) (o3 : 0 ≤ ((a58 v1.toNatClampNeg) + v2).toInt ∧ ((a58 v1.toNatClampNeg) + v2).toInt < 14425) (o4 : dz_mz 6 (a59 ((a58 v1.toNatClampNeg) + v2).toNatClampNeg)) (kv : Nat) (hkv : 1000000000000 ≤ kv) : dz_T (s69_X12_put_0 fu c2_groups c2_ranks c2_parts a48 a57 a58 a59 a62 a63 (F69_X12_put fu c2_groups c2_ranks c2_parts a48 a57 a58 a59 a62 a63 kv)  v1 v2 v3) (fun r => r.toInt ≤ 6 ∧ 0 ≤ r.toInt ∧ (r.toInt ≤ 5) ∧ (dz_bit (a59 ((a58 v1.toNatClampNeg) + v2).toNatClampNeg) r.toInt.toNat)) := by
  unfold s69_X12_put_0
  have e1 := dz_l1
  have e2 := dz_sub (a := c2_parts) (b := (1 : Int32)) (by omega) (by omega)
  have e3 := dz_l0
  exact (t69_X12_put_I_g3 fu hfu c2_groups c2_ranks c2_parts a48 a57 a58 a59 a62 a63 p0 p1 p2 p3 p10 p11 hr_a48 hr_a57 hr_a59 hr_a62 hr_a63 o0 o1 o2 kv) v1 v2 v3 (c2_parts - (1 : Int32)) (0 : Int32) p5 p4 p7 p6 p9 p8 (by omega) (by omega) (by omega) (by omega) (by first | exact dz_me0 (by decide) o4 (by show _ = 63; omega) | exact qo2_0.1) (by first | exact dz_dn0 (R := 6) (by decide) (by decide) (by omega) (by show _ = 63; omega) (by omega) | exact dz_dns (R := 6) (w := a48 (((4 : Int32) * v3) + v5).toNatClampNeg) (by decide) (by decide) (by omega) x1 (by omega) (by omega) qo2_0.2 (by omega)) (by assumption) (by omega)
theorem t69_X12_put_g3 (fu : Nat) (hfu : 1000000000000 ≤ fu) (c2_groups : Int32) (c2_ranks : Int32) (c2_parts : Int32) (a48 : Nat → Int32) (a57 : Nat → Int32) (a58 : Nat → Int32) (a59 : Nat → Int32) (a62 : Nat → Int32) (a63 : Nat → Int32) (v1 : Int32) (v2 : Int32) (v3 : Int32) (p0 : c2_groups.toInt ≤ 3) (p1 : 3 ≤ c2_groups.toInt) (p2 : c2_ranks.toInt ≤ 6) (p3 : 6 ≤ c2_ranks.toInt) (p4 : 0 ≤ v1.toInt) (p5 : v1.toInt ≤ 3) (p6 : 0 ≤ v2.toInt) (p7 : v2.toInt ≤ 1295) (p8 : 0 ≤ v3.toInt) (p9 : v3.toInt ≤ 5) (p10 : c2_parts.toInt ≤ 64) (p11 : 64 ≤ c2_parts.toInt) (hr_a48 : dz_rg a48 100 0 3) (hr_a57 : dz_rg a57 4 0 3) (hr_a59 : dz_rg a59 14425 0 16777215) (hr_a62 : dz_rg a62 16 0 16777215) (hr_a63 : dz_pt a63 [1, 4, 16]) (o0 : dz_hv 3 6 a62) (o1 : dz_pm a57 3) (o2 : dz_rw 3 6 a48) (o3 : 0 ≤ ((a58 v1.toNatClampNeg) + v2).toInt ∧ ((a58 v1.toNatClampNeg) + v2).toInt < 14425) (o4 : dz_mz 6 (a59 ((a58 v1.toNatClampNeg) + v2).toNatClampNeg)) : dz_T (f69_X12_put fu c2_groups c2_ranks c2_parts a48 a57 a58 a59 a62 a63 v1 v2 v3) (fun r => r.toInt ≤ 6 ∧ 0 ≤ r.toInt ∧ (r.toInt ≤ 5) ∧ (dz_bit (a59 ((a58 v1.toNatClampNeg) + v2).toNatClampNeg) r.toInt.toNat)) :=
  t69_X12_put_E_g3 fu hfu c2_groups c2_ranks c2_parts a48 a57 a58 a59 a62 a63 v1 v2 v3 p0 p1 p2 p3 p4 p5 p6 p7 p8 p9 p10 p11 hr_a48 hr_a57 hr_a59 hr_a62 hr_a63 o0 o1 o2 o3 o4 fu hfu
