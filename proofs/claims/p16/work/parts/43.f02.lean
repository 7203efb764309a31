set_option maxHeartbeats 4000000 in
set_option maxRecDepth 10000 in
theorem t50_X12_digit_g2 (fu : Nat) (hfu : 1000000000000 ≤ fu) (c2_groups : Int32) (a63 : Nat → Int32) (v1 : Int32) (v2 : Int32) (p0 : c2_groups.toInt ≤ 2) (p1 : 2 ≤ c2_groups.toInt) (p2 : 0 ≤ v1.toInt) (p3 : v1.toInt ≤ 8) (p4 : 0 ≤ v2.toInt) (p5 : v2.toInt ≤ 1) (hr_a63 : dz_pt a63 [1, 3]) : dz_T (f50_X12_digit fu c2_groups a63 v1 v2) (fun r => r.toInt ≤ 2 ∧ 0 ≤ r.toInt ∧ r.toInt ≤ v1.toInt ∧ (r.toInt = ((dz_dg 2 v1.toInt.toNat v2.toInt.toNat : Nat) : Int))) := by
  unfold f50_X12_digit s50_X12_digit_0
  rcases (show v2.toInt = 0 ∨ v2.toInt = 1 by omega) with hs | hs
  · skip
    refine dz_Tin (by omega) (by omega) ?_
    have e1 := dz_ptat (hr_a63) (i := v2) (x := 1) 0 (by omega) (by decide)
    refine dz_Tz (by omega) ?_
    have e2 := dz_l1
    have e3 := dz_add (a := c2_groups) (b := (1 : Int32)) (by omega) (by omega)
    refine dz_Tz (by omega) ?_
    have e4 := dz_divn (a := v1) (b := (a63 v2.toNatClampNeg)) 1 (by omega) (by omega) (by omega)
    have e5 := dz_remn (a := (v1 / (a63 v2.toNatClampNeg))) (b := (c2_groups + (1 : Int32))) 3 (by omega) (by omega) (by omega)
    exact dz_Ts ⟨(by omega), (by omega), (by omega), (by first | exact dz_dgk 0 (by omega) 1 3 (by decide) (by decide) (by omega) (by omega) | exact dz_dgk 1 (by omega) 3 3 (by decide) (by decide) (by omega) (by omega))⟩
  · skip
    refine dz_Tin (by omega) (by omega) ?_
    have e6 := dz_ptat (hr_a63) (i := v2) (x := 3) 1 (by omega) (by decide)
    refine dz_Tz (by omega) ?_
    have e7 := dz_l1
    have e8 := dz_add (a := c2_groups) (b := (1 : Int32)) (by omega) (by omega)
    refine dz_Tz (by omega) ?_
    have e9 := dz_divn (a := v1) (b := (a63 v2.toNatClampNeg)) 3 (by omega) (by omega) (by omega)
    have e10 := dz_remn (a := (v1 / (a63 v2.toNatClampNeg))) (b := (c2_groups + (1 : Int32))) 3 (by omega) (by omega) (by omega)
    exact dz_Ts ⟨(by omega), (by omega), (by omega), (by first | exact dz_dgk 0 (by omega) 1 3 (by decide) (by decide) (by omega) (by omega) | exact dz_dgk 1 (by omega) 3 3 (by decide) (by decide) (by omega) (by omega))⟩
abbrev p51_X12_agreeing_g2 (fu : Nat) (c2_groups : Int32) (a62 : Nat → Int32) (a63 : Nat → Int32) (gh_v2 : Int32) (k : Nat) : Prop :=
  (∀ (v1 : Int32) (v3 : Int32) (v4 : Int32), v1.toInt ≤ 8 → 0 ≤ v1.toInt → v3.toInt ≤ 16777215 → 0 ≤ v3.toInt → v4.toInt ≤ 2 → 0 ≤ v4.toInt → dz_ag 2 a62 v1.toInt.toNat gh_v2 v3 v4.toInt.toNat → 0 + 0 + (2 - v4.toInt) * 12 + 6 ≤ ((k : Nat) : Int) → dz_T ((F51_X12_agreeing fu c2_groups a62 a63 k).1 v1 v3 v4) (fun r => r.toInt ≤ 16777215 ∧ 0 ≤ r.toInt ∧ (dz_ag 2 a62 v1.toInt.toNat gh_v2 r 2)))
set_option maxHeartbeats 4000000 in
set_option maxRecDepth 10000 in
theorem t51_X12_agreeing_h1_g2 (fu : Nat) (hfu : 1000000000000 ≤ fu) (c2_groups : Int32) (a62 : Nat → Int32) (a63 : Nat → Int32) (gh_v2 : Int32) (p0 : c2_groups.toInt ≤ 2) (p1 : 2 ≤ c2_groups.toInt) (hr_a62 : dz_rg a62 16 0 16777215) (hr_a63 : dz_pt a63 [1, 3]) (k : Nat) (ih : ∀ j9, j9 < k → p51_X12_agreeing_g2 fu c2_groups a62 a63 gh_v2 j9) : ∀ (v1 : Int32) (v3 : Int32) (v4 : Int32), v1.toInt ≤ 8 → 0 ≤ v1.toInt → v3.toInt ≤ 16777215 → 0 ≤ v3.toInt → v4.toInt ≤ 2 → 0 ≤ v4.toInt → dz_ag 2 a62 v1.toInt.toNat gh_v2 v3 v4.toInt.toNat → 0 + 0 + (2 - v4.toInt) * 12 + 6 ≤ ((k : Nat) : Int) → dz_T ((F51_X12_agreeing fu c2_groups a62 a63 k).1 v1 v3 v4) (fun r => r.toInt ≤ 16777215 ∧ 0 ≤ r.toInt ∧ (dz_ag 2 a62 v1.toInt.toNat gh_v2 r 2)) := by
  intro v1 v3 v4 i0 i1 i2 i3 i4 i5 x0 hm
  obtain ⟨k0, rfl⟩ : ∃ x, k = x + 1 := ⟨k - 1, by omega⟩
  show dz_T (s51_X12_agreeing_1 fu c2_groups a62 a63 (F51_X12_agreeing fu c2_groups a62 a63 k0).2  v1 v3 v4) _
  unfold s51_X12_agreeing_1
  refine dz_Tle (fun h1 => ?_) (fun h1 => ?_)
  · skip
    exact dz_Ts ⟨i2, i3, (dz_agm x0 (by omega))⟩
  · skip
    refine dz_Tb (t50_X12_digit_g2 fu hfu _ _ _ _ p0 p1 i1 i0 i5 (by first | assumption | omega) (hr_a63)) (fun r1 q => ?_)
    obtain ⟨q1_0, q1_1, q1_2, qo1_0⟩ := q
    refine dz_Tle (fun h2 => ?_) (fun h2 => ?_)
    · skip
      obtain ⟨k1, rfl⟩ : ∃ x, k0 = x + 1 := ⟨k0 - 1, by omega⟩
      show dz_T (s51_X12_agreeing_2 fu c2_groups a62 a63 (F51_X12_agreeing fu c2_groups a62 a63 k1).1 v1 v3 v4) _
      unfold s51_X12_agreeing_2
      have e3 := dz_l1
      have e4 := dz_add (a := v4) (b := (1 : Int32)) (by omega) (by omega)
      exact (ih k1 (by omega)) v1 v3 (v4 + (1 : Int32)) i0 i1 i2 i3 (by omega) (by omega) (by first | exact dz_ag0 (by omega) | exact dz_ags x0 (by omega) (by omega) (by omega) qo2_0 (by omega) (by omega) | exact dz_agn x0 (by omega) (by omega) qo1_0 (by omega)) (by omega)
    · skip
      refine dz_Tb (t50_X12_digit_g2 fu hfu _ _ _ _ p0 p1 i1 i0 i5 (by first | assumption | omega) (hr_a63)) (fun r2 q => ?_)
      obtain ⟨q2_0, q2_1, q2_2, qo2_0⟩ := q
      have e5 := dz_l4
      have e6 := dz_mull (a := (4 : Int32)) (b := v4) 4 (by omega) (by omega) (by omega)
      have e7 := dz_add (a := ((4 : Int32) * v4)) (b := r2) (by omega) (by omega)
      refine dz_Tin (by omega) (by omega) ?_
      obtain ⟨k2, rfl⟩ : ∃ x, k0 = x + 1 := ⟨k0 - 1, by omega⟩
      show dz_T (s51_X12_agreeing_2 fu c2_groups a62 a63 (F51_X12_agreeing fu c2_groups a62 a63 k2).1 v1 (v3 &&& (a62 (((4 : Int32) * v4) + r2).toNatClampNeg)) v4) _
      unfold s51_X12_agreeing_2
      have e8 := dz_rgat (hr_a62) (i := (((4 : Int32) * v4) + r2)) (by omega) (by omega)
      have e9 := dz_andr (a := v3) (b := (a62 (((4 : Int32) * v4) + r2).toNatClampNeg)) (by omega)
      have e10 := dz_andl (a := v3) (b := (a62 (((4 : Int32) * v4) + r2).toNatClampNeg)) (by omega)
      have e11 := dz_l1
      have e12 := dz_add (a := v4) (b := (1 : Int32)) (by omega) (by omega)
      exact (ih k2 (by omega)) v1 (v3 &&& (a62 (((4 : Int32) * v4) + r2).toNatClampNeg)) (v4 + (1 : Int32)) i0 i1 (by omega) (by omega) (by omega) (by omega) (by first | exact dz_ag0 (by omega) | exact dz_ags x0 (by omega) (by omega) (by omega) qo2_0 (by omega) (by omega) | exact dz_agn x0 (by omega) (by omega) qo1_0 (by omega)) (by omega)
theorem t51_X12_agreeing_I_g2 (fu : Nat) (hfu : 1000000000000 ≤ fu) (c2_groups : Int32) (a62 : Nat → Int32) (a63 : Nat → Int32) (gh_v2 : Int32) (p0 : c2_groups.toInt ≤ 2) (p1 : 2 ≤ c2_groups.toInt) (hr_a62 : dz_rg a62 16 0 16777215) (hr_a63 : dz_pt a63 [1, 3]) (k : Nat) : p51_X12_agreeing_g2 fu c2_groups a62 a63 gh_v2 k := by
  induction k using Nat.strongRecOn with
  | _ k ih => exact t51_X12_agreeing_h1_g2 fu hfu c2_groups a62 a63 gh_v2 p0 p1 hr_a62 hr_a63 k ih
set_option maxHeartbeats 4000000 in
set_option maxRecDepth 10000 in
theorem t51_X12_agreeing_E_g2 (fu : Nat) (hfu : 1000000000000 ≤ fu) (c2_groups : Int32) (a62 : Nat → Int32) (a63 : Nat → Int32) (v1 : Int32) (v2 : Int32) (p0 : c2_groups.toInt ≤ 2) (p1 : 2 ≤ c2_groups.toInt) (p2 : 0 ≤ v1.toInt) (p3 : v1.toInt ≤ 8) (p4 : 0 ≤ v2.toInt) (p5 : v2.toInt ≤ 16777215) (hr_a62 : dz_rg a62 16 0 16777215) (hr_a63 : dz_pt a63 [1, 3]) (kv : Nat) (hkv : 1000000000000 ≤ kv) : dz_T (s51_X12_agreeing_0 fu c2_groups a62 a63 (F51_X12_agreeing fu c2_groups a62 a63 kv).1  v1 v2) (fun r => r.toInt ≤ 16777215 ∧ 0 ≤ r.toInt ∧ (dz_ag 2 a62 v1.toInt.toNat v2 r 2)) := by
  unfold s51_X12_agreeing_0
  have e1 := dz_l0
  exact (t51_X12_agreeing_I_g2 fu hfu c2_groups a62 a63 v2 p0 p1 hr_a62 hr_a63 kv) v1 v2 (0 : Int32) p3 p2 p5 p4 (by omega) (by omega) (by first | exact dz_ag0 (by omega) | exact dz_ags x0 (by omega) (by omega) (by omega) qo2_0 (by omega) (by omega) | exact dz_agn x0 (by omega) (by omega) qo1_0 (by omega)) (by omega)
theorem t51_X12_agreeing_g2 (fu : Nat) (hfu : 1000000000000 ≤ fu) (c2_groups : Int32) (a62 : Nat → Int32) (a63 : Nat → Int32) (v1 : Int32) (v2 : Int32) (p0 : c2_groups.toInt ≤ 2) (p1 : 2 ≤ c2_groups.toInt) (p2 : 0 ≤ v1.toInt) (p3 : v1.toInt ≤ 8) (p4 : 0 ≤ v2.toInt) (p5 : v2.toInt ≤ 16777215) (hr_a62 : dz_rg a62 16 0 16777215) (hr_a63 : dz_pt a63 [1, 3]) : dz_T (f51_X12_agreeing fu c2_groups a62 a63 v1 v2) (fun r => r.toInt ≤ 16777215 ∧ 0 ≤ r.toInt ∧ (dz_ag 2 a62 v1.toInt.toNat v2 r 2)) :=
  t51_X12_agreeing_E_g2 fu hfu c2_groups a62 a63 v1 v2 p0 p1 p2 p3 p4 p5 hr_a62 hr_a63 fu hfu
abbrev p68_X12_putOne_g2 (fu : Nat) (c2_groups : Int32) (a57 : Nat → Int32) (a62 : Nat → Int32) (a63 : Nat → Int32) (gh_v3 : Int32) (k : Nat) : Prop :=
  (∀ (v1 : Int32) (v2 : Int32) (v4 : Int32) (v5 : Int32), v1.toInt ≤ 8 → 0 ≤ v1.toInt → v2.toInt ≤ 1 → 0 ≤ v2.toInt → v4.toInt ≤ 16777215 → 0 ≤ v4.toInt → v5.toInt ≤ 2 → 0 ≤ v5.toInt → dz_pe a57 a62 v4 v2 v5 2 → dz_ag 2 a62 v1.toInt.toNat gh_v3 v4 2 → dz_dg 2 v1.toInt.toNat v2.toInt.toNat = 2 → 0 + 0 + (2 - v5.toInt) * 10 + 5 ≤ ((k : Nat) : Int) → dz_T ((F68_X12_putOne fu c2_groups a57 a62 a63 k) v1 v2 v4 v5) (fun r => r.toInt ≤ 11 ∧ (-6) ≤ r.toInt ∧ (dz_po 2 2 gh_v3 v1.toInt.toNat r.toInt.toNat v2.toInt.toNat) ∧ (0 ≤ r.toInt) ∧ (r.toInt ≤ 8)))
set_option maxHeartbeats 4000000 in
set_option maxRecDepth 10000 in
theorem t68_X12_putOne_h1_g2 (fu : Nat) (hfu : 1000000000000 ≤ fu) (c2_groups : Int32) (a57 : Nat → Int32) (a62 : Nat → Int32) (a63 : Nat → Int32) (gh_v3 : Int32) (p0 : c2_groups.toInt ≤ 2) (p1 : 2 ≤ c2_groups.toInt) (hr_a57 : dz_rg a57 4 0 3) (hr_a62 : dz_rg a62 16 0 16777215) (hr_a63 : dz_pt a63 [1, 3]) (o0 : dz_hv 2 2 a62) (o1 : dz_pm a57 2) (k : Nat) (ih : ∀ j9, j9 < k → p68_X12_putOne_g2 fu c2_groups a57 a62 a63 gh_v3 j9) : ∀ (v1 : Int32) (v2 : Int32) (v4 : Int32) (v5 : Int32), v1.toInt ≤ 8 → 0 ≤ v1.toInt → v2.toInt ≤ 1 → 0 ≤ v2.toInt → v4.toInt ≤ 16777215 → 0 ≤ v4.toInt → v5.toInt ≤ 2 → 0 ≤ v5.toInt → dz_pe a57 a62 v4 v2 v5 2 → dz_ag 2 a62 v1.toInt.toNat gh_v3 v4 2 → dz_dg 2 v1.toInt.toNat v2.toInt.toNat = 2 → 0 + 0 + (2 - v5.toInt) * 10 + 5 ≤ ((k : Nat) : Int) → dz_T ((F68_X12_putOne fu c2_groups a57 a62 a63 k) v1 v2 v4 v5) (fun r => r.toInt ≤ 11 ∧ (-6) ≤ r.toInt ∧ (dz_po 2 2 gh_v3 v1.toInt.toNat r.toInt.toNat v2.toInt.toNat) ∧ (0 ≤ r.toInt) ∧ (r.toInt ≤ 8)) := by
  intro v1 v2 v4 v5 i0 i1 i2 i3 i4 i5 i6 i7 x0 x1 x2 hm
  obtain ⟨k0, rfl⟩ : ∃ x, k = x + 1 := ⟨k - 1, by omega⟩
  show dz_T (s68_X12_putOne_1 fu c2_groups a57 a62 a63 (F68_X12_putOne fu c2_groups a57 a62 a63 k0)  v1 v2 v4 v5) _
  unfold s68_X12_putOne_1
  have hpl := dz_pel x0
  have hl := dz_pmat o1 (i := v5) (by decide) (by omega) (by omega)
  have hdd := dz_dgD2 x2 (by omega) (by omega) (by omega)
  rcases (show v2.toInt = 0 ∨ v2.toInt = 1 by omega) with hs | hs
  · skip
    refine dz_Tin (by omega) (by omega) ?_
    have e1 := dz_l4
    have e2 := dz_mull (a := (4 : Int32)) (b := v2) 4 (by omega) (by omega) (by omega)
    have e3 := dz_rgat (hr_a57) (i := v5) (by omega) (by omega)
    have e4 := dz_add (a := ((4 : Int32) * v2)) (b := (a57 v5.toNatClampNeg)) (by omega) (by omega)
    refine dz_Tin (by omega) (by omega) ?_
    have e5 := dz_rgat (hr_a62) (i := (((4 : Int32) * v2) + (a57 v5.toNatClampNeg))) (by omega) (by omega)
    have e6 := dz_andr (a := v4) (b := (a62 (((4 : Int32) * v2) + (a57 v5.toNatClampNeg)).toNatClampNeg)) (by omega)
    have e7 := dz_andl (a := v4) (b := (a62 (((4 : Int32) * v2) + (a57 v5.toNatClampNeg)).toNatClampNeg)) (by omega)
    have e8 := dz_l0
    refine dz_Teq (fun h9 => ?_) (fun h9 => ?_)
    · skip
      have e10 := dz_l1
      have e11 := dz_add (a := v5) (b := (1 : Int32)) (by omega) (by omega)
      exact (ih k0 (by omega)) v1 v2 v4 (v5 + (1 : Int32)) i0 i1 i2 i3 i4 i5 (by omega) (by omega) (by first | exact dz_pe0 (by decide) (by decide) o1 qo1_0 o0 o2 (by omega) (by omega) (by omega) | exact dz_pes (j := ((4 : Int32) * v2) + (a57 v5.toNatClampNeg)) x0 (by omega) (by omega) (by omega) (by omega) (by omega) (by omega)) (by first | exact x1 | exact qo1_0) (by first | exact x2 | exact o3) (by omega)
    · skip
      refine dz_Tin (by omega) (by omega) ?_
      refine dz_Tin (by omega) (by omega) ?_
      have e12 := dz_sub (a := c2_groups) (b := (a57 v5.toNatClampNeg)) (by omega) (by omega)
      have e13 := dz_ptat (hr_a63) (i := v2) (x := 1) 0 (by omega) (by decide)
      have e14 := dz_mulr (a := (c2_groups - (a57 v5.toNatClampNeg))) (b := (a63 v2.toNatClampNeg)) 1 (by omega) (by omega) (by omega)
      have e15 := dz_sub (a := v1) (b := ((c2_groups - (a57 v5.toNatClampNeg)) * (a63 v2.toNatClampNeg))) (by omega) (by omega)
      exact dz_Ts ⟨(by omega), (by omega), (by first | exact dz_poj (a57 := a57) (k := v5) (j := ((4 : Int32) * v2) + (a57 v5.toNatClampNeg)) 0 1 9 (by omega) (by decide) (by decide) (by decide) x1 o0 x2 (by omega) (by omega) (by omega) (by omega) (by assumption) (by omega) (by omega) (by omega) (by omega) | exact dz_poj (a57 := a57) (k := v5) (j := ((4 : Int32) * v2) + (a57 v5.toNatClampNeg)) 1 3 9 (by omega) (by decide) (by decide) (by decide) x1 o0 x2 (by omega) (by omega) (by omega) (by omega) (by assumption) (by omega) (by omega) (by omega) (by omega)), (by omega), (by omega)⟩
  · skip
    refine dz_Tin (by omega) (by omega) ?_
    have e16 := dz_l4
    have e17 := dz_mull (a := (4 : Int32)) (b := v2) 4 (by omega) (by omega) (by omega)
    have e18 := dz_rgat (hr_a57) (i := v5) (by omega) (by omega)
    have e19 := dz_add (a := ((4 : Int32) * v2)) (b := (a57 v5.toNatClampNeg)) (by omega) (by omega)
    refine dz_Tin (by omega) (by omega) ?_
    have e20 := dz_rgat (hr_a62) (i := (((4 : Int32) * v2) + (a57 v5.toNatClampNeg))) (by omega) (by omega)
    have e21 := dz_andr (a := v4) (b := (a62 (((4 : Int32) * v2) + (a57 v5.toNatClampNeg)).toNatClampNeg)) (by omega)
    have e22 := dz_andl (a := v4) (b := (a62 (((4 : Int32) * v2) + (a57 v5.toNatClampNeg)).toNatClampNeg)) (by omega)
    have e23 := dz_l0
    refine dz_Teq (fun h24 => ?_) (fun h24 => ?_)
    · skip
      have e25 := dz_l1
      have e26 := dz_add (a := v5) (b := (1 : Int32)) (by omega) (by omega)
      exact (ih k0 (by omega)) v1 v2 v4 (v5 + (1 : Int32)) i0 i1 i2 i3 i4 i5 (by omega) (by omega) (by first | exact dz_pe0 (by decide) (by decide) o1 qo1_0 o0 o2 (by omega) (by omega) (by omega) | exact dz_pes (j := ((4 : Int32) * v2) + (a57 v5.toNatClampNeg)) x0 (by omega) (by omega) (by omega) (by omega) (by omega) (by omega)) (by first | exact x1 | exact qo1_0) (by first | exact x2 | exact o3) (by omega)
    · skip
      refine dz_Tin (by omega) (by omega) ?_
      refine dz_Tin (by omega) (by omega) ?_
      have e27 := dz_sub (a := c2_groups) (b := (a57 v5.toNatClampNeg)) (by omega) (by omega)
      have e28 := dz_ptat (hr_a63) (i := v2) (x := 3) 1 (by omega) (by decide)
      have e29 := dz_mulr (a := (c2_groups - (a57 v5.toNatClampNeg))) (b := (a63 v2.toNatClampNeg)) 3 (by omega) (by omega) (by omega)
      have e30 := dz_sub (a := v1) (b := ((c2_groups - (a57 v5.toNatClampNeg)) * (a63 v2.toNatClampNeg))) (by omega) (by omega)
      exact dz_Ts ⟨(by omega), (by omega), (by first | exact dz_poj (a57 := a57) (k := v5) (j := ((4 : Int32) * v2) + (a57 v5.toNatClampNeg)) 0 1 9 (by omega) (by decide) (by decide) (by decide) x1 o0 x2 (by omega) (by omega) (by omega) (by omega) (by assumption) (by omega) (by omega) (by omega) (by omega) | exact dz_poj (a57 := a57) (k := v5) (j := ((4 : Int32) * v2) + (a57 v5.toNatClampNeg)) 1 3 9 (by omega) (by decide) (by decide) (by decide) x1 o0 x2 (by omega) (by omega) (by omega) (by omega) (by assumption) (by omega) (by omega) (by omega) (by omega)), (by omega), (by omega)⟩
theorem t68_X12_putOne_I_g2 (fu : Nat) (hfu : 1000000000000 ≤ fu) (c2_groups : Int32) (a57 : Nat → Int32) (a62 : Nat → Int32) (a63 : Nat → Int32) (gh_v3 : Int32) (p0 : c2_groups.toInt ≤ 2) (p1 : 2 ≤ c2_groups.toInt) (hr_a57 : dz_rg a57 4 0 3) (hr_a62 : dz_rg a62 16 0 16777215) (hr_a63 : dz_pt a63 [1, 3]) (o0 : dz_hv 2 2 a62) (o1 : dz_pm a57 2) (k : Nat) : p68_X12_putOne_g2 fu c2_groups a57 a62 a63 gh_v3 k := by
  induction k using Nat.strongRecOn with
  | _ k ih => exact t68_X12_putOne_h1_g2 fu hfu c2_groups a57 a62 a63 gh_v3 p0 p1 hr_a57 hr_a62 hr_a63 o0 o1 k ih
set_option maxHeartbeats 4000000 in
set_option maxRecDepth 10000 in
theorem t68_X12_putOne_E_g2 (fu : Nat) (hfu : 1000000000000 ≤ fu) (c2_groups : Int32) (a57 : Nat → Int32) (a62 : Nat → Int32) (a63 : Nat → Int32) (v1 : Int32) (v2 : Int32) (v3 : Int32) (p0 : c2_groups.toInt ≤ 2) (p1 : 2 ≤ c2_groups.toInt) (p2 : 0 ≤ v1.toInt) (p3 : v1.toInt ≤ 8) (p4 : 0 ≤ v2.toInt) (p5 : v2.toInt ≤ 1) (p6 : 0 ≤ v3.toInt) (p7 : v3.toInt ≤ 16777215) (hr_a57 : dz_rg a57 4 0 3) (hr_a62 : dz_rg a62 16 0 16777215) (hr_a63 : dz_pt a63 [1, 3]) (o0 : dz_hv 2 2 a62) (o1 : dz_pm a57 2) (o2 : dz_me 2 2 v3 v1.toInt.toNat) (o3 : dz_dg 2 v1.toInt.toNat v2.toInt.toNat = 2) (kv : Nat) (hkv : 1000000000000 ≤ kv) : dz_T (s68_X12_putOne_0 fu c2_groups a57 a62 a63 (F68_X12_putOne fu c2_groups a57 a62 a63 kv)  v1 v2 v3) (fun r => r.toInt ≤ 11 ∧ (-6) ≤ r.toInt ∧ (dz_po 2 2 v3 v1.toInt.toNat r.toInt.toNat v2.toInt.toNat) ∧ (0 ≤ r.toInt) ∧ (r.toInt ≤ 8)) := by
  unfold s68_X12_putOne_0
  refine dz_Tb (t51_X12_agreeing_g2 fu hfu _ _ _ _ _ p0 p1 p2 p3 p6 p7 (hr_a62) (hr_a63)) (fun r1 q => ?_)
  obtain ⟨q1_0, q1_1, qo1_0⟩ := q
  have e1 := dz_l0
  exact (t68_X12_putOne_I_g2 fu hfu c2_groups a57 a62 a63 v3 p0 p1 hr_a57 hr_a62 hr_a63 o0 o1 kv) v1 v2 r1 (0 : Int32) p3 p2 p5 p4 q1_0 q1_1 (by omega) (by omega) (by first | exact dz_pe0 (by decide) (by decide) o1 qo1_0 o0 o2 (by omega) (by omega) (by omega) | exact dz_pes (j := ((4 : Int32) * v2) + (a57 v5.toNatClampNeg)) x0 (by omega) (by omega) (by omega) (by omega) (by omega) (by omega)) (by first | exact x1 | exact qo1_0) (by first | exact x2 | exact o3) (by omega)
theorem t68_X12_putOne_g2 (fu : Nat) (hfu : 1000000000000 ≤ fu) (c2_groups : Int32) (a57 : Nat → Int32) (a62 : Nat → Int32) (a63 : Nat → Int32) (v1 : Int32) (v2 : Int32) (v3 : Int32) (p0 : c2_groups.toInt ≤ 2) (p1 : 2 ≤ c2_groups.toInt) (p2 : 0 ≤ v1.toInt) (p3 : v1.toInt ≤ 8) (p4 : 0 ≤ v2.toInt) (p5 : v2.toInt ≤ 1) (p6 : 0 ≤ v3.toInt) (p7 : v3.toInt ≤ 16777215) (hr_a57 : dz_rg a57 4 0 3) (hr_a62 : dz_rg a62 16 0 16777215) (hr_a63 : dz_pt a63 [1, 3]) (o0 : dz_hv 2 2 a62) (o1 : dz_pm a57 2) (o2 : dz_me 2 2 v3 v1.toInt.toNat) (o3 : dz_dg 2 v1.toInt.toNat v2.toInt.toNat = 2) : dz_T (f68_X12_putOne fu c2_groups a57 a62 a63 v1 v2 v3) (fun r => r.toInt ≤ 11 ∧ (-6) ≤ r.toInt ∧ (dz_po 2 2 v3 v1.toInt.toNat r.toInt.toNat v2.toInt.toNat) ∧ (0 ≤ r.toInt) ∧ (r.toInt ≤ 8)) :=
  t68_X12_putOne_E_g2 fu hfu c2_groups a57 a62 a63 v1 v2 v3 p0 p1 p2 p3 p4 p5 p6 p7 hr_a57 hr_a62 hr_a63 o0 o1 o2 o3 fu hfu
abbrev p55_X12_rankOf_g2 (fu : Nat) (c2_groups : Int32) (c2_ranks : Int32) (a62 : Nat → Int32) (a63 : Nat → Int32) (gh_v1 : Int32) (k : Nat) : Prop :=
  (∀ (v2 : Int32) (v3 : Int32), v2.toInt ≤ 16777215 → 0 ≤ v2.toInt → v3.toInt ≤ 2 → 0 ≤ v3.toInt → dz_be v2 v3 2 → dz_bs 2 2 gh_v1.toInt.toNat v2 → 0 + 0 + (2 - v3.toInt) * 10 + 5 ≤ ((k : Nat) : Int) → dz_T ((F55_X12_rankOf fu c2_groups c2_ranks a62 a63 k) v2 v3) (fun r => r.toInt ≤ 2 ∧ 0 ≤ r.toInt ∧ (r.toInt ≤ 1) ∧ (dz_ft 2 gh_v1.toInt.toNat r.toInt.toNat)))
set_option maxHeartbeats 4000000 in
set_option maxRecDepth 10000 in
theorem t55_X12_rankOf_h1_g2 (fu : Nat) (hfu : 1000000000000 ≤ fu) (c2_groups : Int32) (c2_ranks : Int32) (a62 : Nat → Int32) (a63 : Nat → Int32) (gh_v1 : Int32) (p0 : c2_groups.toInt ≤ 2) (p1 : 2 ≤ c2_groups.toInt) (p2 : c2_ranks.toInt ≤ 2) (p3 : 2 ≤ c2_ranks.toInt) (hr_a62 : dz_rg a62 16 0 16777215) (hr_a63 : dz_pt a63 [1, 3]) (o0 : dz_hv 2 2 a62) (k : Nat) (ih : ∀ j9, j9 < k → p55_X12_rankOf_g2 fu c2_groups c2_ranks a62 a63 gh_v1 j9) : ∀ (v2 : Int32) (v3 : Int32), v2.toInt ≤ 16777215 → 0 ≤ v2.toInt → v3.toInt ≤ 2 → 0 ≤ v3.toInt → dz_be v2 v3 2 → dz_bs 2 2 gh_v1.toInt.toNat v2 → 0 + 0 + (2 - v3.toInt) * 10 + 5 ≤ ((k : Nat) : Int) → dz_T ((F55_X12_rankOf fu c2_groups c2_ranks a62 a63 k) v2 v3) (fun r => r.toInt ≤ 2 ∧ 0 ≤ r.toInt ∧ (r.toInt ≤ 1) ∧ (dz_ft 2 gh_v1.toInt.toNat r.toInt.toNat)) := by
  intro v2 v3 i0 i1 i2 i3 x0 x1 hm
  obtain ⟨k0, rfl⟩ : ∃ x, k = x + 1 := ⟨k - 1, by omega⟩
  show dz_T (s55_X12_rankOf_1 fu c2_groups c2_ranks a62 a63 (F55_X12_rankOf fu c2_groups c2_ranks a62 a63 k0)  v2 v3) _
  unfold s55_X12_rankOf_1
  have hbe := dz_bel x0
  have e1 := dz_l31
  have e2 := dz_andr (a := v3) (b := (31 : Int32)) (by omega)
  have e3 := dz_andl (a := v3) (b := (31 : Int32)) (by omega)
  have e4 := dz_shr (a := v2) (b := (v3 &&& (31 : Int32))) (by omega)
  have e5 := dz_l1
  have e6 := dz_andr (a := (v2 >>> (v3 &&& (31 : Int32)))) (b := (1 : Int32)) (by omega)
  have e7 := dz_andl (a := (v2 >>> (v3 &&& (31 : Int32)))) (b := (1 : Int32)) (by omega)
  have e8 := dz_l0
  refine dz_Teq (fun h9 => ?_) (fun h9 => ?_)
  · skip
    have e10 := dz_add (a := v3) (b := (1 : Int32)) (by omega) (by omega)
    exact (ih k0 (by omega)) v2 (v3 + (1 : Int32)) i0 i1 (by omega) (by omega) (by first | exact dz_be0 (by decide) (by decide) (by omega) qo1_0 o0 o1 (by omega) | exact dz_bes x0 (by omega) (by omega) (by omega) (by omega)) (by first | exact x1 | exact dz_bs0 qo1_0 o0) (by omega)
  · skip
    exact dz_Ts ⟨i2, i3, (by omega), (dz_bsr x1 (by omega) (by omega) (by omega) (by omega))⟩
theorem t55_X12_rankOf_I_g2 (fu : Nat) (hfu : 1000000000000 ≤ fu) (c2_groups : Int32) (c2_ranks : Int32) (a62 : Nat → Int32) (a63 : Nat → Int32) (gh_v1 : Int32) (p0 : c2_groups.toInt ≤ 2) (p1 : 2 ≤ c2_groups.toInt) (p2 : c2_ranks.toInt ≤ 2) (p3 : 2 ≤ c2_ranks.toInt) (hr_a62 : dz_rg a62 16 0 16777215) (hr_a63 : dz_pt a63 [1, 3]) (o0 : dz_hv 2 2 a62) (k : Nat) : p55_X12_rankOf_g2 fu c2_groups c2_ranks a62 a63 gh_v1 k := by
  induction k using Nat.strongRecOn with
  | _ k ih => exact t55_X12_rankOf_h1_g2 fu hfu c2_groups c2_ranks a62 a63 gh_v1 p0 p1 p2 p3 hr_a62 hr_a63 o0 k ih
set_option maxHeartbeats 4000000 in
set_option maxRecDepth 10000 in
theorem t55_X12_rankOf_E_g2 (fu : Nat) (hfu : 1000000000000 ≤ fu) (c2_groups : Int32) (c2_ranks : Int32) (a62 : Nat → Int32) (a63 : Nat → Int32) (v1 : Int32) (p0 : c2_groups.toInt ≤ 2) (p1 : 2 ≤ c2_groups.toInt) (p2 : c2_ranks.toInt ≤ 2) (p3 : 2 ≤ c2_ranks.toInt) (p4 : 0 ≤ v1.toInt) (p5 : v1.toInt ≤ 8) (hr_a62 : dz_rg a62 16 0 16777215) (hr_a63 : dz_pt a63 [1, 3]) (o0 : dz_hv 2 2 a62) (o1 : dz_fe 2 2 v1.toInt.toNat) (kv : Nat) (hkv : 1000000000000 ≤ kv) : dz_T (s55_X12_rankOf_0 fu c2_groups c2_ranks a62 a63 (F55_X12_rankOf fu c2_groups c2_ranks a62 a63 kv)  v1) (fun r => r.toInt ≤ 2 ∧ 0 ≤ r.toInt ∧ (r.toInt ≤ 1) ∧ (dz_ft 2 v1.toInt.toNat r.toInt.toNat)) := by
  unfold s55_X12_rankOf_0
  have e1 := dz_l1
  have e2 := dz_l31
  have e3 := dz_andr (a := c2_ranks) (b := (31 : Int32)) (by omega)
  have e4 := dz_andl (a := c2_ranks) (b := (31 : Int32)) (by omega)
  have e5 := dz_shl1 (b := c2_ranks) 2 2 (by omega) (by omega) (by omega)
  have e6 := dz_sub (a := ((1 : Int32) <<< (c2_ranks &&& (31 : Int32)))) (b := (1 : Int32)) (by omega) (by omega)
  refine dz_Tb (t51_X12_agreeing_g2 fu hfu _ _ _ _ _ p0 p1 p4 p5 (by omega) (by omega) (hr_a62) (hr_a63)) (fun r1 q => ?_)
  obtain ⟨q1_0, q1_1, qo1_0⟩ := q
  have e7 := dz_l0
  exact (t55_X12_rankOf_I_g2 fu hfu c2_groups c2_ranks a62 a63 v1 p0 p1 p2 p3 hr_a62 hr_a63 o0 kv) r1 (0 : Int32) q1_0 q1_1 (by omega) (by omega) (by first | exact dz_be0 (by decide) (by decide) (by omega) qo1_0 o0 o1 (by omega) | exact dz_bes x0 (by omega) (by omega) (by omega) (by omega)) (by first | exact x1 | exact dz_bs0 qo1_0 o0) (by omega)
theorem t55_X12_rankOf_g2 (fu : Nat) (hfu : 1000000000000 ≤ fu) (c2_groups : Int32) (c2_ranks : Int32) (a62 : Nat → Int32) (a63 : Nat → Int32) (v1 : Int32) (p0 : c2_groups.toInt ≤ 2) (p1 : 2 ≤ c2_groups.toInt) (p2 : c2_ranks.toInt ≤ 2) (p3 : 2 ≤ c2_ranks.toInt) (p4 : 0 ≤ v1.toInt) (p5 : v1.toInt ≤ 8) (hr_a62 : dz_rg a62 16 0 16777215) (hr_a63 : dz_pt a63 [1, 3]) (o0 : dz_hv 2 2 a62) (o1 : dz_fe 2 2 v1.toInt.toNat) : dz_T (f55_X12_rankOf fu c2_groups c2_ranks a62 a63 v1) (fun r => r.toInt ≤ 2 ∧ 0 ≤ r.toInt ∧ (r.toInt ≤ 1) ∧ (dz_ft 2 v1.toInt.toNat r.toInt.toNat)) :=
  t55_X12_rankOf_E_g2 fu hfu c2_groups c2_ranks a62 a63 v1 p0 p1 p2 p3 p4 p5 hr_a62 hr_a63 o0 o1 fu hfu
abbrev p69_X12_put_g2 (fu : Nat) (c2_groups : Int32) (c2_ranks : Int32) (c2_parts : Int32) (a48 : Nat → Int32) (a57 : Nat → Int32) (a58 : Nat → Int32) (a59 : Nat → Int32) (a62 : Nat → Int32) (a63 : Nat → Int32) (k : Nat) : Prop :=
  (∀ (v1 : Int32) (v2 : Int32) (v3 : Int32) (v4 : Int32) (v5 : Int32), v1.toInt ≤ 3 → 0 ≤ v1.toInt → v2.toInt ≤ 15 → 0 ≤ v2.toInt → v3.toInt ≤ 1 → 0 ≤ v3.toInt → v4.toInt ≤ 8 → 0 ≤ v4.toInt → v5.toInt ≤ 2 → 0 ≤ v5.toInt → dz_me 2 2 (a59 ((a58 v1.toNatClampNeg) + v2).toNatClampNeg) v4.toInt.toNat → dz_dn 2 v3.toInt.toNat v4.toInt.toNat v5.toInt.toNat → 0 ≤ ((a58 v1.toNatClampNeg) + v2).toInt ∧ ((a58 v1.toNatClampNeg) + v2).toInt < 14425 → 0 + 0 + (2 - v5.toInt) * 10 + 5 ≤ ((k : Nat) : Int) → dz_T ((F69_X12_put fu c2_groups c2_ranks c2_parts a48 a57 a58 a59 a62 a63 k) v1 v2 v3 v4 v5) (fun r => r.toInt ≤ 2 ∧ 0 ≤ r.toInt ∧ (r.toInt ≤ 1) ∧ (dz_bit (a59 ((a58 v1.toNatClampNeg) + v2).toNatClampNeg) r.toInt.toNat)))
set_option maxHeartbeats 4000000 in
set_option maxRecDepth 10000 in
theorem t69_X12_put_h1_g2 (fu : Nat) (hfu : 1000000000000 ≤ fu) (c2_groups : Int32) (c2_ranks : Int32) (c2_parts : Int32) (a48 : Nat → Int32) (a57 : Nat → Int32) (a58 : Nat → Int32) (a59 : Nat → Int32) (a62 : Nat → Int32) (a63 : Nat → Int32) (p0 : c2_groups.toInt ≤ 2) (p1 : 2 ≤ c2_groups.toInt) (p2 : c2_ranks.toInt ≤ 2) (p3 : 2 ≤ c2_ranks.toInt) (p4 : c2_parts.toInt ≤ 9) (p5 : 9 ≤ c2_parts.toInt) (hr_a48 : dz_rg a48 100 0 3) (hr_a57 : dz_rg a57 4 0 3) (hr_a59 : dz_rg a59 14425 0 16777215) (hr_a62 : dz_rg a62 16 0 16777215) (hr_a63 : dz_pt a63 [1, 3]) (o0 : dz_hv 2 2 a62) (o1 : dz_pm a57 2) (o2 : dz_rw 2 2 a48) (k : Nat) (ih : ∀ j9, j9 < k → p69_X12_put_g2 fu c2_groups c2_ranks c2_parts a48 a57 a58 a59 a62 a63 j9) : ∀ (v1 : Int32) (v2 : Int32) (v3 : Int32) (v4 : Int32) (v5 : Int32), v1.toInt ≤ 3 → 0 ≤ v1.toInt → v2.toInt ≤ 15 → 0 ≤ v2.toInt → v3.toInt ≤ 1 → 0 ≤ v3.toInt → v4.toInt ≤ 8 → 0 ≤ v4.toInt → v5.toInt ≤ 2 → 0 ≤ v5.toInt → dz_me 2 2 (a59 ((a58 v1.toNatClampNeg) + v2).toNatClampNeg) v4.toInt.toNat → dz_dn 2 v3.toInt.toNat v4.toInt.toNat v5.toInt.toNat → 0 ≤ ((a58 v1.toNatClampNeg) + v2).toInt ∧ ((a58 v1.toNatClampNeg) + v2).toInt < 14425 → 0 + 0 + (2 - v5.toInt) * 10 + 5 ≤ ((k : Nat) : Int) → dz_T ((F69_X12_put fu c2_groups c2_ranks c2_parts a48 a57 a58 a59 a62 a63 k) v1 v2 v3 v4 v5) (fun r => r.toInt ≤ 2 ∧ 0 ≤ r.toInt ∧ (r.toInt ≤ 1) ∧ (dz_bit (a59 ((a58 v1.toNatClampNeg) + v2).toNatClampNeg) r.toInt.toNat)) := by
  intro v1 v2 v3 v4 v5 i0 i1 i2 i3 i4 i5 i6 i7 i8 i9 x0 x1 x2 hm
  obtain ⟨k0, rfl⟩ : ∃ x, k = x + 1 := ⟨k - 1, by omega⟩
  show dz_T (s69_X12_put_1 fu c2_groups c2_ranks c2_parts a48 a57 a58 a59 a62 a63 (F69_X12_put fu c2_groups c2_ranks c2_parts a48 a57 a58 a59 a62 a63 k0)  v1 v2 v3 v4 v5) _
  unfold s69_X12_put_1
  have hrow := dz_rwat (r := v3) (i := v5) (by decide) (by decide) o2 (by omega)
  refine dz_Tle (fun h1 => ?_) (fun h1 => ?_)
  · skip
    refine dz_Tb (t55_X12_rankOf_g2 fu hfu _ _ _ _ _ p0 p1 p2 p3 i7 i6 (hr_a62) (hr_a63) o0 (dz_mf x0)) (fun r1 q => ?_)
    obtain ⟨q1_0, q1_1, qo1_0, qo1_1⟩ := q
    exact dz_Ts ⟨q1_0, q1_1, (by omega), (dz_putR (by decide) (by decide) x0 x1 (by omega) (by omega) (by omega) qo1_1)⟩
  · skip
    have e2 := dz_l4
    have e3 := dz_mull (a := (4 : Int32)) (b := v3) 4 (by omega) (by omega) (by omega)
    have e4 := dz_add (a := ((4 : Int32) * v3)) (b := v5) (by omega) (by omega)
    refine dz_Tin (by omega) (by omega) ?_
    refine dz_Tin (by omega) (by omega) ?_
    have e5 := dz_rng (a58 v1.toNatClampNeg)
    refine dz_Tin (by omega) (by omega) ?_
    have e6 := dz_rgat (hr_a48) (i := (((4 : Int32) * v3) + v5)) (by omega) (by omega)
    have e7 := dz_rgat (hr_a59) (i := ((a58 v1.toNatClampNeg) + v2)) (by omega) (by omega)
    refine dz_Tb (t68_X12_putOne_g2 fu hfu _ _ _ _ _ _ _ p0 p1 i7 i6 (by omega) (by omega) (by omega) (by omega) (hr_a57) (hr_a62) (hr_a63) o0 o1 (x0) (dz_dng x1 (by omega) (by omega))) (fun r2 q => ?_)
    obtain ⟨q2_0, q2_1, qo2_0, qo2_1, qo2_2⟩ := q
    have e8 := dz_l1
    have e9 := dz_add (a := v5) (b := (1 : Int32)) (by omega) (by omega)
    exact (ih k0 (by omega)) v1 v2 v3 r2 (v5 + (1 : Int32)) i0 i1 i2 i3 i4 i5 (by first | assumption | omega) (by first | assumption | omega) (by omega) (by omega) (by first | exact dz_me0 (by decide) o4 (by show _ = 8; omega) | exact qo2_0.1) (by first | exact dz_dn0 (R := 2) (by decide) (by decide) (by omega) (by show _ = 8; omega) (by omega) | exact dz_dns (R := 2) (w := a48 (((4 : Int32) * v3) + v5).toNatClampNeg) (by decide) (by decide) (by omega) x1 (by omega) (by omega) qo2_0.2 (by omega)) (by assumption) (by omega)
theorem t69_X12_put_I_g2 (fu : Nat) (hfu : 1000000000000 ≤ fu) (c2_groups : Int32) (c2_ranks : Int32) (c2_parts : Int32) (a48 : Nat → Int32) (a57 : Nat → Int32) (a58 : Nat → Int32) (a59 : Nat → Int32) (a62 : Nat → Int32) (a63 : Nat → Int32) (p0 : c2_groups.toInt ≤ 2) (p1 : 2 ≤ c2_groups.toInt) (p2 : c2_ranks.toInt ≤ 2) (p3 : 2 ≤ c2_ranks.toInt) (p4 : c2_parts.toInt ≤ 9) (p5 : 9 ≤ c2_parts.toInt) (hr_a48 : dz_rg a48 100 0 3) (hr_a57 : dz_rg a57 4 0 3) (hr_a59 : dz_rg a59 14425 0 16777215) (hr_a62 : dz_rg a62 16 0 16777215) (hr_a63 : dz_pt a63 [1, 3]) (o0 : dz_hv 2 2 a62) (o1 : dz_pm a57 2) (o2 : dz_rw 2 2 a48) (k : Nat) : p69_X12_put_g2 fu c2_groups c2_ranks c2_parts a48 a57 a58 a59 a62 a63 k := by
  induction k using Nat.strongRecOn with
  | _ k ih => exact t69_X12_put_h1_g2 fu hfu c2_groups c2_ranks c2_parts a48 a57 a58 a59 a62 a63 p0 p1 p2 p3 p4 p5 hr_a48 hr_a57 hr_a59 hr_a62 hr_a63 o0 o1 o2 k ih
set_option maxHeartbeats 4000000 in
set_option maxRecDepth 10000 in
theorem t69_X12_put_E_g2 (fu : Nat) (hfu : 1000000000000 ≤ fu) (c2_groups : Int32) (c2_ranks : Int32) (c2_parts : Int32) (a48 : Nat → Int32) (a57 : Nat → Int32) (a58 : Nat → Int32) (a59 : Nat → Int32) (a62 : Nat → Int32) (a63 : Nat → Int32) (v1 : Int32) (v2 : Int32) (v3 : Int32) (p0 : c2_groups.toInt ≤ 2) (p1 : 2 ≤ c2_groups.toInt) (p2 : c2_ranks.toInt ≤ 2) (p3 : 2 ≤ c2_ranks.toInt) (p4 : 0 ≤ v1.toInt) (p5 : v1.toInt ≤ 3) (p6 : 0 ≤ v2.toInt) (p7 : v2.toInt ≤ 15) (p8 : 0 ≤ v3.toInt) (p9 : v3.toInt ≤ 1) (p10 : c2_parts.toInt ≤ 9) (p11 : 9 ≤ c2_parts.toInt) (hr_a48 : dz_rg a48 100 0 3) (hr_a57 : dz_rg a57 4 0 3) (hr_a59 : dz_rg a59 14425 0 16777215) (hr_a62 : dz_rg a62 16 0 16777215) (hr_a63 : dz_pt a63 [1, 3]) (o0 : dz_hv 2 2 a62) (o1 : dz_pm a57 2) (o2 : dz_rw 2 2 a48) (o3 : 0 ≤ ((a58 v1.toNatClampNeg) + v2).toInt ∧ ((a58 v1.toNatClampNeg) + v2).toInt < 14425) (o4 : dz_mz 2 (a59 ((a58 v1.toNatClampNeg) + v2).toNatClampNeg)) (kv : Nat) (hkv : 1000000000000 ≤ kv) : dz_T (s69_X12_put_0 fu c2_groups c2_ranks c2_parts a48 a57 a58 a59 a62 a63 (F69_X12_put fu c2_groups c2_ranks c2_parts a48 a57 a58 a59 a62 a63 kv)  v1 v2 v3) (fun r => r.toInt ≤ 2 ∧ 0 ≤ r.toInt ∧ (r.toInt ≤ 1) ∧ (dz_bit (a59 ((a58 v1.toNatClampNeg) + v2).toNatClampNeg) r.toInt.toNat)) := by
  unfold s69_X12_put_0
  have e1 := dz_l1
  have e2 := dz_sub (a := c2_parts) (b := (1 : Int32)) (by omega) (by omega)
  have e3 := dz_l0
  exact (t69_X12_put_I_g2 fu hfu c2_groups c2_ranks c2_parts a48 a57 a58 a59 a62 a63 p0 p1 p2 p3 p10 p11 hr_a48 hr_a57 hr_a59 hr_a62 hr_a63 o0 o1 o2 kv) v1 v2 v3 (c2_parts - (1 : Int32)) (0 : Int32) p5 p4 p7 p6 p9 p8 (by omega) (by omega) (by omega) (by omega) (by first | exact dz_me0 (by decide) o4 (by show _ = 8; omega) | exact qo2_0.1) (by first | exact dz_dn0 (R := 2) (by decide) (by decide) (by omega) (by show _ = 8; omega) (by omega) | exact dz_dns (R := 2) (w := a48 (((4 : Int32) * v3) + v5).toNatClampNeg) (by decide) (by decide) (by omega) x1 (by omega) (by omega) qo2_0.2 (by omega)) (by assumption) (by omega)
theorem t69_X12_put_g2 (fu : Nat) (hfu : 1000000000000 ≤ fu) (c2_groups : Int32) (c2_ranks : Int32) (c2_parts : Int32) (a48 : Nat → Int32) (a57 : Nat → Int32) (a58 : Nat → Int32) (a59 : Nat → Int32) (a62 : Nat → Int32) (a63 : Nat → Int32) (v1 : Int32) (v2 : Int32) (v3 : Int32) (p0 : c2_groups.toInt ≤ 2) (p1 : 2 ≤ c2_groups.toInt) (p2 : c2_ranks.toInt ≤ 2) (p3 : 2 ≤ c2_ranks.toInt) (p4 : 0 ≤ v1.toInt) (p5 : v1.toInt ≤ 3) (p6 : 0 ≤ v2.toInt) (p7 : v2.toInt ≤ 15) (p8 : 0 ≤ v3.toInt) (p9 : v3.toInt ≤ 1) (p10 : c2_parts.toInt ≤ 9) (p11 : 9 ≤ c2_parts.toInt) (hr_a48 : dz_rg a48 100 0 3) (hr_a57 : dz_rg a57 4 0 3) (hr_a59 : dz_rg a59 14425 0 16777215) (hr_a62 : dz_rg a62 16 0 16777215) (hr_a63 : dz_pt a63 [1, 3]) (o0 : dz_hv 2 2 a62) (o1 : dz_pm a57 2) (o2 : dz_rw 2 2 a48) (o3 : 0 ≤ ((a58 v1.toNatClampNeg) + v2).toInt ∧ ((a58 v1.toNatClampNeg) + v2).toInt < 14425) (o4 : dz_mz 2 (a59 ((a58 v1.toNatClampNeg) + v2).toNatClampNeg)) : dz_T (f69_X12_put fu c2_groups c2_ranks c2_parts a48 a57 a58 a59 a62 a63 v1 v2 v3) (fun r => r.toInt ≤ 2 ∧ 0 ≤ r.toInt ∧ (r.toInt ≤ 1) ∧ (dz_bit (a59 ((a58 v1.toNatClampNeg) + v2).toNatClampNeg) r.toInt.toNat)) :=
  t69_X12_put_E_g2 fu hfu c2_groups c2_ranks c2_parts a48 a57 a58 a59 a62 a63 v1 v2 v3 p0 p1 p2 p3 p4 p5 p6 p7 p8 p9 p10 p11 hr_a48 hr_a57 hr_a59 hr_a62 hr_a63 o0 o1 o2 o3 o4 fu hfu
abbrev p70_X12_leads_g2 (fu : Nat) (c2_groups : Int32) (c2_pots : Int32) (c2_ranks : Int32) (c2_draws : Int32) (c2_lawful : Int32) (a48 : Nat → Int32) (a49 : Nat → Int32) (a52 : Nat → Int32) (a53 : Nat → Int32) (k : Nat) : Prop :=
  (∀ (v1 : Int32) (v2 : Int32) (v3 : Int32) (c2_thrown : Int32) (c2_parts : Int32) (a56 : Nat → Int32) (a57 : Nat → Int32) (a58 : Nat → Int32) (a59 : Nat → Int32) (a61 : Nat → Int32) (a62 : Nat → Int32) (a63 : Nat → Int32), 1 ≤ c2_lawful.toInt → v1.toInt ≤ 15 → 0 ≤ v1.toInt → v2.toInt ≤ 15 → 0 ≤ v2.toInt → v3.toInt ≤ 4 → 0 ≤ v3.toInt → c2_thrown.toInt ≤ 0 → 0 ≤ c2_thrown.toInt → c2_parts.toInt ≤ 9 → 9 ≤ c2_parts.toInt → v1.toInt + 1 ≤ c2_draws.toInt → v3.toInt ≤ c2_pots.toInt → v2.toInt ≤ c2_pots.toInt + 14 → v2.toInt ≤ v3.toInt + 14 → dz_rg a56 4 0 3 → dz_rg a57 4 0 3 → dz_rg a59 14425 0 16777215 → dz_rg a61 13824 0 13823 → dz_rg a62 16 0 16777215 → dz_pt a63 [1, 3] → dz_hv 2 2 a62 → dz_lv 2 a58 (c2_pots.toInt.toNat + 1) → dz_MK 2 c2_pots.toInt.toNat a59 0 0 → dz_pm a57 2 → dz_xl 2 v2 v3 → c2_pots.toInt ≤ v3.toInt ∨ dz_mz 2 (a59 ((a58 v3.toNatClampNeg) + v2).toNatClampNeg) → 0 + 280 + (4 - v3.toInt) * 96 + 8 ≤ ((k : Nat) : Int) → dz_T ((F70_X12_leads fu c2_groups c2_pots c2_ranks c2_draws c2_lawful a48 a49 a52 a53 k).1 v1 v2 v3 c2_thrown c2_parts a56 a57 a58 a59 a61 a62 a63) (fun r => r.1.toInt ≤ 15 ∧ (-1) ≤ r.1.toInt ∧ r.1.toInt + 1 ≤ c2_draws.toInt ∧ r.1.toInt ≤ c2_lawful.toInt + 14 ∧ dz_rg r.2.2.2.1 4 0 3 ∧ dz_rg r.2.2.2.2.1 4 0 3 ∧ dz_rg r.2.2.2.2.2.2.1 14425 0 16777215 ∧ dz_rg r.2.2.2.2.2.2.2.1 13824 0 13823 ∧ dz_rg r.2.2.2.2.2.2.2.2.1 16 0 16777215)) ∧ (∀ (v2 : Int32) (v3 : Int32) (c2_thrown : Int32) (c2_parts : Int32) (a56 : Nat → Int32) (a57 : Nat → Int32) (a58 : Nat → Int32) (a59 : Nat → Int32) (a61 : Nat → Int32) (a62 : Nat → Int32) (a63 : Nat → Int32), 1 ≤ c2_lawful.toInt → v2.toInt ≤ 15 → 0 ≤ v2.toInt → v3.toInt ≤ 16 → 0 ≤ v3.toInt → c2_thrown.toInt ≤ 0 → 0 ≤ c2_thrown.toInt → c2_parts.toInt ≤ 9 → 9 ≤ c2_parts.toInt → v3.toInt ≤ c2_draws.toInt → dz_rg a56 4 0 3 → dz_rg a57 4 0 3 → dz_rg a59 14425 0 16777215 → dz_rg a61 13824 0 13823 → dz_rg a62 16 0 16777215 → dz_pt a63 [1, 3] → 0 + 0 + (16 - v3.toInt) * 16 + 8 ≤ ((k : Nat) : Int) → dz_T ((F70_X12_leads fu c2_groups c2_pots c2_ranks c2_draws c2_lawful a48 a49 a52 a53 k).2.1 v2 v3 c2_thrown c2_parts a56 a57 a58 a59 a61 a62 a63) (fun r => r.1.toInt ≤ 15 ∧ (-1) ≤ r.1.toInt ∧ r.1.toInt + 1 ≤ c2_draws.toInt ∧ r.1.toInt ≤ c2_lawful.toInt + 14 ∧ dz_rg r.2.2.2.1 4 0 3 ∧ dz_rg r.2.2.2.2.1 4 0 3 ∧ dz_rg r.2.2.2.2.2.2.1 14425 0 16777215 ∧ dz_rg r.2.2.2.2.2.2.2.1 13824 0 13823 ∧ dz_rg r.2.2.2.2.2.2.2.2.1 16 0 16777215)) ∧ (∀ (v1 : Int32) (v2 : Int32) (v3 : Int32) (v4 : Int32) (v5 : Int32) (c2_thrown : Int32) (c2_parts : Int32) (a56 : Nat → Int32) (a57 : Nat → Int32) (a58 : Nat → Int32) (a59 : Nat → Int32) (a61 : Nat → Int32) (a62 : Nat → Int32) (a63 : Nat → Int32), 1 ≤ c2_pots.toInt → 1 ≤ c2_lawful.toInt → v1.toInt ≤ 15 → 0 ≤ v1.toInt → v2.toInt ≤ 15 → 0 ≤ v2.toInt → v3.toInt ≤ 3 → 0 ≤ v3.toInt → v4.toInt ≤ 15 → 0 ≤ v4.toInt → v5.toInt ≤ 3 → 0 ≤ v5.toInt → c2_thrown.toInt ≤ 0 → 0 ≤ c2_thrown.toInt → c2_parts.toInt ≤ 9 → 9 ≤ c2_parts.toInt → v1.toInt + 1 ≤ c2_draws.toInt → v3.toInt + 1 ≤ c2_pots.toInt → v4.toInt + 1 ≤ c2_draws.toInt → v5.toInt + 1 ≤ c2_pots.toInt → v3.toInt ≤ v5.toInt → v4.toInt ≤ v1.toInt → v2.toInt ≤ c2_pots.toInt + 13 → dz_rg a56 4 0 3 → dz_rg a57 4 0 3 → dz_rg a59 14425 0 16777215 → dz_rg a61 13824 0 13823 → dz_rg a62 16 0 16777215 → dz_pt a63 [1, 3] → dz_hv 2 2 a62 → dz_lv 2 a58 (c2_pots.toInt.toNat + 1) → dz_MK 2 c2_pots.toInt.toNat a59 0 0 → dz_pm a57 2 → dz_xl 2 v2 v3 → c2_pots.toInt ≤ v3.toInt ∨ dz_mz 2 (a59 ((a58 v3.toNatClampNeg) + v2).toNatClampNeg) → 0 + 280 + ((4 - v3.toInt) - 1) * 96 + 0 + (v5.toInt - 0) * 16 + 16 ≤ ((k : Nat) : Int) → dz_T ((F70_X12_leads fu c2_groups c2_pots c2_ranks c2_draws c2_lawful a48 a49 a52 a53 k).2.2.1 v1 v2 v3 v4 v5 c2_thrown c2_parts a56 a57 a58 a59 a61 a62 a63) (fun r => r.1.toInt ≤ 15 ∧ (-1) ≤ r.1.toInt ∧ r.1.toInt + 1 ≤ c2_draws.toInt ∧ r.1.toInt ≤ c2_lawful.toInt + 14 ∧ dz_rg r.2.2.2.1 4 0 3 ∧ dz_rg r.2.2.2.2.1 4 0 3 ∧ dz_rg r.2.2.2.2.2.2.1 14425 0 16777215 ∧ dz_rg r.2.2.2.2.2.2.2.1 13824 0 13823 ∧ dz_rg r.2.2.2.2.2.2.2.2.1 16 0 16777215))
set_option maxHeartbeats 4000000 in
set_option maxRecDepth 10000 in
theorem t70_X12_leads_h1_g2 (fu : Nat) (hfu : 1000000000000 ≤ fu) (c2_groups : Int32) (c2_pots : Int32) (c2_ranks : Int32) (c2_draws : Int32) (c2_lawful : Int32) (a48 : Nat → Int32) (a49 : Nat → Int32) (a52 : Nat → Int32) (a53 : Nat → Int32) (p0 : c2_groups.toInt ≤ 2) (p1 : 2 ≤ c2_groups.toInt) (p2 : c2_pots.toInt ≤ 4) (p3 : 0 ≤ c2_pots.toInt) (p4 : c2_ranks.toInt ≤ 2) (p5 : 2 ≤ c2_ranks.toInt) (p6 : c2_draws.toInt ≤ 16) (p7 : 1 ≤ c2_draws.toInt) (p8 : c2_lawful.toInt ≤ 16) (p9 : 0 ≤ c2_lawful.toInt) (p10 : c2_lawful.toInt ≤ c2_draws.toInt) (hr_a48 : dz_rg a48 100 0 3) (hr_a49 : dz_rg a49 13824 0 1023) (hr_a52 : dz_rg a52 4 0 3) (hr_a53 : dz_rg a53 4 0 3) (o0 : dz_pm a52 c2_pots.toInt.toNat) (o1 : dz_pm a53 2) (o2 : dz_rw 2 2 a48) (o3 : dz_lf c2_lawful a49 c2_draws.toInt.toNat) (k : Nat) (ih : ∀ j9, j9 < k → p70_X12_leads_g2 fu c2_groups c2_pots c2_ranks c2_draws c2_lawful a48 a49 a52 a53 j9) : ∀ (v1 : Int32) (v2 : Int32) (v3 : Int32) (c2_thrown : Int32) (c2_parts : Int32) (a56 : Nat → Int32) (a57 : Nat → Int32) (a58 : Nat → Int32) (a59 : Nat → Int32) (a61 : Nat → Int32) (a62 : Nat → Int32) (a63 : Nat → Int32), 1 ≤ c2_lawful.toInt → v1.toInt ≤ 15 → 0 ≤ v1.toInt → v2.toInt ≤ 15 → 0 ≤ v2.toInt → v3.toInt ≤ 4 → 0 ≤ v3.toInt → c2_thrown.toInt ≤ 0 → 0 ≤ c2_thrown.toInt → c2_parts.toInt ≤ 9 → 9 ≤ c2_parts.toInt → v1.toInt + 1 ≤ c2_draws.toInt → v3.toInt ≤ c2_pots.toInt → v2.toInt ≤ c2_pots.toInt + 14 → v2.toInt ≤ v3.toInt + 14 → dz_rg a56 4 0 3 → dz_rg a57 4 0 3 → dz_rg a59 14425 0 16777215 → dz_rg a61 13824 0 13823 → dz_rg a62 16 0 16777215 → dz_pt a63 [1, 3] → dz_hv 2 2 a62 → dz_lv 2 a58 (c2_pots.toInt.toNat + 1) → dz_MK 2 c2_pots.toInt.toNat a59 0 0 → dz_pm a57 2 → dz_xl 2 v2 v3 → c2_pots.toInt ≤ v3.toInt ∨ dz_mz 2 (a59 ((a58 v3.toNatClampNeg) + v2).toNatClampNeg) → 0 + 280 + (4 - v3.toInt) * 96 + 8 ≤ ((k : Nat) : Int) → dz_T ((F70_X12_leads fu c2_groups c2_pots c2_ranks c2_draws c2_lawful a48 a49 a52 a53 k).1 v1 v2 v3 c2_thrown c2_parts a56 a57 a58 a59 a61 a62 a63) (fun r => r.1.toInt ≤ 15 ∧ (-1) ≤ r.1.toInt ∧ r.1.toInt + 1 ≤ c2_draws.toInt ∧ r.1.toInt ≤ c2_lawful.toInt + 14 ∧ dz_rg r.2.2.2.1 4 0 3 ∧ dz_rg r.2.2.2.2.1 4 0 3 ∧ dz_rg r.2.2.2.2.2.2.1 14425 0 16777215 ∧ dz_rg r.2.2.2.2.2.2.2.1 13824 0 13823 ∧ dz_rg r.2.2.2.2.2.2.2.2.1 16 0 16777215) := by
  intro v1 v2 v3 c2_thrown c2_parts a56 a57 a58 a59 a61 a62 a63 i0 i1 i2 i3 i4 i5 i6 i7 i8 i9 i10 i11 i12 i13 i14 hr_a56 hr_a57 hr_a59 hr_a61 hr_a62 hr_a63 x0 x1 x2 x3 x4 x5 hm
  obtain ⟨k0, rfl⟩ : ∃ x, k = x + 1 := ⟨k - 1, by omega⟩
  show dz_T (s70_X12_leads_1 fu c2_groups c2_pots c2_ranks c2_draws c2_lawful a48 a49 a52 a53 (F70_X12_leads fu c2_groups c2_pots c2_ranks c2_draws c2_lawful a48 a49 a52 a53 k0).2.1 (F70_X12_leads fu c2_groups c2_pots c2_ranks c2_draws c2_lawful a48 a49 a52 a53 k0).2.2.1  v1 v2 v3 c2_thrown c2_parts a56 a57 a58 a59 a61 a62 a63) _
  unfold s70_X12_leads_1
  have hb := dz_xlb x4 4 16 (by decide) (by decide) (by omega)
  refine dz_Tle (fun h1 => ?_) (fun h1 => ?_)
  · skip
    have e2 := dz_l0
    exact (ih k0 (by omega)).2.1 v2 (0 : Int32) c2_thrown c2_parts a56 a57 a58 a59 a61 a62 a63 i0 i3 i4 (by omega) (by omega) i7 i8 i9 i10 (by omega) (hr_a56) (hr_a57) (hr_a59) (hr_a61) (hr_a62) (hr_a63) (by omega)
  · skip
    have e3 := dz_l1
    have e4 := dz_sub (a := c2_pots) (b := (1 : Int32)) (by omega) (by omega)
    exact (ih k0 (by omega)).2.2 v1 v2 v3 v1 (c2_pots - (1 : Int32)) c2_thrown c2_parts a56 a57 a58 a59 a61 a62 a63 (by first | assumption | omega) i0 i1 i2 i3 i4 (by first | assumption | omega) i6 i1 i2 (by omega) (by omega) i7 i8 i9 i10 i11 (by first | assumption | omega) i11 (by omega) (by omega) (by first | assumption | omega) (by first | assumption | omega) (hr_a56) (hr_a57) (hr_a59) (hr_a61) (hr_a62) (hr_a63) (by first | exact x0 | exact qo2_4) (by first | exact x1 | exact qo2_1) (by first | exact x2 | exact qo2_2) (by first | exact x3 | exact dz_pmcp qo1_1 o1 (by omega) rfl) (by first | exact hx2 | exact x4 | exact dz_xl0 (by omega) (by omega)) (by first | exact hm3 | exact x5 | exact (dz_nolf qo2_3 o3 (by omega)).imp (fun w => by omega) (fun w => dz_m00 qo2_1 w (by omega) (by omega))) (by omega)
set_option maxHeartbeats 4000000 in
set_option maxRecDepth 10000 in
theorem t70_X12_leads_h2_g2 (fu : Nat) (hfu : 1000000000000 ≤ fu) (c2_groups : Int32) (c2_pots : Int32) (c2_ranks : Int32) (c2_draws : Int32) (c2_lawful : Int32) (a48 : Nat → Int32) (a49 : Nat → Int32) (a52 : Nat → Int32) (a53 : Nat → Int32) (p0 : c2_groups.toInt ≤ 2) (p1 : 2 ≤ c2_groups.toInt) (p2 : c2_pots.toInt ≤ 4) (p3 : 0 ≤ c2_pots.toInt) (p4 : c2_ranks.toInt ≤ 2) (p5 : 2 ≤ c2_ranks.toInt) (p6 : c2_draws.toInt ≤ 16) (p7 : 1 ≤ c2_draws.toInt) (p8 : c2_lawful.toInt ≤ 16) (p9 : 0 ≤ c2_lawful.toInt) (p10 : c2_lawful.toInt ≤ c2_draws.toInt) (hr_a48 : dz_rg a48 100 0 3) (hr_a49 : dz_rg a49 13824 0 1023) (hr_a52 : dz_rg a52 4 0 3) (hr_a53 : dz_rg a53 4 0 3) (o0 : dz_pm a52 c2_pots.toInt.toNat) (o1 : dz_pm a53 2) (o2 : dz_rw 2 2 a48) (o3 : dz_lf c2_lawful a49 c2_draws.toInt.toNat) (k : Nat) (ih : ∀ j9, j9 < k → p70_X12_leads_g2 fu c2_groups c2_pots c2_ranks c2_draws c2_lawful a48 a49 a52 a53 j9) : ∀ (v2 : Int32) (v3 : Int32) (c2_thrown : Int32) (c2_parts : Int32) (a56 : Nat → Int32) (a57 : Nat → Int32) (a58 : Nat → Int32) (a59 : Nat → Int32) (a61 : Nat → Int32) (a62 : Nat → Int32) (a63 : Nat → Int32), 1 ≤ c2_lawful.toInt → v2.toInt ≤ 15 → 0 ≤ v2.toInt → v3.toInt ≤ 16 → 0 ≤ v3.toInt → c2_thrown.toInt ≤ 0 → 0 ≤ c2_thrown.toInt → c2_parts.toInt ≤ 9 → 9 ≤ c2_parts.toInt → v3.toInt ≤ c2_draws.toInt → dz_rg a56 4 0 3 → dz_rg a57 4 0 3 → dz_rg a59 14425 0 16777215 → dz_rg a61 13824 0 13823 → dz_rg a62 16 0 16777215 → dz_pt a63 [1, 3] → 0 + 0 + (16 - v3.toInt) * 16 + 8 ≤ ((k : Nat) : Int) → dz_T ((F70_X12_leads fu c2_groups c2_pots c2_ranks c2_draws c2_lawful a48 a49 a52 a53 k).2.1 v2 v3 c2_thrown c2_parts a56 a57 a58 a59 a61 a62 a63) (fun r => r.1.toInt ≤ 15 ∧ (-1) ≤ r.1.toInt ∧ r.1.toInt + 1 ≤ c2_draws.toInt ∧ r.1.toInt ≤ c2_lawful.toInt + 14 ∧ dz_rg r.2.2.2.1 4 0 3 ∧ dz_rg r.2.2.2.2.1 4 0 3 ∧ dz_rg r.2.2.2.2.2.2.1 14425 0 16777215 ∧ dz_rg r.2.2.2.2.2.2.2.1 13824 0 13823 ∧ dz_rg r.2.2.2.2.2.2.2.2.1 16 0 16777215) := by
  intro v2 v3 c2_thrown c2_parts a56 a57 a58 a59 a61 a62 a63 i0 i1 i2 i3 i4 i5 i6 i7 i8 i9 hr_a56 hr_a57 hr_a59 hr_a61 hr_a62 hr_a63 hm
  obtain ⟨k0, rfl⟩ : ∃ x, k = x + 1 := ⟨k - 1, by omega⟩
  show dz_T (s70_X12_leads_2 fu c2_groups c2_pots c2_ranks c2_draws c2_lawful a48 a49 a52 a53 (F70_X12_leads fu c2_groups c2_pots c2_ranks c2_draws c2_lawful a48 a49 a52 a53 k0).2.2.2  v2 v3 c2_thrown c2_parts a56 a57 a58 a59 a61 a62 a63) _
  unfold s70_X12_leads_2
  refine dz_Tle (fun h1 => ?_) (fun h1 => ?_)
  · skip
    have e2 := dz_lm1
    refine dz_Ts ?_
    dsimp only
    exact ⟨(by omega), (by omega), (by omega), (by omega), (hr_a56), (hr_a57), (hr_a59), (hr_a61), (hr_a62)⟩
  · skip
    refine dz_Tin (by omega) (by omega) ?_
    have e3 := dz_rgat (hr_a49) (i := v3) (by omega) (by omega)
    have e4 := dz_l0
    refine dz_Teq (fun h5 => ?_) (fun h5 => ?_)
    · skip
      refine dz_Tin (by omega) (by omega) ?_
      have e6 := dz_rgat (hr_a61) (i := v3) (by omega) (by omega)
      refine dz_Teq (fun h7 => ?_) (fun h7 => ?_)
      · skip
        refine dz_Ts ?_
        dsimp only
        exact ⟨(by first | assumption | omega), (by first | assumption | omega), (by first | assumption | omega), (by first | assumption | omega), (hr_a56), (hr_a57), (hr_a59), (hr_a61), (hr_a62)⟩
      · skip
        obtain ⟨k1, rfl⟩ : ∃ x, k0 = x + 1 := ⟨k0 - 1, by omega⟩
        show dz_T (s70_X12_leads_4 fu c2_groups c2_pots c2_ranks c2_draws c2_lawful a48 a49 a52 a53 (F70_X12_leads fu c2_groups c2_pots c2_ranks c2_draws c2_lawful a48 a49 a52 a53 k1).2.1 v2 v3 c2_thrown c2_parts a56 a57 a58 a59 a61 a62 a63) _
        unfold s70_X12_leads_4
        have e8 := dz_l1
        have e9 := dz_add (a := v3) (b := (1 : Int32)) (by omega) (by omega)
        exact (ih k1 (by omega)).2.1 v2 (v3 + (1 : Int32)) c2_thrown c2_parts a56 a57 a58 a59 a61 a62 a63 i0 i1 i2 (by omega) (by omega) i5 i6 i7 i8 (by omega) (hr_a56) (hr_a57) (hr_a59) (hr_a61) (hr_a62) (hr_a63) (by omega)
    · skip
      obtain ⟨k2, rfl⟩ : ∃ x, k0 = x + 1 := ⟨k0 - 1, by omega⟩
      show dz_T (s70_X12_leads_4 fu c2_groups c2_pots c2_ranks c2_draws c2_lawful a48 a49 a52 a53 (F70_X12_leads fu c2_groups c2_pots c2_ranks c2_draws c2_lawful a48 a49 a52 a53 k2).2.1 v2 v3 c2_thrown c2_parts a56 a57 a58 a59 a61 a62 a63) _
      unfold s70_X12_leads_4
      have e10 := dz_l1
      have e11 := dz_add (a := v3) (b := (1 : Int32)) (by omega) (by omega)
      exact (ih k2 (by omega)).2.1 v2 (v3 + (1 : Int32)) c2_thrown c2_parts a56 a57 a58 a59 a61 a62 a63 i0 i1 i2 (by omega) (by omega) i5 i6 i7 i8 (by omega) (hr_a56) (hr_a57) (hr_a59) (hr_a61) (hr_a62) (hr_a63) (by omega)
set_option maxHeartbeats 4000000 in
set_option maxRecDepth 10000 in
theorem t70_X12_leads_h3_g2 (fu : Nat) (hfu : 1000000000000 ≤ fu) (c2_groups : Int32) (c2_pots : Int32) (c2_ranks : Int32) (c2_draws : Int32) (c2_lawful : Int32) (a48 : Nat → Int32) (a49 : Nat → Int32) (a52 : Nat → Int32) (a53 : Nat → Int32) (p0 : c2_groups.toInt ≤ 2) (p1 : 2 ≤ c2_groups.toInt) (p2 : c2_pots.toInt ≤ 4) (p3 : 0 ≤ c2_pots.toInt) (p4 : c2_ranks.toInt ≤ 2) (p5 : 2 ≤ c2_ranks.toInt) (p6 : c2_draws.toInt ≤ 16) (p7 : 1 ≤ c2_draws.toInt) (p8 : c2_lawful.toInt ≤ 16) (p9 : 0 ≤ c2_lawful.toInt) (p10 : c2_lawful.toInt ≤ c2_draws.toInt) (hr_a48 : dz_rg a48 100 0 3) (hr_a49 : dz_rg a49 13824 0 1023) (hr_a52 : dz_rg a52 4 0 3) (hr_a53 : dz_rg a53 4 0 3) (o0 : dz_pm a52 c2_pots.toInt.toNat) (o1 : dz_pm a53 2) (o2 : dz_rw 2 2 a48) (o3 : dz_lf c2_lawful a49 c2_draws.toInt.toNat) (k : Nat) (ih : ∀ j9, j9 < k → p70_X12_leads_g2 fu c2_groups c2_pots c2_ranks c2_draws c2_lawful a48 a49 a52 a53 j9) : ∀ (v1 : Int32) (v2 : Int32) (v3 : Int32) (v4 : Int32) (v5 : Int32) (c2_thrown : Int32) (c2_parts : Int32) (a56 : Nat → Int32) (a57 : Nat → Int32) (a58 : Nat → Int32) (a59 : Nat → Int32) (a61 : Nat → Int32) (a62 : Nat → Int32) (a63 : Nat → Int32), 1 ≤ c2_pots.toInt → 1 ≤ c2_lawful.toInt → v1.toInt ≤ 15 → 0 ≤ v1.toInt → v2.toInt ≤ 15 → 0 ≤ v2.toInt → v3.toInt ≤ 3 → 0 ≤ v3.toInt → v4.toInt ≤ 15 → 0 ≤ v4.toInt → v5.toInt ≤ 3 → 0 ≤ v5.toInt → c2_thrown.toInt ≤ 0 → 0 ≤ c2_thrown.toInt → c2_parts.toInt ≤ 9 → 9 ≤ c2_parts.toInt → v1.toInt + 1 ≤ c2_draws.toInt → v3.toInt + 1 ≤ c2_pots.toInt → v4.toInt + 1 ≤ c2_draws.toInt → v5.toInt + 1 ≤ c2_pots.toInt → v3.toInt ≤ v5.toInt → v4.toInt ≤ v1.toInt → v2.toInt ≤ c2_pots.toInt + 13 → dz_rg a56 4 0 3 → dz_rg a57 4 0 3 → dz_rg a59 14425 0 16777215 → dz_rg a61 13824 0 13823 → dz_rg a62 16 0 16777215 → dz_pt a63 [1, 3] → dz_hv 2 2 a62 → dz_lv 2 a58 (c2_pots.toInt.toNat + 1) → dz_MK 2 c2_pots.toInt.toNat a59 0 0 → dz_pm a57 2 → dz_xl 2 v2 v3 → c2_pots.toInt ≤ v3.toInt ∨ dz_mz 2 (a59 ((a58 v3.toNatClampNeg) + v2).toNatClampNeg) → 0 + 280 + ((4 - v3.toInt) - 1) * 96 + 0 + (v5.toInt - 0) * 16 + 16 ≤ ((k : Nat) : Int) → dz_T ((F70_X12_leads fu c2_groups c2_pots c2_ranks c2_draws c2_lawful a48 a49 a52 a53 k).2.2.1 v1 v2 v3 v4 v5 c2_thrown c2_parts a56 a57 a58 a59 a61 a62 a63) (fun r => r.1.toInt ≤ 15 ∧ (-1) ≤ r.1.toInt ∧ r.1.toInt + 1 ≤ c2_draws.toInt ∧ r.1.toInt ≤ c2_lawful.toInt + 14 ∧ dz_rg r.2.2.2.1 4 0 3 ∧ dz_rg r.2.2.2.2.1 4 0 3 ∧ dz_rg r.2.2.2.2.2.2.1 14425 0 16777215 ∧ dz_rg r.2.2.2.2.2.2.2.1 13824 0 13823 ∧ dz_rg r.2.2.2.2.2.2.2.2.1 16 0 16777215) := by
  intro v1 v2 v3 v4 v5 c2_thrown c2_parts a56 a57 a58 a59 a61 a62 a63 i0 i1 i2 i3 i4 i5 i6 i7 i8 i9 i10 i11 i12 i13 i14 i15 i16 i17 i18 i19 i20 i21 i22 hr_a56 hr_a57 hr_a59 hr_a61 hr_a62 hr_a63 x0 x1 x2 x3 x4 x5 hm
  obtain ⟨k0, rfl⟩ : ∃ x, k = x + 1 := ⟨k - 1, by omega⟩
  show dz_T (s70_X12_leads_3 fu c2_groups c2_pots c2_ranks c2_draws c2_lawful a48 a49 a52 a53 (F70_X12_leads fu c2_groups c2_pots c2_ranks c2_draws c2_lawful a48 a49 a52 a53 k0).1 (F70_X12_leads fu c2_groups c2_pots c2_ranks c2_draws c2_lawful a48 a49 a52 a53 k0).2.2.1  v1 v2 v3 v4 v5 c2_thrown c2_parts a56 a57 a58 a59 a61 a62 a63) _
  unfold s70_X12_leads_3
  have hb := dz_xlb x4 4 16 (by decide) (by decide) (by omega)
  refine dz_Tle (fun h1 => ?_) (fun h1 => ?_)
  · skip
    refine dz_Tz (by omega) ?_
    have e2 := dz_remn (a := v4) (b := c2_ranks) 2 (by omega) (by omega) (by omega)
    refine dz_Tb (t69_X12_put_g2 fu hfu _ _ _ _ _ _ _ _ _ _ _ _ p0 p1 p4 p5 i7 i6 i5 i4 (by omega) (by omega) i14 i15 (hr_a48) (hr_a57) (hr_a59) (hr_a62) (hr_a63) (x0) (x3) (o2) (by have hlx := dz_lvx x1 x4 5 31 (by decide) (by decide) (by omega) (by omega) (by omega); omega) (x5.resolve_left (by omega))) (fun r1 q => ?_)
    obtain ⟨q1_0, q1_1, qo1_0, qo1_1⟩ := q
    have hlx := dz_lvx x1 x4 5 31 (by decide) (by decide) (by omega) (by omega) (by omega)
    have hl1 := dz_l1
    have hk1 := dz_add (a := v3) (b := 1) (by omega) (by omega)
    have hm1 := dz_mulr (a := v2) (b := c2_ranks) 2 (by omega) (by omega) (by omega)
    have hm2 := dz_add (a := v2 * c2_ranks) (b := r1) (by omega) (by omega)
    have hx2 : dz_xl 2 ((v2 * c2_ranks) + r1) (v3 + 1) := dz_xls x4 (by omega) (by omega) (r := r1) (by omega) (by omega) (by omega)
    have hb2 := dz_xlb hx2 4 16 (by decide) (by decide) (by omega)
    have hm3 : c2_pots.toInt ≤ (v3 + 1).toInt ∨ dz_mz 2 (a59 ((a58 (v3 + 1).toNatClampNeg) + ((v2 * c2_ranks) + r1)).toNatClampNeg) := dz_orn (fun hn => dz_MKn (k := v3) (x := v2) (r := r1) (i := (a58 v3.toNatClampNeg) + v2) x2 x1 (by omega) (by omega) (by omega) (by omega) (dz_xln x4) (by omega) (by omega) (by omega) qo1_1 ⟨v3 + 1, by omega, by have := dz_lvx x1 hx2 5 31 (by decide) (by decide) (by omega) (by omega) (by omega); omega⟩)
    have e3 := dz_mulr (a := v2) (b := c2_ranks) 2 (by omega) (by omega) (by omega)
    have e4 := dz_add (a := (v2 * c2_ranks)) (b := r1) (by omega) (by omega)
    have e5 := dz_l1
    have e6 := dz_add (a := v3) (b := (1 : Int32)) (by omega) (by omega)
    exact (ih k0 (by omega)).1 v1 ((v2 * c2_ranks) + r1) (v3 + (1 : Int32)) c2_thrown c2_parts a56 a57 a58 a59 a61 a62 a63 i1 i2 i3 (by omega) (by omega) (by omega) (by omega) i12 i13 i14 i15 i16 (by omega) (by omega) (by omega) (hr_a56) (hr_a57) (hr_a59) (hr_a61) (hr_a62) (hr_a63) (by first | exact x0 | exact qo2_4) (by first | exact x1 | exact qo2_1) (by first | exact x2 | exact qo2_2) (by first | exact x3 | exact dz_pmcp qo1_1 o1 (by omega) rfl) (by first | exact hx2 | exact x4 | exact dz_xl0 (by omega) (by omega)) (by first | exact hm3 | exact x5 | exact (dz_nolf qo2_3 o3 (by omega)).imp (fun w => by omega) (fun w => dz_m00 qo2_1 w (by omega) (by omega))) (by omega)
  · skip
    refine dz_Tz (by omega) ?_
    have e7 := dz_divn (a := v4) (b := c2_ranks) 2 (by omega) (by omega) (by omega)
    have e8 := dz_lm1
    have e9 := dz_add (a := v5) (b := (-(1 : Int32))) (by omega) (by omega)
    generalize (v5 + (-(1 : Int32))) = z1 at *
    exact (ih k0 (by omega)).2.2 v1 v2 v3 (v4 / c2_ranks) z1 c2_thrown c2_parts a56 a57 a58 a59 a61 a62 a63 i0 i1 i2 i3 i4 i5 i6 i7 (by omega) (by omega) (by omega) (by omega) i12 i13 i14 i15 i16 i17 (by omega) (by omega) (by omega) (by omega) i22 (hr_a56) (hr_a57) (hr_a59) (hr_a61) (hr_a62) (hr_a63) (by first | exact x0 | exact qo2_4) (by first | exact x1 | exact qo2_1) (by first | exact x2 | exact qo2_2) (by first | exact x3 | exact dz_pmcp qo1_1 o1 (by omega) rfl) (by first | exact hx2 | exact x4 | exact dz_xl0 (by omega) (by omega)) (by first | exact hm3 | exact x5 | exact (dz_nolf qo2_3 o3 (by omega)).imp (fun w => by omega) (fun w => dz_m00 qo2_1 w (by omega) (by omega))) (by omega)
theorem t70_X12_leads_I_g2 (fu : Nat) (hfu : 1000000000000 ≤ fu) (c2_groups : Int32) (c2_pots : Int32) (c2_ranks : Int32) (c2_draws : Int32) (c2_lawful : Int32) (a48 : Nat → Int32) (a49 : Nat → Int32) (a52 : Nat → Int32) (a53 : Nat → Int32) (p0 : c2_groups.toInt ≤ 2) (p1 : 2 ≤ c2_groups.toInt) (p2 : c2_pots.toInt ≤ 4) (p3 : 0 ≤ c2_pots.toInt) (p4 : c2_ranks.toInt ≤ 2) (p5 : 2 ≤ c2_ranks.toInt) (p6 : c2_draws.toInt ≤ 16) (p7 : 1 ≤ c2_draws.toInt) (p8 : c2_lawful.toInt ≤ 16) (p9 : 0 ≤ c2_lawful.toInt) (p10 : c2_lawful.toInt ≤ c2_draws.toInt) (hr_a48 : dz_rg a48 100 0 3) (hr_a49 : dz_rg a49 13824 0 1023) (hr_a52 : dz_rg a52 4 0 3) (hr_a53 : dz_rg a53 4 0 3) (o0 : dz_pm a52 c2_pots.toInt.toNat) (o1 : dz_pm a53 2) (o2 : dz_rw 2 2 a48) (o3 : dz_lf c2_lawful a49 c2_draws.toInt.toNat) (k : Nat) : p70_X12_leads_g2 fu c2_groups c2_pots c2_ranks c2_draws c2_lawful a48 a49 a52 a53 k := by
  induction k using Nat.strongRecOn with
  | _ k ih => exact ⟨t70_X12_leads_h1_g2 fu hfu c2_groups c2_pots c2_ranks c2_draws c2_lawful a48 a49 a52 a53 p0 p1 p2 p3 p4 p5 p6 p7 p8 p9 p10 hr_a48 hr_a49 hr_a52 hr_a53 o0 o1 o2 o3 k ih, t70_X12_leads_h2_g2 fu hfu c2_groups c2_pots c2_ranks c2_draws c2_lawful a48 a49 a52 a53 p0 p1 p2 p3 p4 p5 p6 p7 p8 p9 p10 hr_a48 hr_a49 hr_a52 hr_a53 o0 o1 o2 o3 k ih, t70_X12_leads_h3_g2 fu hfu c2_groups c2_pots c2_ranks c2_draws c2_lawful a48 a49 a52 a53 p0 p1 p2 p3 p4 p5 p6 p7 p8 p9 p10 hr_a48 hr_a49 hr_a52 hr_a53 o0 o1 o2 o3 k ih⟩
set_option maxHeartbeats 4000000 in
set_option maxRecDepth 10000 in
theorem t70_X12_leads_E_g2 (fu : Nat) (hfu : 1000000000000 ≤ fu) (c2_groups : Int32) (c2_pots : Int32) (c2_ranks : Int32) (c2_draws : Int32) (c2_lawful : Int32) (a48 : Nat → Int32) (a49 : Nat → Int32) (a52 : Nat → Int32) (a53 : Nat → Int32) (v1 : Int32) (c2_thrown : Int32) (c2_parts : Int32) (a56 : Nat → Int32) (a57 : Nat → Int32) (a58 : Nat → Int32) (a59 : Nat → Int32) (a61 : Nat → Int32) (a62 : Nat → Int32) (a63 : Nat → Int32) (p0 : c2_groups.toInt ≤ 2) (p1 : 2 ≤ c2_groups.toInt) (p2 : c2_pots.toInt ≤ 4) (p3 : 0 ≤ c2_pots.toInt) (p4 : c2_ranks.toInt ≤ 2) (p5 : 2 ≤ c2_ranks.toInt) (p6 : c2_draws.toInt ≤ 16) (p7 : 1 ≤ c2_draws.toInt) (p8 : c2_lawful.toInt ≤ 16) (p9 : 0 ≤ c2_lawful.toInt) (p10 : c2_lawful.toInt ≤ c2_draws.toInt) (hr_a48 : dz_rg a48 100 0 3) (hr_a49 : dz_rg a49 13824 0 1023) (hr_a52 : dz_rg a52 4 0 3) (hr_a53 : dz_rg a53 4 0 3) (hr_a56 : dz_rg a56 4 0 3) (hr_a57 : dz_rg a57 4 0 3) (hr_a59 : dz_rg a59 14425 0 16777215) (hr_a61 : dz_rg a61 13824 0 13823) (hr_a62 : dz_rg a62 16 0 16777215) (o0 : dz_pm a52 c2_pots.toInt.toNat) (o1 : dz_pm a53 2) (o2 : dz_rw 2 2 a48) (o3 : dz_lf c2_lawful a49 c2_draws.toInt.toNat) (kv : Nat) (hkv : 1000000000000 ≤ kv) : dz_T (s70_X12_leads_0 fu c2_groups c2_pots c2_ranks c2_draws c2_lawful a48 a49 a52 a53 (F70_X12_leads fu c2_groups c2_pots c2_ranks c2_draws c2_lawful a48 a49 a52 a53 kv).1  v1 c2_thrown c2_parts a56 a57 a58 a59 a61 a62 a63) (fun r => r.1.toInt ≤ 15 ∧ (-1) ≤ r.1.toInt ∧ r.1.toInt + 1 ≤ c2_draws.toInt ∧ r.1.toInt ≤ c2_lawful.toInt + 14 ∧ dz_rg r.2.2.2.1 4 0 3 ∧ dz_rg r.2.2.2.2.1 4 0 3 ∧ dz_rg r.2.2.2.2.2.2.1 14425 0 16777215 ∧ dz_rg r.2.2.2.2.2.2.2.1 13824 0 13823 ∧ dz_rg r.2.2.2.2.2.2.2.2.1 16 0 16777215) := by
  unfold s70_X12_leads_0
  have e1 := dz_l0
  refine dz_Tlt (fun h2 => ?_) (fun h2 => ?_)
  · skip
    have e3 := dz_lm1
    refine dz_Ts ?_
    dsimp only
    exact ⟨(by omega), (by omega), (by omega), (by omega), (hr_a56), (hr_a57), (hr_a59), (hr_a61), (hr_a62)⟩
  · skip
    refine dz_Tle (fun h4 => ?_) (fun h4 => ?_)
    · skip
      have e5 := dz_lm1
      refine dz_Ts ?_
      dsimp only
      exact ⟨(by omega), (by omega), (by omega), (by omega), (hr_a56), (hr_a57), (hr_a59), (hr_a61), (hr_a62)⟩
    · skip
      refine dz_Teq (fun h6 => ?_) (fun h6 => ?_)
      · skip
        have e7 := dz_lm1
        refine dz_Ts ?_
        dsimp only
        exact ⟨(by omega), (by omega), (by omega), (by omega), (hr_a56), (hr_a57), (hr_a59), (hr_a61), (hr_a62)⟩
      · skip
        refine dz_Tb (t48_X12_turnsAs fu hfu _ _ _ _ (hr_a52) (hr_a53) (hr_a56) (hr_a57)) (fun r1 q => ?_)
        obtain ⟨qa1_0, qa1_1, qo1_0, qo1_1⟩ := q
        refine dz_Tb (t49_X12_layMasks_g2 fu hfu _ _ _ _ _ _ _ _ _ _ _ _ _ p0 p1 p2 p3 p4 p5 p6 p7 (hr_a48) (hr_a49) (qa1_0) (hr_a59) (hr_a61) (hr_a62) (o2) (dz_pqpm (dz_pmcp qo1_0 o0 (by omega) rfl) (by omega) rfl)) (fun r2 q => ?_)
        obtain ⟨qa2_2, qa2_3, qa2_4, qa2_5, qo2_0, qo2_1, qo2_2, qo2_3, qo2_4, qo2_5⟩ := q
        exact (t70_X12_leads_I_g2 fu hfu c2_groups c2_pots c2_ranks c2_draws c2_lawful a48 a49 a52 a53 p0 p1 p2 p3 p4 p5 p6 p7 p8 p9 p10 hr_a48 hr_a49 hr_a52 hr_a53 o0 o1 o2 o3 kv).1 v1 (0 : Int32) (0 : Int32) (0 : Int32) r2.1 r1.1 r1.2 r2.2.1 r2.2.2.1 r2.2.2.2.1 r2.2.2.2.2.1 r2.2.2.2.2.2 (by first | assumption | omega) (by first | assumption | omega) (by first | assumption | omega) (by omega) (by omega) (by omega) (by omega) (by omega) (by omega) (by first | assumption | omega) (by first | assumption | omega) (by first | assumption | omega) (by omega) (by omega) (by omega) (qa1_0) (qa1_1) (qa2_2) (qa2_3) (qa2_4) (qa2_5) (by first | exact x0 | exact qo2_4) (by first | exact x1 | exact qo2_1) (by first | exact x2 | exact qo2_2) (by first | exact x3 | exact dz_pmcp qo1_1 o1 (by omega) rfl) (by first | exact hx2 | exact x4 | exact dz_xl0 (by omega) (by omega)) (by first | exact hm3 | exact x5 | exact (dz_nolf qo2_3 o3 (by omega)).imp (fun w => by omega) (fun w => dz_m00 qo2_1 w (by omega) (by omega))) (by omega)
theorem t70_X12_leads_g2 (fu : Nat) (hfu : 1000000000000 ≤ fu) (c2_groups : Int32) (c2_pots : Int32) (c2_ranks : Int32) (c2_draws : Int32) (c2_lawful : Int32) (a48 : Nat → Int32) (a49 : Nat → Int32) (a52 : Nat → Int32) (a53 : Nat → Int32) (v1 : Int32) (c2_thrown : Int32) (c2_parts : Int32) (a56 : Nat → Int32) (a57 : Nat → Int32) (a58 : Nat → Int32) (a59 : Nat → Int32) (a61 : Nat → Int32) (a62 : Nat → Int32) (a63 : Nat → Int32) (p0 : c2_groups.toInt ≤ 2) (p1 : 2 ≤ c2_groups.toInt) (p2 : c2_pots.toInt ≤ 4) (p3 : 0 ≤ c2_pots.toInt) (p4 : c2_ranks.toInt ≤ 2) (p5 : 2 ≤ c2_ranks.toInt) (p6 : c2_draws.toInt ≤ 16) (p7 : 1 ≤ c2_draws.toInt) (p8 : c2_lawful.toInt ≤ 16) (p9 : 0 ≤ c2_lawful.toInt) (p10 : c2_lawful.toInt ≤ c2_draws.toInt) (hr_a48 : dz_rg a48 100 0 3) (hr_a49 : dz_rg a49 13824 0 1023) (hr_a52 : dz_rg a52 4 0 3) (hr_a53 : dz_rg a53 4 0 3) (hr_a56 : dz_rg a56 4 0 3) (hr_a57 : dz_rg a57 4 0 3) (hr_a59 : dz_rg a59 14425 0 16777215) (hr_a61 : dz_rg a61 13824 0 13823) (hr_a62 : dz_rg a62 16 0 16777215) (o0 : dz_pm a52 c2_pots.toInt.toNat) (o1 : dz_pm a53 2) (o2 : dz_rw 2 2 a48) (o3 : dz_lf c2_lawful a49 c2_draws.toInt.toNat) : dz_T (f70_X12_leads fu c2_groups c2_pots c2_ranks c2_draws c2_lawful a48 a49 a52 a53 v1 c2_thrown c2_parts a56 a57 a58 a59 a61 a62 a63) (fun r => r.1.toInt ≤ 15 ∧ (-1) ≤ r.1.toInt ∧ r.1.toInt + 1 ≤ c2_draws.toInt ∧ r.1.toInt ≤ c2_lawful.toInt + 14 ∧ dz_rg r.2.2.2.1 4 0 3 ∧ dz_rg r.2.2.2.2.1 4 0 3 ∧ dz_rg r.2.2.2.2.2.2.1 14425 0 16777215 ∧ dz_rg r.2.2.2.2.2.2.2.1 13824 0 13823 ∧ dz_rg r.2.2.2.2.2.2.2.2.1 16 0 16777215) :=
  t70_X12_leads_E_g2 fu hfu c2_groups c2_pots c2_ranks c2_draws c2_lawful a48 a49 a52 a53 v1 c2_thrown c2_parts a56 a57 a58 a59 a61 a62 a63 p0 p1 p2 p3 p4 p5 p6 p7 p8 p9 p10 hr_a48 hr_a49 hr_a52 hr_a53 hr_a56 hr_a57 hr_a59 hr_a61 hr_a62 o0 o1 o2 o3 fu hfu
