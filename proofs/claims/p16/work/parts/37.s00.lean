abbrev p37_X12_placedIn (fu : Nat) (a54 : Nat → Int32) (a55 : Nat → Int32) (k : Nat) : Prop :=
  (∀ (v1 : Int32) (v2 : Int32) (v3 : Int32), v2.toInt ≤ 12 → 0 ≤ v2.toInt → v3.toInt ≤ 12 → 0 ≤ v3.toInt → v3.toInt ≤ v2.toInt → dz_nt a54 v1 v3.toInt.toNat → 0 + 0 + (12 - v3.toInt) * 10 + 5 ≤ ((k : Nat) : Int) → dz_T ((F37_X12_placedIn fu a54 a55 k) v1 v2 v3) (fun r => r.toInt ≤ 3 ∧ (-1) ≤ r.toInt ∧ (r.toInt ≠ -1 ∨ dz_nt a54 v1 v2.toInt.toNat)))
set_option maxHeartbeats 4000000 in
set_option maxRecDepth 10000 in
theorem t37_X12_placedIn_h1 (fu : Nat) (hfu : 1000000000000 ≤ fu) (a54 : Nat → Int32) (a55 : Nat → Int32) (hr_a54 : dz_rg a54 12 0 11) (hr_a55 : dz_rg a55 12 0 3) (k : Nat) (ih : ∀ j9, j9 < k → p37_X12_placedIn fu a54 a55 j9) : ∀ (v1 : Int32) (v2 : Int32) (v3 : Int32), v2.toInt ≤ 12 → 0 ≤ v2.toInt → v3.toInt ≤ 12 → 0 ≤ v3.toInt → v3.toInt ≤ v2.toInt → dz_nt a54 v1 v3.toInt.toNat → 0 + 0 + (12 - v3.toInt) * 10 + 5 ≤ ((k : Nat) : Int) → dz_T ((F37_X12_placedIn fu a54 a55 k) v1 v2 v3) (fun r => r.toInt ≤ 3 ∧ (-1) ≤ r.toInt ∧ (r.toInt ≠ -1 ∨ dz_nt a54 v1 v2.toInt.toNat)) := by
  intro v1 v2 v3 i0 i1 i2 i3 i4 x0 hm
  obtain ⟨k0, rfl⟩ : ∃ x, k = x + 1 := ⟨k - 1, by omega⟩
  show dz_T (s37_X12_placedIn_1 fu a54 a55 (F37_X12_placedIn fu a54 a55 k0)  v1 v2 v3) _
  unfold s37_X12_placedIn_1
  refine dz_Tle (fun h1 => ?_) (fun h1 => ?_)
  · skip
    have e2 := dz_lm1
    exact dz_Ts ⟨(by omega), (by omega), (by first | exact Or.inl (by omega) | exact Or.inr (dz_ntm x0 (by omega)))⟩
  · skip
    refine dz_Tin (by omega) (by omega) ?_
    have e3 := dz_rgat (hr_a54) (i := v3) (by omega) (by omega)
    refine dz_Teq (fun h4 => ?_) (fun h4 => ?_)
    · skip
      refine dz_Tin (by omega) (by omega) ?_
      have e5 := dz_rgat (hr_a55) (i := v3) (by omega) (by omega)
      exact dz_Ts ⟨(by omega), (by omega), (by first | exact Or.inl (by omega) | exact Or.inr (dz_ntm x0 (by omega)))⟩
    · skip
      have e6 := dz_l1
      have e7 := dz_add (a := v3) (b := (1 : Int32)) (by omega) (by omega)
      exact (ih k0 (by omega)) v1 v2 (v3 + (1 : Int32)) i0 i1 (by omega) (by omega) (by omega) (by first | exact dz_nt0 (by omega) | exact dz_nts x0 (by omega) (by omega) (by omega)) (by omega)
theorem t37_X12_placedIn_I (fu : Nat) (hfu : 1000000000000 ≤ fu) (a54 : Nat → Int32) (a55 : Nat → Int32) (hr_a54 : dz_rg a54 12 0 11) (hr_a55 : dz_rg a55 12 0 3) (k : Nat) : p37_X12_placedIn fu a54 a55 k := by
  induction k using Nat.strongRecOn with
  | _ k ih => exact t37_X12_placedIn_h1 fu hfu a54 a55 hr_a54 hr_a55 k ih
set_option maxHeartbeats 4000000 in
set_option maxRecDepth 10000 in
theorem t37_X12_placedIn_E (fu : Nat) (hfu : 1000000000000 ≤ fu) (a54 : Nat → Int32) (a55 : Nat → Int32) (v1 : Int32) (v2 : Int32) (p0 : 0 ≤ v2.toInt) (p1 : v2.toInt ≤ 12) (hr_a54 : dz_rg a54 12 0 11) (hr_a55 : dz_rg a55 12 0 3) (kv : Nat) (hkv : 1000000000000 ≤ kv) : dz_T (s37_X12_placedIn_0 fu a54 a55 (F37_X12_placedIn fu a54 a55 kv)  v1 v2) (fun r => r.toInt ≤ 3 ∧ (-1) ≤ r.toInt ∧ (r.toInt ≠ -1 ∨ dz_nt a54 v1 v2.toInt.toNat)) := by
  unfold s37_X12_placedIn_0
  have e1 := dz_l0
  exact (t37_X12_placedIn_I fu hfu a54 a55 hr_a54 hr_a55 kv) v1 v2 (0 : Int32) p1 p0 (by omega) (by omega) (by omega) (by first | exact dz_nt0 (by omega) | exact dz_nts x0 (by omega) (by omega) (by omega)) (by omega)
theorem t37_X12_placedIn (fu : Nat) (hfu : 1000000000000 ≤ fu) (a54 : Nat → Int32) (a55 : Nat → Int32) (v1 : Int32) (v2 : Int32) (p0 : 0 ≤ v2.toInt) (p1 : v2.toInt ≤ 12) (hr_a54 : dz_rg a54 12 0 11) (hr_a55 : dz_rg a55 12 0 3) : dz_T (f37_X12_placedIn fu a54 a55 v1 v2) (fun r => r.toInt ≤ 3 ∧ (-1) ≤ r.toInt ∧ (r.toInt ≠ -1 ∨ dz_nt a54 v1 v2.toInt.toNat)) :=
  t37_X12_placedIn_E fu hfu a54 a55 v1 v2 p0 p1 hr_a54 hr_a55 fu hfu
abbrev p38_X12_isAsPlaced (fu : Nat) (a50 : Nat → Int32) (a54 : Nat → Int32) (a55 : Nat → Int32) (k : Nat) : Prop :=
  (∀ (v1 : Int32) (v2 : Int32) (v3 : Int32), v1.toInt ≤ 13823 → 0 ≤ v1.toInt → v2.toInt ≤ 12 → 0 ≤ v2.toInt → v3.toInt ≤ 12 → 0 ≤ v3.toInt → v3.toInt ≤ v2.toInt → dz_ap a50 a54 a55 v1.toInt.toNat v3.toInt.toNat → 0 + 0 + (12 - v3.toInt) * 10 + 5 ≤ ((k : Nat) : Int) → dz_T ((F38_X12_isAsPlaced fu a50 a54 a55 k) v1 v2 v3) (fun r => r.toInt ≤ 1 ∧ 0 ≤ r.toInt ∧ (r.toInt = 0 ∨ dz_ap a50 a54 a55 v1.toInt.toNat v2.toInt.toNat) ∧ (r.toInt ≠ 0 ∨ ¬ dz_ap a50 a54 a55 v1.toInt.toNat v2.toInt.toNat)))
set_option maxHeartbeats 4000000 in
set_option maxRecDepth 10000 in
theorem t38_X12_isAsPlaced_h1 (fu : Nat) (hfu : 1000000000000 ≤ fu) (a50 : Nat → Int32) (a54 : Nat → Int32) (a55 : Nat → Int32) (hr_a50 : dz_rg a50 165888 0 3) (hr_a54 : dz_rg a54 12 0 11) (hr_a55 : dz_rg a55 12 0 3) (k : Nat) (ih : ∀ j9, j9 < k → p38_X12_isAsPlaced fu a50 a54 a55 j9) : ∀ (v1 : Int32) (v2 : Int32) (v3 : Int32), v1.toInt ≤ 13823 → 0 ≤ v1.toInt → v2.toInt ≤ 12 → 0 ≤ v2.toInt → v3.toInt ≤ 12 → 0 ≤ v3.toInt → v3.toInt ≤ v2.toInt → dz_ap a50 a54 a55 v1.toInt.toNat v3.toInt.toNat → 0 + 0 + (12 - v3.toInt) * 10 + 5 ≤ ((k : Nat) : Int) → dz_T ((F38_X12_isAsPlaced fu a50 a54 a55 k) v1 v2 v3) (fun r => r.toInt ≤ 1 ∧ 0 ≤ r.toInt ∧ (r.toInt = 0 ∨ dz_ap a50 a54 a55 v1.toInt.toNat v2.toInt.toNat) ∧ (r.toInt ≠ 0 ∨ ¬ dz_ap a50 a54 a55 v1.toInt.toNat v2.toInt.toNat)) := by
  intro v1 v2 v3 i0 i1 i2 i3 i4 i5 i6 x0 hm
  obtain ⟨k0, rfl⟩ : ∃ x, k = x + 1 := ⟨k - 1, by omega⟩
  show dz_T (s38_X12_isAsPlaced_1 fu a50 a54 a55 (F38_X12_isAsPlaced fu a50 a54 a55 k0)  v1 v2 v3) _
  unfold s38_X12_isAsPlaced_1
  refine dz_Tle (fun h1 => ?_) (fun h1 => ?_)
  · skip
    have e2 := dz_l1
    exact dz_Ts ⟨(by omega), (by omega), (by first | exact Or.inl (by omega) | exact Or.inr (dz_apm x0 (by omega))), (by first | exact Or.inl (by omega) | exact Or.inr (dz_apn (k := v3) (by omega) (by omega) (by omega) (by omega) (by omega) (by omega) (by assumption)))⟩
  · skip
    refine dz_Tin (by omega) (by omega) ?_
    have e3 := dz_l12
    have e4 := dz_mull (a := (12 : Int32)) (b := v1) 12 (by omega) (by omega) (by omega)
    have e5 := dz_rgat (hr_a54) (i := v3) (by omega) (by omega)
    have e6 := dz_add (a := ((12 : Int32) * v1)) (b := (a54 v3.toNatClampNeg)) (by omega) (by omega)
    refine dz_Tin (by omega) (by omega) ?_
    refine dz_Tin (by omega) (by omega) ?_
    have e7 := dz_rgat (hr_a50) (i := (((12 : Int32) * v1) + (a54 v3.toNatClampNeg))) (by omega) (by omega)
    have e8 := dz_rgat (hr_a55) (i := v3) (by omega) (by omega)
    refine dz_Teq (fun h9 => ?_) (fun h9 => ?_)
    · skip
      have e10 := dz_l1
      have e11 := dz_add (a := v3) (b := (1 : Int32)) (by omega) (by omega)
      exact (ih k0 (by omega)) v1 v2 (v3 + (1 : Int32)) i0 i1 i2 i3 (by omega) (by omega) (by omega) (by first | exact dz_ap0 (by omega) | exact dz_aps x0 (by omega) (by omega) (by omega) (by omega) (by omega) (by omega) (by omega)) (by omega)
    · skip
      have e12 := dz_l0
      exact dz_Ts ⟨(by omega), (by omega), (by first | exact Or.inl (by omega) | exact Or.inr (dz_apm x0 (by omega))), (by first | exact Or.inl (by omega) | exact Or.inr (dz_apn (k := v3) (by omega) (by omega) (by omega) (by omega) (by omega) (by omega) (by assumption)))⟩
theorem t38_X12_isAsPlaced_I (fu : Nat) (hfu : 1000000000000 ≤ fu) (a50 : Nat → Int32) (a54 : Nat → Int32) (a55 : Nat → Int32) (hr_a50 : dz_rg a50 165888 0 3) (hr_a54 : dz_rg a54 12 0 11) (hr_a55 : dz_rg a55 12 0 3) (k : Nat) : p38_X12_isAsPlaced fu a50 a54 a55 k := by
  induction k using Nat.strongRecOn with
  | _ k ih => exact t38_X12_isAsPlaced_h1 fu hfu a50 a54 a55 hr_a50 hr_a54 hr_a55 k ih
set_option maxHeartbeats 4000000 in
set_option maxRecDepth 10000 in
theorem t38_X12_isAsPlaced_E (fu : Nat) (hfu : 1000000000000 ≤ fu) (a50 : Nat → Int32) (a54 : Nat → Int32) (a55 : Nat → Int32) (v1 : Int32) (v2 : Int32) (p0 : 0 ≤ v1.toInt) (p1 : v1.toInt ≤ 13823) (p2 : 0 ≤ v2.toInt) (p3 : v2.toInt ≤ 12) (hr_a50 : dz_rg a50 165888 0 3) (hr_a54 : dz_rg a54 12 0 11) (hr_a55 : dz_rg a55 12 0 3) (kv : Nat) (hkv : 1000000000000 ≤ kv) : dz_T (s38_X12_isAsPlaced_0 fu a50 a54 a55 (F38_X12_isAsPlaced fu a50 a54 a55 kv)  v1 v2) (fun r => r.toInt ≤ 1 ∧ 0 ≤ r.toInt ∧ (r.toInt = 0 ∨ dz_ap a50 a54 a55 v1.toInt.toNat v2.toInt.toNat) ∧ (r.toInt ≠ 0 ∨ ¬ dz_ap a50 a54 a55 v1.toInt.toNat v2.toInt.toNat)) := by
  unfold s38_X12_isAsPlaced_0
  have e1 := dz_l0
  exact (t38_X12_isAsPlaced_I fu hfu a50 a54 a55 hr_a50 hr_a54 hr_a55 kv) v1 v2 (0 : Int32) p1 p0 p3 p2 (by omega) (by omega) (by omega) (by first | exact dz_ap0 (by omega) | exact dz_aps x0 (by omega) (by omega) (by omega) (by omega) (by omega) (by omega) (by omega)) (by omega)
theorem t38_X12_isAsPlaced (fu : Nat) (hfu : 1000000000000 ≤ fu) (a50 : Nat → Int32) (a54 : Nat → Int32) (a55 : Nat → Int32) (v1 : Int32) (v2 : Int32) (p0 : 0 ≤ v1.toInt) (p1 : v1.toInt ≤ 13823) (p2 : 0 ≤ v2.toInt) (p3 : v2.toInt ≤ 12) (hr_a50 : dz_rg a50 165888 0 3) (hr_a54 : dz_rg a54 12 0 11) (hr_a55 : dz_rg a55 12 0 3) : dz_T (f38_X12_isAsPlaced fu a50 a54 a55 v1 v2) (fun r => r.toInt ≤ 1 ∧ 0 ≤ r.toInt ∧ (r.toInt = 0 ∨ dz_ap a50 a54 a55 v1.toInt.toNat v2.toInt.toNat) ∧ (r.toInt ≠ 0 ∨ ¬ dz_ap a50 a54 a55 v1.toInt.toNat v2.toInt.toNat)) :=
  t38_X12_isAsPlaced_E fu hfu a50 a54 a55 v1 v2 p0 p1 p2 p3 hr_a50 hr_a54 hr_a55 fu hfu
abbrev p39_X12_shut_s (fu : Nat) (κ : Nat) (c2_groups : Int32) (c2_draws : Int32) (a49 : Nat → Int32) (a50 : Nat → Int32) (a54 : Nat → Int32) (a55 : Nat → Int32) (k : Nat) : Prop :=
  (∀ (v1 : Int32) (v2 : Int32) (v3 : Int32) (v4 : Int32), v1.toInt ≤ 11 → 0 ≤ v1.toInt → v3.toInt ≤ 12 → 0 ≤ v3.toInt → v4.toInt ≤ 12 → 0 ≤ v4.toInt → v4.toInt ≤ v3.toInt → 0 + 221208 + (12 - v4.toInt) * 16 + 8 ≤ ((k : Nat) : Int) → dz_T ((F39_X12_shut fu c2_groups c2_draws a49 a50 a54 a55 k).1 v1 v2 v3 v4) (fun r => r.toInt ≤ 2 ∧ 0 ≤ r.toInt ∧ (r.toInt ≠ 0 ∨ dz_sw c2_draws.toInt.toNat a49 a50 a54 a55 v1 v2 v3.toInt.toNat) ∧ (r.toInt = 0 ∨ ¬ (dz_sw c2_draws.toInt.toNat a49 a50 a54 a55 v1 v2 v3.toInt.toNat) ∨ dz_bl c2_groups.toInt a54 a55 v1 v2 v3.toInt.toNat))) ∧ (∀ (v1 : Int32) (v2 : Int32) (v3 : Int32) (v4 : Int32), v1.toInt ≤ 11 → 0 ≤ v1.toInt → v3.toInt ≤ 12 → 0 ≤ v3.toInt → v4.toInt ≤ 13824 → 0 ≤ v4.toInt → v4.toInt ≤ c2_draws.toInt → dz_nw v4.toInt.toNat a49 a50 a54 a55 v1 v2 v3.toInt.toNat → 0 + 0 + (13824 - v4.toInt) * 16 + 8 ≤ ((k : Nat) : Int) → dz_T ((F39_X12_shut fu c2_groups c2_draws a49 a50 a54 a55 k).2.1 v1 v2 v3 v4) (fun r => r.toInt ≤ 2 ∧ 0 ≤ r.toInt ∧ (r.toInt ≠ 0 ∨ dz_sw c2_draws.toInt.toNat a49 a50 a54 a55 v1 v2 v3.toInt.toNat) ∧ (r.toInt = 0 ∨ ¬ (dz_sw c2_draws.toInt.toNat a49 a50 a54 a55 v1 v2 v3.toInt.toNat) ∨ dz_bl c2_groups.toInt a54 a55 v1 v2 v3.toInt.toNat)))
set_option maxHeartbeats 4000000 in
set_option maxRecDepth 10000 in
theorem t39_X12_shut_h1_s (fu : Nat) (hfu : 1000000000000 ≤ fu) (κ : Nat) (hκ : κ < 14) (c2_groups : Int32) (c2_draws : Int32) (a49 : Nat → Int32) (a50 : Nat → Int32) (a54 : Nat → Int32) (a55 : Nat → Int32) (p0 : c2_groups.toInt ≤ 4) (p1 : 2 ≤ c2_groups.toInt) (p2 : c2_draws.toInt ≤ 13824) (p3 : 1 ≤ c2_draws.toInt) (hr_a49 : dz_rg a49 13824 0 1023) (hr_a50 : dz_rg a50 165888 0 3) (hr_a54 : dz_rg a54 12 0 11) (hr_a55 : dz_rg a55 12 0 3) (o0 : c2_groups.toInt = ((dz_kg κ : Nat) : Int)) (o1 : c2_draws.toInt = ((dz_kt κ : Nat) : Int)) (k : Nat) (ih : ∀ j9, j9 < k → p39_X12_shut_s fu κ c2_groups c2_draws a49 a50 a54 a55 j9) : ∀ (v1 : Int32) (v2 : Int32) (v3 : Int32) (v4 : Int32), v1.toInt ≤ 11 → 0 ≤ v1.toInt → v3.toInt ≤ 12 → 0 ≤ v3.toInt → v4.toInt ≤ 12 → 0 ≤ v4.toInt → v4.toInt ≤ v3.toInt → 0 + 221208 + (12 - v4.toInt) * 16 + 8 ≤ ((k : Nat) : Int) → dz_T ((F39_X12_shut fu c2_groups c2_draws a49 a50 a54 a55 k).1 v1 v2 v3 v4) (fun r => r.toInt ≤ 2 ∧ 0 ≤ r.toInt ∧ (r.toInt ≠ 0 ∨ dz_sw c2_draws.toInt.toNat a49 a50 a54 a55 v1 v2 v3.toInt.toNat) ∧ (r.toInt = 0 ∨ ¬ (dz_sw c2_draws.toInt.toNat a49 a50 a54 a55 v1 v2 v3.toInt.toNat) ∨ dz_bl c2_groups.toInt a54 a55 v1 v2 v3.toInt.toNat)) := by
  intro v1 v2 v3 v4 i0 i1 i2 i3 i4 i5 i6 hm
  obtain ⟨k0, rfl⟩ : ∃ x, k = x + 1 := ⟨k - 1, by omega⟩
  show dz_T (s39_X12_shut_1 fu c2_groups c2_draws a49 a50 a54 a55 (F39_X12_shut fu c2_groups c2_draws a49 a50 a54 a55 k0).2.1 (F39_X12_shut fu c2_groups c2_draws a49 a50 a54 a55 k0).2.2.1  v1 v2 v3 v4) _
  unfold s39_X12_shut_1
  refine dz_Tle (fun h1 => ?_) (fun h1 => ?_)
  · skip
    have e2 := dz_l0
    exact (ih k0 (by omega)).2 v1 v2 v3 (0 : Int32) i0 i1 i2 i3 (by omega) (by omega) (by omega) (by first | exact dz_nw0 (by omega) | exact dz_nws x0 (by omega) (by omega) (dz_sn1 (by omega) (by omega)) | exact dz_nws x0 (by omega) (by omega) (dz_sn2 (by omega) (by omega) (by omega) (by omega) (by assumption)) | exact dz_nws x0 (by omega) (by omega) (dz_sn3 ((by assumption : _ ≠ _ ∨ ¬ _).resolve_left (by omega)))) (by omega)
  · skip
    refine dz_Tin (by omega) (by omega) ?_
    refine dz_Tz (by omega) ?_
    refine dz_Tz (by omega) ?_
    have e3 := dz_rgat (hr_a54) (i := v4) (by omega) (by omega)
    have e4 := dz_divq (a := (a54 v4.toNatClampNeg)) (b := c2_groups) 2 11 (by omega) (by omega) (by omega) (by omega)
    have e5 := dz_divq (a := v1) (b := c2_groups) 2 11 (by omega) (by omega) (by omega) (by omega)
    refine dz_Teq (fun h6 => ?_) (fun h6 => ?_)
    · skip
      refine dz_Tin (by omega) (by omega) ?_
      have e7 := dz_rgat (hr_a55) (i := v4) (by omega) (by omega)
      refine dz_Teq (fun h8 => ?_) (fun h8 => ?_)
      · skip
        have e9 := dz_l1
        exact dz_Ts ⟨(by omega), (by omega), (by first | exact Or.inl (by omega) | exact Or.inr (dz_swi (c := v4) (by omega) (by omega) (by omega) (by omega) (by omega) (by omega) (by assumption) ((by assumption : _ = _ ∨ _).resolve_left (by omega)))), (by first | exact Or.inl (by omega) | exact Or.inr (Or.inl (dz_swn x0 (by omega))) | exact Or.inr (Or.inr (dz_bli (k := v4) (by omega) (by omega) (by omega) (by omega) (by omega) (by assumption) (by assumption))))⟩
      · skip
        obtain ⟨k1, rfl⟩ : ∃ x, k0 = x + 1 := ⟨k0 - 1, by omega⟩
        show dz_T (s39_X12_shut_3 fu c2_groups c2_draws a49 a50 a54 a55 (F39_X12_shut fu c2_groups c2_draws a49 a50 a54 a55 k1).1 v1 v2 v3 v4) _
        unfold s39_X12_shut_3
        have e10 := dz_l1
        have e11 := dz_add (a := v4) (b := (1 : Int32)) (by omega) (by omega)
        exact (ih k1 (by omega)).1 v1 v2 v3 (v4 + (1 : Int32)) i0 i1 i2 i3 (by omega) (by omega) (by omega) (by omega)
    · skip
      obtain ⟨k2, rfl⟩ : ∃ x, k0 = x + 1 := ⟨k0 - 1, by omega⟩
      show dz_T (s39_X12_shut_3 fu c2_groups c2_draws a49 a50 a54 a55 (F39_X12_shut fu c2_groups c2_draws a49 a50 a54 a55 k2).1 v1 v2 v3 v4) _
      unfold s39_X12_shut_3
      have e12 := dz_l1
      have e13 := dz_add (a := v4) (b := (1 : Int32)) (by omega) (by omega)
      exact (ih k2 (by omega)).1 v1 v2 v3 (v4 + (1 : Int32)) i0 i1 i2 i3 (by omega) (by omega) (by omega) (by omega)
set_option maxHeartbeats 4000000 in
set_option maxRecDepth 10000 in
theorem t39_X12_shut_h2_s (fu : Nat) (hfu : 1000000000000 ≤ fu) (κ : Nat) (hκ : κ < 14) (c2_groups : Int32) (c2_draws : Int32) (a49 : Nat → Int32) (a50 : Nat → Int32) (a54 : Nat → Int32) (a55 : Nat → Int32) (p0 : c2_groups.toInt ≤ 4) (p1 : 2 ≤ c2_groups.toInt) (p2 : c2_draws.toInt ≤ 13824) (p3 : 1 ≤ c2_draws.toInt) (hr_a49 : dz_rg a49 13824 0 1023) (hr_a50 : dz_rg a50 165888 0 3) (hr_a54 : dz_rg a54 12 0 11) (hr_a55 : dz_rg a55 12 0 3) (o0 : c2_groups.toInt = ((dz_kg κ : Nat) : Int)) (o1 : c2_draws.toInt = ((dz_kt κ : Nat) : Int)) (k : Nat) (ih : ∀ j9, j9 < k → p39_X12_shut_s fu κ c2_groups c2_draws a49 a50 a54 a55 j9) : ∀ (v1 : Int32) (v2 : Int32) (v3 : Int32) (v4 : Int32), v1.toInt ≤ 11 → 0 ≤ v1.toInt → v3.toInt ≤ 12 → 0 ≤ v3.toInt → v4.toInt ≤ 13824 → 0 ≤ v4.toInt → v4.toInt ≤ c2_draws.toInt → dz_nw v4.toInt.toNat a49 a50 a54 a55 v1 v2 v3.toInt.toNat → 0 + 0 + (13824 - v4.toInt) * 16 + 8 ≤ ((k : Nat) : Int) → dz_T ((F39_X12_shut fu c2_groups c2_draws a49 a50 a54 a55 k).2.1 v1 v2 v3 v4) (fun r => r.toInt ≤ 2 ∧ 0 ≤ r.toInt ∧ (r.toInt ≠ 0 ∨ dz_sw c2_draws.toInt.toNat a49 a50 a54 a55 v1 v2 v3.toInt.toNat) ∧ (r.toInt = 0 ∨ ¬ (dz_sw c2_draws.toInt.toNat a49 a50 a54 a55 v1 v2 v3.toInt.toNat) ∨ dz_bl c2_groups.toInt a54 a55 v1 v2 v3.toInt.toNat)) := by
  intro v1 v2 v3 v4 i0 i1 i2 i3 i4 i5 i6 x0 hm
  obtain ⟨k0, rfl⟩ : ∃ x, k = x + 1 := ⟨k - 1, by omega⟩
  show dz_T (s39_X12_shut_2 fu c2_groups c2_draws a49 a50 a54 a55 (F39_X12_shut fu c2_groups c2_draws a49 a50 a54 a55 k0).2.2.2  v1 v2 v3 v4) _
  unfold s39_X12_shut_2
  refine dz_Tle (fun h1 => ?_) (fun h1 => ?_)
  · skip
    have e2 := dz_l2
    exact dz_Ts ⟨(by omega), (by omega), (by first | exact Or.inl (by omega) | exact Or.inr (dz_swi (c := v4) (by omega) (by omega) (by omega) (by omega) (by omega) (by omega) (by assumption) ((by assumption : _ = _ ∨ _).resolve_left (by omega)))), (by first | exact Or.inl (by omega) | exact Or.inr (Or.inl (dz_swn x0 (by omega))) | exact Or.inr (Or.inr (dz_bli (k := v4) (by omega) (by omega) (by omega) (by omega) (by omega) (by assumption) (by assumption))))⟩
  · skip
    refine dz_Tin (by omega) (by omega) ?_
    have e3 := dz_rgat (hr_a49) (i := v4) (by omega) (by omega)
    have e4 := dz_l0
    refine dz_Teq (fun h5 => ?_) (fun h5 => ?_)
    · skip
      have e6 := dz_l12
      have e7 := dz_mull (a := (12 : Int32)) (b := v4) 12 (by omega) (by omega) (by omega)
      have e8 := dz_add (a := ((12 : Int32) * v4)) (b := v1) (by omega) (by omega)
      refine dz_Tin (by omega) (by omega) ?_
      have e9 := dz_rgat (hr_a50) (i := (((12 : Int32) * v4) + v1)) (by omega) (by omega)
      refine dz_Teq (fun h10 => ?_) (fun h10 => ?_)
      · skip
        refine dz_Tb (t38_X12_isAsPlaced fu hfu _ _ _ _ _ i5 (by first | assumption | omega) i3 i2 (hr_a50) (hr_a54) (hr_a55)) (fun r1 q => ?_)
        obtain ⟨q1_0, q1_1, qo1_0, qo1_1⟩ := q
        refine dz_Teq (fun h11 => ?_) (fun h11 => ?_)
        · skip
          obtain ⟨k1, rfl⟩ : ∃ x, k0 = x + 1 := ⟨k0 - 1, by omega⟩
          show dz_T (s39_X12_shut_4 fu c2_groups c2_draws a49 a50 a54 a55 (F39_X12_shut fu c2_groups c2_draws a49 a50 a54 a55 k1).2.1 v1 v2 v3 v4) _
          unfold s39_X12_shut_4
          have e12 := dz_l1
          have e13 := dz_add (a := v4) (b := (1 : Int32)) (by omega) (by omega)
          exact (ih k1 (by omega)).2 v1 v2 v3 (v4 + (1 : Int32)) i0 i1 i2 i3 (by omega) (by omega) (by omega) (by first | exact dz_nw0 (by omega) | exact dz_nws x0 (by omega) (by omega) (dz_sn1 (by omega) (by omega)) | exact dz_nws x0 (by omega) (by omega) (dz_sn2 (by omega) (by omega) (by omega) (by omega) (by assumption)) | exact dz_nws x0 (by omega) (by omega) (dz_sn3 ((by assumption : _ ≠ _ ∨ ¬ _).resolve_left (by omega)))) (by omega)
        · skip
          exact dz_Ts ⟨(by omega), (by omega), (by first | exact Or.inl (by omega) | exact Or.inr (dz_swi (c := v4) (by omega) (by omega) (by omega) (by omega) (by omega) (by omega) (by assumption) ((by assumption : _ = _ ∨ _).resolve_left (by omega)))), (by first | exact Or.inl (by omega) | exact Or.inr (Or.inl (dz_swn x0 (by omega))) | exact Or.inr (Or.inr (dz_bli (k := v4) (by omega) (by omega) (by omega) (by omega) (by omega) (by assumption) (by assumption))))⟩
      · skip
        obtain ⟨k2, rfl⟩ : ∃ x, k0 = x + 1 := ⟨k0 - 1, by omega⟩
        show dz_T (s39_X12_shut_4 fu c2_groups c2_draws a49 a50 a54 a55 (F39_X12_shut fu c2_groups c2_draws a49 a50 a54 a55 k2).2.1 v1 v2 v3 v4) _
        unfold s39_X12_shut_4
        have e14 := dz_l1
        have e15 := dz_add (a := v4) (b := (1 : Int32)) (by omega) (by omega)
        exact (ih k2 (by omega)).2 v1 v2 v3 (v4 + (1 : Int32)) i0 i1 i2 i3 (by omega) (by omega) (by omega) (by first | exact dz_nw0 (by omega) | exact dz_nws x0 (by omega) (by omega) (dz_sn1 (by omega) (by omega)) | exact dz_nws x0 (by omega) (by omega) (dz_sn2 (by omega) (by omega) (by omega) (by omega) (by assumption)) | exact dz_nws x0 (by omega) (by omega) (dz_sn3 ((by assumption : _ ≠ _ ∨ ¬ _).resolve_left (by omega)))) (by omega)
    · skip
      obtain ⟨k3, rfl⟩ : ∃ x, k0 = x + 1 := ⟨k0 - 1, by omega⟩
      show dz_T (s39_X12_shut_4 fu c2_groups c2_draws a49 a50 a54 a55 (F39_X12_shut fu c2_groups c2_draws a49 a50 a54 a55 k3).2.1 v1 v2 v3 v4) _
      unfold s39_X12_shut_4
      have e16 := dz_l1
      have e17 := dz_add (a := v4) (b := (1 : Int32)) (by omega) (by omega)
      exact (ih k3 (by omega)).2 v1 v2 v3 (v4 + (1 : Int32)) i0 i1 i2 i3 (by omega) (by omega) (by omega) (by first | exact dz_nw0 (by omega) | exact dz_nws x0 (by omega) (by omega) (dz_sn1 (by omega) (by omega)) | exact dz_nws x0 (by omega) (by omega) (dz_sn2 (by omega) (by omega) (by omega) (by omega) (by assumption)) | exact dz_nws x0 (by omega) (by omega) (dz_sn3 ((by assumption : _ ≠ _ ∨ ¬ _).resolve_left (by omega)))) (by omega)
theorem t39_X12_shut_I_s (fu : Nat) (hfu : 1000000000000 ≤ fu) (κ : Nat) (hκ : κ < 14) (c2_groups : Int32) (c2_draws : Int32) (a49 : Nat → Int32) (a50 : Nat → Int32) (a54 : Nat → Int32) (a55 : Nat → Int32) (p0 : c2_groups.toInt ≤ 4) (p1 : 2 ≤ c2_groups.toInt) (p2 : c2_draws.toInt ≤ 13824) (p3 : 1 ≤ c2_draws.toInt) (hr_a49 : dz_rg a49 13824 0 1023) (hr_a50 : dz_rg a50 165888 0 3) (hr_a54 : dz_rg a54 12 0 11) (hr_a55 : dz_rg a55 12 0 3) (o0 : c2_groups.toInt = ((dz_kg κ : Nat) : Int)) (o1 : c2_draws.toInt = ((dz_kt κ : Nat) : Int)) (k : Nat) : p39_X12_shut_s fu κ c2_groups c2_draws a49 a50 a54 a55 k := by
  induction k using Nat.strongRecOn with
  | _ k ih => exact ⟨t39_X12_shut_h1_s fu hfu κ hκ c2_groups c2_draws a49 a50 a54 a55 p0 p1 p2 p3 hr_a49 hr_a50 hr_a54 hr_a55 o0 o1 k ih, t39_X12_shut_h2_s fu hfu κ hκ c2_groups c2_draws a49 a50 a54 a55 p0 p1 p2 p3 hr_a49 hr_a50 hr_a54 hr_a55 o0 o1 k ih⟩
set_option maxHeartbeats 4000000 in
set_option maxRecDepth 10000 in
theorem t39_X12_shut_E_s (fu : Nat) (hfu : 1000000000000 ≤ fu) (κ : Nat) (hκ : κ < 14) (c2_groups : Int32) (c2_draws : Int32) (a49 : Nat → Int32) (a50 : Nat → Int32) (a54 : Nat → Int32) (a55 : Nat → Int32) (v1 : Int32) (v2 : Int32) (v3 : Int32) (p0 : c2_groups.toInt ≤ 4) (p1 : 2 ≤ c2_groups.toInt) (p2 : c2_draws.toInt ≤ 13824) (p3 : 1 ≤ c2_draws.toInt) (p4 : 0 ≤ v1.toInt) (p5 : v1.toInt ≤ 11) (p6 : 0 ≤ v3.toInt) (p7 : v3.toInt ≤ 12) (hr_a49 : dz_rg a49 13824 0 1023) (hr_a50 : dz_rg a50 165888 0 3) (hr_a54 : dz_rg a54 12 0 11) (hr_a55 : dz_rg a55 12 0 3) (o0 : c2_groups.toInt = ((dz_kg κ : Nat) : Int)) (o1 : c2_draws.toInt = ((dz_kt κ : Nat) : Int)) (kv : Nat) (hkv : 1000000000000 ≤ kv) : dz_T (s39_X12_shut_0 fu c2_groups c2_draws a49 a50 a54 a55 (F39_X12_shut fu c2_groups c2_draws a49 a50 a54 a55 kv).1  v1 v2 v3) (fun r => r.toInt ≤ 2 ∧ 0 ≤ r.toInt ∧ (r.toInt ≠ 0 ∨ dz_sw c2_draws.toInt.toNat a49 a50 a54 a55 v1 v2 v3.toInt.toNat) ∧ (r.toInt = 0 ∨ ¬ (dz_sw c2_draws.toInt.toNat a49 a50 a54 a55 v1 v2 v3.toInt.toNat) ∨ dz_bl c2_groups.toInt a54 a55 v1 v2 v3.toInt.toNat)) := by
  unfold s39_X12_shut_0
  have e1 := dz_l0
  exact (t39_X12_shut_I_s fu hfu κ hκ c2_groups c2_draws a49 a50 a54 a55 p0 p1 p2 p3 hr_a49 hr_a50 hr_a54 hr_a55 o0 o1 kv).1 v1 v2 v3 (0 : Int32) p5 p4 p7 p6 (by omega) (by omega) (by omega) (by omega)
theorem t39_X12_shut_s (fu : Nat) (hfu : 1000000000000 ≤ fu) (κ : Nat) (hκ : κ < 14) (c2_groups : Int32) (c2_draws : Int32) (a49 : Nat → Int32) (a50 : Nat → Int32) (a54 : Nat → Int32) (a55 : Nat → Int32) (v1 : Int32) (v2 : Int32) (v3 : Int32) (p0 : c2_groups.toInt ≤ 4) (p1 : 2 ≤ c2_groups.toInt) (p2 : c2_draws.toInt ≤ 13824) (p3 : 1 ≤ c2_draws.toInt) (p4 : 0 ≤ v1.toInt) (p5 : v1.toInt ≤ 11) (p6 : 0 ≤ v3.toInt) (p7 : v3.toInt ≤ 12) (hr_a49 : dz_rg a49 13824 0 1023) (hr_a50 : dz_rg a50 165888 0 3) (hr_a54 : dz_rg a54 12 0 11) (hr_a55 : dz_rg a55 12 0 3) (o0 : c2_groups.toInt = ((dz_kg κ : Nat) : Int)) (o1 : c2_draws.toInt = ((dz_kt κ : Nat) : Int)) : dz_T (f39_X12_shut fu c2_groups c2_draws a49 a50 a54 a55 v1 v2 v3) (fun r => r.toInt ≤ 2 ∧ 0 ≤ r.toInt ∧ (r.toInt ≠ 0 ∨ dz_sw c2_draws.toInt.toNat a49 a50 a54 a55 v1 v2 v3.toInt.toNat) ∧ (r.toInt = 0 ∨ ¬ (dz_sw c2_draws.toInt.toNat a49 a50 a54 a55 v1 v2 v3.toInt.toNat) ∨ dz_bl c2_groups.toInt a54 a55 v1 v2 v3.toInt.toNat)) :=
  t39_X12_shut_E_s fu hfu κ hκ c2_groups c2_draws a49 a50 a54 a55 v1 v2 v3 p0 p1 p2 p3 p4 p5 p6 p7 hr_a49 hr_a50 hr_a54 hr_a55 o0 o1 fu hfu
abbrev p40_X12_ball_s (fu : Nat) (κ : Nat) (c2_groups : Int32) (c2_pots : Int32) (c2_draws : Int32) (c2_lawful : Int32) (a49 : Nat → Int32) (a50 : Nat → Int32) (a52 : Nat → Int32) (a53 : Nat → Int32) (k : Nat) : Prop :=
  (∀ (v1 : Int32) (v2 : Int32) (c2_thrown : Int32) (c2_out : Int32) (c2_laid : Int32) (a54 : Nat → Int32) (a55 : Nat → Int32), 1 ≤ c2_lawful.toInt → v1.toInt ≤ 11 → 0 ≤ v1.toInt → v2.toInt ≤ 4 → 0 ≤ v2.toInt → c2_thrown.toInt ≤ 0 → 0 ≤ c2_thrown.toInt → c2_out.toInt ≤ 12 → 0 ≤ c2_out.toInt → v1.toInt ≤ c2_groups.toInt + 8 → dz_rg a54 12 0 11 → dz_rg a55 12 0 3 → dz_bx c2_draws.toInt.toNat c2_groups.toInt a49 a50 a53 a54 a55 v1 v2 c2_out.toInt.toNat → dz_J κ c2_lawful c2_out a49 a50 a54 a55 → dz_nt a54 v1 c2_out.toInt.toNat → c2_lawful.toInt ≠ 0 ∧ 0 ≤ v1.toInt ∧ v1.toInt < ((dz_km κ : Nat) : Int) → 0 + 0 + (4 - v2.toInt) * 10 + 5 ≤ ((k : Nat) : Int) → dz_T ((F40_X12_ball fu c2_groups c2_pots c2_draws c2_lawful a49 a50 a52 a53 k) v1 v2 c2_thrown c2_out c2_laid a54 a55) (fun r => r.1.toInt ≤ 3 ∧ (-1) ≤ r.1.toInt ∧ r.2.2.1.toInt ≤ 12 ∧ 0 ≤ r.2.2.1.toInt ∧ r.1.toInt ≤ r.2.2.1.toInt + 2 ∧ r.1.toInt ≤ c2_lawful.toInt + 2 ∧ dz_rg r.2.2.2.2.1 12 0 11 ∧ dz_rg r.2.2.2.2.2 12 0 3 ∧ (dz_J κ c2_lawful r.2.2.1 a49 a50 r.2.2.2.2.1 r.2.2.2.2.2)))
set_option maxHeartbeats 4000000 in
set_option maxRecDepth 10000 in
theorem t40_X12_ball_h1_s (fu : Nat) (hfu : 1000000000000 ≤ fu) (κ : Nat) (hκ : κ < 14) (c2_groups : Int32) (c2_pots : Int32) (c2_draws : Int32) (c2_lawful : Int32) (a49 : Nat → Int32) (a50 : Nat → Int32) (a52 : Nat → Int32) (a53 : Nat → Int32) (p0 : c2_groups.toInt ≤ 4) (p1 : 2 ≤ c2_groups.toInt) (p2 : c2_pots.toInt ≤ 4) (p3 : 0 ≤ c2_pots.toInt) (p4 : c2_draws.toInt ≤ 13824) (p5 : 1 ≤ c2_draws.toInt) (p6 : c2_lawful.toInt ≤ 13824) (p7 : 0 ≤ c2_lawful.toInt) (p8 : c2_lawful.toInt ≤ c2_draws.toInt) (hr_a49 : dz_rg a49 13824 0 1023) (hr_a50 : dz_rg a50 165888 0 3) (hr_a52 : dz_rg a52 4 0 3) (hr_a53 : dz_rg a53 4 0 3) (o1 : dz_gq (dz_kg κ) (dz_kr κ) c2_pots.toInt.toNat a50 (12 * (dz_kt κ))) (o2 : dz_pm a53 (dz_kg κ)) (o3 : c2_groups.toInt = ((dz_kg κ : Nat) : Int)) (o4 : c2_pots.toInt = ((dz_kp κ : Nat) : Int)) (o5 : c2_draws.toInt = ((dz_kt κ : Nat) : Int)) (k : Nat) (ih : ∀ j9, j9 < k → p40_X12_ball_s fu κ c2_groups c2_pots c2_draws c2_lawful a49 a50 a52 a53 j9) : ∀ (v1 : Int32) (v2 : Int32) (c2_thrown : Int32) (c2_out : Int32) (c2_laid : Int32) (a54 : Nat → Int32) (a55 : Nat → Int32), 1 ≤ c2_lawful.toInt → v1.toInt ≤ 11 → 0 ≤ v1.toInt → v2.toInt ≤ 4 → 0 ≤ v2.toInt → c2_thrown.toInt ≤ 0 → 0 ≤ c2_thrown.toInt → c2_out.toInt ≤ 12 → 0 ≤ c2_out.toInt → v1.toInt ≤ c2_groups.toInt + 8 → dz_rg a54 12 0 11 → dz_rg a55 12 0 3 → dz_bx c2_draws.toInt.toNat c2_groups.toInt a49 a50 a53 a54 a55 v1 v2 c2_out.toInt.toNat → dz_J κ c2_lawful c2_out a49 a50 a54 a55 → dz_nt a54 v1 c2_out.toInt.toNat → c2_lawful.toInt ≠ 0 ∧ 0 ≤ v1.toInt ∧ v1.toInt < ((dz_km κ : Nat) : Int) → 0 + 0 + (4 - v2.toInt) * 10 + 5 ≤ ((k : Nat) : Int) → dz_T ((F40_X12_ball fu c2_groups c2_pots c2_draws c2_lawful a49 a50 a52 a53 k) v1 v2 c2_thrown c2_out c2_laid a54 a55) (fun r => r.1.toInt ≤ 3 ∧ (-1) ≤ r.1.toInt ∧ r.2.2.1.toInt ≤ 12 ∧ 0 ≤ r.2.2.1.toInt ∧ r.1.toInt ≤ r.2.2.1.toInt + 2 ∧ r.1.toInt ≤ c2_lawful.toInt + 2 ∧ dz_rg r.2.2.2.2.1 12 0 11 ∧ dz_rg r.2.2.2.2.2 12 0 3 ∧ (dz_J κ c2_lawful r.2.2.1 a49 a50 r.2.2.2.2.1 r.2.2.2.2.2)) := by
  intro v1 v2 c2_thrown c2_out c2_laid a54 a55 i0 i1 i2 i3 i4 i5 i6 i7 i8 i9 hr_a54 hr_a55 x0 x1 x2 x3 hm
  obtain ⟨k0, rfl⟩ : ∃ x, k = x + 1 := ⟨k - 1, by omega⟩
  show dz_T (s40_X12_ball_1 fu c2_groups c2_pots c2_draws c2_lawful a49 a50 a52 a53 (F40_X12_ball fu c2_groups c2_pots c2_draws c2_lawful a49 a50 a52 a53 k0)  v1 v2 c2_thrown c2_out c2_laid a54 a55) _
  unfold s40_X12_ball_1
  have hbx := dz_bxl x0
  have hlt := dz_Jl x1 (by omega) (by omega) (by omega) x2
  have hm12 := dz_kall (P := fun k => dz_km k ≤ 12) (by decide) hκ
  refine dz_Tin (by omega) (by omega) ?_
  have e1 := dz_rgat (hr_a53) (i := v2) (by omega) (by omega)
  refine dz_Tb (t39_X12_shut_s fu hfu κ hκ _ _ _ _ _ _ _ _ _ p0 p1 p4 p5 i2 i1 i8 i7 (hr_a49) (hr_a50) (hr_a54) (hr_a55) o3 o5) (fun r1 q => ?_)
  obtain ⟨q1_0, q1_1, qo1_0, qo1_1⟩ := q
  have e2 := dz_l0
  refine dz_Teq (fun h3 => ?_) (fun h3 => ?_)
  · skip
    refine dz_Tin (by omega) (by omega) ?_
    refine dz_Tin (by omega) (by omega) ?_
    refine dz_Tin (by omega) (by omega) ?_
    refine dz_Tin (by omega) (by omega) ?_
    have e4 := dz_l1
    have e5 := dz_add (a := c2_out) (b := (1 : Int32)) (by omega) (by omega)
    have e6 := dz_lm1
    refine dz_Ts ?_
    dsimp only
    exact ⟨(by omega), (by omega), (by omega), (by omega), (by omega), (by omega), (dz_rgu (hr_a54) (by omega) (by omega)), (dz_rgu (hr_a55) (by omega) (by omega)), (by first | assumption | exact dz_Jn x1 (by omega) (by omega) (by omega) (by omega) x2 (by omega) (by omega) (qo1_0.resolve_left (by omega)))⟩
  · skip
    have e7 := dz_l1
    have e8 := dz_add (a := v2) (b := (1 : Int32)) (by omega) (by omega)
    exact (ih k0 (by omega)) v1 (v2 + (1 : Int32)) c2_thrown c2_out c2_laid a54 a55 i0 i1 i2 (by omega) (by omega) i5 i6 i7 i8 i9 (hr_a54) (hr_a55) (by first | exact dz_bx0 hκ (by omega) o0 o1 (by omega) o2 (by omega) (by omega) (by omega) (hpl.resolve_left (by omega)) (by omega) (by omega) | exact dz_bxs x0 (by omega) (by omega) (by assumption) qo1_1) (by assumption) (by first | assumption | exact hpl.resolve_left (by omega)) (by omega) (by omega)
theorem t40_X12_ball_I_s (fu : Nat) (hfu : 1000000000000 ≤ fu) (κ : Nat) (hκ : κ < 14) (c2_groups : Int32) (c2_pots : Int32) (c2_draws : Int32) (c2_lawful : Int32) (a49 : Nat → Int32) (a50 : Nat → Int32) (a52 : Nat → Int32) (a53 : Nat → Int32) (p0 : c2_groups.toInt ≤ 4) (p1 : 2 ≤ c2_groups.toInt) (p2 : c2_pots.toInt ≤ 4) (p3 : 0 ≤ c2_pots.toInt) (p4 : c2_draws.toInt ≤ 13824) (p5 : 1 ≤ c2_draws.toInt) (p6 : c2_lawful.toInt ≤ 13824) (p7 : 0 ≤ c2_lawful.toInt) (p8 : c2_lawful.toInt ≤ c2_draws.toInt) (hr_a49 : dz_rg a49 13824 0 1023) (hr_a50 : dz_rg a50 165888 0 3) (hr_a52 : dz_rg a52 4 0 3) (hr_a53 : dz_rg a53 4 0 3) (o1 : dz_gq (dz_kg κ) (dz_kr κ) c2_pots.toInt.toNat a50 (12 * (dz_kt κ))) (o2 : dz_pm a53 (dz_kg κ)) (o3 : c2_groups.toInt = ((dz_kg κ : Nat) : Int)) (o4 : c2_pots.toInt = ((dz_kp κ : Nat) : Int)) (o5 : c2_draws.toInt = ((dz_kt κ : Nat) : Int)) (k : Nat) : p40_X12_ball_s fu κ c2_groups c2_pots c2_draws c2_lawful a49 a50 a52 a53 k := by
  induction k using Nat.strongRecOn with
  | _ k ih => exact t40_X12_ball_h1_s fu hfu κ hκ c2_groups c2_pots c2_draws c2_lawful a49 a50 a52 a53 p0 p1 p2 p3 p4 p5 p6 p7 p8 hr_a49 hr_a50 hr_a52 hr_a53 o1 o2 o3 o4 o5 k ih
set_option maxHeartbeats 4000000 in
set_option maxRecDepth 10000 in
theorem t40_X12_ball_E_s (fu : Nat) (hfu : 1000000000000 ≤ fu) (κ : Nat) (hκ : κ < 14) (c2_groups : Int32) (c2_pots : Int32) (c2_draws : Int32) (c2_lawful : Int32) (a49 : Nat → Int32) (a50 : Nat → Int32) (a52 : Nat → Int32) (a53 : Nat → Int32) (v1 : Int32) (c2_thrown : Int32) (c2_out : Int32) (c2_laid : Int32) (a54 : Nat → Int32) (a55 : Nat → Int32) (p0 : c2_groups.toInt ≤ 4) (p1 : 2 ≤ c2_groups.toInt) (p2 : c2_pots.toInt ≤ 4) (p3 : 0 ≤ c2_pots.toInt) (p4 : c2_draws.toInt ≤ 13824) (p5 : 1 ≤ c2_draws.toInt) (p6 : c2_lawful.toInt ≤ 13824) (p7 : 0 ≤ c2_lawful.toInt) (p8 : c2_out.toInt ≤ 12) (p9 : 0 ≤ c2_out.toInt) (p10 : c2_lawful.toInt ≤ c2_draws.toInt) (hr_a49 : dz_rg a49 13824 0 1023) (hr_a50 : dz_rg a50 165888 0 3) (hr_a52 : dz_rg a52 4 0 3) (hr_a53 : dz_rg a53 4 0 3) (hr_a54 : dz_rg a54 12 0 11) (hr_a55 : dz_rg a55 12 0 3) (o0 : dz_J κ c2_lawful c2_out a49 a50 a54 a55) (o1 : dz_gq (dz_kg κ) (dz_kr κ) c2_pots.toInt.toNat a50 (12 * (dz_kt κ))) (o2 : dz_pm a53 (dz_kg κ)) (o3 : c2_groups.toInt = ((dz_kg κ : Nat) : Int)) (o4 : c2_pots.toInt = ((dz_kp κ : Nat) : Int)) (o5 : c2_draws.toInt = ((dz_kt κ : Nat) : Int)) (kv : Nat) (hkv : 1000000000000 ≤ kv) : dz_T (s40_X12_ball_0 fu c2_groups c2_pots c2_draws c2_lawful a49 a50 a52 a53 (F40_X12_ball fu c2_groups c2_pots c2_draws c2_lawful a49 a50 a52 a53 kv)  v1 c2_thrown c2_out c2_laid a54 a55) (fun r => r.1.toInt ≤ 3 ∧ (-1) ≤ r.1.toInt ∧ r.2.2.1.toInt ≤ 12 ∧ 0 ≤ r.2.2.1.toInt ∧ r.1.toInt ≤ r.2.2.1.toInt + 2 ∧ r.1.toInt ≤ c2_lawful.toInt + 2 ∧ dz_rg r.2.2.2.2.1 12 0 11 ∧ dz_rg r.2.2.2.2.2 12 0 3 ∧ (dz_J κ c2_lawful r.2.2.1 a49 a50 r.2.2.2.2.1 r.2.2.2.2.2)) := by
  unfold s40_X12_ball_0
  refine dz_Tbe (show f31_X12_isTeam fu c2_groups c2_pots v1 = (if (v1 < (0 : Int32)) then (some (0 : Int32)) else (Option.bind (f9_X12_teams fu c2_groups c2_pots) (fun b2 => (if (b2 ≤ v1) then (some (0 : Int32)) else (some (1 : Int32)))))) from rfl) ?_
  have e1 := dz_l0
  refine dz_Tltb (fun h2 => ?_) (fun h2 => ?_)
  · skip
    refine dz_Tsb ?_
    refine dz_Teq (fun h3 => ?_) (fun h3 => ?_)
    · skip
      have e4 := dz_lm1
      refine dz_Ts ?_
      dsimp only
      exact ⟨(by omega), (by omega), p8, p9, (by omega), (by omega), (hr_a54), (hr_a55), (by first | assumption | exact dz_Jn x1 (by omega) (by omega) (by omega) (by omega) x2 (by omega) (by omega) (qo1_0.resolve_left (by omega)))⟩
    · skip
      exfalso; omega
  · skip
    refine dz_Tba ?_
    refine dz_Tb (t9_X12_teams_s fu hfu κ hκ _ _ p0 p1 p2 p3 o3 o4) (fun r3 q => ?_)
    obtain ⟨q3_0, q3_1, q3_2, qo3_0⟩ := q
    refine dz_Tleb (fun h5 => ?_) (fun h5 => ?_)
    · skip
      refine dz_Tsb ?_
      refine dz_Teq (fun h6 => ?_) (fun h6 => ?_)
      · skip
        have e7 := dz_lm1
        refine dz_Ts ?_
        dsimp only
        exact ⟨(by omega), (by omega), p8, p9, (by omega), (by omega), (hr_a54), (hr_a55), (by first | assumption | exact dz_Jn x1 (by omega) (by omega) (by omega) (by omega) x2 (by omega) (by omega) (qo1_0.resolve_left (by omega)))⟩
      · skip
        exfalso; omega
    · skip
      refine dz_Tsb ?_
      have e8 := dz_l1
      refine dz_Teq (fun h9 => ?_) (fun h9 => ?_)
      · skip
        exfalso; omega
      · skip
        refine dz_Teq (fun h10 => ?_) (fun h10 => ?_)
        · skip
          have e11 := dz_lm1
          refine dz_Ts ?_
          dsimp only
          exact ⟨(by omega), (by omega), p8, p9, (by omega), (by omega), (hr_a54), (hr_a55), (by first | assumption | exact dz_Jn x1 (by omega) (by omega) (by omega) (by omega) x2 (by omega) (by omega) (qo1_0.resolve_left (by omega)))⟩
        · skip
          refine dz_Tb (t37_X12_placedIn fu hfu _ _ _ _ p9 p8 (hr_a54) (hr_a55)) (fun r4 q => ?_)
          obtain ⟨q4_0, q4_1, qo4_0⟩ := q
          have hpl := qo4_0
          have hteam := dz_kteam hκ (o := v1) (g := c2_groups) (by omega)
          have hlt : r4.toInt ≠ -1 ∨ c2_out.toInt < ((dz_km κ : Nat) : Int) := qo4_0.imp id (fun w => dz_Jl o0 (by omega) (by omega) (by omega) w)
          have hful := dz_kfull hκ (o := c2_out) (g := c2_groups) (by omega) o0.1 (by omega)
          have e12 := dz_lm1
          refine dz_Teq (fun h13 => ?_) (fun h13 => ?_)
          · skip
            refine dz_Tz (by omega) ?_
            refine dz_Tz (by omega) ?_
            have e14 := dz_divq (a := c2_out) (b := c2_groups) 2 12 (by omega) (by omega) (by omega) (by omega)
            refine dz_Tin (by omega) (by omega) ?_
            have e15 := dz_divq (a := v1) (b := c2_groups) 2 11 (by omega) (by omega) (by omega) (by omega)
            have e16 := dz_rgat (hr_a52) (i := (c2_out / c2_groups)) (by omega) (by omega)
            refine dz_Teq (fun h17 => ?_) (fun h17 => ?_)
            · skip
              exact (t40_X12_ball_I_s fu hfu κ hκ c2_groups c2_pots c2_draws c2_lawful a49 a50 a52 a53 p0 p1 p2 p3 p4 p5 p6 p7 p10 hr_a49 hr_a50 hr_a52 hr_a53 o1 o2 o3 o4 o5 kv) v1 (0 : Int32) (0 : Int32) c2_out c2_laid a54 a55 (by first | assumption | omega) (by first | assumption | omega) (by first | assumption | omega) (by omega) (by omega) (by omega) (by omega) p8 p9 (by first | assumption | omega) (hr_a54) (hr_a55) (by first | exact dz_bx0 hκ (by omega) o0 o1 (by omega) o2 (by omega) (by omega) (by omega) (hpl.resolve_left (by omega)) (by omega) (by omega) | exact dz_bxs x0 (by omega) (by omega) (by assumption) qo1_1) (by assumption) (by first | assumption | exact hpl.resolve_left (by omega)) (by omega) (by omega)
            · skip
              refine dz_Ts ?_
              dsimp only
              exact ⟨(by omega), (by omega), p8, p9, (by omega), (by omega), (hr_a54), (hr_a55), (by first | assumption | exact dz_Jn x1 (by omega) (by omega) (by omega) (by omega) x2 (by omega) (by omega) (qo1_0.resolve_left (by omega)))⟩
          · skip
            refine dz_Ts ?_
            dsimp only
            exact ⟨(by omega), (by omega), p8, p9, (by omega), (by omega), (hr_a54), (hr_a55), (by first | assumption | exact dz_Jn x1 (by omega) (by omega) (by omega) (by omega) x2 (by omega) (by omega) (qo1_0.resolve_left (by omega)))⟩
theorem t40_X12_ball_s (fu : Nat) (hfu : 1000000000000 ≤ fu) (κ : Nat) (hκ : κ < 14) (c2_groups : Int32) (c2_pots : Int32) (c2_draws : Int32) (c2_lawful : Int32) (a49 : Nat → Int32) (a50 : Nat → Int32) (a52 : Nat → Int32) (a53 : Nat → Int32) (v1 : Int32) (c2_thrown : Int32) (c2_out : Int32) (c2_laid : Int32) (a54 : Nat → Int32) (a55 : Nat → Int32) (p0 : c2_groups.toInt ≤ 4) (p1 : 2 ≤ c2_groups.toInt) (p2 : c2_pots.toInt ≤ 4) (p3 : 0 ≤ c2_pots.toInt) (p4 : c2_draws.toInt ≤ 13824) (p5 : 1 ≤ c2_draws.toInt) (p6 : c2_lawful.toInt ≤ 13824) (p7 : 0 ≤ c2_lawful.toInt) (p8 : c2_out.toInt ≤ 12) (p9 : 0 ≤ c2_out.toInt) (p10 : c2_lawful.toInt ≤ c2_draws.toInt) (hr_a49 : dz_rg a49 13824 0 1023) (hr_a50 : dz_rg a50 165888 0 3) (hr_a52 : dz_rg a52 4 0 3) (hr_a53 : dz_rg a53 4 0 3) (hr_a54 : dz_rg a54 12 0 11) (hr_a55 : dz_rg a55 12 0 3) (o0 : dz_J κ c2_lawful c2_out a49 a50 a54 a55) (o1 : dz_gq (dz_kg κ) (dz_kr κ) c2_pots.toInt.toNat a50 (12 * (dz_kt κ))) (o2 : dz_pm a53 (dz_kg κ)) (o3 : c2_groups.toInt = ((dz_kg κ : Nat) : Int)) (o4 : c2_pots.toInt = ((dz_kp κ : Nat) : Int)) (o5 : c2_draws.toInt = ((dz_kt κ : Nat) : Int)) : dz_T (f40_X12_ball fu c2_groups c2_pots c2_draws c2_lawful a49 a50 a52 a53 v1 c2_thrown c2_out c2_laid a54 a55) (fun r => r.1.toInt ≤ 3 ∧ (-1) ≤ r.1.toInt ∧ r.2.2.1.toInt ≤ 12 ∧ 0 ≤ r.2.2.1.toInt ∧ r.1.toInt ≤ r.2.2.1.toInt + 2 ∧ r.1.toInt ≤ c2_lawful.toInt + 2 ∧ dz_rg r.2.2.2.2.1 12 0 11 ∧ dz_rg r.2.2.2.2.2 12 0 3 ∧ (dz_J κ c2_lawful r.2.2.1 a49 a50 r.2.2.2.2.1 r.2.2.2.2.2)) :=
  t40_X12_ball_E_s fu hfu κ hκ c2_groups c2_pots c2_draws c2_lawful a49 a50 a52 a53 v1 c2_thrown c2_out c2_laid a54 a55 p0 p1 p2 p3 p4 p5 p6 p7 p8 p9 p10 hr_a49 hr_a50 hr_a52 hr_a53 hr_a54 hr_a55 o0 o1 o2 o3 o4 o5 fu hfu
abbrev p41_X12_whyOf_s (fu : Nat) (κ : Nat) (c2_groups : Int32) (c2_draws : Int32) (c2_out : Int32) (a49 : Nat → Int32) (a50 : Nat → Int32) (a53 : Nat → Int32) (a54 : Nat → Int32) (a55 : Nat → Int32) (k : Nat) : Prop :=
  (∀ (v1 : Int32) (v2 : Int32), 1 ≤ c2_out.toInt → v1.toInt ≤ 3 → 0 ≤ v1.toInt → v2.toInt ≤ 4 → 0 ≤ v2.toInt → v1.toInt + 1 ≤ c2_groups.toInt → dz_ex a53 v2 (dz_kg κ) v1.toInt → 0 + 0 + (4 - v2.toInt) * 10 + 5 ≤ ((k : Nat) : Int) → dz_T ((F41_X12_whyOf fu c2_groups c2_draws c2_out a49 a50 a53 a54 a55 k) v1 v2) (fun r => r.toInt ≤ 3 ∧ (-1) ≤ r.toInt ∧ r.toInt ≤ c2_out.toInt + 2 ∧ (r.toInt = -1 ∨ 1 ≤ c2_out.toInt)))
set_option maxHeartbeats 4000000 in
set_option maxRecDepth 10000 in
theorem t41_X12_whyOf_h1_s (fu : Nat) (hfu : 1000000000000 ≤ fu) (κ : Nat) (hκ : κ < 14) (c2_groups : Int32) (c2_draws : Int32) (c2_out : Int32) (a49 : Nat → Int32) (a50 : Nat → Int32) (a53 : Nat → Int32) (a54 : Nat → Int32) (a55 : Nat → Int32) (p0 : c2_groups.toInt ≤ 4) (p1 : 2 ≤ c2_groups.toInt) (p2 : c2_draws.toInt ≤ 13824) (p3 : 1 ≤ c2_draws.toInt) (p4 : c2_out.toInt ≤ 12) (p5 : 0 ≤ c2_out.toInt) (hr_a49 : dz_rg a49 13824 0 1023) (hr_a50 : dz_rg a50 165888 0 3) (hr_a53 : dz_rg a53 4 0 3) (hr_a54 : dz_rg a54 12 0 11) (hr_a55 : dz_rg a55 12 0 3) (o0 : dz_pm a53 (dz_kg κ)) (o1 : c2_groups.toInt = ((dz_kg κ : Nat) : Int)) (o2 : c2_draws.toInt = ((dz_kt κ : Nat) : Int)) (k : Nat) (ih : ∀ j9, j9 < k → p41_X12_whyOf_s fu κ c2_groups c2_draws c2_out a49 a50 a53 a54 a55 j9) : ∀ (v1 : Int32) (v2 : Int32), 1 ≤ c2_out.toInt → v1.toInt ≤ 3 → 0 ≤ v1.toInt → v2.toInt ≤ 4 → 0 ≤ v2.toInt → v1.toInt + 1 ≤ c2_groups.toInt → dz_ex a53 v2 (dz_kg κ) v1.toInt → 0 + 0 + (4 - v2.toInt) * 10 + 5 ≤ ((k : Nat) : Int) → dz_T ((F41_X12_whyOf fu c2_groups c2_draws c2_out a49 a50 a53 a54 a55 k) v1 v2) (fun r => r.toInt ≤ 3 ∧ (-1) ≤ r.toInt ∧ r.toInt ≤ c2_out.toInt + 2 ∧ (r.toInt = -1 ∨ 1 ≤ c2_out.toInt)) := by
  intro v1 v2 i0 i1 i2 i3 i4 i5 x0 hm
  obtain ⟨k0, rfl⟩ : ∃ x, k = x + 1 := ⟨k - 1, by omega⟩
  show dz_T (s41_X12_whyOf_1 fu c2_groups c2_draws c2_out a49 a50 a53 a54 a55 (F41_X12_whyOf fu c2_groups c2_draws c2_out a49 a50 a53 a54 a55 k0)  v1 v2) _
  unfold s41_X12_whyOf_1
  have hk4 := dz_kg4 hκ
  have hex := dz_exl x0
  refine dz_Tin (by omega) (by omega) ?_
  have e1 := dz_rgat (hr_a53) (i := v2) (by omega) (by omega)
  refine dz_Teq (fun h2 => ?_) (fun h2 => ?_)
  · skip
    have e3 := dz_l1
    have e4 := dz_sub (a := c2_out) (b := (1 : Int32)) (by omega) (by omega)
    refine dz_Tin (by omega) (by omega) ?_
    have e5 := dz_rgat (hr_a54) (i := (c2_out - (1 : Int32))) (by omega) (by omega)
    refine dz_Tb (t39_X12_shut_s fu hfu κ hκ _ _ _ _ _ _ _ _ _ p0 p1 p2 p3 (by omega) (by omega) (by omega) (by omega) (hr_a49) (hr_a50) (hr_a54) (hr_a55) o1 o2) (fun r1 q => ?_)
    obtain ⟨q1_0, q1_1, qo1_0, qo1_1⟩ := q
    exact dz_Ts ⟨(by first | assumption | omega), (by first | assumption | omega), (by first | assumption | omega), (by omega)⟩
  · skip
    refine dz_Tin (by omega) (by omega) ?_
    have e6 := dz_l1
    have e7 := dz_sub (a := c2_out) (b := (1 : Int32)) (by omega) (by omega)
    refine dz_Tin (by omega) (by omega) ?_
    have e8 := dz_rgat (hr_a55) (i := (c2_out - (1 : Int32))) (by omega) (by omega)
    refine dz_Teq (fun h9 => ?_) (fun h9 => ?_)
    · skip
      have e10 := dz_l3
      exact dz_Ts ⟨(by omega), (by omega), (by omega), (by omega)⟩
    · skip
      have e11 := dz_add (a := v2) (b := (1 : Int32)) (by omega) (by omega)
      exact (ih k0 (by omega)) v1 (v2 + (1 : Int32)) i0 i1 i2 (by omega) (by omega) i5 (by first | exact dz_ex0 o0 (by omega) (by omega) (by omega) (by omega) | exact dz_exs x0 (by omega) (by omega) (by omega)) (by omega)
theorem t41_X12_whyOf_I_s (fu : Nat) (hfu : 1000000000000 ≤ fu) (κ : Nat) (hκ : κ < 14) (c2_groups : Int32) (c2_draws : Int32) (c2_out : Int32) (a49 : Nat → Int32) (a50 : Nat → Int32) (a53 : Nat → Int32) (a54 : Nat → Int32) (a55 : Nat → Int32) (p0 : c2_groups.toInt ≤ 4) (p1 : 2 ≤ c2_groups.toInt) (p2 : c2_draws.toInt ≤ 13824) (p3 : 1 ≤ c2_draws.toInt) (p4 : c2_out.toInt ≤ 12) (p5 : 0 ≤ c2_out.toInt) (hr_a49 : dz_rg a49 13824 0 1023) (hr_a50 : dz_rg a50 165888 0 3) (hr_a53 : dz_rg a53 4 0 3) (hr_a54 : dz_rg a54 12 0 11) (hr_a55 : dz_rg a55 12 0 3) (o0 : dz_pm a53 (dz_kg κ)) (o1 : c2_groups.toInt = ((dz_kg κ : Nat) : Int)) (o2 : c2_draws.toInt = ((dz_kt κ : Nat) : Int)) (k : Nat) : p41_X12_whyOf_s fu κ c2_groups c2_draws c2_out a49 a50 a53 a54 a55 k := by
  induction k using Nat.strongRecOn with
  | _ k ih => exact t41_X12_whyOf_h1_s fu hfu κ hκ c2_groups c2_draws c2_out a49 a50 a53 a54 a55 p0 p1 p2 p3 p4 p5 hr_a49 hr_a50 hr_a53 hr_a54 hr_a55 o0 o1 o2 k ih
set_option maxHeartbeats 4000000 in
set_option maxRecDepth 10000 in
theorem t41_X12_whyOf_E_s (fu : Nat) (hfu : 1000000000000 ≤ fu) (κ : Nat) (hκ : κ < 14) (c2_groups : Int32) (c2_draws : Int32) (c2_out : Int32) (a49 : Nat → Int32) (a50 : Nat → Int32) (a53 : Nat → Int32) (a54 : Nat → Int32) (a55 : Nat → Int32) (v1 : Int32) (p0 : c2_groups.toInt ≤ 4) (p1 : 2 ≤ c2_groups.toInt) (p2 : c2_draws.toInt ≤ 13824) (p3 : 1 ≤ c2_draws.toInt) (p4 : c2_out.toInt ≤ 12) (p5 : 0 ≤ c2_out.toInt) (hr_a49 : dz_rg a49 13824 0 1023) (hr_a50 : dz_rg a50 165888 0 3) (hr_a53 : dz_rg a53 4 0 3) (hr_a54 : dz_rg a54 12 0 11) (hr_a55 : dz_rg a55 12 0 3) (o0 : dz_pm a53 (dz_kg κ)) (o1 : c2_groups.toInt = ((dz_kg κ : Nat) : Int)) (o2 : c2_draws.toInt = ((dz_kt κ : Nat) : Int)) (kv : Nat) (hkv : 1000000000000 ≤ kv) : dz_T (s41_X12_whyOf_0 fu c2_groups c2_draws c2_out a49 a50 a53 a54 a55 (F41_X12_whyOf fu c2_groups c2_draws c2_out a49 a50 a53 a54 a55 kv)  v1) (fun r => r.toInt ≤ 3 ∧ (-1) ≤ r.toInt ∧ r.toInt ≤ c2_out.toInt + 2 ∧ (r.toInt = -1 ∨ 1 ≤ c2_out.toInt)) := by
  unfold s41_X12_whyOf_0
  have hk4 := dz_kg4 hκ
  have e1 := dz_l0
  refine dz_Teq (fun h2 => ?_) (fun h2 => ?_)
  · skip
    have e3 := dz_lm1
    exact dz_Ts ⟨(by omega), (by omega), (by omega), (by omega)⟩
  · skip
    refine dz_Tlt (fun h4 => ?_) (fun h4 => ?_)
    · skip
      have e5 := dz_lm1
      exact dz_Ts ⟨(by omega), (by omega), (by omega), (by omega)⟩
    · skip
      refine dz_Tlt (fun h6 => ?_) (fun h6 => ?_)
      · skip
        have e7 := dz_l1
        have e8 := dz_sub (a := c2_out) (b := (1 : Int32)) (by omega) (by omega)
        refine dz_Tin (by omega) (by omega) ?_
        have e9 := dz_rgat (hr_a55) (i := (c2_out - (1 : Int32))) (by omega) (by omega)
        refine dz_Teq (fun h10 => ?_) (fun h10 => ?_)
        · skip
          exact dz_Ts ⟨(by omega), (by omega), (by omega), (by omega)⟩
        · skip
          exact (t41_X12_whyOf_I_s fu hfu κ hκ c2_groups c2_draws c2_out a49 a50 a53 a54 a55 p0 p1 p2 p3 p4 p5 hr_a49 hr_a50 hr_a53 hr_a54 hr_a55 o0 o1 o2 kv) v1 (0 : Int32) (by first | assumption | omega) (by first | assumption | omega) (by first | assumption | omega) (by omega) (by omega) (by first | assumption | omega) (by first | exact dz_ex0 o0 (by omega) (by omega) (by omega) (by omega) | exact dz_exs x0 (by omega) (by omega) (by omega)) (by omega)
      · skip
        have e11 := dz_lm1
        exact dz_Ts ⟨(by omega), (by omega), (by omega), (by omega)⟩
theorem t41_X12_whyOf_s (fu : Nat) (hfu : 1000000000000 ≤ fu) (κ : Nat) (hκ : κ < 14) (c2_groups : Int32) (c2_draws : Int32) (c2_out : Int32) (a49 : Nat → Int32) (a50 : Nat → Int32) (a53 : Nat → Int32) (a54 : Nat → Int32) (a55 : Nat → Int32) (v1 : Int32) (p0 : c2_groups.toInt ≤ 4) (p1 : 2 ≤ c2_groups.toInt) (p2 : c2_draws.toInt ≤ 13824) (p3 : 1 ≤ c2_draws.toInt) (p4 : c2_out.toInt ≤ 12) (p5 : 0 ≤ c2_out.toInt) (hr_a49 : dz_rg a49 13824 0 1023) (hr_a50 : dz_rg a50 165888 0 3) (hr_a53 : dz_rg a53 4 0 3) (hr_a54 : dz_rg a54 12 0 11) (hr_a55 : dz_rg a55 12 0 3) (o0 : dz_pm a53 (dz_kg κ)) (o1 : c2_groups.toInt = ((dz_kg κ : Nat) : Int)) (o2 : c2_draws.toInt = ((dz_kt κ : Nat) : Int)) : dz_T (f41_X12_whyOf fu c2_groups c2_draws c2_out a49 a50 a53 a54 a55 v1) (fun r => r.toInt ≤ 3 ∧ (-1) ≤ r.toInt ∧ r.toInt ≤ c2_out.toInt + 2 ∧ (r.toInt = -1 ∨ 1 ≤ c2_out.toInt)) :=
  t41_X12_whyOf_E_s fu hfu κ hκ c2_groups c2_draws c2_out a49 a50 a53 a54 a55 v1 p0 p1 p2 p3 p4 p5 hr_a49 hr_a50 hr_a53 hr_a54 hr_a55 o0 o1 o2 fu hfu
set_option maxHeartbeats 4000000 in
set_option maxRecDepth 10000 in
theorem t42_X12_why_s (fu : Nat) (hfu : 1000000000000 ≤ fu) (κ : Nat) (hκ : κ < 14) (c2_groups : Int32) (c2_draws : Int32) (c2_out : Int32) (a49 : Nat → Int32) (a50 : Nat → Int32) (a53 : Nat → Int32) (a54 : Nat → Int32) (a55 : Nat → Int32) (v1 : Int32) (c2_thrown : Int32) (p0 : c2_groups.toInt ≤ 4) (p1 : 2 ≤ c2_groups.toInt) (p2 : c2_draws.toInt ≤ 13824) (p3 : 1 ≤ c2_draws.toInt) (p4 : c2_out.toInt ≤ 12) (p5 : 0 ≤ c2_out.toInt) (hr_a49 : dz_rg a49 13824 0 1023) (hr_a50 : dz_rg a50 165888 0 3) (hr_a53 : dz_rg a53 4 0 3) (hr_a54 : dz_rg a54 12 0 11) (hr_a55 : dz_rg a55 12 0 3) (o0 : dz_pm a53 (dz_kg κ)) (o1 : c2_groups.toInt = ((dz_kg κ : Nat) : Int)) (o2 : c2_draws.toInt = ((dz_kt κ : Nat) : Int)) : dz_T (f42_X12_why fu c2_groups c2_draws c2_out a49 a50 a53 a54 a55 v1 c2_thrown) (fun r => r.1.toInt ≤ 3 ∧ (-1) ≤ r.1.toInt ∧ r.1.toInt ≤ c2_out.toInt + 2) := by
  unfold f42_X12_why s42_X12_why_0
  refine dz_Tb (t41_X12_whyOf_s fu hfu κ hκ _ _ _ _ _ _ _ _ _ p0 p1 p2 p3 p4 p5 (hr_a49) (hr_a50) (hr_a53) (hr_a54) (hr_a55) o0 o1 o2) (fun r1 q => ?_)
  obtain ⟨q1_0, q1_1, q1_2, qo1_0⟩ := q
  have e1 := dz_l0
  refine dz_Ts ?_
  dsimp only
  exact ⟨q1_0, q1_1, q1_2⟩
abbrev p28_X12_many (fu : Nat) (k : Nat) : Prop :=
  (∀ (v0 : Int32) (v1 : Int32) (v2 : Int32), v1.toInt ≤ 12 → 0 ≤ v1.toInt → v2.toInt ≤ 12 → 0 ≤ v2.toInt → v1.toInt ≤ v2.toInt → 0 + 0 + (12 - v2.toInt) * 10 + 5 ≤ ((k : Nat) : Int) → dz_T ((F28_X12_many fu k) v0 v1 v2) (fun r => r.toInt ≤ 12 ∧ 0 ≤ r.toInt))
set_option maxHeartbeats 4000000 in
set_option maxRecDepth 10000 in
theorem t28_X12_many_h1 (fu : Nat) (hfu : 1000000000000 ≤ fu) (k : Nat) (ih : ∀ j9, j9 < k → p28_X12_many fu j9) : ∀ (v0 : Int32) (v1 : Int32) (v2 : Int32), v1.toInt ≤ 12 → 0 ≤ v1.toInt → v2.toInt ≤ 12 → 0 ≤ v2.toInt → v1.toInt ≤ v2.toInt → 0 + 0 + (12 - v2.toInt) * 10 + 5 ≤ ((k : Nat) : Int) → dz_T ((F28_X12_many fu k) v0 v1 v2) (fun r => r.toInt ≤ 12 ∧ 0 ≤ r.toInt) := by
  intro v0 v1 v2 i0 i1 i2 i3 i4 hm
  obtain ⟨k0, rfl⟩ : ∃ x, k = x + 1 := ⟨k - 1, by omega⟩
  show dz_T (s28_X12_many_1 fu (F28_X12_many fu k0)  v0 v1 v2) _
  unfold s28_X12_many_1
  have e1 := dz_l12
  refine dz_Tle (fun h2 => ?_) (fun h2 => ?_)
  · skip
    exact dz_Ts ⟨i0, i1⟩
  · skip
    have e3 := dz_l31
    have e4 := dz_andr (a := v2) (b := (31 : Int32)) (by omega)
    have e5 := dz_andl (a := v2) (b := (31 : Int32)) (by omega)
    have e6 := dz_l1
    have e7 := dz_andr (a := (v0 >>> (v2 &&& (31 : Int32)))) (b := (1 : Int32)) (by omega)
    have e8 := dz_add (a := v1) (b := ((v0 >>> (v2 &&& (31 : Int32))) &&& (1 : Int32))) (by omega) (by omega)
    have e9 := dz_add (a := v2) (b := (1 : Int32)) (by omega) (by omega)
    exact (ih k0 (by omega)) v0 (v1 + ((v0 >>> (v2 &&& (31 : Int32))) &&& (1 : Int32))) (v2 + (1 : Int32)) (by omega) (by omega) (by omega) (by omega) (by omega) (by omega)
theorem t28_X12_many_I (fu : Nat) (hfu : 1000000000000 ≤ fu) (k : Nat) : p28_X12_many fu k := by
  induction k using Nat.strongRecOn with
  | _ k ih => exact t28_X12_many_h1 fu hfu k ih
set_option maxHeartbeats 4000000 in
set_option maxRecDepth 10000 in
theorem t28_X12_many_E (fu : Nat) (hfu : 1000000000000 ≤ fu) (v0 : Int32) (kv : Nat) (hkv : 1000000000000 ≤ kv) : dz_T (s28_X12_many_0 fu (F28_X12_many fu kv)  v0) (fun r => r.toInt ≤ 12 ∧ 0 ≤ r.toInt) := by
  unfold s28_X12_many_0
  have e1 := dz_l0
  exact (t28_X12_many_I fu hfu kv) v0 (0 : Int32) (0 : Int32) (by omega) (by omega) (by omega) (by omega) (by omega) (by omega)
theorem t28_X12_many (fu : Nat) (hfu : 1000000000000 ≤ fu) (v0 : Int32) : dz_T (f28_X12_many fu v0) (fun r => r.toInt ≤ 12 ∧ 0 ≤ r.toInt) :=
  t28_X12_many_E fu hfu v0 fu hfu
