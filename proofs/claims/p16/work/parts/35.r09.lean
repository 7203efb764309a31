abbrev p35_X12_order_s (fu : Nat) (κ : Nat) (c2_pots : Int32) (gh_c2_out : Int32) (k : Nat) : Prop :=
  (∀ (v1 : Int32) (v2 : Int32) (c2_thrown : Int32) (c2_out : Int32) (c2_laid : Int32) (a52 : Nat → Int32), v2.toInt ≤ 4 → 0 ≤ v2.toInt → c2_thrown.toInt ≤ 0 → 0 ≤ c2_thrown.toInt → c2_out.toInt ≤ 12 → 0 ≤ c2_out.toInt → v2.toInt ≤ c2_pots.toInt → dz_rg a52 4 0 3 → dz_on v1 c2_pots.toInt.toNat → dz_dw v1 a52 v2.toInt.toNat → c2_out = gh_c2_out → 0 + 0 + (4 - v2.toInt) * 10 + 5 ≤ ((k : Nat) : Int) → dz_T ((F35_X12_order fu c2_pots k) v1 v2 c2_thrown c2_out c2_laid a52) (fun r => r.1.toInt ≤ 1 ∧ 0 ≤ r.1.toInt ∧ r.2.2.1.toInt ≤ 12 ∧ 0 ≤ r.2.2.1.toInt ∧ dz_rg r.2.2.2.2 4 0 3 ∧ (dz_pm r.2.2.2.2 (dz_kp κ)) ∧ ((r.1.toInt = 0 ∧ r.2.2.1 = gh_c2_out) ∨ r.2.2.1.toInt = 0)))
set_option maxHeartbeats 4000000 in
set_option maxRecDepth 10000 in
theorem t35_X12_order_h1_s (fu : Nat) (hfu : 1000000000000 ≤ fu) (κ : Nat) (hκ : κ < 14) (c2_pots : Int32) (gh_c2_out : Int32) (p0 : c2_pots.toInt ≤ 4) (p1 : 0 ≤ c2_pots.toInt) (o1 : c2_pots.toInt = ((dz_kp κ : Nat) : Int)) (k : Nat) (ih : ∀ j9, j9 < k → p35_X12_order_s fu κ c2_pots gh_c2_out j9) : ∀ (v1 : Int32) (v2 : Int32) (c2_thrown : Int32) (c2_out : Int32) (c2_laid : Int32) (a52 : Nat → Int32), v2.toInt ≤ 4 → 0 ≤ v2.toInt → c2_thrown.toInt ≤ 0 → 0 ≤ c2_thrown.toInt → c2_out.toInt ≤ 12 → 0 ≤ c2_out.toInt → v2.toInt ≤ c2_pots.toInt → dz_rg a52 4 0 3 → dz_on v1 c2_pots.toInt.toNat → dz_dw v1 a52 v2.toInt.toNat → c2_out = gh_c2_out → 0 + 0 + (4 - v2.toInt) * 10 + 5 ≤ ((k : Nat) : Int) → dz_T ((F35_X12_order fu c2_pots k) v1 v2 c2_thrown c2_out c2_laid a52) (fun r => r.1.toInt ≤ 1 ∧ 0 ≤ r.1.toInt ∧ r.2.2.1.toInt ≤ 12 ∧ 0 ≤ r.2.2.1.toInt ∧ dz_rg r.2.2.2.2 4 0 3 ∧ (dz_pm r.2.2.2.2 (dz_kp κ)) ∧ ((r.1.toInt = 0 ∧ r.2.2.1 = gh_c2_out) ∨ r.2.2.1.toInt = 0)) := by
  intro v1 v2 c2_thrown c2_out c2_laid a52 i0 i1 i2 i3 i4 i5 i6 hr_a52 x0 x1 x2 hm
  obtain ⟨k0, rfl⟩ : ∃ x, k = x + 1 := ⟨k - 1, by omega⟩
  show dz_T (s35_X12_order_1 fu c2_pots (F35_X12_order fu c2_pots k0)  v1 v2 c2_thrown c2_out c2_laid a52) _
  unfold s35_X12_order_1
  refine dz_Tle (fun h1 => ?_) (fun h1 => ?_)
  · skip
    have e2 := dz_l1
    have e3 := dz_l0
    have e4 := dz_lm1
    refine dz_Ts ?_
    dsimp only
    exact ⟨(by omega), (by omega), (by omega), (by omega), (hr_a52), (by first | exact dz_dwp x0 x1 (by omega) (by omega) | assumption), (by first | exact Or.inr (by omega) | exact Or.inl ⟨by omega, rfl⟩)⟩
  · skip
    refine dz_Tin (by omega) (by omega) ?_
    have e5 := dz_l1
    have e6 := dz_add (a := v2) (b := (1 : Int32)) (by omega) (by omega)
    have e7 := dz_l2
    have e8 := dz_mull (a := (2 : Int32)) (b := v2) 2 (by omega) (by omega) (by omega)
    have e9 := dz_l31
    have e10 := dz_andr (a := ((2 : Int32) * v2)) (b := (31 : Int32)) (by omega)
    have e11 := dz_andl (a := ((2 : Int32) * v2)) (b := (31 : Int32)) (by omega)
    have e12 := dz_l3
    have e13 := dz_andr (a := (v1 >>> (((2 : Int32) * v2) &&& (31 : Int32)))) (b := (3 : Int32)) (by omega)
    exact (ih k0 (by omega)) v1 (v2 + (1 : Int32)) c2_thrown c2_out c2_laid (upd a52 v2.toNatClampNeg ((v1 >>> (((2 : Int32) * v2) &&& (31 : Int32))) &&& (3 : Int32))) (by omega) (by omega) i2 i3 i4 i5 (by omega) (dz_rgu (hr_a52) (by omega) (by omega)) (by first | exact x0 | exact qo1_0.resolve_left (by omega)) (by first | exact dz_dw0 (by omega) | exact dz_dws x1 (by omega) (by omega)) (by first | exact x2 | rfl) (by omega)
theorem t35_X12_order_I_s (fu : Nat) (hfu : 1000000000000 ≤ fu) (κ : Nat) (hκ : κ < 14) (c2_pots : Int32) (gh_c2_out : Int32) (p0 : c2_pots.toInt ≤ 4) (p1 : 0 ≤ c2_pots.toInt) (o1 : c2_pots.toInt = ((dz_kp κ : Nat) : Int)) (k : Nat) : p35_X12_order_s fu κ c2_pots gh_c2_out k := by
  induction k using Nat.strongRecOn with
  | _ k ih => exact t35_X12_order_h1_s fu hfu κ hκ c2_pots gh_c2_out p0 p1 o1 k ih
set_option maxHeartbeats 4000000 in
set_option maxRecDepth 10000 in
theorem t35_X12_order_E_s (fu : Nat) (hfu : 1000000000000 ≤ fu) (κ : Nat) (hκ : κ < 14) (c2_pots : Int32) (v1 : Int32) (c2_thrown : Int32) (c2_out : Int32) (c2_laid : Int32) (a52 : Nat → Int32) (p0 : c2_pots.toInt ≤ 4) (p1 : 0 ≤ c2_pots.toInt) (p2 : c2_out.toInt ≤ 12) (p3 : 0 ≤ c2_out.toInt) (hr_a52 : dz_rg a52 4 0 3) (o0 : dz_pm a52 (dz_kp κ)) (o1 : c2_pots.toInt = ((dz_kp κ : Nat) : Int)) (kv : Nat) (hkv : 1000000000000 ≤ kv) : dz_T (s35_X12_order_0 fu c2_pots (F35_X12_order fu c2_pots kv)  v1 c2_thrown c2_out c2_laid a52) (fun r => r.1.toInt ≤ 1 ∧ 0 ≤ r.1.toInt ∧ r.2.2.1.toInt ≤ 12 ∧ 0 ≤ r.2.2.1.toInt ∧ dz_rg r.2.2.2.2 4 0 3 ∧ (dz_pm r.2.2.2.2 (dz_kp κ)) ∧ ((r.1.toInt = 0 ∧ r.2.2.1 = c2_out) ∨ r.2.2.1.toInt = 0)) := by
  unfold s35_X12_order_0
  refine dz_Tb (t34_X12_isOnce fu hfu _ _ p1 p0) (fun r1 q => ?_)
  obtain ⟨q1_0, q1_1, qo1_0⟩ := q
  have e1 := dz_l0
  refine dz_Teq (fun h2 => ?_) (fun h2 => ?_)
  · skip
    refine dz_Ts ?_
    dsimp only
    exact ⟨(by omega), (by omega), p2, p3, (hr_a52), (by first | exact dz_dwp x0 x1 (by omega) (by omega) | assumption), (by first | exact Or.inr (by omega) | exact Or.inl ⟨by omega, rfl⟩)⟩
  · skip
    exact (t35_X12_order_I_s fu hfu κ hκ c2_pots c2_out p0 p1 o1 kv) v1 (0 : Int32) (0 : Int32) c2_out c2_laid a52 (by omega) (by omega) (by omega) (by omega) p2 p3 (by omega) (hr_a52) (by first | exact x0 | exact qo1_0.resolve_left (by omega)) (by first | exact dz_dw0 (by omega) | exact dz_dws x1 (by omega) (by omega)) (by first | exact x2 | rfl) (by omega)
theorem t35_X12_order_s (fu : Nat) (hfu : 1000000000000 ≤ fu) (κ : Nat) (hκ : κ < 14) (c2_pots : Int32) (v1 : Int32) (c2_thrown : Int32) (c2_out : Int32) (c2_laid : Int32) (a52 : Nat → Int32) (p0 : c2_pots.toInt ≤ 4) (p1 : 0 ≤ c2_pots.toInt) (p2 : c2_out.toInt ≤ 12) (p3 : 0 ≤ c2_out.toInt) (hr_a52 : dz_rg a52 4 0 3) (o0 : dz_pm a52 (dz_kp κ)) (o1 : c2_pots.toInt = ((dz_kp κ : Nat) : Int)) : dz_T (f35_X12_order fu c2_pots v1 c2_thrown c2_out c2_laid a52) (fun r => r.1.toInt ≤ 1 ∧ 0 ≤ r.1.toInt ∧ r.2.2.1.toInt ≤ 12 ∧ 0 ≤ r.2.2.1.toInt ∧ dz_rg r.2.2.2.2 4 0 3 ∧ (dz_pm r.2.2.2.2 (dz_kp κ)) ∧ ((r.1.toInt = 0 ∧ r.2.2.1 = c2_out) ∨ r.2.2.1.toInt = 0)) :=
  t35_X12_order_E_s fu hfu κ hκ c2_pots v1 c2_thrown c2_out c2_laid a52 p0 p1 p2 p3 hr_a52 o0 o1 fu hfu
abbrev p36_X12_arrange_s (fu : Nat) (κ : Nat) (c2_groups : Int32) (gh_c2_out : Int32) (k : Nat) : Prop :=
  (∀ (v1 : Int32) (v2 : Int32) (c2_thrown : Int32) (c2_out : Int32) (c2_laid : Int32) (a53 : Nat → Int32), v2.toInt ≤ 4 → 0 ≤ v2.toInt → c2_thrown.toInt ≤ 0 → 0 ≤ c2_thrown.toInt → c2_out.toInt ≤ 12 → 0 ≤ c2_out.toInt → v2.toInt ≤ c2_groups.toInt → dz_rg a53 4 0 3 → dz_on v1 c2_groups.toInt.toNat → dz_dw v1 a53 v2.toInt.toNat → c2_out = gh_c2_out → 0 + 0 + (4 - v2.toInt) * 10 + 5 ≤ ((k : Nat) : Int) → dz_T ((F36_X12_arrange fu c2_groups k) v1 v2 c2_thrown c2_out c2_laid a53) (fun r => r.1.toInt ≤ 1 ∧ 0 ≤ r.1.toInt ∧ r.2.2.1.toInt ≤ 12 ∧ 0 ≤ r.2.2.1.toInt ∧ dz_rg r.2.2.2.2 4 0 3 ∧ (dz_pm r.2.2.2.2 (dz_kg κ)) ∧ ((r.1.toInt = 0 ∧ r.2.2.1 = gh_c2_out) ∨ r.2.2.1.toInt = 0)))
set_option maxHeartbeats 4000000 in
set_option maxRecDepth 10000 in
theorem t36_X12_arrange_h1_s (fu : Nat) (hfu : 1000000000000 ≤ fu) (κ : Nat) (hκ : κ < 14) (c2_groups : Int32) (gh_c2_out : Int32) (p0 : c2_groups.toInt ≤ 4) (p1 : 2 ≤ c2_groups.toInt) (o1 : c2_groups.toInt = ((dz_kg κ : Nat) : Int)) (k : Nat) (ih : ∀ j9, j9 < k → p36_X12_arrange_s fu κ c2_groups gh_c2_out j9) : ∀ (v1 : Int32) (v2 : Int32) (c2_thrown : Int32) (c2_out : Int32) (c2_laid : Int32) (a53 : Nat → Int32), v2.toInt ≤ 4 → 0 ≤ v2.toInt → c2_thrown.toInt ≤ 0 → 0 ≤ c2_thrown.toInt → c2_out.toInt ≤ 12 → 0 ≤ c2_out.toInt → v2.toInt ≤ c2_groups.toInt → dz_rg a53 4 0 3 → dz_on v1 c2_groups.toInt.toNat → dz_dw v1 a53 v2.toInt.toNat → c2_out = gh_c2_out → 0 + 0 + (4 - v2.toInt) * 10 + 5 ≤ ((k : Nat) : Int) → dz_T ((F36_X12_arrange fu c2_groups k) v1 v2 c2_thrown c2_out c2_laid a53) (fun r => r.1.toInt ≤ 1 ∧ 0 ≤ r.1.toInt ∧ r.2.2.1.toInt ≤ 12 ∧ 0 ≤ r.2.2.1.toInt ∧ dz_rg r.2.2.2.2 4 0 3 ∧ (dz_pm r.2.2.2.2 (dz_kg κ)) ∧ ((r.1.toInt = 0 ∧ r.2.2.1 = gh_c2_out) ∨ r.2.2.1.toInt = 0)) := by
  intro v1 v2 c2_thrown c2_out c2_laid a53 i0 i1 i2 i3 i4 i5 i6 hr_a53 x0 x1 x2 hm
  obtain ⟨k0, rfl⟩ : ∃ x, k = x + 1 := ⟨k - 1, by omega⟩
  show dz_T (s36_X12_arrange_1 fu c2_groups (F36_X12_arrange fu c2_groups k0)  v1 v2 c2_thrown c2_out c2_laid a53) _
  unfold s36_X12_arrange_1
  refine dz_Tle (fun h1 => ?_) (fun h1 => ?_)
  · skip
    have e2 := dz_l1
    have e3 := dz_l0
    have e4 := dz_lm1
    refine dz_Ts ?_
    dsimp only
    exact ⟨(by omega), (by omega), (by omega), (by omega), (hr_a53), (by first | exact dz_dwp x0 x1 (by omega) (by omega) | assumption), (by first | exact Or.inr (by omega) | exact Or.inl ⟨by omega, rfl⟩)⟩
  · skip
    refine dz_Tin (by omega) (by omega) ?_
    have e5 := dz_l1
    have e6 := dz_add (a := v2) (b := (1 : Int32)) (by omega) (by omega)
    have e7 := dz_l2
    have e8 := dz_mull (a := (2 : Int32)) (b := v2) 2 (by omega) (by omega) (by omega)
    have e9 := dz_l31
    have e10 := dz_andr (a := ((2 : Int32) * v2)) (b := (31 : Int32)) (by omega)
    have e11 := dz_andl (a := ((2 : Int32) * v2)) (b := (31 : Int32)) (by omega)
    have e12 := dz_l3
    have e13 := dz_andr (a := (v1 >>> (((2 : Int32) * v2) &&& (31 : Int32)))) (b := (3 : Int32)) (by omega)
    exact (ih k0 (by omega)) v1 (v2 + (1 : Int32)) c2_thrown c2_out c2_laid (upd a53 v2.toNatClampNeg ((v1 >>> (((2 : Int32) * v2) &&& (31 : Int32))) &&& (3 : Int32))) (by omega) (by omega) i2 i3 i4 i5 (by omega) (dz_rgu (hr_a53) (by omega) (by omega)) (by first | exact x0 | exact qo1_0.resolve_left (by omega)) (by first | exact dz_dw0 (by omega) | exact dz_dws x1 (by omega) (by omega)) (by first | exact x2 | rfl) (by omega)
theorem t36_X12_arrange_I_s (fu : Nat) (hfu : 1000000000000 ≤ fu) (κ : Nat) (hκ : κ < 14) (c2_groups : Int32) (gh_c2_out : Int32) (p0 : c2_groups.toInt ≤ 4) (p1 : 2 ≤ c2_groups.toInt) (o1 : c2_groups.toInt = ((dz_kg κ : Nat) : Int)) (k : Nat) : p36_X12_arrange_s fu κ c2_groups gh_c2_out k := by
  induction k using Nat.strongRecOn with
  | _ k ih => exact t36_X12_arrange_h1_s fu hfu κ hκ c2_groups gh_c2_out p0 p1 o1 k ih
set_option maxHeartbeats 4000000 in
set_option maxRecDepth 10000 in
theorem t36_X12_arrange_E_s (fu : Nat) (hfu : 1000000000000 ≤ fu) (κ : Nat) (hκ : κ < 14) (c2_groups : Int32) (v1 : Int32) (c2_thrown : Int32) (c2_out : Int32) (c2_laid : Int32) (a53 : Nat → Int32) (p0 : c2_groups.toInt ≤ 4) (p1 : 2 ≤ c2_groups.toInt) (p2 : c2_out.toInt ≤ 12) (p3 : 0 ≤ c2_out.toInt) (hr_a53 : dz_rg a53 4 0 3) (o0 : dz_pm a53 (dz_kg κ)) (o1 : c2_groups.toInt = ((dz_kg κ : Nat) : Int)) (kv : Nat) (hkv : 1000000000000 ≤ kv) : dz_T (s36_X12_arrange_0 fu c2_groups (F36_X12_arrange fu c2_groups kv)  v1 c2_thrown c2_out c2_laid a53) (fun r => r.1.toInt ≤ 1 ∧ 0 ≤ r.1.toInt ∧ r.2.2.1.toInt ≤ 12 ∧ 0 ≤ r.2.2.1.toInt ∧ dz_rg r.2.2.2.2 4 0 3 ∧ (dz_pm r.2.2.2.2 (dz_kg κ)) ∧ ((r.1.toInt = 0 ∧ r.2.2.1 = c2_out) ∨ r.2.2.1.toInt = 0)) := by
  unfold s36_X12_arrange_0
  refine dz_Tb (t34_X12_isOnce fu hfu _ _ (by first | assumption | omega) p0) (fun r1 q => ?_)
  obtain ⟨q1_0, q1_1, qo1_0⟩ := q
  have e1 := dz_l0
  refine dz_Teq (fun h2 => ?_) (fun h2 => ?_)
  · skip
    refine dz_Ts ?_
    dsimp only
    exact ⟨(by omega), (by omega), p2, p3, (hr_a53), (by first | exact dz_dwp x0 x1 (by omega) (by omega) | assumption), (by first | exact Or.inr (by omega) | exact Or.inl ⟨by omega, rfl⟩)⟩
  · skip
    exact (t36_X12_arrange_I_s fu hfu κ hκ c2_groups c2_out p0 p1 o1 kv) v1 (0 : Int32) (0 : Int32) c2_out c2_laid a53 (by omega) (by omega) (by omega) (by omega) p2 p3 (by omega) (hr_a53) (by first | exact x0 | exact qo1_0.resolve_left (by omega)) (by first | exact dz_dw0 (by omega) | exact dz_dws x1 (by omega) (by omega)) (by first | exact x2 | rfl) (by omega)
theorem t36_X12_arrange_s (fu : Nat) (hfu : 1000000000000 ≤ fu) (κ : Nat) (hκ : κ < 14) (c2_groups : Int32) (v1 : Int32) (c2_thrown : Int32) (c2_out : Int32) (c2_laid : Int32) (a53 : Nat → Int32) (p0 : c2_groups.toInt ≤ 4) (p1 : 2 ≤ c2_groups.toInt) (p2 : c2_out.toInt ≤ 12) (p3 : 0 ≤ c2_out.toInt) (hr_a53 : dz_rg a53 4 0 3) (o0 : dz_pm a53 (dz_kg κ)) (o1 : c2_groups.toInt = ((dz_kg κ : Nat) : Int)) : dz_T (f36_X12_arrange fu c2_groups v1 c2_thrown c2_out c2_laid a53) (fun r => r.1.toInt ≤ 1 ∧ 0 ≤ r.1.toInt ∧ r.2.2.1.toInt ≤ 12 ∧ 0 ≤ r.2.2.1.toInt ∧ dz_rg r.2.2.2.2 4 0 3 ∧ (dz_pm r.2.2.2.2 (dz_kg κ)) ∧ ((r.1.toInt = 0 ∧ r.2.2.1 = c2_out) ∨ r.2.2.1.toInt = 0)) :=
  t36_X12_arrange_E_s fu hfu κ hκ c2_groups v1 c2_thrown c2_out c2_laid a53 p0 p1 p2 p3 hr_a53 o0 o1 fu hfu
