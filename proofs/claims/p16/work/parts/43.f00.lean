abbrev p48_X12_turnsAs (fu : Nat) (a52 : Nat → Int32) (a53 : Nat → Int32) (k : Nat) : Prop :=
  (∀ (v1 : Int32) (a56 : Nat → Int32) (a57 : Nat → Int32), v1.toInt ≤ 4 → 0 ≤ v1.toInt → dz_rg a56 4 0 3 → dz_rg a57 4 0 3 → dz_cp a56 a52 v1.toInt.toNat → dz_cp a57 a53 v1.toInt.toNat → 0 + 0 + (4 - v1.toInt) * 10 + 5 ≤ ((k : Nat) : Int) → dz_T ((F48_X12_turnsAs fu a52 a53 k) v1 a56 a57) (fun r => dz_rg r.1 4 0 3 ∧ dz_rg r.2 4 0 3 ∧ (dz_cp r.1 a52 4) ∧ (dz_cp r.2 a53 4)))
set_option maxHeartbeats 4000000 in
set_option maxRecDepth 10000 in
theorem t48_X12_turnsAs_h1 (fu : Nat) (hfu : 1000000000000 ≤ fu) (a52 : Nat → Int32) (a53 : Nat → Int32) (hr_a52 : dz_rg a52 4 0 3) (hr_a53 : dz_rg a53 4 0 3) (k : Nat) (ih : ∀ j9, j9 < k → p48_X12_turnsAs fu a52 a53 j9) : ∀ (v1 : Int32) (a56 : Nat → Int32) (a57 : Nat → Int32), v1.toInt ≤ 4 → 0 ≤ v1.toInt → dz_rg a56 4 0 3 → dz_rg a57 4 0 3 → dz_cp a56 a52 v1.toInt.toNat → dz_cp a57 a53 v1.toInt.toNat → 0 + 0 + (4 - v1.toInt) * 10 + 5 ≤ ((k : Nat) : Int) → dz_T ((F48_X12_turnsAs fu a52 a53 k) v1 a56 a57) (fun r => dz_rg r.1 4 0 3 ∧ dz_rg r.2 4 0 3 ∧ (dz_cp r.1 a52 4) ∧ (dz_cp r.2 a53 4)) := by
  intro v1 a56 a57 i0 i1 hr_a56 hr_a57 x0 x1 hm
  obtain ⟨k0, rfl⟩ : ∃ x, k = x + 1 := ⟨k - 1, by omega⟩
  show dz_T (s48_X12_turnsAs_1 fu a52 a53 (F48_X12_turnsAs fu a52 a53 k0)  v1 a56 a57) _
  unfold s48_X12_turnsAs_1
  have e1 := dz_l4
  refine dz_Tle (fun h2 => ?_) (fun h2 => ?_)
  · skip
    refine dz_Ts ?_
    dsimp only
    exact ⟨(hr_a56), (hr_a57), (dz_cpm x0 (by omega)), (dz_cpm x1 (by omega))⟩
  · skip
    refine dz_Tin (by omega) (by omega) ?_
    refine dz_Tin (by omega) (by omega) ?_
    refine dz_Tin (by omega) (by omega) ?_
    refine dz_Tin (by omega) (by omega) ?_
    have e3 := dz_l1
    have e4 := dz_add (a := v1) (b := (1 : Int32)) (by omega) (by omega)
    have e5 := dz_rgat (hr_a52) (i := v1) (by omega) (by omega)
    have e6 := dz_rgat (hr_a53) (i := v1) (by omega) (by omega)
    exact (ih k0 (by omega)) (v1 + (1 : Int32)) (upd a56 v1.toNatClampNeg (a52 v1.toNatClampNeg)) (upd a57 v1.toNatClampNeg (a53 v1.toNatClampNeg)) (by omega) (by omega) (dz_rgu (hr_a56) (by omega) (by omega)) (dz_rgu (hr_a57) (by omega) (by omega)) (by first | exact dz_cp0 (by omega) | exact dz_cps x0 (by omega) (by omega)) (by first | exact dz_cp0 (by omega) | exact dz_cps x1 (by omega) (by omega)) (by omega)
theorem t48_X12_turnsAs_I (fu : Nat) (hfu : 1000000000000 ≤ fu) (a52 : Nat → Int32) (a53 : Nat → Int32) (hr_a52 : dz_rg a52 4 0 3) (hr_a53 : dz_rg a53 4 0 3) (k : Nat) : p48_X12_turnsAs fu a52 a53 k := by
  induction k using Nat.strongRecOn with
  | _ k ih => exact t48_X12_turnsAs_h1 fu hfu a52 a53 hr_a52 hr_a53 k ih
set_option maxHeartbeats 4000000 in
set_option maxRecDepth 10000 in
theorem t48_X12_turnsAs_E (fu : Nat) (hfu : 1000000000000 ≤ fu) (a52 : Nat → Int32) (a53 : Nat → Int32) (a56 : Nat → Int32) (a57 : Nat → Int32) (hr_a52 : dz_rg a52 4 0 3) (hr_a53 : dz_rg a53 4 0 3) (hr_a56 : dz_rg a56 4 0 3) (hr_a57 : dz_rg a57 4 0 3) (kv : Nat) (hkv : 1000000000000 ≤ kv) : dz_T (s48_X12_turnsAs_0 fu a52 a53 (F48_X12_turnsAs fu a52 a53 kv)  a56 a57) (fun r => dz_rg r.1 4 0 3 ∧ dz_rg r.2 4 0 3 ∧ (dz_cp r.1 a52 4) ∧ (dz_cp r.2 a53 4)) := by
  unfold s48_X12_turnsAs_0
  have e1 := dz_l0
  exact (t48_X12_turnsAs_I fu hfu a52 a53 hr_a52 hr_a53 kv) (0 : Int32) a56 a57 (by omega) (by omega) (hr_a56) (hr_a57) (by first | exact dz_cp0 (by omega) | exact dz_cps x0 (by omega) (by omega)) (by first | exact dz_cp0 (by omega) | exact dz_cps x1 (by omega) (by omega)) (by omega)
theorem t48_X12_turnsAs (fu : Nat) (hfu : 1000000000000 ≤ fu) (a52 : Nat → Int32) (a53 : Nat → Int32) (a56 : Nat → Int32) (a57 : Nat → Int32) (hr_a52 : dz_rg a52 4 0 3) (hr_a53 : dz_rg a53 4 0 3) (hr_a56 : dz_rg a56 4 0 3) (hr_a57 : dz_rg a57 4 0 3) : dz_T (f48_X12_turnsAs fu a52 a53 a56 a57) (fun r => dz_rg r.1 4 0 3 ∧ dz_rg r.2 4 0 3 ∧ (dz_cp r.1 a52 4) ∧ (dz_cp r.2 a53 4)) :=
  t48_X12_turnsAs_E fu hfu a52 a53 a56 a57 hr_a52 hr_a53 hr_a56 hr_a57 fu hfu
