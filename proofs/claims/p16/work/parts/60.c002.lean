abbrev p136_X2_listLawful_g33 (fu : Nat) (c267_total : Int32) (a269 : Nat → Int32) (n269 : Nat) (n270 : Nat) (k : Nat) : Prop :=
  (∀ (v1 : Int32) (c267_lawfulOnes : Int32) (a270 : Nat → Int32), v1.toInt ≤ 216 → 0 ≤ v1.toInt → c267_lawfulOnes.toInt ≤ 216 → 0 ≤ c267_lawfulOnes.toInt → c267_lawfulOnes.toInt ≤ v1.toInt → dz_rg a270 c267_lawfulOnes.toInt.toNat 0 215 → 0 + 0 + (216 - v1.toInt) * 12 + 6 ≤ ((k : Nat) : Int) → dz_T ((F136_X2_listLawful fu c267_total a269 n269 n270 k).1 v1 c267_lawfulOnes a270) (fun r => r.1.toInt ≤ 216 ∧ 0 ≤ r.1.toInt ∧ dz_rg r.2 r.1.toInt.toNat 0 215))
set_option maxHeartbeats 1000000 in
set_option maxRecDepth 10000 in
theorem t136_X2_listLawful_h1_g33 (fu : Nat) (hfu : 1000000000000 ≤ fu) (c267_total : Int32) (a269 : Nat → Int32) (n269 : Nat) (n270 : Nat) (p0 : c267_total.toInt ≤ 216) (p1 : 216 ≤ c267_total.toInt) (p2 : ((n269 : Nat) : Int) ≤ 13824) (p3 : 1 ≤ ((n269 : Nat) : Int)) (p4 : ((n270 : Nat) : Int) ≤ 13824) (p5 : 1 ≤ ((n270 : Nat) : Int)) (p6 : c267_total.toInt ≤ ((n269 : Nat) : Int)) (p7 : c267_total.toInt ≤ ((n270 : Nat) : Int)) (p8 : ((n269 : Nat) : Int) ≤ ((n270 : Nat) : Int)) (p9 : ((n270 : Nat) : Int) ≤ ((n269 : Nat) : Int)) (hr_a269 : dz_rg a269 n269 0 1023) (k : Nat) (ih : ∀ j9, j9 < k → p136_X2_listLawful_g33 fu c267_total a269 n269 n270 j9) : ∀ (v1 : Int32) (c267_lawfulOnes : Int32) (a270 : Nat → Int32), v1.toInt ≤ 216 → 0 ≤ v1.toInt → c267_lawfulOnes.toInt ≤ 216 → 0 ≤ c267_lawfulOnes.toInt → c267_lawfulOnes.toInt ≤ v1.toInt → dz_rg a270 c267_lawfulOnes.toInt.toNat 0 215 → 0 + 0 + (216 - v1.toInt) * 12 + 6 ≤ ((k : Nat) : Int) → dz_T ((F136_X2_listLawful fu c267_total a269 n269 n270 k).1 v1 c267_lawfulOnes a270) (fun r => r.1.toInt ≤ 216 ∧ 0 ≤ r.1.toInt ∧ dz_rg r.2 r.1.toInt.toNat 0 215) := by
  intro v1 c267_lawfulOnes a270 i0 i1 i2 i3 i4 hr_a270 hm
  obtain ⟨k0, rfl⟩ : ∃ x, k = x + 1 := ⟨k - 1, by omega⟩
  show dz_T (s136_X2_listLawful_1 fu c267_total a269 n269 n270 (F136_X2_listLawful fu c267_total a269 n269 n270 k0).2  v1 c267_lawfulOnes a270) _
  unfold s136_X2_listLawful_1
  refine dz_Tle (fun h1 => ?_) (fun h1 => ?_)
  · skip
    refine dz_Ts ?_
    dsimp only
    exact ⟨i2, i3, (dz_rgs (hr_a270) (by omega))⟩
  · skip
    refine dz_Tin (by omega) (by omega) ?_
    have e2 := dz_rgat (hr_a269) (i := v1) (by omega) (by omega)
    have e3 := dz_l0
    refine dz_Teq (fun h4 => ?_) (fun h4 => ?_)
    · skip
      refine dz_Tin (by omega) (by omega) ?_
      obtain ⟨k1, rfl⟩ : ∃ x, k0 = x + 1 := ⟨k0 - 1, by omega⟩
      show dz_T (s136_X2_listLawful_2 fu c267_total a269 n269 n270 (F136_X2_listLawful fu c267_total a269 n269 n270 k1).1 v1 (c267_lawfulOnes + (1 : Int32)) (upd a270 c267_lawfulOnes.toNatClampNeg v1)) _
      unfold s136_X2_listLawful_2
      have e5 := dz_l1
      have e6 := dz_add (a := v1) (b := (1 : Int32)) (by omega) (by omega)
      have e7 := dz_add (a := c267_lawfulOnes) (b := (1 : Int32)) (by omega) (by omega)
      exact (ih k1 (by omega)) (v1 + (1 : Int32)) (c267_lawfulOnes + (1 : Int32)) (upd a270 c267_lawfulOnes.toNatClampNeg v1) (by omega) (by omega) (by omega) (by omega) (by omega) (dz_rgx (hr_a270) (k2 := (c267_lawfulOnes + (1 : Int32))) (by omega) (by omega) (by omega) (by omega)) (by omega)
    · skip
      obtain ⟨k2, rfl⟩ : ∃ x, k0 = x + 1 := ⟨k0 - 1, by omega⟩
      show dz_T (s136_X2_listLawful_2 fu c267_total a269 n269 n270 (F136_X2_listLawful fu c267_total a269 n269 n270 k2).1 v1 c267_lawfulOnes a270) _
      unfold s136_X2_listLawful_2
      have e8 := dz_l1
      have e9 := dz_add (a := v1) (b := (1 : Int32)) (by omega) (by omega)
      exact (ih k2 (by omega)) (v1 + (1 : Int32)) c267_lawfulOnes a270 (by omega) (by omega) i2 i3 (by omega) (dz_rgs (hr_a270) (by omega)) (by omega)
theorem t136_X2_listLawful_I_g33 (fu : Nat) (hfu : 1000000000000 ≤ fu) (c267_total : Int32) (a269 : Nat → Int32) (n269 : Nat) (n270 : Nat) (p0 : c267_total.toInt ≤ 216) (p1 : 216 ≤ c267_total.toInt) (p2 : ((n269 : Nat) : Int) ≤ 13824) (p3 : 1 ≤ ((n269 : Nat) : Int)) (p4 : ((n270 : Nat) : Int) ≤ 13824) (p5 : 1 ≤ ((n270 : Nat) : Int)) (p6 : c267_total.toInt ≤ ((n269 : Nat) : Int)) (p7 : c267_total.toInt ≤ ((n270 : Nat) : Int)) (p8 : ((n269 : Nat) : Int) ≤ ((n270 : Nat) : Int)) (p9 : ((n270 : Nat) : Int) ≤ ((n269 : Nat) : Int)) (hr_a269 : dz_rg a269 n269 0 1023) (k : Nat) : p136_X2_listLawful_g33 fu c267_total a269 n269 n270 k := by
  induction k using Nat.strongRecOn with
  | _ k ih => exact t136_X2_listLawful_h1_g33 fu hfu c267_total a269 n269 n270 p0 p1 p2 p3 p4 p5 p6 p7 p8 p9 hr_a269 k ih
set_option maxHeartbeats 1000000 in
set_option maxRecDepth 10000 in
theorem t136_X2_listLawful_E_g33 (fu : Nat) (hfu : 1000000000000 ≤ fu) (c267_total : Int32) (a269 : Nat → Int32) (n269 : Nat) (n270 : Nat) (c267_lawfulOnes : Int32) (a270 : Nat → Int32) (p0 : c267_total.toInt ≤ 216) (p1 : 216 ≤ c267_total.toInt) (p2 : ((n269 : Nat) : Int) ≤ 13824) (p3 : 1 ≤ ((n269 : Nat) : Int)) (p4 : ((n270 : Nat) : Int) ≤ 13824) (p5 : 1 ≤ ((n270 : Nat) : Int)) (p6 : c267_total.toInt ≤ ((n269 : Nat) : Int)) (p7 : c267_total.toInt ≤ ((n270 : Nat) : Int)) (p8 : ((n269 : Nat) : Int) ≤ ((n270 : Nat) : Int)) (p9 : ((n270 : Nat) : Int) ≤ ((n269 : Nat) : Int)) (hr_a269 : dz_rg a269 n269 0 1023) (kv : Nat) (hkv : 1000000000000 ≤ kv) : dz_T (s136_X2_listLawful_0 fu c267_total a269 n269 n270 (F136_X2_listLawful fu c267_total a269 n269 n270 kv).1  c267_lawfulOnes a270) (fun r => r.1.toInt ≤ 216 ∧ 0 ≤ r.1.toInt ∧ dz_rg r.2 r.1.toInt.toNat 0 215) := by
  unfold s136_X2_listLawful_0
  have e1 := dz_l0
  exact (t136_X2_listLawful_I_g33 fu hfu c267_total a269 n269 n270 p0 p1 p2 p3 p4 p5 p6 p7 p8 p9 hr_a269 kv) (0 : Int32) (0 : Int32) a270 (by omega) (by omega) (by omega) (by omega) (by omega) (dz_rgz (by omega)) (by omega)
theorem t136_X2_listLawful_g33 (fu : Nat) (hfu : 1000000000000 ≤ fu) (c267_total : Int32) (a269 : Nat → Int32) (n269 : Nat) (n270 : Nat) (c267_lawfulOnes : Int32) (a270 : Nat → Int32) (p0 : c267_total.toInt ≤ 216) (p1 : 216 ≤ c267_total.toInt) (p2 : ((n269 : Nat) : Int) ≤ 13824) (p3 : 1 ≤ ((n269 : Nat) : Int)) (p4 : ((n270 : Nat) : Int) ≤ 13824) (p5 : 1 ≤ ((n270 : Nat) : Int)) (p6 : c267_total.toInt ≤ ((n269 : Nat) : Int)) (p7 : c267_total.toInt ≤ ((n270 : Nat) : Int)) (p8 : ((n269 : Nat) : Int) ≤ ((n270 : Nat) : Int)) (p9 : ((n270 : Nat) : Int) ≤ ((n269 : Nat) : Int)) (hr_a269 : dz_rg a269 n269 0 1023) : dz_T (f136_X2_listLawful fu c267_total a269 n269 n270 c267_lawfulOnes a270) (fun r => r.1.toInt ≤ 216 ∧ 0 ≤ r.1.toInt ∧ dz_rg r.2 r.1.toInt.toNat 0 215) :=
  t136_X2_listLawful_E_g33 fu hfu c267_total a269 n269 n270 c267_lawfulOnes a270 p0 p1 p2 p3 p4 p5 p6 p7 p8 p9 hr_a269 fu hfu
abbrev p136_X2_listLawful_g34 (fu : Nat) (c267_total : Int32) (a269 : Nat → Int32) (n269 : Nat) (n270 : Nat) (k : Nat) : Prop :=
  (∀ (v1 : Int32) (c267_lawfulOnes : Int32) (a270 : Nat → Int32), v1.toInt ≤ 1296 → 0 ≤ v1.toInt → c267_lawfulOnes.toInt ≤ 1296 → 0 ≤ c267_lawfulOnes.toInt → c267_lawfulOnes.toInt ≤ v1.toInt → dz_rg a270 c267_lawfulOnes.toInt.toNat 0 1295 → 0 + 0 + (1296 - v1.toInt) * 12 + 6 ≤ ((k : Nat) : Int) → dz_T ((F136_X2_listLawful fu c267_total a269 n269 n270 k).1 v1 c267_lawfulOnes a270) (fun r => r.1.toInt ≤ 1296 ∧ 0 ≤ r.1.toInt ∧ dz_rg r.2 r.1.toInt.toNat 0 1295))
set_option maxHeartbeats 1000000 in
set_option maxRecDepth 10000 in
theorem t136_X2_listLawful_h1_g34 (fu : Nat) (hfu : 1000000000000 ≤ fu) (c267_total : Int32) (a269 : Nat → Int32) (n269 : Nat) (n270 : Nat) (p0 : c267_total.toInt ≤ 1296) (p1 : 1296 ≤ c267_total.toInt) (p2 : ((n269 : Nat) : Int) ≤ 13824) (p3 : 1 ≤ ((n269 : Nat) : Int)) (p4 : ((n270 : Nat) : Int) ≤ 13824) (p5 : 1 ≤ ((n270 : Nat) : Int)) (p6 : c267_total.toInt ≤ ((n269 : Nat) : Int)) (p7 : c267_total.toInt ≤ ((n270 : Nat) : Int)) (p8 : ((n269 : Nat) : Int) ≤ ((n270 : Nat) : Int)) (p9 : ((n270 : Nat) : Int) ≤ ((n269 : Nat) : Int)) (hr_a269 : dz_rg a269 n269 0 1023) (k : Nat) (ih : ∀ j9, j9 < k → p136_X2_listLawful_g34 fu c267_total a269 n269 n270 j9) : ∀ (v1 : Int32) (c267_lawfulOnes : Int32) (a270 : Nat → Int32), v1.toInt ≤ 1296 → 0 ≤ v1.toInt → c267_lawfulOnes.toInt ≤ 1296 → 0 ≤ c267_lawfulOnes.toInt → c267_lawfulOnes.toInt ≤ v1.toInt → dz_rg a270 c267_lawfulOnes.toInt.toNat 0 1295 → 0 + 0 + (1296 - v1.toInt) * 12 + 6 ≤ ((k : Nat) : Int) → dz_T ((F136_X2_listLawful fu c267_total a269 n269 n270 k).1 v1 c267_lawfulOnes a270) (fun r => r.1.toInt ≤ 1296 ∧ 0 ≤ r.1.toInt ∧ dz_rg r.2 r.1.toInt.toNat 0 1295) := by
  intro v1 c267_lawfulOnes a270 i0 i1 i2 i3 i4 hr_a270 hm
  obtain ⟨k0, rfl⟩ : ∃ x, k = x + 1 := ⟨k - 1, by omega⟩
  show dz_T (s136_X2_listLawful_1 fu c267_total a269 n269 n270 (F136_X2_listLawful fu c267_total a269 n269 n270 k0).2  v1 c267_lawfulOnes a270) _
  unfold s136_X2_listLawful_1
  refine dz_Tle (fun h1 => ?_) (fun h1 => ?_)
  · skip
    refine dz_Ts ?_
    dsimp only
    exact ⟨i2, i3, (dz_rgs (hr_a270) (by omega))⟩
  · skip
    refine dz_Tin (by omega) (by omega) ?_
    have e2 := dz_rgat (hr_a269) (i := v1) (by omega) (by omega)
    have e3 := dz_l0
    refine dz_Teq (fun h4 => ?_) (fun h4 => ?_)
    · skip
      refine dz_Tin (by omega) (by omega) ?_
      obtain ⟨k1, rfl⟩ : ∃ x, k0 = x + 1 := ⟨k0 - 1, by omega⟩
      show dz_T (s136_X2_listLawful_2 fu c267_total a269 n269 n270 (F136_X2_listLawful fu c267_total a269 n269 n270 k1).1 v1 (c267_lawfulOnes + (1 : Int32)) (upd a270 c267_lawfulOnes.toNatClampNeg v1)) _
      unfold s136_X2_listLawful_2
      have e5 := dz_l1
      have e6 := dz_add (a := v1) (b := (1 : Int32)) (by omega) (by omega)
      have e7 := dz_add (a := c267_lawfulOnes) (b := (1 : Int32)) (by omega) (by omega)
      exact (ih k1 (by omega)) (v1 + (1 : Int32)) (c267_lawfulOnes + (1 : Int32)) (upd a270 c267_lawfulOnes.toNatClampNeg v1) (by omega) (by omega) (by omega) (by omega) (by omega) (dz_rgx (hr_a270) (k2 := (c267_lawfulOnes + (1 : Int32))) (by omega) (by omega) (by omega) (by omega)) (by omega)
    · skip
      obtain ⟨k2, rfl⟩ : ∃ x, k0 = x + 1 := ⟨k0 - 1, by omega⟩
      show dz_T (s136_X2_listLawful_2 fu c267_total a269 n269 n270 (F136_X2_listLawful fu c267_total a269 n269 n270 k2).1 v1 c267_lawfulOnes a270) _
      unfold s136_X2_listLawful_2
      have e8 := dz_l1
      have e9 := dz_add (a := v1) (b := (1 : Int32)) (by omega) (by omega)
      exact (ih k2 (by omega)) (v1 + (1 : Int32)) c267_lawfulOnes a270 (by omega) (by omega) i2 i3 (by omega) (dz_rgs (hr_a270) (by omega)) (by omega)
theorem t136_X2_listLawful_I_g34 (fu : Nat) (hfu : 1000000000000 ≤ fu) (c267_total : Int32) (a269 : Nat → Int32) (n269 : Nat) (n270 : Nat) (p0 : c267_total.toInt ≤ 1296) (p1 : 1296 ≤ c267_total.toInt) (p2 : ((n269 : Nat) : Int) ≤ 13824) (p3 : 1 ≤ ((n269 : Nat) : Int)) (p4 : ((n270 : Nat) : Int) ≤ 13824) (p5 : 1 ≤ ((n270 : Nat) : Int)) (p6 : c267_total.toInt ≤ ((n269 : Nat) : Int)) (p7 : c267_total.toInt ≤ ((n270 : Nat) : Int)) (p8 : ((n269 : Nat) : Int) ≤ ((n270 : Nat) : Int)) (p9 : ((n270 : Nat) : Int) ≤ ((n269 : Nat) : Int)) (hr_a269 : dz_rg a269 n269 0 1023) (k : Nat) : p136_X2_listLawful_g34 fu c267_total a269 n269 n270 k := by
  induction k using Nat.strongRecOn with
  | _ k ih => exact t136_X2_listLawful_h1_g34 fu hfu c267_total a269 n269 n270 p0 p1 p2 p3 p4 p5 p6 p7 p8 p9 hr_a269 k ih
set_option maxHeartbeats 1000000 in
set_option maxRecDepth 10000 in
theorem t136_X2_listLawful_E_g34 (fu : Nat) (hfu : 1000000000000 ≤ fu) (c267_total : Int32) (a269 : Nat → Int32) (n269 : Nat) (n270 : Nat) (c267_lawfulOnes : Int32) (a270 : Nat → Int32) (p0 : c267_total.toInt ≤ 1296) (p1 : 1296 ≤ c267_total.toInt) (p2 : ((n269 : Nat) : Int) ≤ 13824) (p3 : 1 ≤ ((n269 : Nat) : Int)) (p4 : ((n270 : Nat) : Int) ≤ 13824) (p5 : 1 ≤ ((n270 : Nat) : Int)) (p6 : c267_total.toInt ≤ ((n269 : Nat) : Int)) (p7 : c267_total.toInt ≤ ((n270 : Nat) : Int)) (p8 : ((n269 : Nat) : Int) ≤ ((n270 : Nat) : Int)) (p9 : ((n270 : Nat) : Int) ≤ ((n269 : Nat) : Int)) (hr_a269 : dz_rg a269 n269 0 1023) (kv : Nat) (hkv : 1000000000000 ≤ kv) : dz_T (s136_X2_listLawful_0 fu c267_total a269 n269 n270 (F136_X2_listLawful fu c267_total a269 n269 n270 kv).1  c267_lawfulOnes a270) (fun r => r.1.toInt ≤ 1296 ∧ 0 ≤ r.1.toInt ∧ dz_rg r.2 r.1.toInt.toNat 0 1295) := by
  unfold s136_X2_listLawful_0
  have e1 := dz_l0
  exact (t136_X2_listLawful_I_g34 fu hfu c267_total a269 n269 n270 p0 p1 p2 p3 p4 p5 p6 p7 p8 p9 hr_a269 kv) (0 : Int32) (0 : Int32) a270 (by omega) (by omega) (by omega) (by omega) (by omega) (dz_rgz (by omega)) (by omega)
theorem t136_X2_listLawful_g34 (fu : Nat) (hfu : 1000000000000 ≤ fu) (c267_total : Int32) (a269 : Nat → Int32) (n269 : Nat) (n270 : Nat) (c267_lawfulOnes : Int32) (a270 : Nat → Int32) (p0 : c267_total.toInt ≤ 1296) (p1 : 1296 ≤ c267_total.toInt) (p2 : ((n269 : Nat) : Int) ≤ 13824) (p3 : 1 ≤ ((n269 : Nat) : Int)) (p4 : ((n270 : Nat) : Int) ≤ 13824) (p5 : 1 ≤ ((n270 : Nat) : Int)) (p6 : c267_total.toInt ≤ ((n269 : Nat) : Int)) (p7 : c267_total.toInt ≤ ((n270 : Nat) : Int)) (p8 : ((n269 : Nat) : Int) ≤ ((n270 : Nat) : Int)) (p9 : ((n270 : Nat) : Int) ≤ ((n269 : Nat) : Int)) (hr_a269 : dz_rg a269 n269 0 1023) : dz_T (f136_X2_listLawful fu c267_total a269 n269 n270 c267_lawfulOnes a270) (fun r => r.1.toInt ≤ 1296 ∧ 0 ≤ r.1.toInt ∧ dz_rg r.2 r.1.toInt.toNat 0 1295) :=
  t136_X2_listLawful_E_g34 fu hfu c267_total a269 n269 n270 c267_lawfulOnes a270 p0 p1 p2 p3 p4 p5 p6 p7 p8 p9 hr_a269 fu hfu
abbrev p136_X2_listLawful_g40 (fu : Nat) (c267_total : Int32) (a269 : Nat → Int32) (n269 : Nat) (n270 : Nat) (k : Nat) : Prop :=
  (∀ (v1 : Int32) (c267_lawfulOnes : Int32) (a270 : Nat → Int32), v1.toInt ≤ 1 → 0 ≤ v1.toInt → c267_lawfulOnes.toInt ≤ 1 → 0 ≤ c267_lawfulOnes.toInt → c267_lawfulOnes.toInt ≤ v1.toInt → dz_rg a270 c267_lawfulOnes.toInt.toNat 0 0 → 0 + 0 + (1 - v1.toInt) * 12 + 6 ≤ ((k : Nat) : Int) → dz_T ((F136_X2_listLawful fu c267_total a269 n269 n270 k).1 v1 c267_lawfulOnes a270) (fun r => r.1.toInt ≤ 1 ∧ 0 ≤ r.1.toInt ∧ dz_rg r.2 r.1.toInt.toNat 0 0))
set_option maxHeartbeats 1000000 in
set_option maxRecDepth 10000 in
theorem t136_X2_listLawful_h1_g40 (fu : Nat) (hfu : 1000000000000 ≤ fu) (c267_total : Int32) (a269 : Nat → Int32) (n269 : Nat) (n270 : Nat) (p0 : c267_total.toInt ≤ 1) (p1 : 1 ≤ c267_total.toInt) (p2 : ((n269 : Nat) : Int) ≤ 13824) (p3 : 1 ≤ ((n269 : Nat) : Int)) (p4 : ((n270 : Nat) : Int) ≤ 13824) (p5 : 1 ≤ ((n270 : Nat) : Int)) (p6 : c267_total.toInt ≤ ((n269 : Nat) : Int)) (p7 : c267_total.toInt ≤ ((n270 : Nat) : Int)) (p8 : ((n269 : Nat) : Int) ≤ ((n270 : Nat) : Int)) (p9 : ((n270 : Nat) : Int) ≤ ((n269 : Nat) : Int)) (hr_a269 : dz_rg a269 n269 0 1023) (k : Nat) (ih : ∀ j9, j9 < k → p136_X2_listLawful_g40 fu c267_total a269 n269 n270 j9) : ∀ (v1 : Int32) (c267_lawfulOnes : Int32) (a270 : Nat → Int32), v1.toInt ≤ 1 → 0 ≤ v1.toInt → c267_lawfulOnes.toInt ≤ 1 → 0 ≤ c267_lawfulOnes.toInt → c267_lawfulOnes.toInt ≤ v1.toInt → dz_rg a270 c267_lawfulOnes.toInt.toNat 0 0 → 0 + 0 + (1 - v1.toInt) * 12 + 6 ≤ ((k : Nat) : Int) → dz_T ((F136_X2_listLawful fu c267_total a269 n269 n270 k).1 v1 c267_lawfulOnes a270) (fun r => r.1.toInt ≤ 1 ∧ 0 ≤ r.1.toInt ∧ dz_rg r.2 r.1.toInt.toNat 0 0) := by
  intro v1 c267_lawfulOnes a270 i0 i1 i2 i3 i4 hr_a270 hm
  obtain ⟨k0, rfl⟩ : ∃ x, k = x + 1 := ⟨k - 1, by omega⟩
  show dz_T (s136_X2_listLawful_1 fu c267_total a269 n269 n270 (F136_X2_listLawful fu c267_total a269 n269 n270 k0).2  v1 c267_lawfulOnes a270) _
  unfold s136_X2_listLawful_1
  refine dz_Tle (fun h1 => ?_) (fun h1 => ?_)
  · skip
    refine dz_Ts ?_
    dsimp only
    exact ⟨i2, i3, (dz_rgs (hr_a270) (by omega))⟩
  · skip
    refine dz_Tin (by omega) (by omega) ?_
    have e2 := dz_rgat (hr_a269) (i := v1) (by omega) (by omega)
    have e3 := dz_l0
    refine dz_Teq (fun h4 => ?_) (fun h4 => ?_)
    · skip
      refine dz_Tin (by omega) (by omega) ?_
      obtain ⟨k1, rfl⟩ : ∃ x, k0 = x + 1 := ⟨k0 - 1, by omega⟩
      show dz_T (s136_X2_listLawful_2 fu c267_total a269 n269 n270 (F136_X2_listLawful fu c267_total a269 n269 n270 k1).1 v1 (c267_lawfulOnes + (1 : Int32)) (upd a270 c267_lawfulOnes.toNatClampNeg v1)) _
      unfold s136_X2_listLawful_2
      have e5 := dz_l1
      have e6 := dz_add (a := v1) (b := (1 : Int32)) (by omega) (by omega)
      have e7 := dz_add (a := c267_lawfulOnes) (b := (1 : Int32)) (by omega) (by omega)
      exact (ih k1 (by omega)) (v1 + (1 : Int32)) (c267_lawfulOnes + (1 : Int32)) (upd a270 c267_lawfulOnes.toNatClampNeg v1) (by omega) (by omega) (by omega) (by omega) (by omega) (dz_rgx (hr_a270) (k2 := (c267_lawfulOnes + (1 : Int32))) (by omega) (by omega) (by omega) (by omega)) (by omega)
    · skip
      obtain ⟨k2, rfl⟩ : ∃ x, k0 = x + 1 := ⟨k0 - 1, by omega⟩
      show dz_T (s136_X2_listLawful_2 fu c267_total a269 n269 n270 (F136_X2_listLawful fu c267_total a269 n269 n270 k2).1 v1 c267_lawfulOnes a270) _
      unfold s136_X2_listLawful_2
      have e8 := dz_l1
      have e9 := dz_add (a := v1) (b := (1 : Int32)) (by omega) (by omega)
      exact (ih k2 (by omega)) (v1 + (1 : Int32)) c267_lawfulOnes a270 (by omega) (by omega) i2 i3 (by omega) (dz_rgs (hr_a270) (by omega)) (by omega)
theorem t136_X2_listLawful_I_g40 (fu : Nat) (hfu : 1000000000000 ≤ fu) (c267_total : Int32) (a269 : Nat → Int32) (n269 : Nat) (n270 : Nat) (p0 : c267_total.toInt ≤ 1) (p1 : 1 ≤ c267_total.toInt) (p2 : ((n269 : Nat) : Int) ≤ 13824) (p3 : 1 ≤ ((n269 : Nat) : Int)) (p4 : ((n270 : Nat) : Int) ≤ 13824) (p5 : 1 ≤ ((n270 : Nat) : Int)) (p6 : c267_total.toInt ≤ ((n269 : Nat) : Int)) (p7 : c267_total.toInt ≤ ((n270 : Nat) : Int)) (p8 : ((n269 : Nat) : Int) ≤ ((n270 : Nat) : Int)) (p9 : ((n270 : Nat) : Int) ≤ ((n269 : Nat) : Int)) (hr_a269 : dz_rg a269 n269 0 1023) (k : Nat) : p136_X2_listLawful_g40 fu c267_total a269 n269 n270 k := by
  induction k using Nat.strongRecOn with
  | _ k ih => exact t136_X2_listLawful_h1_g40 fu hfu c267_total a269 n269 n270 p0 p1 p2 p3 p4 p5 p6 p7 p8 p9 hr_a269 k ih
set_option maxHeartbeats 1000000 in
set_option maxRecDepth 10000 in
theorem t136_X2_listLawful_E_g40 (fu : Nat) (hfu : 1000000000000 ≤ fu) (c267_total : Int32) (a269 : Nat → Int32) (n269 : Nat) (n270 : Nat) (c267_lawfulOnes : Int32) (a270 : Nat → Int32) (p0 : c267_total.toInt ≤ 1) (p1 : 1 ≤ c267_total.toInt) (p2 : ((n269 : Nat) : Int) ≤ 13824) (p3 : 1 ≤ ((n269 : Nat) : Int)) (p4 : ((n270 : Nat) : Int) ≤ 13824) (p5 : 1 ≤ ((n270 : Nat) : Int)) (p6 : c267_total.toInt ≤ ((n269 : Nat) : Int)) (p7 : c267_total.toInt ≤ ((n270 : Nat) : Int)) (p8 : ((n269 : Nat) : Int) ≤ ((n270 : Nat) : Int)) (p9 : ((n270 : Nat) : Int) ≤ ((n269 : Nat) : Int)) (hr_a269 : dz_rg a269 n269 0 1023) (kv : Nat) (hkv : 1000000000000 ≤ kv) : dz_T (s136_X2_listLawful_0 fu c267_total a269 n269 n270 (F136_X2_listLawful fu c267_total a269 n269 n270 kv).1  c267_lawfulOnes a270) (fun r => r.1.toInt ≤ 1 ∧ 0 ≤ r.1.toInt ∧ dz_rg r.2 r.1.toInt.toNat 0 0) := by
  unfold s136_X2_listLawful_0
  have e1 := dz_l0
  exact (t136_X2_listLawful_I_g40 fu hfu c267_total a269 n269 n270 p0 p1 p2 p3 p4 p5 p6 p7 p8 p9 hr_a269 kv) (0 : Int32) (0 : Int32) a270 (by omega) (by omega) (by omega) (by omega) (by omega) (dz_rgz (by omega)) (by omega)
theorem t136_X2_listLawful_g40 (fu : Nat) (hfu : 1000000000000 ≤ fu) (c267_total : Int32) (a269 : Nat → Int32) (n269 : Nat) (n270 : Nat) (c267_lawfulOnes : Int32) (a270 : Nat → Int32) (p0 : c267_total.toInt ≤ 1) (p1 : 1 ≤ c267_total.toInt) (p2 : ((n269 : Nat) : Int) ≤ 13824) (p3 : 1 ≤ ((n269 : Nat) : Int)) (p4 : ((n270 : Nat) : Int) ≤ 13824) (p5 : 1 ≤ ((n270 : Nat) : Int)) (p6 : c267_total.toInt ≤ ((n269 : Nat) : Int)) (p7 : c267_total.toInt ≤ ((n270 : Nat) : Int)) (p8 : ((n269 : Nat) : Int) ≤ ((n270 : Nat) : Int)) (p9 : ((n270 : Nat) : Int) ≤ ((n269 : Nat) : Int)) (hr_a269 : dz_rg a269 n269 0 1023) : dz_T (f136_X2_listLawful fu c267_total a269 n269 n270 c267_lawfulOnes a270) (fun r => r.1.toInt ≤ 1 ∧ 0 ≤ r.1.toInt ∧ dz_rg r.2 r.1.toInt.toNat 0 0) :=
  t136_X2_listLawful_E_g40 fu hfu c267_total a269 n269 n270 c267_lawfulOnes a270 p0 p1 p2 p3 p4 p5 p6 p7 p8 p9 hr_a269 fu hfu
abbrev p136_X2_listLawful_g41 (fu : Nat) (c267_total : Int32) (a269 : Nat → Int32) (n269 : Nat) (n270 : Nat) (k : Nat) : Prop :=
  (∀ (v1 : Int32) (c267_lawfulOnes : Int32) (a270 : Nat → Int32), v1.toInt ≤ 24 → 0 ≤ v1.toInt → c267_lawfulOnes.toInt ≤ 24 → 0 ≤ c267_lawfulOnes.toInt → c267_lawfulOnes.toInt ≤ v1.toInt → dz_rg a270 c267_lawfulOnes.toInt.toNat 0 23 → 0 + 0 + (24 - v1.toInt) * 12 + 6 ≤ ((k : Nat) : Int) → dz_T ((F136_X2_listLawful fu c267_total a269 n269 n270 k).1 v1 c267_lawfulOnes a270) (fun r => r.1.toInt ≤ 24 ∧ 0 ≤ r.1.toInt ∧ dz_rg r.2 r.1.toInt.toNat 0 23))
set_option maxHeartbeats 1000000 in
set_option maxRecDepth 10000 in
theorem t136_X2_listLawful_h1_g41 (fu : Nat) (hfu : 1000000000000 ≤ fu) (c267_total : Int32) (a269 : Nat → Int32) (n269 : Nat) (n270 : Nat) (p0 : c267_total.toInt ≤ 24) (p1 : 24 ≤ c267_total.toInt) (p2 : ((n269 : Nat) : Int) ≤ 13824) (p3 : 1 ≤ ((n269 : Nat) : Int)) (p4 : ((n270 : Nat) : Int) ≤ 13824) (p5 : 1 ≤ ((n270 : Nat) : Int)) (p6 : c267_total.toInt ≤ ((n269 : Nat) : Int)) (p7 : c267_total.toInt ≤ ((n270 : Nat) : Int)) (p8 : ((n269 : Nat) : Int) ≤ ((n270 : Nat) : Int)) (p9 : ((n270 : Nat) : Int) ≤ ((n269 : Nat) : Int)) (hr_a269 : dz_rg a269 n269 0 1023) (k : Nat) (ih : ∀ j9, j9 < k → p136_X2_listLawful_g41 fu c267_total a269 n269 n270 j9) : ∀ (v1 : Int32) (c267_lawfulOnes : Int32) (a270 : Nat → Int32), v1.toInt ≤ 24 → 0 ≤ v1.toInt → c267_lawfulOnes.toInt ≤ 24 → 0 ≤ c267_lawfulOnes.toInt → c267_lawfulOnes.toInt ≤ v1.toInt → dz_rg a270 c267_lawfulOnes.toInt.toNat 0 23 → 0 + 0 + (24 - v1.toInt) * 12 + 6 ≤ ((k : Nat) : Int) → dz_T ((F136_X2_listLawful fu c267_total a269 n269 n270 k).1 v1 c267_lawfulOnes a270) (fun r => r.1.toInt ≤ 24 ∧ 0 ≤ r.1.toInt ∧ dz_rg r.2 r.1.toInt.toNat 0 23) := by
  intro v1 c267_lawfulOnes a270 i0 i1 i2 i3 i4 hr_a270 hm
  obtain ⟨k0, rfl⟩ : ∃ x, k = x + 1 := ⟨k - 1, by omega⟩
  show dz_T (s136_X2_listLawful_1 fu c267_total a269 n269 n270 (F136_X2_listLawful fu c267_total a269 n269 n270 k0).2  v1 c267_lawfulOnes a270) _
  unfold s136_X2_listLawful_1
  refine dz_Tle (fun h1 => ?_) (fun h1 => ?_)
  · skip
    refine dz_Ts ?_
    dsimp only
    exact ⟨i2, i3, (dz_rgs (hr_a270) (by omega))⟩
  · skip
    refine dz_Tin (by omega) (by omega) ?_
    have e2 := dz_rgat (hr_a269) (i := v1) (by omega) (by omega)
    have e3 := dz_l0
    refine dz_Teq (fun h4 => ?_) (fun h4 => ?_)
    · skip
      refine dz_Tin (by omega) (by omega) ?_
      obtain ⟨k1, rfl⟩ : ∃ x, k0 = x + 1 := ⟨k0 - 1, by omega⟩
      show dz_T (s136_X2_listLawful_2 fu c267_total a269 n269 n270 (F136_X2_listLawful fu c267_total a269 n269 n270 k1).1 v1 (c267_lawfulOnes + (1 : Int32)) (upd a270 c267_lawfulOnes.toNatClampNeg v1)) _
      unfold s136_X2_listLawful_2
      have e5 := dz_l1
      have e6 := dz_add (a := v1) (b := (1 : Int32)) (by omega) (by omega)
      have e7 := dz_add (a := c267_lawfulOnes) (b := (1 : Int32)) (by omega) (by omega)
      exact (ih k1 (by omega)) (v1 + (1 : Int32)) (c267_lawfulOnes + (1 : Int32)) (upd a270 c267_lawfulOnes.toNatClampNeg v1) (by omega) (by omega) (by omega) (by omega) (by omega) (dz_rgx (hr_a270) (k2 := (c267_lawfulOnes + (1 : Int32))) (by omega) (by omega) (by omega) (by omega)) (by omega)
    · skip
      obtain ⟨k2, rfl⟩ : ∃ x, k0 = x + 1 := ⟨k0 - 1, by omega⟩
      show dz_T (s136_X2_listLawful_2 fu c267_total a269 n269 n270 (F136_X2_listLawful fu c267_total a269 n269 n270 k2).1 v1 c267_lawfulOnes a270) _
      unfold s136_X2_listLawful_2
      have e8 := dz_l1
      have e9 := dz_add (a := v1) (b := (1 : Int32)) (by omega) (by omega)
      exact (ih k2 (by omega)) (v1 + (1 : Int32)) c267_lawfulOnes a270 (by omega) (by omega) i2 i3 (by omega) (dz_rgs (hr_a270) (by omega)) (by omega)
theorem t136_X2_listLawful_I_g41 (fu : Nat) (hfu : 1000000000000 ≤ fu) (c267_total : Int32) (a269 : Nat → Int32) (n269 : Nat) (n270 : Nat) (p0 : c267_total.toInt ≤ 24) (p1 : 24 ≤ c267_total.toInt) (p2 : ((n269 : Nat) : Int) ≤ 13824) (p3 : 1 ≤ ((n269 : Nat) : Int)) (p4 : ((n270 : Nat) : Int) ≤ 13824) (p5 : 1 ≤ ((n270 : Nat) : Int)) (p6 : c267_total.toInt ≤ ((n269 : Nat) : Int)) (p7 : c267_total.toInt ≤ ((n270 : Nat) : Int)) (p8 : ((n269 : Nat) : Int) ≤ ((n270 : Nat) : Int)) (p9 : ((n270 : Nat) : Int) ≤ ((n269 : Nat) : Int)) (hr_a269 : dz_rg a269 n269 0 1023) (k : Nat) : p136_X2_listLawful_g41 fu c267_total a269 n269 n270 k := by
  induction k using Nat.strongRecOn with
  | _ k ih => exact t136_X2_listLawful_h1_g41 fu hfu c267_total a269 n269 n270 p0 p1 p2 p3 p4 p5 p6 p7 p8 p9 hr_a269 k ih
set_option maxHeartbeats 1000000 in
set_option maxRecDepth 10000 in
theorem t136_X2_listLawful_E_g41 (fu : Nat) (hfu : 1000000000000 ≤ fu) (c267_total : Int32) (a269 : Nat → Int32) (n269 : Nat) (n270 : Nat) (c267_lawfulOnes : Int32) (a270 : Nat → Int32) (p0 : c267_total.toInt ≤ 24) (p1 : 24 ≤ c267_total.toInt) (p2 : ((n269 : Nat) : Int) ≤ 13824) (p3 : 1 ≤ ((n269 : Nat) : Int)) (p4 : ((n270 : Nat) : Int) ≤ 13824) (p5 : 1 ≤ ((n270 : Nat) : Int)) (p6 : c267_total.toInt ≤ ((n269 : Nat) : Int)) (p7 : c267_total.toInt ≤ ((n270 : Nat) : Int)) (p8 : ((n269 : Nat) : Int) ≤ ((n270 : Nat) : Int)) (p9 : ((n270 : Nat) : Int) ≤ ((n269 : Nat) : Int)) (hr_a269 : dz_rg a269 n269 0 1023) (kv : Nat) (hkv : 1000000000000 ≤ kv) : dz_T (s136_X2_listLawful_0 fu c267_total a269 n269 n270 (F136_X2_listLawful fu c267_total a269 n269 n270 kv).1  c267_lawfulOnes a270) (fun r => r.1.toInt ≤ 24 ∧ 0 ≤ r.1.toInt ∧ dz_rg r.2 r.1.toInt.toNat 0 23) := by
  unfold s136_X2_listLawful_0
  have e1 := dz_l0
  exact (t136_X2_listLawful_I_g41 fu hfu c267_total a269 n269 n270 p0 p1 p2 p3 p4 p5 p6 p7 p8 p9 hr_a269 kv) (0 : Int32) (0 : Int32) a270 (by omega) (by omega) (by omega) (by omega) (by omega) (dz_rgz (by omega)) (by omega)
theorem t136_X2_listLawful_g41 (fu : Nat) (hfu : 1000000000000 ≤ fu) (c267_total : Int32) (a269 : Nat → Int32) (n269 : Nat) (n270 : Nat) (c267_lawfulOnes : Int32) (a270 : Nat → Int32) (p0 : c267_total.toInt ≤ 24) (p1 : 24 ≤ c267_total.toInt) (p2 : ((n269 : Nat) : Int) ≤ 13824) (p3 : 1 ≤ ((n269 : Nat) : Int)) (p4 : ((n270 : Nat) : Int) ≤ 13824) (p5 : 1 ≤ ((n270 : Nat) : Int)) (p6 : c267_total.toInt ≤ ((n269 : Nat) : Int)) (p7 : c267_total.toInt ≤ ((n270 : Nat) : Int)) (p8 : ((n269 : Nat) : Int) ≤ ((n270 : Nat) : Int)) (p9 : ((n270 : Nat) : Int) ≤ ((n269 : Nat) : Int)) (hr_a269 : dz_rg a269 n269 0 1023) : dz_T (f136_X2_listLawful fu c267_total a269 n269 n270 c267_lawfulOnes a270) (fun r => r.1.toInt ≤ 24 ∧ 0 ≤ r.1.toInt ∧ dz_rg r.2 r.1.toInt.toNat 0 23) :=
  t136_X2_listLawful_E_g41 fu hfu c267_total a269 n269 n270 c267_lawfulOnes a270 p0 p1 p2 p3 p4 p5 p6 p7 p8 p9 hr_a269 fu hfu
abbrev p136_X2_listLawful_g42 (fu : Nat) (c267_total : Int32) (a269 : Nat → Int32) (n269 : Nat) (n270 : Nat) (k : Nat) : Prop :=
  (∀ (v1 : Int32) (c267_lawfulOnes : Int32) (a270 : Nat → Int32), v1.toInt ≤ 576 → 0 ≤ v1.toInt → c267_lawfulOnes.toInt ≤ 576 → 0 ≤ c267_lawfulOnes.toInt → c267_lawfulOnes.toInt ≤ v1.toInt → dz_rg a270 c267_lawfulOnes.toInt.toNat 0 575 → 0 + 0 + (576 - v1.toInt) * 12 + 6 ≤ ((k : Nat) : Int) → dz_T ((F136_X2_listLawful fu c267_total a269 n269 n270 k).1 v1 c267_lawfulOnes a270) (fun r => r.1.toInt ≤ 576 ∧ 0 ≤ r.1.toInt ∧ dz_rg r.2 r.1.toInt.toNat 0 575))
set_option maxHeartbeats 1000000 in
set_option maxRecDepth 10000 in
theorem t136_X2_listLawful_h1_g42 (fu : Nat) (hfu : 1000000000000 ≤ fu) (c267_total : Int32) (a269 : Nat → Int32) (n269 : Nat) (n270 : Nat) (p0 : c267_total.toInt ≤ 576) (p1 : 576 ≤ c267_total.toInt) (p2 : ((n269 : Nat) : Int) ≤ 13824) (p3 : 1 ≤ ((n269 : Nat) : Int)) (p4 : ((n270 : Nat) : Int) ≤ 13824) (p5 : 1 ≤ ((n270 : Nat) : Int)) (p6 : c267_total.toInt ≤ ((n269 : Nat) : Int)) (p7 : c267_total.toInt ≤ ((n270 : Nat) : Int)) (p8 : ((n269 : Nat) : Int) ≤ ((n270 : Nat) : Int)) (p9 : ((n270 : Nat) : Int) ≤ ((n269 : Nat) : Int)) (hr_a269 : dz_rg a269 n269 0 1023) (k : Nat) (ih : ∀ j9, j9 < k → p136_X2_listLawful_g42 fu c267_total a269 n269 n270 j9) : ∀ (v1 : Int32) (c267_lawfulOnes : Int32) (a270 : Nat → Int32), v1.toInt ≤ 576 → 0 ≤ v1.toInt → c267_lawfulOnes.toInt ≤ 576 → 0 ≤ c267_lawfulOnes.toInt → c267_lawfulOnes.toInt ≤ v1.toInt → dz_rg a270 c267_lawfulOnes.toInt.toNat 0 575 → 0 + 0 + (576 - v1.toInt) * 12 + 6 ≤ ((k : Nat) : Int) → dz_T ((F136_X2_listLawful fu c267_total a269 n269 n270 k).1 v1 c267_lawfulOnes a270) (fun r => r.1.toInt ≤ 576 ∧ 0 ≤ r.1.toInt ∧ dz_rg r.2 r.1.toInt.toNat 0 575) := by
  intro v1 c267_lawfulOnes a270 i0 i1 i2 i3 i4 hr_a270 hm
  obtain ⟨k0, rfl⟩ : ∃ x, k = x + 1 := ⟨k - 1, by omega⟩
  show dz_T (s136_X2_listLawful_1 fu c267_total a269 n269 n270 (F136_X2_listLawful fu c267_total a269 n269 n270 k0).2  v1 c267_lawfulOnes a270) _
  unfold s136_X2_listLawful_1
  refine dz_Tle (fun h1 => ?_) (fun h1 => ?_)
  · skip
    refine dz_Ts ?_
    dsimp only
    exact ⟨i2, i3, (dz_rgs (hr_a270) (by omega))⟩
  · skip
    refine dz_Tin (by omega) (by omega) ?_
    have e2 := dz_rgat (hr_a269) (i := v1) (by omega) (by omega)
    have e3 := dz_l0
    refine dz_Teq (fun h4 => ?_) (fun h4 => ?_)
    · skip
      refine dz_Tin (by omega) (by omega) ?_
      obtain ⟨k1, rfl⟩ : ∃ x, k0 = x + 1 := ⟨k0 - 1, by omega⟩
      show dz_T (s136_X2_listLawful_2 fu c267_total a269 n269 n270 (F136_X2_listLawful fu c267_total a269 n269 n270 k1).1 v1 (c267_lawfulOnes + (1 : Int32)) (upd a270 c267_lawfulOnes.toNatClampNeg v1)) _
      unfold s136_X2_listLawful_2
      have e5 := dz_l1
      have e6 := dz_add (a := v1) (b := (1 : Int32)) (by omega) (by omega)
      have e7 := dz_add (a := c267_lawfulOnes) (b := (1 : Int32)) (by omega) (by omega)
      exact (ih k1 (by omega)) (v1 + (1 : Int32)) (c267_lawfulOnes + (1 : Int32)) (upd a270 c267_lawfulOnes.toNatClampNeg v1) (by omega) (by omega) (by omega) (by omega) (by omega) (dz_rgx (hr_a270) (k2 := (c267_lawfulOnes + (1 : Int32))) (by omega) (by omega) (by omega) (by omega)) (by omega)
    · skip
      obtain ⟨k2, rfl⟩ : ∃ x, k0 = x + 1 := ⟨k0 - 1, by omega⟩
      show dz_T (s136_X2_listLawful_2 fu c267_total a269 n269 n270 (F136_X2_listLawful fu c267_total a269 n269 n270 k2).1 v1 c267_lawfulOnes a270) _
      unfold s136_X2_listLawful_2
      have e8 := dz_l1
      have e9 := dz_add (a := v1) (b := (1 : Int32)) (by omega) (by omega)
      exact (ih k2 (by omega)) (v1 + (1 : Int32)) c267_lawfulOnes a270 (by omega) (by omega) i2 i3 (by omega) (dz_rgs (hr_a270) (by omega)) (by omega)
theorem t136_X2_listLawful_I_g42 (fu : Nat) (hfu : 1000000000000 ≤ fu) (c267_total : Int32) (a269 : Nat → Int32) (n269 : Nat) (n270 : Nat) (p0 : c267_total.toInt ≤ 576) (p1 : 576 ≤ c267_total.toInt) (p2 : ((n269 : Nat) : Int) ≤ 13824) (p3 : 1 ≤ ((n269 : Nat) : Int)) (p4 : ((n270 : Nat) : Int) ≤ 13824) (p5 : 1 ≤ ((n270 : Nat) : Int)) (p6 : c267_total.toInt ≤ ((n269 : Nat) : Int)) (p7 : c267_total.toInt ≤ ((n270 : Nat) : Int)) (p8 : ((n269 : Nat) : Int) ≤ ((n270 : Nat) : Int)) (p9 : ((n270 : Nat) : Int) ≤ ((n269 : Nat) : Int)) (hr_a269 : dz_rg a269 n269 0 1023) (k : Nat) : p136_X2_listLawful_g42 fu c267_total a269 n269 n270 k := by
  induction k using Nat.strongRecOn with
  | _ k ih => exact t136_X2_listLawful_h1_g42 fu hfu c267_total a269 n269 n270 p0 p1 p2 p3 p4 p5 p6 p7 p8 p9 hr_a269 k ih
set_option maxHeartbeats 1000000 in
set_option maxRecDepth 10000 in
theorem t136_X2_listLawful_E_g42 (fu : Nat) (hfu : 1000000000000 ≤ fu) (c267_total : Int32) (a269 : Nat → Int32) (n269 : Nat) (n270 : Nat) (c267_lawfulOnes : Int32) (a270 : Nat → Int32) (p0 : c267_total.toInt ≤ 576) (p1 : 576 ≤ c267_total.toInt) (p2 : ((n269 : Nat) : Int) ≤ 13824) (p3 : 1 ≤ ((n269 : Nat) : Int)) (p4 : ((n270 : Nat) : Int) ≤ 13824) (p5 : 1 ≤ ((n270 : Nat) : Int)) (p6 : c267_total.toInt ≤ ((n269 : Nat) : Int)) (p7 : c267_total.toInt ≤ ((n270 : Nat) : Int)) (p8 : ((n269 : Nat) : Int) ≤ ((n270 : Nat) : Int)) (p9 : ((n270 : Nat) : Int) ≤ ((n269 : Nat) : Int)) (hr_a269 : dz_rg a269 n269 0 1023) (kv : Nat) (hkv : 1000000000000 ≤ kv) : dz_T (s136_X2_listLawful_0 fu c267_total a269 n269 n270 (F136_X2_listLawful fu c267_total a269 n269 n270 kv).1  c267_lawfulOnes a270) (fun r => r.1.toInt ≤ 576 ∧ 0 ≤ r.1.toInt ∧ dz_rg r.2 r.1.toInt.toNat 0 575) := by
  unfold s136_X2_listLawful_0
  have e1 := dz_l0
  exact (t136_X2_listLawful_I_g42 fu hfu c267_total a269 n269 n270 p0 p1 p2 p3 p4 p5 p6 p7 p8 p9 hr_a269 kv) (0 : Int32) (0 : Int32) a270 (by omega) (by omega) (by omega) (by omega) (by omega) (dz_rgz (by omega)) (by omega)
theorem t136_X2_listLawful_g42 (fu : Nat) (hfu : 1000000000000 ≤ fu) (c267_total : Int32) (a269 : Nat → Int32) (n269 : Nat) (n270 : Nat) (c267_lawfulOnes : Int32) (a270 : Nat → Int32) (p0 : c267_total.toInt ≤ 576) (p1 : 576 ≤ c267_total.toInt) (p2 : ((n269 : Nat) : Int) ≤ 13824) (p3 : 1 ≤ ((n269 : Nat) : Int)) (p4 : ((n270 : Nat) : Int) ≤ 13824) (p5 : 1 ≤ ((n270 : Nat) : Int)) (p6 : c267_total.toInt ≤ ((n269 : Nat) : Int)) (p7 : c267_total.toInt ≤ ((n270 : Nat) : Int)) (p8 : ((n269 : Nat) : Int) ≤ ((n270 : Nat) : Int)) (p9 : ((n270 : Nat) : Int) ≤ ((n269 : Nat) : Int)) (hr_a269 : dz_rg a269 n269 0 1023) : dz_T (f136_X2_listLawful fu c267_total a269 n269 n270 c267_lawfulOnes a270) (fun r => r.1.toInt ≤ 576 ∧ 0 ≤ r.1.toInt ∧ dz_rg r.2 r.1.toInt.toNat 0 575) :=
  t136_X2_listLawful_E_g42 fu hfu c267_total a269 n269 n270 c267_lawfulOnes a270 p0 p1 p2 p3 p4 p5 p6 p7 p8 p9 hr_a269 fu hfu
abbrev p136_X2_listLawful_g43 (fu : Nat) (c267_total : Int32) (a269 : Nat → Int32) (n269 : Nat) (n270 : Nat) (k : Nat) : Prop :=
  (∀ (v1 : Int32) (c267_lawfulOnes : Int32) (a270 : Nat → Int32), v1.toInt ≤ 13824 → 0 ≤ v1.toInt → c267_lawfulOnes.toInt ≤ 13824 → 0 ≤ c267_lawfulOnes.toInt → c267_lawfulOnes.toInt ≤ v1.toInt → dz_rg a270 c267_lawfulOnes.toInt.toNat 0 13823 → 0 + 0 + (13824 - v1.toInt) * 12 + 6 ≤ ((k : Nat) : Int) → dz_T ((F136_X2_listLawful fu c267_total a269 n269 n270 k).1 v1 c267_lawfulOnes a270) (fun r => r.1.toInt ≤ 13824 ∧ 0 ≤ r.1.toInt ∧ dz_rg r.2 r.1.toInt.toNat 0 13823))
set_option maxHeartbeats 1000000 in
set_option maxRecDepth 10000 in
theorem t136_X2_listLawful_h1_g43 (fu : Nat) (hfu : 1000000000000 ≤ fu) (c267_total : Int32) (a269 : Nat → Int32) (n269 : Nat) (n270 : Nat) (p0 : c267_total.toInt ≤ 13824) (p1 : 13824 ≤ c267_total.toInt) (p2 : ((n269 : Nat) : Int) ≤ 13824) (p3 : 1 ≤ ((n269 : Nat) : Int)) (p4 : ((n270 : Nat) : Int) ≤ 13824) (p5 : 1 ≤ ((n270 : Nat) : Int)) (p6 : c267_total.toInt ≤ ((n269 : Nat) : Int)) (p7 : c267_total.toInt ≤ ((n270 : Nat) : Int)) (p8 : ((n269 : Nat) : Int) ≤ ((n270 : Nat) : Int)) (p9 : ((n270 : Nat) : Int) ≤ ((n269 : Nat) : Int)) (hr_a269 : dz_rg a269 n269 0 1023) (k : Nat) (ih : ∀ j9, j9 < k → p136_X2_listLawful_g43 fu c267_total a269 n269 n270 j9) : ∀ (v1 : Int32) (c267_lawfulOnes : Int32) (a270 : Nat → Int32), v1.toInt ≤ 13824 → 0 ≤ v1.toInt → c267_lawfulOnes.toInt ≤ 13824 → 0 ≤ c267_lawfulOnes.toInt → c267_lawfulOnes.toInt ≤ v1.toInt → dz_rg a270 c267_lawfulOnes.toInt.toNat 0 13823 → 0 + 0 + (13824 - v1.toInt) * 12 + 6 ≤ ((k : Nat) : Int) → dz_T ((F136_X2_listLawful fu c267_total a269 n269 n270 k).1 v1 c267_lawfulOnes a270) (fun r => r.1.toInt ≤ 13824 ∧ 0 ≤ r.1.toInt ∧ dz_rg r.2 r.1.toInt.toNat 0 13823) := by
  intro v1 c267_lawfulOnes a270 i0 i1 i2 i3 i4 hr_a270 hm
  obtain ⟨k0, rfl⟩ : ∃ x, k = x + 1 := ⟨k - 1, by omega⟩
  show dz_T (s136_X2_listLawful_1 fu c267_total a269 n269 n270 (F136_X2_listLawful fu c267_total a269 n269 n270 k0).2  v1 c267_lawfulOnes a270) _
  unfold s136_X2_listLawful_1
  refine dz_Tle (fun h1 => ?_) (fun h1 => ?_)
  · skip
    refine dz_Ts ?_
    dsimp only
    exact ⟨i2, i3, (dz_rgs (hr_a270) (by omega))⟩
  · skip
    refine dz_Tin (by omega) (by omega) ?_
    have e2 := dz_rgat (hr_a269) (i := v1) (by omega) (by omega)
    have e3 := dz_l0
    refine dz_Teq (fun h4 => ?_) (fun h4 => ?_)
    · skip
      refine dz_Tin (by omega) (by omega) ?_
      obtain ⟨k1, rfl⟩ : ∃ x, k0 = x + 1 := ⟨k0 - 1, by omega⟩
      show dz_T (s136_X2_listLawful_2 fu c267_total a269 n269 n270 (F136_X2_listLawful fu c267_total a269 n269 n270 k1).1 v1 (c267_lawfulOnes + (1 : Int32)) (upd a270 c267_lawfulOnes.toNatClampNeg v1)) _
      unfold s136_X2_listLawful_2
      have e5 := dz_l1
      have e6 := dz_add (a := v1) (b := (1 : Int32)) (by omega) (by omega)
      have e7 := dz_add (a := c267_lawfulOnes) (b := (1 : Int32)) (by omega) (by omega)
      exact (ih k1 (by omega)) (v1 + (1 : Int32)) (c267_lawfulOnes + (1 : Int32)) (upd a270 c267_lawfulOnes.toNatClampNeg v1) (by omega) (by omega) (by omega) (by omega) (by omega) (dz_rgx (hr_a270) (k2 := (c267_lawfulOnes + (1 : Int32))) (by omega) (by omega) (by omega) (by omega)) (by omega)
    · skip
      obtain ⟨k2, rfl⟩ : ∃ x, k0 = x + 1 := ⟨k0 - 1, by omega⟩
      show dz_T (s136_X2_listLawful_2 fu c267_total a269 n269 n270 (F136_X2_listLawful fu c267_total a269 n269 n270 k2).1 v1 c267_lawfulOnes a270) _
      unfold s136_X2_listLawful_2
      have e8 := dz_l1
      have e9 := dz_add (a := v1) (b := (1 : Int32)) (by omega) (by omega)
      exact (ih k2 (by omega)) (v1 + (1 : Int32)) c267_lawfulOnes a270 (by omega) (by omega) i2 i3 (by omega) (dz_rgs (hr_a270) (by omega)) (by omega)
theorem t136_X2_listLawful_I_g43 (fu : Nat) (hfu : 1000000000000 ≤ fu) (c267_total : Int32) (a269 : Nat → Int32) (n269 : Nat) (n270 : Nat) (p0 : c267_total.toInt ≤ 13824) (p1 : 13824 ≤ c267_total.toInt) (p2 : ((n269 : Nat) : Int) ≤ 13824) (p3 : 1 ≤ ((n269 : Nat) : Int)) (p4 : ((n270 : Nat) : Int) ≤ 13824) (p5 : 1 ≤ ((n270 : Nat) : Int)) (p6 : c267_total.toInt ≤ ((n269 : Nat) : Int)) (p7 : c267_total.toInt ≤ ((n270 : Nat) : Int)) (p8 : ((n269 : Nat) : Int) ≤ ((n270 : Nat) : Int)) (p9 : ((n270 : Nat) : Int) ≤ ((n269 : Nat) : Int)) (hr_a269 : dz_rg a269 n269 0 1023) (k : Nat) : p136_X2_listLawful_g43 fu c267_total a269 n269 n270 k := by
  induction k using Nat.strongRecOn with
  | _ k ih => exact t136_X2_listLawful_h1_g43 fu hfu c267_total a269 n269 n270 p0 p1 p2 p3 p4 p5 p6 p7 p8 p9 hr_a269 k ih
set_option maxHeartbeats 1000000 in
set_option maxRecDepth 10000 in
theorem t136_X2_listLawful_E_g43 (fu : Nat) (hfu : 1000000000000 ≤ fu) (c267_total : Int32) (a269 : Nat → Int32) (n269 : Nat) (n270 : Nat) (c267_lawfulOnes : Int32) (a270 : Nat → Int32) (p0 : c267_total.toInt ≤ 13824) (p1 : 13824 ≤ c267_total.toInt) (p2 : ((n269 : Nat) : Int) ≤ 13824) (p3 : 1 ≤ ((n269 : Nat) : Int)) (p4 : ((n270 : Nat) : Int) ≤ 13824) (p5 : 1 ≤ ((n270 : Nat) : Int)) (p6 : c267_total.toInt ≤ ((n269 : Nat) : Int)) (p7 : c267_total.toInt ≤ ((n270 : Nat) : Int)) (p8 : ((n269 : Nat) : Int) ≤ ((n270 : Nat) : Int)) (p9 : ((n270 : Nat) : Int) ≤ ((n269 : Nat) : Int)) (hr_a269 : dz_rg a269 n269 0 1023) (kv : Nat) (hkv : 1000000000000 ≤ kv) : dz_T (s136_X2_listLawful_0 fu c267_total a269 n269 n270 (F136_X2_listLawful fu c267_total a269 n269 n270 kv).1  c267_lawfulOnes a270) (fun r => r.1.toInt ≤ 13824 ∧ 0 ≤ r.1.toInt ∧ dz_rg r.2 r.1.toInt.toNat 0 13823) := by
  unfold s136_X2_listLawful_0
  have e1 := dz_l0
  exact (t136_X2_listLawful_I_g43 fu hfu c267_total a269 n269 n270 p0 p1 p2 p3 p4 p5 p6 p7 p8 p9 hr_a269 kv) (0 : Int32) (0 : Int32) a270 (by omega) (by omega) (by omega) (by omega) (by omega) (dz_rgz (by omega)) (by omega)
theorem t136_X2_listLawful_g43 (fu : Nat) (hfu : 1000000000000 ≤ fu) (c267_total : Int32) (a269 : Nat → Int32) (n269 : Nat) (n270 : Nat) (c267_lawfulOnes : Int32) (a270 : Nat → Int32) (p0 : c267_total.toInt ≤ 13824) (p1 : 13824 ≤ c267_total.toInt) (p2 : ((n269 : Nat) : Int) ≤ 13824) (p3 : 1 ≤ ((n269 : Nat) : Int)) (p4 : ((n270 : Nat) : Int) ≤ 13824) (p5 : 1 ≤ ((n270 : Nat) : Int)) (p6 : c267_total.toInt ≤ ((n269 : Nat) : Int)) (p7 : c267_total.toInt ≤ ((n270 : Nat) : Int)) (p8 : ((n269 : Nat) : Int) ≤ ((n270 : Nat) : Int)) (p9 : ((n270 : Nat) : Int) ≤ ((n269 : Nat) : Int)) (hr_a269 : dz_rg a269 n269 0 1023) : dz_T (f136_X2_listLawful fu c267_total a269 n269 n270 c267_lawfulOnes a270) (fun r => r.1.toInt ≤ 13824 ∧ 0 ≤ r.1.toInt ∧ dz_rg r.2 r.1.toInt.toNat 0 13823) :=
  t136_X2_listLawful_E_g43 fu hfu c267_total a269 n269 n270 c267_lawfulOnes a270 p0 p1 p2 p3 p4 p5 p6 p7 p8 p9 hr_a269 fu hfu
set_option maxHeartbeats 1000000 in
theorem t136_X2_listLawful_s (fu : Nat) (hfu : 1000000000000 ≤ fu) (κ : Nat) (hκ : κ < 14) (c267_total : Int32) (a269 : Nat → Int32) (n269 : Nat) (n270 : Nat) (c267_lawfulOnes : Int32) (a270 : Nat → Int32) (p0 : c267_total.toInt ≤ 13824) (p1 : 1 ≤ c267_total.toInt) (p2 : ((n269 : Nat) : Int) ≤ 13824) (p3 : 1 ≤ ((n269 : Nat) : Int)) (p4 : ((n270 : Nat) : Int) ≤ 13824) (p5 : 1 ≤ ((n270 : Nat) : Int)) (p6 : c267_total.toInt ≤ ((n269 : Nat) : Int)) (p7 : c267_total.toInt ≤ ((n270 : Nat) : Int)) (p8 : ((n269 : Nat) : Int) ≤ ((n270 : Nat) : Int)) (p9 : ((n270 : Nat) : Int) ≤ ((n269 : Nat) : Int)) (hr_a269 : dz_rg a269 n269 0 1023) (o0 : c267_total.toInt = ((dz_kt κ : Nat) : Int)) : dz_T (f136_X2_listLawful fu c267_total a269 n269 n270 c267_lawfulOnes a270) (fun r => r.1.toInt ≤ 13824 ∧ 0 ≤ r.1.toInt ∧ r.1.toInt ≤ ((n269 : Nat) : Int) ∧ r.1.toInt ≤ c267_total.toInt ∧ dz_rg r.2 r.1.toInt.toNat 0 (((dz_kt κ : Nat) : Int) - 1)) := by
  rcases (show κ = 0 ∨ κ = 1 ∨ κ = 2 ∨ κ = 3 ∨ κ = 4 ∨ κ = 5 ∨ κ = 6 ∨ κ = 7 ∨ κ = 8 ∨ κ = 9 ∨ κ = 10 ∨ κ = 11 ∨ κ = 12 ∨ κ = 13 by omega) with rfl | rfl | rfl | rfl | rfl | rfl | rfl | rfl | rfl | rfl | rfl | rfl | rfl | rfl
  · skip
    have o0 : c267_total.toInt = (1 : Int) := o0
    refine dz_Tw (t136_X2_listLawful_g20 fu hfu c267_total a269 n269 n270 c267_lawfulOnes a270 (by first | assumption | omega) (by first | assumption | omega) (by first | assumption | omega) (by first | assumption | omega) (by first | assumption | omega) (by first | assumption | omega) (by first | assumption | omega) (by first | assumption | omega) (by first | assumption | omega) (by first | assumption | omega) (by first | exact hr_a269 | exact dz_rgm hr_a269 (by omega) (by omega) | exact dz_pmr hr_a269 (by decide) (by omega) (by omega) (by omega) | exact dz_ptr hr_a269 (by decide) (by decide) (by omega) | exact dz_ptr hr_a269 (by decide) (by decide) (by show _ ≤ 0; omega) | exact dz_rgs hr_a269 (by omega))) (fun r h => ?_)
    obtain ⟨g0, g1, g2⟩ := h
    exact ⟨(by first | assumption | omega), (by first | assumption | omega), (by first | assumption | omega), (by first | assumption | omega), (by first | exact g2 | exact dz_rgm g2 (by omega) (by omega))⟩
  · skip
    have o0 : c267_total.toInt = (2 : Int) := o0
    refine dz_Tw (t136_X2_listLawful_g21 fu hfu c267_total a269 n269 n270 c267_lawfulOnes a270 (by first | assumption | omega) (by first | assumption | omega) (by first | assumption | omega) (by first | assumption | omega) (by first | assumption | omega) (by first | assumption | omega) (by first | assumption | omega) (by first | assumption | omega) (by first | assumption | omega) (by first | assumption | omega) (by first | exact hr_a269 | exact dz_rgm hr_a269 (by omega) (by omega) | exact dz_pmr hr_a269 (by decide) (by omega) (by omega) (by omega) | exact dz_ptr hr_a269 (by decide) (by decide) (by omega) | exact dz_ptr hr_a269 (by decide) (by decide) (by show _ ≤ 1; omega) | exact dz_rgs hr_a269 (by omega))) (fun r h => ?_)
    obtain ⟨g0, g1, g2⟩ := h
    exact ⟨(by first | assumption | omega), (by first | assumption | omega), (by first | assumption | omega), (by first | assumption | omega), (by first | exact g2 | exact dz_rgm g2 (by omega) (by omega))⟩
  · skip
    have o0 : c267_total.toInt = (4 : Int) := o0
    refine dz_Tw (t136_X2_listLawful_g22 fu hfu c267_total a269 n269 n270 c267_lawfulOnes a270 (by first | assumption | omega) (by first | assumption | omega) (by first | assumption | omega) (by first | assumption | omega) (by first | assumption | omega) (by first | assumption | omega) (by first | assumption | omega) (by first | assumption | omega) (by first | assumption | omega) (by first | assumption | omega) (by first | exact hr_a269 | exact dz_rgm hr_a269 (by omega) (by omega) | exact dz_pmr hr_a269 (by decide) (by omega) (by omega) (by omega) | exact dz_ptr hr_a269 (by decide) (by decide) (by omega) | exact dz_ptr hr_a269 (by decide) (by decide) (by show _ ≤ 2; omega) | exact dz_rgs hr_a269 (by omega))) (fun r h => ?_)
    obtain ⟨g0, g1, g2⟩ := h
    exact ⟨(by first | assumption | omega), (by first | assumption | omega), (by first | assumption | omega), (by first | assumption | omega), (by first | exact g2 | exact dz_rgm g2 (by omega) (by omega))⟩
  · skip
    have o0 : c267_total.toInt = (8 : Int) := o0
    refine dz_Tw (t136_X2_listLawful_g23 fu hfu c267_total a269 n269 n270 c267_lawfulOnes a270 (by first | assumption | omega) (by first | assumption | omega) (by first | assumption | omega) (by first | assumption | omega) (by first | assumption | omega) (by first | assumption | omega) (by first | assumption | omega) (by first | assumption | omega) (by first | assumption | omega) (by first | assumption | omega) (by first | exact hr_a269 | exact dz_rgm hr_a269 (by omega) (by omega) | exact dz_pmr hr_a269 (by decide) (by omega) (by omega) (by omega) | exact dz_ptr hr_a269 (by decide) (by decide) (by omega) | exact dz_ptr hr_a269 (by decide) (by decide) (by show _ ≤ 3; omega) | exact dz_rgs hr_a269 (by omega))) (fun r h => ?_)
    obtain ⟨g0, g1, g2⟩ := h
    exact ⟨(by first | assumption | omega), (by first | assumption | omega), (by first | assumption | omega), (by first | assumption | omega), (by first | exact g2 | exact dz_rgm g2 (by omega) (by omega))⟩
  · skip
    have o0 : c267_total.toInt = (16 : Int) := o0
    refine dz_Tw (t136_X2_listLawful_g24 fu hfu c267_total a269 n269 n270 c267_lawfulOnes a270 (by first | assumption | omega) (by first | assumption | omega) (by first | assumption | omega) (by first | assumption | omega) (by first | assumption | omega) (by first | assumption | omega) (by first | assumption | omega) (by first | assumption | omega) (by first | assumption | omega) (by first | assumption | omega) (by first | exact hr_a269 | exact dz_rgm hr_a269 (by omega) (by omega) | exact dz_pmr hr_a269 (by decide) (by omega) (by omega) (by omega) | exact dz_ptr hr_a269 (by decide) (by decide) (by omega) | exact dz_ptr hr_a269 (by decide) (by decide) (by show _ ≤ 4; omega) | exact dz_rgs hr_a269 (by omega))) (fun r h => ?_)
    obtain ⟨g0, g1, g2⟩ := h
    exact ⟨(by first | assumption | omega), (by first | assumption | omega), (by first | assumption | omega), (by first | assumption | omega), (by first | exact g2 | exact dz_rgm g2 (by omega) (by omega))⟩
  · skip
    have o0 : c267_total.toInt = (1 : Int) := o0
    refine dz_Tw (t136_X2_listLawful_g30 fu hfu c267_total a269 n269 n270 c267_lawfulOnes a270 (by first | assumption | omega) (by first | assumption | omega) (by first | assumption | omega) (by first | assumption | omega) (by first | assumption | omega) (by first | assumption | omega) (by first | assumption | omega) (by first | assumption | omega) (by first | assumption | omega) (by first | assumption | omega) (by first | exact hr_a269 | exact dz_rgm hr_a269 (by omega) (by omega) | exact dz_pmr hr_a269 (by decide) (by omega) (by omega) (by omega) | exact dz_ptr hr_a269 (by decide) (by decide) (by omega) | exact dz_ptr hr_a269 (by decide) (by decide) (by show _ ≤ 0; omega) | exact dz_rgs hr_a269 (by omega))) (fun r h => ?_)
    obtain ⟨g0, g1, g2⟩ := h
    exact ⟨(by first | assumption | omega), (by first | assumption | omega), (by first | assumption | omega), (by first | assumption | omega), (by first | exact g2 | exact dz_rgm g2 (by omega) (by omega))⟩
  · skip
    have o0 : c267_total.toInt = (6 : Int) := o0
    refine dz_Tw (t136_X2_listLawful_g31 fu hfu c267_total a269 n269 n270 c267_lawfulOnes a270 (by first | assumption | omega) (by first | assumption | omega) (by first | assumption | omega) (by first | assumption | omega) (by first | assumption | omega) (by first | assumption | omega) (by first | assumption | omega) (by first | assumption | omega) (by first | assumption | omega) (by first | assumption | omega) (by first | exact hr_a269 | exact dz_rgm hr_a269 (by omega) (by omega) | exact dz_pmr hr_a269 (by decide) (by omega) (by omega) (by omega) | exact dz_ptr hr_a269 (by decide) (by decide) (by omega) | exact dz_ptr hr_a269 (by decide) (by decide) (by show _ ≤ 1; omega) | exact dz_rgs hr_a269 (by omega))) (fun r h => ?_)
    obtain ⟨g0, g1, g2⟩ := h
    exact ⟨(by first | assumption | omega), (by first | assumption | omega), (by first | assumption | omega), (by first | assumption | omega), (by first | exact g2 | exact dz_rgm g2 (by omega) (by omega))⟩
  · skip
    have o0 : c267_total.toInt = (36 : Int) := o0
    refine dz_Tw (t136_X2_listLawful_g32 fu hfu c267_total a269 n269 n270 c267_lawfulOnes a270 (by first | assumption | omega) (by first | assumption | omega) (by first | assumption | omega) (by first | assumption | omega) (by first | assumption | omega) (by first | assumption | omega) (by first | assumption | omega) (by first | assumption | omega) (by first | assumption | omega) (by first | assumption | omega) (by first | exact hr_a269 | exact dz_rgm hr_a269 (by omega) (by omega) | exact dz_pmr hr_a269 (by decide) (by omega) (by omega) (by omega) | exact dz_ptr hr_a269 (by decide) (by decide) (by omega) | exact dz_ptr hr_a269 (by decide) (by decide) (by show _ ≤ 2; omega) | exact dz_rgs hr_a269 (by omega))) (fun r h => ?_)
    obtain ⟨g0, g1, g2⟩ := h
    exact ⟨(by first | assumption | omega), (by first | assumption | omega), (by first | assumption | omega), (by first | assumption | omega), (by first | exact g2 | exact dz_rgm g2 (by omega) (by omega))⟩
  · skip
    have o0 : c267_total.toInt = (216 : Int) := o0
    refine dz_Tw (t136_X2_listLawful_g33 fu hfu c267_total a269 n269 n270 c267_lawfulOnes a270 (by first | assumption | omega) (by first | assumption | omega) (by first | assumption | omega) (by first | assumption | omega) (by first | assumption | omega) (by first | assumption | omega) (by first | assumption | omega) (by first | assumption | omega) (by first | assumption | omega) (by first | assumption | omega) (by first | exact hr_a269 | exact dz_rgm hr_a269 (by omega) (by omega) | exact dz_pmr hr_a269 (by decide) (by omega) (by omega) (by omega) | exact dz_ptr hr_a269 (by decide) (by decide) (by omega) | exact dz_ptr hr_a269 (by decide) (by decide) (by show _ ≤ 3; omega) | exact dz_rgs hr_a269 (by omega))) (fun r h => ?_)
    obtain ⟨g0, g1, g2⟩ := h
    exact ⟨(by first | assumption | omega), (by first | assumption | omega), (by first | assumption | omega), (by first | assumption | omega), (by first | exact g2 | exact dz_rgm g2 (by omega) (by omega))⟩
  · skip
    have o0 : c267_total.toInt = (1296 : Int) := o0
    refine dz_Tw (t136_X2_listLawful_g34 fu hfu c267_total a269 n269 n270 c267_lawfulOnes a270 (by first | assumption | omega) (by first | assumption | omega) (by first | assumption | omega) (by first | assumption | omega) (by first | assumption | omega) (by first | assumption | omega) (by first | assumption | omega) (by first | assumption | omega) (by first | assumption | omega) (by first | assumption | omega) (by first | exact hr_a269 | exact dz_rgm hr_a269 (by omega) (by omega) | exact dz_pmr hr_a269 (by decide) (by omega) (by omega) (by omega) | exact dz_ptr hr_a269 (by decide) (by decide) (by omega) | exact dz_ptr hr_a269 (by decide) (by decide) (by show _ ≤ 4; omega) | exact dz_rgs hr_a269 (by omega))) (fun r h => ?_)
    obtain ⟨g0, g1, g2⟩ := h
    exact ⟨(by first | assumption | omega), (by first | assumption | omega), (by first | assumption | omega), (by first | assumption | omega), (by first | exact g2 | exact dz_rgm g2 (by omega) (by omega))⟩
  · skip
    have o0 : c267_total.toInt = (1 : Int) := o0
    refine dz_Tw (t136_X2_listLawful_g40 fu hfu c267_total a269 n269 n270 c267_lawfulOnes a270 (by first | assumption | omega) (by first | assumption | omega) (by first | assumption | omega) (by first | assumption | omega) (by first | assumption | omega) (by first | assumption | omega) (by first | assumption | omega) (by first | assumption | omega) (by first | assumption | omega) (by first | assumption | omega) (by first | exact hr_a269 | exact dz_rgm hr_a269 (by omega) (by omega) | exact dz_pmr hr_a269 (by decide) (by omega) (by omega) (by omega) | exact dz_ptr hr_a269 (by decide) (by decide) (by omega) | exact dz_ptr hr_a269 (by decide) (by decide) (by show _ ≤ 0; omega) | exact dz_rgs hr_a269 (by omega))) (fun r h => ?_)
    obtain ⟨g0, g1, g2⟩ := h
    exact ⟨(by first | assumption | omega), (by first | assumption | omega), (by first | assumption | omega), (by first | assumption | omega), (by first | exact g2 | exact dz_rgm g2 (by omega) (by omega))⟩
  · skip
    have o0 : c267_total.toInt = (24 : Int) := o0
    refine dz_Tw (t136_X2_listLawful_g41 fu hfu c267_total a269 n269 n270 c267_lawfulOnes a270 (by first | assumption | omega) (by first | assumption | omega) (by first | assumption | omega) (by first | assumption | omega) (by first | assumption | omega) (by first | assumption | omega) (by first | assumption | omega) (by first | assumption | omega) (by first | assumption | omega) (by first | assumption | omega) (by first | exact hr_a269 | exact dz_rgm hr_a269 (by omega) (by omega) | exact dz_pmr hr_a269 (by decide) (by omega) (by omega) (by omega) | exact dz_ptr hr_a269 (by decide) (by decide) (by omega) | exact dz_ptr hr_a269 (by decide) (by decide) (by show _ ≤ 1; omega) | exact dz_rgs hr_a269 (by omega))) (fun r h => ?_)
    obtain ⟨g0, g1, g2⟩ := h
    exact ⟨(by first | assumption | omega), (by first | assumption | omega), (by first | assumption | omega), (by first | assumption | omega), (by first | exact g2 | exact dz_rgm g2 (by omega) (by omega))⟩
  · skip
    have o0 : c267_total.toInt = (576 : Int) := o0
    refine dz_Tw (t136_X2_listLawful_g42 fu hfu c267_total a269 n269 n270 c267_lawfulOnes a270 (by first | assumption | omega) (by first | assumption | omega) (by first | assumption | omega) (by first | assumption | omega) (by first | assumption | omega) (by first | assumption | omega) (by first | assumption | omega) (by first | assumption | omega) (by first | assumption | omega) (by first | assumption | omega) (by first | exact hr_a269 | exact dz_rgm hr_a269 (by omega) (by omega) | exact dz_pmr hr_a269 (by decide) (by omega) (by omega) (by omega) | exact dz_ptr hr_a269 (by decide) (by decide) (by omega) | exact dz_ptr hr_a269 (by decide) (by decide) (by show _ ≤ 2; omega) | exact dz_rgs hr_a269 (by omega))) (fun r h => ?_)
    obtain ⟨g0, g1, g2⟩ := h
    exact ⟨(by first | assumption | omega), (by first | assumption | omega), (by first | assumption | omega), (by first | assumption | omega), (by first | exact g2 | exact dz_rgm g2 (by omega) (by omega))⟩
  · skip
    have o0 : c267_total.toInt = (13824 : Int) := o0
    refine dz_Tw (t136_X2_listLawful_g43 fu hfu c267_total a269 n269 n270 c267_lawfulOnes a270 (by first | assumption | omega) (by first | assumption | omega) (by first | assumption | omega) (by first | assumption | omega) (by first | assumption | omega) (by first | assumption | omega) (by first | assumption | omega) (by first | assumption | omega) (by first | assumption | omega) (by first | assumption | omega) (by first | exact hr_a269 | exact dz_rgm hr_a269 (by omega) (by omega) | exact dz_pmr hr_a269 (by decide) (by omega) (by omega) (by omega) | exact dz_ptr hr_a269 (by decide) (by decide) (by omega) | exact dz_ptr hr_a269 (by decide) (by decide) (by show _ ≤ 3; omega) | exact dz_rgs hr_a269 (by omega))) (fun r h => ?_)
    obtain ⟨g0, g1, g2⟩ := h
    exact ⟨(by first | assumption | omega), (by first | assumption | omega), (by first | assumption | omega), (by first | assumption | omega), (by first | exact g2 | exact dz_rgm g2 (by omega) (by omega))⟩
abbrev p138_X2_addUp (fu : Nat) (k : Nat) : Prop :=
  (∀ (v1 : Int32) (v2 : Int32) (a271 : Nat → Int32), v1.toInt ≤ 10 → 0 ≤ v1.toInt → v2.toInt ≤ 10 → 0 ≤ v2.toInt → v2.toInt ≤ v1.toInt → 0 + 0 + (10 - v2.toInt) * 14378 + 7 ≤ ((k : Nat) : Int) → dz_T ((F138_X2_addUp fu k).1 v1 v2 a271) (fun r => True)) ∧ (∀ (v1 : Int32) (v2 : Int32) (v3 : Int32) (v4 : Int32) (a271 : Nat → Int32), v1.toInt ≤ 10 → 1 ≤ v1.toInt → v2.toInt ≤ 9 → 0 ≤ v2.toInt → v3.toInt ≤ 600 → 1 ≤ v3.toInt → v4.toInt ≤ 1024 → 0 ≤ v4.toInt → v2.toInt + 1 ≤ v1.toInt → 0 + 0 + ((10 - v2.toInt) - 1) * 14378 + 0 + (1024 - v4.toInt) * 14 + 14 ≤ ((k : Nat) : Int) → dz_T ((F138_X2_addUp fu k).2.1 v1 v2 v3 v4 a271) (fun r => True))
set_option maxHeartbeats 1000000 in
set_option maxRecDepth 10000 in
theorem t138_X2_addUp_h1 (fu : Nat) (hfu : 1000000000000 ≤ fu) (k : Nat) (ih : ∀ j9, j9 < k → p138_X2_addUp fu j9) : ∀ (v1 : Int32) (v2 : Int32) (a271 : Nat → Int32), v1.toInt ≤ 10 → 0 ≤ v1.toInt → v2.toInt ≤ 10 → 0 ≤ v2.toInt → v2.toInt ≤ v1.toInt → 0 + 0 + (10 - v2.toInt) * 14378 + 7 ≤ ((k : Nat) : Int) → dz_T ((F138_X2_addUp fu k).1 v1 v2 a271) (fun r => True) := by
  intro v1 v2 a271 i0 i1 i2 i3 i4 hm
  obtain ⟨k0, rfl⟩ : ∃ x, k = x + 1 := ⟨k - 1, by omega⟩
  show dz_T (s138_X2_addUp_1 fu (F138_X2_addUp fu k0).2.1  v1 v2 a271) _
  unfold s138_X2_addUp_1
  refine dz_Tle (fun h1 => ?_) (fun h1 => ?_)
  · skip
    exact dz_Ts trivial
  · skip
    have e2 := dz_l1
    have e3 := dz_l31
    have e4 := dz_andr (a := v2) (b := (31 : Int32)) (by omega)
    have e5 := dz_andl (a := v2) (b := (31 : Int32)) (by omega)
    have e6 := dz_shl1 (b := v2) 0 9 (by omega) (by omega) (by omega)
    have e7 := dz_l0
    exact (ih k0 (by omega)).2 v1 v2 ((1 : Int32) <<< (v2 &&& (31 : Int32))) (0 : Int32) a271 i0 (by first | assumption | omega) (by first | assumption | omega) i3 (by omega) (by omega) (by omega) (by omega) (by first | assumption | omega) (by omega)
set_option maxHeartbeats 1000000 in
set_option maxRecDepth 10000 in
theorem t138_X2_addUp_h2 (fu : Nat) (hfu : 1000000000000 ≤ fu) (k : Nat) (ih : ∀ j9, j9 < k → p138_X2_addUp fu j9) : ∀ (v1 : Int32) (v2 : Int32) (v3 : Int32) (v4 : Int32) (a271 : Nat → Int32), v1.toInt ≤ 10 → 1 ≤ v1.toInt → v2.toInt ≤ 9 → 0 ≤ v2.toInt → v3.toInt ≤ 600 → 1 ≤ v3.toInt → v4.toInt ≤ 1024 → 0 ≤ v4.toInt → v2.toInt + 1 ≤ v1.toInt → 0 + 0 + ((10 - v2.toInt) - 1) * 14378 + 0 + (1024 - v4.toInt) * 14 + 14 ≤ ((k : Nat) : Int) → dz_T ((F138_X2_addUp fu k).2.1 v1 v2 v3 v4 a271) (fun r => True) := by
  intro v1 v2 v3 v4 a271 i0 i1 i2 i3 i4 i5 i6 i7 i8 hm
  obtain ⟨k0, rfl⟩ : ∃ x, k = x + 1 := ⟨k - 1, by omega⟩
  show dz_T (s138_X2_addUp_2 fu (F138_X2_addUp fu k0).1 (F138_X2_addUp fu k0).2.2  v1 v2 v3 v4 a271) _
  unfold s138_X2_addUp_2
  have e1 := dz_l1
  have e2 := dz_l31
  have e3 := dz_andr (a := v1) (b := (31 : Int32)) (by omega)
  have e4 := dz_andl (a := v1) (b := (31 : Int32)) (by omega)
  have e5 := dz_shl1 (b := v1) 1 10 (by omega) (by omega) (by omega)
  refine dz_Tle (fun h6 => ?_) (fun h6 => ?_)
  · skip
    have e7 := dz_add (a := v2) (b := (1 : Int32)) (by omega) (by omega)
    exact (ih k0 (by omega)).1 v1 (v2 + (1 : Int32)) a271 i0 (by first | assumption | omega) (by omega) (by omega) (by omega) (by omega)
  · skip
    have e8 := dz_andr (a := v4) (b := v3) (by omega)
    have e9 := dz_andl (a := v4) (b := v3) (by omega)
    have e10 := dz_l0
    refine dz_Teq (fun h11 => ?_) (fun h11 => ?_)
    · skip
      obtain ⟨k1, rfl⟩ : ∃ x, k0 = x + 1 := ⟨k0 - 1, by omega⟩
      show dz_T (s138_X2_addUp_3 fu (F138_X2_addUp fu k1).2.1 v1 v2 v3 v4 a271) _
      unfold s138_X2_addUp_3
      have e12 := dz_add (a := v4) (b := (1 : Int32)) (by omega) (by omega)
      exact (ih k1 (by omega)).2 v1 v2 v3 (v4 + (1 : Int32)) a271 i0 i1 i2 i3 i4 i5 (by omega) (by omega) i8 (by omega)
    · skip
      refine dz_Tin (by omega) (by omega) ?_
      have e13 := dz_xorb (a := v4) (b := v3) 10 (by omega) (by omega) (by omega) (by omega) (by omega)
      refine dz_Tin (by omega) (by omega) ?_
      refine dz_Tin (by omega) (by omega) ?_
      obtain ⟨k2, rfl⟩ : ∃ x, k0 = x + 1 := ⟨k0 - 1, by omega⟩
      show dz_T (s138_X2_addUp_3 fu (F138_X2_addUp fu k2).2.1 v1 v2 v3 v4 (upd a271 v4.toNatClampNeg ((a271 v4.toNatClampNeg) + (a271 (v4 ^^^ v3).toNatClampNeg)))) _
      unfold s138_X2_addUp_3
      have e14 := dz_add (a := v4) (b := (1 : Int32)) (by omega) (by omega)
      exact (ih k2 (by omega)).2 v1 v2 v3 (v4 + (1 : Int32)) (upd a271 v4.toNatClampNeg ((a271 v4.toNatClampNeg) + (a271 (v4 ^^^ v3).toNatClampNeg))) i0 i1 i2 i3 i4 i5 (by omega) (by omega) i8 (by omega)
theorem t138_X2_addUp_I (fu : Nat) (hfu : 1000000000000 ≤ fu) (k : Nat) : p138_X2_addUp fu k := by
  induction k using Nat.strongRecOn with
  | _ k ih => exact ⟨t138_X2_addUp_h1 fu hfu k ih, t138_X2_addUp_h2 fu hfu k ih⟩
set_option maxHeartbeats 1000000 in
set_option maxRecDepth 10000 in
theorem t138_X2_addUp_E (fu : Nat) (hfu : 1000000000000 ≤ fu) (v1 : Int32) (a271 : Nat → Int32) (p0 : 0 ≤ v1.toInt) (p1 : v1.toInt ≤ 10) (kv : Nat) (hkv : 1000000000000 ≤ kv) : dz_T (s138_X2_addUp_0 fu (F138_X2_addUp fu kv).1  v1 a271) (fun r => True) := by
  unfold s138_X2_addUp_0
  have e1 := dz_l0
  exact (t138_X2_addUp_I fu hfu kv).1 v1 (0 : Int32) a271 p1 p0 (by omega) (by omega) (by omega) (by omega)
theorem t138_X2_addUp (fu : Nat) (hfu : 1000000000000 ≤ fu) (v1 : Int32) (a271 : Nat → Int32) (p0 : 0 ≤ v1.toInt) (p1 : v1.toInt ≤ 10) : dz_T (f138_X2_addUp fu v1 a271) (fun r => True) :=
  t138_X2_addUp_E fu hfu v1 a271 p0 p1 fu hfu
abbrev p139_X2_tellWithin_g2 (fu : Nat) (c248_bars : Int32) (c267_total : Int32) (a269 : Nat → Int32) (n269 : Nat) (k : Nat) : Prop :=
  (∀ (v1 : Int32) (a271 : Nat → Int32), v1.toInt ≤ 16 → 0 ≤ v1.toInt → v1.toInt ≤ ((n269 : Nat) : Int) → v1.toInt ≤ c267_total.toInt → 0 + 0 + (16 - v1.toInt) * 10 + 5 ≤ ((k : Nat) : Int) → dz_T ((F139_X2_tellWithin fu c248_bars c267_total a269 n269 k) v1 a271) (fun r => True))
set_option maxHeartbeats 1000000 in
set_option maxRecDepth 10000 in
theorem t139_X2_tellWithin_h1_g2 (fu : Nat) (hfu : 1000000000000 ≤ fu) (c248_bars : Int32) (c267_total : Int32) (a269 : Nat → Int32) (n269 : Nat) (p0 : c248_bars.toInt ≤ 10) (p1 : 0 ≤ c248_bars.toInt) (p2 : c267_total.toInt ≤ 16) (p3 : 1 ≤ c267_total.toInt) (p4 : ((n269 : Nat) : Int) ≤ 13824) (p5 : 1 ≤ ((n269 : Nat) : Int)) (p6 : c267_total.toInt ≤ ((n269 : Nat) : Int)) (hr_a269 : dz_rg a269 n269 0 1023) (k : Nat) (ih : ∀ j9, j9 < k → p139_X2_tellWithin_g2 fu c248_bars c267_total a269 n269 j9) : ∀ (v1 : Int32) (a271 : Nat → Int32), v1.toInt ≤ 16 → 0 ≤ v1.toInt → v1.toInt ≤ ((n269 : Nat) : Int) → v1.toInt ≤ c267_total.toInt → 0 + 0 + (16 - v1.toInt) * 10 + 5 ≤ ((k : Nat) : Int) → dz_T ((F139_X2_tellWithin fu c248_bars c267_total a269 n269 k) v1 a271) (fun r => True) := by
  intro v1 a271 i0 i1 i2 i3 hm
  obtain ⟨k0, rfl⟩ : ∃ x, k = x + 1 := ⟨k - 1, by omega⟩
  show dz_T (s139_X2_tellWithin_1 fu c248_bars c267_total a269 n269 (F139_X2_tellWithin fu c248_bars c267_total a269 n269 k0)  v1 a271) _
  unfold s139_X2_tellWithin_1
  refine dz_Tle (fun h1 => ?_) (fun h1 => ?_)
  · skip
    refine dz_Tb (t138_X2_addUp fu hfu _ _ p1 p0) (fun r1 _ => ?_)
    exact dz_Ts trivial
  · skip
    refine dz_Tin (by omega) (by omega) ?_
    have e2 := dz_rgat (hr_a269) (i := v1) (by omega) (by omega)
    refine dz_Tin (by omega) (by omega) ?_
    refine dz_Tin (by omega) (by omega) ?_
    have e3 := dz_l1
    have e4 := dz_add (a := v1) (b := (1 : Int32)) (by omega) (by omega)
    exact (ih k0 (by omega)) (v1 + (1 : Int32)) (upd a271 (a269 v1.toNatClampNeg).toNatClampNeg ((a271 (a269 v1.toNatClampNeg).toNatClampNeg) + (1 : Int32))) (by omega) (by omega) (by omega) (by omega) (by omega)
theorem t139_X2_tellWithin_I_g2 (fu : Nat) (hfu : 1000000000000 ≤ fu) (c248_bars : Int32) (c267_total : Int32) (a269 : Nat → Int32) (n269 : Nat) (p0 : c248_bars.toInt ≤ 10) (p1 : 0 ≤ c248_bars.toInt) (p2 : c267_total.toInt ≤ 16) (p3 : 1 ≤ c267_total.toInt) (p4 : ((n269 : Nat) : Int) ≤ 13824) (p5 : 1 ≤ ((n269 : Nat) : Int)) (p6 : c267_total.toInt ≤ ((n269 : Nat) : Int)) (hr_a269 : dz_rg a269 n269 0 1023) (k : Nat) : p139_X2_tellWithin_g2 fu c248_bars c267_total a269 n269 k := by
  induction k using Nat.strongRecOn with
  | _ k ih => exact t139_X2_tellWithin_h1_g2 fu hfu c248_bars c267_total a269 n269 p0 p1 p2 p3 p4 p5 p6 hr_a269 k ih
set_option maxHeartbeats 1000000 in
set_option maxRecDepth 10000 in
theorem t139_X2_tellWithin_E_g2 (fu : Nat) (hfu : 1000000000000 ≤ fu) (c248_bars : Int32) (c267_total : Int32) (a269 : Nat → Int32) (n269 : Nat) (a271 : Nat → Int32) (p0 : c248_bars.toInt ≤ 10) (p1 : 0 ≤ c248_bars.toInt) (p2 : c267_total.toInt ≤ 16) (p3 : 1 ≤ c267_total.toInt) (p4 : ((n269 : Nat) : Int) ≤ 13824) (p5 : 1 ≤ ((n269 : Nat) : Int)) (p6 : c267_total.toInt ≤ ((n269 : Nat) : Int)) (hr_a269 : dz_rg a269 n269 0 1023) (kv : Nat) (hkv : 1000000000000 ≤ kv) : dz_T (s139_X2_tellWithin_0 fu c248_bars c267_total a269 n269 (F139_X2_tellWithin fu c248_bars c267_total a269 n269 kv)  a271) (fun r => True) := by
  unfold s139_X2_tellWithin_0
  have e1 := dz_l0
  refine dz_Tb (t137_J7_fill_53178_o fu hfu _ _ ) (fun r1 _ => ?_)
  exact (t139_X2_tellWithin_I_g2 fu hfu c248_bars c267_total a269 n269 p0 p1 p2 p3 p4 p5 p6 hr_a269 kv) (0 : Int32) r1 (by omega) (by omega) (by omega) (by omega) (by omega)
theorem t139_X2_tellWithin_g2 (fu : Nat) (hfu : 1000000000000 ≤ fu) (c248_bars : Int32) (c267_total : Int32) (a269 : Nat → Int32) (n269 : Nat) (a271 : Nat → Int32) (p0 : c248_bars.toInt ≤ 10) (p1 : 0 ≤ c248_bars.toInt) (p2 : c267_total.toInt ≤ 16) (p3 : 1 ≤ c267_total.toInt) (p4 : ((n269 : Nat) : Int) ≤ 13824) (p5 : 1 ≤ ((n269 : Nat) : Int)) (p6 : c267_total.toInt ≤ ((n269 : Nat) : Int)) (hr_a269 : dz_rg a269 n269 0 1023) : dz_T (f139_X2_tellWithin fu c248_bars c267_total a269 n269 a271) (fun r => True) :=
  t139_X2_tellWithin_E_g2 fu hfu c248_bars c267_total a269 n269 a271 p0 p1 p2 p3 p4 p5 p6 hr_a269 fu hfu
abbrev p139_X2_tellWithin_g3 (fu : Nat) (c248_bars : Int32) (c267_total : Int32) (a269 : Nat → Int32) (n269 : Nat) (k : Nat) : Prop :=
  (∀ (v1 : Int32) (a271 : Nat → Int32), v1.toInt ≤ 1296 → 0 ≤ v1.toInt → v1.toInt ≤ ((n269 : Nat) : Int) → v1.toInt ≤ c267_total.toInt → 0 + 0 + (1296 - v1.toInt) * 10 + 5 ≤ ((k : Nat) : Int) → dz_T ((F139_X2_tellWithin fu c248_bars c267_total a269 n269 k) v1 a271) (fun r => True))
set_option maxHeartbeats 1000000 in
set_option maxRecDepth 10000 in
theorem t139_X2_tellWithin_h1_g3 (fu : Nat) (hfu : 1000000000000 ≤ fu) (c248_bars : Int32) (c267_total : Int32) (a269 : Nat → Int32) (n269 : Nat) (p0 : c248_bars.toInt ≤ 10) (p1 : 0 ≤ c248_bars.toInt) (p2 : c267_total.toInt ≤ 1296) (p3 : 1 ≤ c267_total.toInt) (p4 : ((n269 : Nat) : Int) ≤ 13824) (p5 : 1 ≤ ((n269 : Nat) : Int)) (p6 : c267_total.toInt ≤ ((n269 : Nat) : Int)) (hr_a269 : dz_rg a269 n269 0 1023) (k : Nat) (ih : ∀ j9, j9 < k → p139_X2_tellWithin_g3 fu c248_bars c267_total a269 n269 j9) : ∀ (v1 : Int32) (a271 : Nat → Int32), v1.toInt ≤ 1296 → 0 ≤ v1.toInt → v1.toInt ≤ ((n269 : Nat) : Int) → v1.toInt ≤ c267_total.toInt → 0 + 0 + (1296 - v1.toInt) * 10 + 5 ≤ ((k : Nat) : Int) → dz_T ((F139_X2_tellWithin fu c248_bars c267_total a269 n269 k) v1 a271) (fun r => True) := by
  intro v1 a271 i0 i1 i2 i3 hm
  obtain ⟨k0, rfl⟩ : ∃ x, k = x + 1 := ⟨k - 1, by omega⟩
  show dz_T (s139_X2_tellWithin_1 fu c248_bars c267_total a269 n269 (F139_X2_tellWithin fu c248_bars c267_total a269 n269 k0)  v1 a271) _
  unfold s139_X2_tellWithin_1
  refine dz_Tle (fun h1 => ?_) (fun h1 => ?_)
  · skip
    refine dz_Tb (t138_X2_addUp fu hfu _ _ p1 p0) (fun r1 _ => ?_)
    exact dz_Ts trivial
  · skip
    refine dz_Tin (by omega) (by omega) ?_
    have e2 := dz_rgat (hr_a269) (i := v1) (by omega) (by omega)
    refine dz_Tin (by omega) (by omega) ?_
    refine dz_Tin (by omega) (by omega) ?_
    have e3 := dz_l1
    have e4 := dz_add (a := v1) (b := (1 : Int32)) (by omega) (by omega)
    exact (ih k0 (by omega)) (v1 + (1 : Int32)) (upd a271 (a269 v1.toNatClampNeg).toNatClampNeg ((a271 (a269 v1.toNatClampNeg).toNatClampNeg) + (1 : Int32))) (by omega) (by omega) (by omega) (by omega) (by omega)
theorem t139_X2_tellWithin_I_g3 (fu : Nat) (hfu : 1000000000000 ≤ fu) (c248_bars : Int32) (c267_total : Int32) (a269 : Nat → Int32) (n269 : Nat) (p0 : c248_bars.toInt ≤ 10) (p1 : 0 ≤ c248_bars.toInt) (p2 : c267_total.toInt ≤ 1296) (p3 : 1 ≤ c267_total.toInt) (p4 : ((n269 : Nat) : Int) ≤ 13824) (p5 : 1 ≤ ((n269 : Nat) : Int)) (p6 : c267_total.toInt ≤ ((n269 : Nat) : Int)) (hr_a269 : dz_rg a269 n269 0 1023) (k : Nat) : p139_X2_tellWithin_g3 fu c248_bars c267_total a269 n269 k := by
  induction k using Nat.strongRecOn with
  | _ k ih => exact t139_X2_tellWithin_h1_g3 fu hfu c248_bars c267_total a269 n269 p0 p1 p2 p3 p4 p5 p6 hr_a269 k ih
set_option maxHeartbeats 1000000 in
set_option maxRecDepth 10000 in
theorem t139_X2_tellWithin_E_g3 (fu : Nat) (hfu : 1000000000000 ≤ fu) (c248_bars : Int32) (c267_total : Int32) (a269 : Nat → Int32) (n269 : Nat) (a271 : Nat → Int32) (p0 : c248_bars.toInt ≤ 10) (p1 : 0 ≤ c248_bars.toInt) (p2 : c267_total.toInt ≤ 1296) (p3 : 1 ≤ c267_total.toInt) (p4 : ((n269 : Nat) : Int) ≤ 13824) (p5 : 1 ≤ ((n269 : Nat) : Int)) (p6 : c267_total.toInt ≤ ((n269 : Nat) : Int)) (hr_a269 : dz_rg a269 n269 0 1023) (kv : Nat) (hkv : 1000000000000 ≤ kv) : dz_T (s139_X2_tellWithin_0 fu c248_bars c267_total a269 n269 (F139_X2_tellWithin fu c248_bars c267_total a269 n269 kv)  a271) (fun r => True) := by
  unfold s139_X2_tellWithin_0
  have e1 := dz_l0
  refine dz_Tb (t137_J7_fill_53178_o fu hfu _ _ ) (fun r1 _ => ?_)
  exact (t139_X2_tellWithin_I_g3 fu hfu c248_bars c267_total a269 n269 p0 p1 p2 p3 p4 p5 p6 hr_a269 kv) (0 : Int32) r1 (by omega) (by omega) (by omega) (by omega) (by omega)
theorem t139_X2_tellWithin_g3 (fu : Nat) (hfu : 1000000000000 ≤ fu) (c248_bars : Int32) (c267_total : Int32) (a269 : Nat → Int32) (n269 : Nat) (a271 : Nat → Int32) (p0 : c248_bars.toInt ≤ 10) (p1 : 0 ≤ c248_bars.toInt) (p2 : c267_total.toInt ≤ 1296) (p3 : 1 ≤ c267_total.toInt) (p4 : ((n269 : Nat) : Int) ≤ 13824) (p5 : 1 ≤ ((n269 : Nat) : Int)) (p6 : c267_total.toInt ≤ ((n269 : Nat) : Int)) (hr_a269 : dz_rg a269 n269 0 1023) : dz_T (f139_X2_tellWithin fu c248_bars c267_total a269 n269 a271) (fun r => True) :=
  t139_X2_tellWithin_E_g3 fu hfu c248_bars c267_total a269 n269 a271 p0 p1 p2 p3 p4 p5 p6 hr_a269 fu hfu
abbrev p139_X2_tellWithin_g4 (fu : Nat) (c248_bars : Int32) (c267_total : Int32) (a269 : Nat → Int32) (n269 : Nat) (k : Nat) : Prop :=
  (∀ (v1 : Int32) (a271 : Nat → Int32), v1.toInt ≤ 13824 → 0 ≤ v1.toInt → v1.toInt ≤ ((n269 : Nat) : Int) → v1.toInt ≤ c267_total.toInt → 0 + 0 + (13824 - v1.toInt) * 10 + 5 ≤ ((k : Nat) : Int) → dz_T ((F139_X2_tellWithin fu c248_bars c267_total a269 n269 k) v1 a271) (fun r => True))
set_option maxHeartbeats 1000000 in
set_option maxRecDepth 10000 in
theorem t139_X2_tellWithin_h1_g4 (fu : Nat) (hfu : 1000000000000 ≤ fu) (c248_bars : Int32) (c267_total : Int32) (a269 : Nat → Int32) (n269 : Nat) (p0 : c248_bars.toInt ≤ 10) (p1 : 0 ≤ c248_bars.toInt) (p2 : c267_total.toInt ≤ 13824) (p3 : 1 ≤ c267_total.toInt) (p4 : ((n269 : Nat) : Int) ≤ 13824) (p5 : 1 ≤ ((n269 : Nat) : Int)) (p6 : c267_total.toInt ≤ ((n269 : Nat) : Int)) (hr_a269 : dz_rg a269 n269 0 1023) (k : Nat) (ih : ∀ j9, j9 < k → p139_X2_tellWithin_g4 fu c248_bars c267_total a269 n269 j9) : ∀ (v1 : Int32) (a271 : Nat → Int32), v1.toInt ≤ 13824 → 0 ≤ v1.toInt → v1.toInt ≤ ((n269 : Nat) : Int) → v1.toInt ≤ c267_total.toInt → 0 + 0 + (13824 - v1.toInt) * 10 + 5 ≤ ((k : Nat) : Int) → dz_T ((F139_X2_tellWithin fu c248_bars c267_total a269 n269 k) v1 a271) (fun r => True) := by
  intro v1 a271 i0 i1 i2 i3 hm
  obtain ⟨k0, rfl⟩ : ∃ x, k = x + 1 := ⟨k - 1, by omega⟩
  show dz_T (s139_X2_tellWithin_1 fu c248_bars c267_total a269 n269 (F139_X2_tellWithin fu c248_bars c267_total a269 n269 k0)  v1 a271) _
  unfold s139_X2_tellWithin_1
  refine dz_Tle (fun h1 => ?_) (fun h1 => ?_)
  · skip
    refine dz_Tb (t138_X2_addUp fu hfu _ _ p1 p0) (fun r1 _ => ?_)
    exact dz_Ts trivial
  · skip
    refine dz_Tin (by omega) (by omega) ?_
    have e2 := dz_rgat (hr_a269) (i := v1) (by omega) (by omega)
    refine dz_Tin (by omega) (by omega) ?_
    refine dz_Tin (by omega) (by omega) ?_
    have e3 := dz_l1
    have e4 := dz_add (a := v1) (b := (1 : Int32)) (by omega) (by omega)
    exact (ih k0 (by omega)) (v1 + (1 : Int32)) (upd a271 (a269 v1.toNatClampNeg).toNatClampNeg ((a271 (a269 v1.toNatClampNeg).toNatClampNeg) + (1 : Int32))) (by omega) (by omega) (by omega) (by omega) (by omega)
theorem t139_X2_tellWithin_I_g4 (fu : Nat) (hfu : 1000000000000 ≤ fu) (c248_bars : Int32) (c267_total : Int32) (a269 : Nat → Int32) (n269 : Nat) (p0 : c248_bars.toInt ≤ 10) (p1 : 0 ≤ c248_bars.toInt) (p2 : c267_total.toInt ≤ 13824) (p3 : 1 ≤ c267_total.toInt) (p4 : ((n269 : Nat) : Int) ≤ 13824) (p5 : 1 ≤ ((n269 : Nat) : Int)) (p6 : c267_total.toInt ≤ ((n269 : Nat) : Int)) (hr_a269 : dz_rg a269 n269 0 1023) (k : Nat) : p139_X2_tellWithin_g4 fu c248_bars c267_total a269 n269 k := by
  induction k using Nat.strongRecOn with
  | _ k ih => exact t139_X2_tellWithin_h1_g4 fu hfu c248_bars c267_total a269 n269 p0 p1 p2 p3 p4 p5 p6 hr_a269 k ih
set_option maxHeartbeats 1000000 in
set_option maxRecDepth 10000 in
theorem t139_X2_tellWithin_E_g4 (fu : Nat) (hfu : 1000000000000 ≤ fu) (c248_bars : Int32) (c267_total : Int32) (a269 : Nat → Int32) (n269 : Nat) (a271 : Nat → Int32) (p0 : c248_bars.toInt ≤ 10) (p1 : 0 ≤ c248_bars.toInt) (p2 : c267_total.toInt ≤ 13824) (p3 : 1 ≤ c267_total.toInt) (p4 : ((n269 : Nat) : Int) ≤ 13824) (p5 : 1 ≤ ((n269 : Nat) : Int)) (p6 : c267_total.toInt ≤ ((n269 : Nat) : Int)) (hr_a269 : dz_rg a269 n269 0 1023) (kv : Nat) (hkv : 1000000000000 ≤ kv) : dz_T (s139_X2_tellWithin_0 fu c248_bars c267_total a269 n269 (F139_X2_tellWithin fu c248_bars c267_total a269 n269 kv)  a271) (fun r => True) := by
  unfold s139_X2_tellWithin_0
  have e1 := dz_l0
  refine dz_Tb (t137_J7_fill_53178_o fu hfu _ _ ) (fun r1 _ => ?_)
  exact (t139_X2_tellWithin_I_g4 fu hfu c248_bars c267_total a269 n269 p0 p1 p2 p3 p4 p5 p6 hr_a269 kv) (0 : Int32) r1 (by omega) (by omega) (by omega) (by omega) (by omega)
theorem t139_X2_tellWithin_g4 (fu : Nat) (hfu : 1000000000000 ≤ fu) (c248_bars : Int32) (c267_total : Int32) (a269 : Nat → Int32) (n269 : Nat) (a271 : Nat → Int32) (p0 : c248_bars.toInt ≤ 10) (p1 : 0 ≤ c248_bars.toInt) (p2 : c267_total.toInt ≤ 13824) (p3 : 1 ≤ c267_total.toInt) (p4 : ((n269 : Nat) : Int) ≤ 13824) (p5 : 1 ≤ ((n269 : Nat) : Int)) (p6 : c267_total.toInt ≤ ((n269 : Nat) : Int)) (hr_a269 : dz_rg a269 n269 0 1023) : dz_T (f139_X2_tellWithin fu c248_bars c267_total a269 n269 a271) (fun r => True) :=
  t139_X2_tellWithin_E_g4 fu hfu c248_bars c267_total a269 n269 a271 p0 p1 p2 p3 p4 p5 p6 hr_a269 fu hfu
set_option maxHeartbeats 1000000 in
theorem t139_X2_tellWithin_s (fu : Nat) (hfu : 1000000000000 ≤ fu) (κ : Nat) (hκ : κ < 14) (c248_bars : Int32) (c267_total : Int32) (a269 : Nat → Int32) (n269 : Nat) (a271 : Nat → Int32) (p0 : c248_bars.toInt ≤ 10) (p1 : 0 ≤ c248_bars.toInt) (p2 : c267_total.toInt ≤ 13824) (p3 : 1 ≤ c267_total.toInt) (p4 : ((n269 : Nat) : Int) ≤ 13824) (p5 : 1 ≤ ((n269 : Nat) : Int)) (p6 : c267_total.toInt ≤ ((n269 : Nat) : Int)) (hr_a269 : dz_rg a269 n269 0 1023) (o0 : c267_total.toInt = ((dz_kt κ : Nat) : Int)) : dz_T (f139_X2_tellWithin fu c248_bars c267_total a269 n269 a271) (fun r => True) := by
  rcases (show κ = 0 ∨ κ = 1 ∨ κ = 2 ∨ κ = 3 ∨ κ = 4 ∨ κ = 5 ∨ κ = 6 ∨ κ = 7 ∨ κ = 8 ∨ κ = 9 ∨ κ = 10 ∨ κ = 11 ∨ κ = 12 ∨ κ = 13 by omega) with rfl | rfl | rfl | rfl | rfl | rfl | rfl | rfl | rfl | rfl | rfl | rfl | rfl | rfl
  · skip
    have o0 : c267_total.toInt = (1 : Int) := o0
    refine dz_Tw (t139_X2_tellWithin_g2 fu hfu c248_bars c267_total a269 n269 a271 (by first | assumption | omega) (by first | assumption | omega) (by first | assumption | omega) (by first | assumption | omega) (by first | assumption | omega) (by first | assumption | omega) (by first | assumption | omega) (by first | exact hr_a269 | exact dz_rgm hr_a269 (by omega) (by omega) | exact dz_pmr hr_a269 (by decide) (by omega) (by omega) (by omega) | exact dz_ptr hr_a269 (by decide) (by decide) (by omega) | exact dz_ptr hr_a269 (by decide) (by decide) (by show _ ≤ 0; omega) | exact dz_rgs hr_a269 (by omega))) (fun r h => ?_)
    exact trivial
  · skip
    have o0 : c267_total.toInt = (2 : Int) := o0
    refine dz_Tw (t139_X2_tellWithin_g2 fu hfu c248_bars c267_total a269 n269 a271 (by first | assumption | omega) (by first | assumption | omega) (by first | assumption | omega) (by first | assumption | omega) (by first | assumption | omega) (by first | assumption | omega) (by first | assumption | omega) (by first | exact hr_a269 | exact dz_rgm hr_a269 (by omega) (by omega) | exact dz_pmr hr_a269 (by decide) (by omega) (by omega) (by omega) | exact dz_ptr hr_a269 (by decide) (by decide) (by omega) | exact dz_ptr hr_a269 (by decide) (by decide) (by show _ ≤ 1; omega) | exact dz_rgs hr_a269 (by omega))) (fun r h => ?_)
    exact trivial
  · skip
    have o0 : c267_total.toInt = (4 : Int) := o0
    refine dz_Tw (t139_X2_tellWithin_g2 fu hfu c248_bars c267_total a269 n269 a271 (by first | assumption | omega) (by first | assumption | omega) (by first | assumption | omega) (by first | assumption | omega) (by first | assumption | omega) (by first | assumption | omega) (by first | assumption | omega) (by first | exact hr_a269 | exact dz_rgm hr_a269 (by omega) (by omega) | exact dz_pmr hr_a269 (by decide) (by omega) (by omega) (by omega) | exact dz_ptr hr_a269 (by decide) (by decide) (by omega) | exact dz_ptr hr_a269 (by decide) (by decide) (by show _ ≤ 2; omega) | exact dz_rgs hr_a269 (by omega))) (fun r h => ?_)
    exact trivial
  · skip
    have o0 : c267_total.toInt = (8 : Int) := o0
    refine dz_Tw (t139_X2_tellWithin_g2 fu hfu c248_bars c267_total a269 n269 a271 (by first | assumption | omega) (by first | assumption | omega) (by first | assumption | omega) (by first | assumption | omega) (by first | assumption | omega) (by first | assumption | omega) (by first | assumption | omega) (by first | exact hr_a269 | exact dz_rgm hr_a269 (by omega) (by omega) | exact dz_pmr hr_a269 (by decide) (by omega) (by omega) (by omega) | exact dz_ptr hr_a269 (by decide) (by decide) (by omega) | exact dz_ptr hr_a269 (by decide) (by decide) (by show _ ≤ 3; omega) | exact dz_rgs hr_a269 (by omega))) (fun r h => ?_)
    exact trivial
  · skip
    have o0 : c267_total.toInt = (16 : Int) := o0
    refine dz_Tw (t139_X2_tellWithin_g2 fu hfu c248_bars c267_total a269 n269 a271 (by first | assumption | omega) (by first | assumption | omega) (by first | assumption | omega) (by first | assumption | omega) (by first | assumption | omega) (by first | assumption | omega) (by first | assumption | omega) (by first | exact hr_a269 | exact dz_rgm hr_a269 (by omega) (by omega) | exact dz_pmr hr_a269 (by decide) (by omega) (by omega) (by omega) | exact dz_ptr hr_a269 (by decide) (by decide) (by omega) | exact dz_ptr hr_a269 (by decide) (by decide) (by show _ ≤ 4; omega) | exact dz_rgs hr_a269 (by omega))) (fun r h => ?_)
    exact trivial
  · skip
    have o0 : c267_total.toInt = (1 : Int) := o0
    refine dz_Tw (t139_X2_tellWithin_g3 fu hfu c248_bars c267_total a269 n269 a271 (by first | assumption | omega) (by first | assumption | omega) (by first | assumption | omega) (by first | assumption | omega) (by first | assumption | omega) (by first | assumption | omega) (by first | assumption | omega) (by first | exact hr_a269 | exact dz_rgm hr_a269 (by omega) (by omega) | exact dz_pmr hr_a269 (by decide) (by omega) (by omega) (by omega) | exact dz_ptr hr_a269 (by decide) (by decide) (by omega) | exact dz_ptr hr_a269 (by decide) (by decide) (by show _ ≤ 0; omega) | exact dz_rgs hr_a269 (by omega))) (fun r h => ?_)
    exact trivial
  · skip
    have o0 : c267_total.toInt = (6 : Int) := o0
    refine dz_Tw (t139_X2_tellWithin_g3 fu hfu c248_bars c267_total a269 n269 a271 (by first | assumption | omega) (by first | assumption | omega) (by first | assumption | omega) (by first | assumption | omega) (by first | assumption | omega) (by first | assumption | omega) (by first | assumption | omega) (by first | exact hr_a269 | exact dz_rgm hr_a269 (by omega) (by omega) | exact dz_pmr hr_a269 (by decide) (by omega) (by omega) (by omega) | exact dz_ptr hr_a269 (by decide) (by decide) (by omega) | exact dz_ptr hr_a269 (by decide) (by decide) (by show _ ≤ 1; omega) | exact dz_rgs hr_a269 (by omega))) (fun r h => ?_)
    exact trivial
  · skip
    have o0 : c267_total.toInt = (36 : Int) := o0
    refine dz_Tw (t139_X2_tellWithin_g3 fu hfu c248_bars c267_total a269 n269 a271 (by first | assumption | omega) (by first | assumption | omega) (by first | assumption | omega) (by first | assumption | omega) (by first | assumption | omega) (by first | assumption | omega) (by first | assumption | omega) (by first | exact hr_a269 | exact dz_rgm hr_a269 (by omega) (by omega) | exact dz_pmr hr_a269 (by decide) (by omega) (by omega) (by omega) | exact dz_ptr hr_a269 (by decide) (by decide) (by omega) | exact dz_ptr hr_a269 (by decide) (by decide) (by show _ ≤ 2; omega) | exact dz_rgs hr_a269 (by omega))) (fun r h => ?_)
    exact trivial
  · skip
    have o0 : c267_total.toInt = (216 : Int) := o0
    refine dz_Tw (t139_X2_tellWithin_g3 fu hfu c248_bars c267_total a269 n269 a271 (by first | assumption | omega) (by first | assumption | omega) (by first | assumption | omega) (by first | assumption | omega) (by first | assumption | omega) (by first | assumption | omega) (by first | assumption | omega) (by first | exact hr_a269 | exact dz_rgm hr_a269 (by omega) (by omega) | exact dz_pmr hr_a269 (by decide) (by omega) (by omega) (by omega) | exact dz_ptr hr_a269 (by decide) (by decide) (by omega) | exact dz_ptr hr_a269 (by decide) (by decide) (by show _ ≤ 3; omega) | exact dz_rgs hr_a269 (by omega))) (fun r h => ?_)
    exact trivial
  · skip
    have o0 : c267_total.toInt = (1296 : Int) := o0
    refine dz_Tw (t139_X2_tellWithin_g3 fu hfu c248_bars c267_total a269 n269 a271 (by first | assumption | omega) (by first | assumption | omega) (by first | assumption | omega) (by first | assumption | omega) (by first | assumption | omega) (by first | assumption | omega) (by first | assumption | omega) (by first | exact hr_a269 | exact dz_rgm hr_a269 (by omega) (by omega) | exact dz_pmr hr_a269 (by decide) (by omega) (by omega) (by omega) | exact dz_ptr hr_a269 (by decide) (by decide) (by omega) | exact dz_ptr hr_a269 (by decide) (by decide) (by show _ ≤ 4; omega) | exact dz_rgs hr_a269 (by omega))) (fun r h => ?_)
    exact trivial
  · skip
    have o0 : c267_total.toInt = (1 : Int) := o0
    refine dz_Tw (t139_X2_tellWithin_g4 fu hfu c248_bars c267_total a269 n269 a271 (by first | assumption | omega) (by first | assumption | omega) (by first | assumption | omega) (by first | assumption | omega) (by first | assumption | omega) (by first | assumption | omega) (by first | assumption | omega) (by first | exact hr_a269 | exact dz_rgm hr_a269 (by omega) (by omega) | exact dz_pmr hr_a269 (by decide) (by omega) (by omega) (by omega) | exact dz_ptr hr_a269 (by decide) (by decide) (by omega) | exact dz_ptr hr_a269 (by decide) (by decide) (by show _ ≤ 0; omega) | exact dz_rgs hr_a269 (by omega))) (fun r h => ?_)
    exact trivial
  · skip
    have o0 : c267_total.toInt = (24 : Int) := o0
    refine dz_Tw (t139_X2_tellWithin_g4 fu hfu c248_bars c267_total a269 n269 a271 (by first | assumption | omega) (by first | assumption | omega) (by first | assumption | omega) (by first | assumption | omega) (by first | assumption | omega) (by first | assumption | omega) (by first | assumption | omega) (by first | exact hr_a269 | exact dz_rgm hr_a269 (by omega) (by omega) | exact dz_pmr hr_a269 (by decide) (by omega) (by omega) (by omega) | exact dz_ptr hr_a269 (by decide) (by decide) (by omega) | exact dz_ptr hr_a269 (by decide) (by decide) (by show _ ≤ 1; omega) | exact dz_rgs hr_a269 (by omega))) (fun r h => ?_)
    exact trivial
  · skip
    have o0 : c267_total.toInt = (576 : Int) := o0
    refine dz_Tw (t139_X2_tellWithin_g4 fu hfu c248_bars c267_total a269 n269 a271 (by first | assumption | omega) (by first | assumption | omega) (by first | assumption | omega) (by first | assumption | omega) (by first | assumption | omega) (by first | assumption | omega) (by first | assumption | omega) (by first | exact hr_a269 | exact dz_rgm hr_a269 (by omega) (by omega) | exact dz_pmr hr_a269 (by decide) (by omega) (by omega) (by omega) | exact dz_ptr hr_a269 (by decide) (by decide) (by omega) | exact dz_ptr hr_a269 (by decide) (by decide) (by show _ ≤ 2; omega) | exact dz_rgs hr_a269 (by omega))) (fun r h => ?_)
    exact trivial
  · skip
    have o0 : c267_total.toInt = (13824 : Int) := o0
    refine dz_Tw (t139_X2_tellWithin_g4 fu hfu c248_bars c267_total a269 n269 a271 (by first | assumption | omega) (by first | assumption | omega) (by first | assumption | omega) (by first | assumption | omega) (by first | assumption | omega) (by first | assumption | omega) (by first | assumption | omega) (by first | exact hr_a269 | exact dz_rgm hr_a269 (by omega) (by omega) | exact dz_pmr hr_a269 (by decide) (by omega) (by omega) (by omega) | exact dz_ptr hr_a269 (by decide) (by decide) (by omega) | exact dz_ptr hr_a269 (by decide) (by decide) (by show _ ≤ 3; omega) | exact dz_rgs hr_a269 (by omega))) (fun r h => ?_)
    exact trivial
abbrev p140_X2_tellHeld_g2 (fu : Nat) (c248_groups : Int32) (c248_pots : Int32) (c261_many : Int32) (a262 : Nat → Int32) (k : Nat) : Prop :=
  (∀ (v1 : Int32) (v2 : Int32) (a273 : Nat → Int32), v2.toInt ≤ 4 → 0 ≤ v2.toInt → v2.toInt ≤ c248_pots.toInt → 0 + 0 + (4 - v2.toInt) * 259 + 7 ≤ ((k : Nat) : Int) → dz_T ((F140_X2_tellHeld fu c248_groups c248_pots c261_many a262 k).1 v1 v2 a273) (fun r => True)) ∧ (∀ (v1 : Int32) (v2 : Int32) (v3 : Int32) (v4 : Int32) (a273 : Nat → Int32), 1 ≤ c248_pots.toInt → v2.toInt ≤ 3 → 0 ≤ v2.toInt → v4.toInt ≤ 2 → 0 ≤ v4.toInt → v2.toInt + 1 ≤ c248_pots.toInt → 0 + 0 + ((4 - v2.toInt) - 1) * 259 + 0 + (2 - v4.toInt) * 77 + 14 ≤ ((k : Nat) : Int) → dz_T ((F140_X2_tellHeld fu c248_groups c248_pots c261_many a262 k).2.1 v1 v2 v3 v4 a273) (fun r => True)) ∧ (∀ (v1 : Int32) (v2 : Int32) (v3 : Int32) (v4 : Int32) (v5 : Int32) (v6 : Int32) (a273 : Nat → Int32), 1 ≤ c248_pots.toInt → v2.toInt ≤ 3 → 0 ≤ v2.toInt → v4.toInt ≤ 1 → 0 ≤ v4.toInt → v6.toInt ≤ 2 → 0 ≤ v6.toInt → v2.toInt + 1 ≤ c248_pots.toInt → 0 + 0 + ((4 - v2.toInt) - 1) * 259 + 0 + ((2 - v4.toInt) - 1) * 77 + 0 + (2 - v6.toInt) * 14 + 21 ≤ ((k : Nat) : Int) → dz_T ((F140_X2_tellHeld fu c248_groups c248_pots c261_many a262 k).2.2 v1 v2 v3 v4 v5 v6 a273) (fun r => True))
set_option maxHeartbeats 1000000 in
set_option maxRecDepth 10000 in
theorem t140_X2_tellHeld_h1_g2 (fu : Nat) (hfu : 1000000000000 ≤ fu) (c248_groups : Int32) (c248_pots : Int32) (c261_many : Int32) (a262 : Nat → Int32) (p0 : c248_groups.toInt ≤ 2) (p1 : 2 ≤ c248_groups.toInt) (p2 : c248_pots.toInt ≤ 4) (p3 : 0 ≤ c248_pots.toInt) (p4 : c261_many.toInt ≤ 2) (p5 : 2 ≤ c261_many.toInt) (hr_a262 : dz_rg a262 96 0 3) (k : Nat) (ih : ∀ j9, j9 < k → p140_X2_tellHeld_g2 fu c248_groups c248_pots c261_many a262 j9) : ∀ (v1 : Int32) (v2 : Int32) (a273 : Nat → Int32), v2.toInt ≤ 4 → 0 ≤ v2.toInt → v2.toInt ≤ c248_pots.toInt → 0 + 0 + (4 - v2.toInt) * 259 + 7 ≤ ((k : Nat) : Int) → dz_T ((F140_X2_tellHeld fu c248_groups c248_pots c261_many a262 k).1 v1 v2 a273) (fun r => True) := by
  intro v1 v2 a273 i0 i1 i2 hm
  obtain ⟨k0, rfl⟩ : ∃ x, k = x + 1 := ⟨k - 1, by omega⟩
  show dz_T (s140_X2_tellHeld_1 fu c248_groups c248_pots c261_many a262 (F140_X2_tellHeld fu c248_groups c248_pots c261_many a262 k0).2.1  v1 v2 a273) _
  unfold s140_X2_tellHeld_1
  refine dz_Tle (fun h1 => ?_) (fun h1 => ?_)
  · skip
    exact dz_Ts trivial
  · skip
    have e2 := dz_mulr (a := v2) (b := c248_groups) 2 (by omega) (by omega) (by omega)
    have e3 := dz_l0
    exact (ih k0 (by omega)).2.1 v1 v2 (dz_ush v1 (v2 * c248_groups)) (0 : Int32) a273 (by first | assumption | omega) (by first | assumption | omega) i1 (by omega) (by omega) (by first | assumption | omega) (by omega)
set_option maxHeartbeats 1000000 in
set_option maxRecDepth 10000 in
theorem t140_X2_tellHeld_h2_g2 (fu : Nat) (hfu : 1000000000000 ≤ fu) (c248_groups : Int32) (c248_pots : Int32) (c261_many : Int32) (a262 : Nat → Int32) (p0 : c248_groups.toInt ≤ 2) (p1 : 2 ≤ c248_groups.toInt) (p2 : c248_pots.toInt ≤ 4) (p3 : 0 ≤ c248_pots.toInt) (p4 : c261_many.toInt ≤ 2) (p5 : 2 ≤ c261_many.toInt) (hr_a262 : dz_rg a262 96 0 3) (k : Nat) (ih : ∀ j9, j9 < k → p140_X2_tellHeld_g2 fu c248_groups c248_pots c261_many a262 j9) : ∀ (v1 : Int32) (v2 : Int32) (v3 : Int32) (v4 : Int32) (a273 : Nat → Int32), 1 ≤ c248_pots.toInt → v2.toInt ≤ 3 → 0 ≤ v2.toInt → v4.toInt ≤ 2 → 0 ≤ v4.toInt → v2.toInt + 1 ≤ c248_pots.toInt → 0 + 0 + ((4 - v2.toInt) - 1) * 259 + 0 + (2 - v4.toInt) * 77 + 14 ≤ ((k : Nat) : Int) → dz_T ((F140_X2_tellHeld fu c248_groups c248_pots c261_many a262 k).2.1 v1 v2 v3 v4 a273) (fun r => True) := by
  intro v1 v2 v3 v4 a273 i0 i1 i2 i3 i4 i5 hm
  obtain ⟨k0, rfl⟩ : ∃ x, k = x + 1 := ⟨k - 1, by omega⟩
  show dz_T (s140_X2_tellHeld_2 fu c248_groups c248_pots c261_many a262 (F140_X2_tellHeld fu c248_groups c248_pots c261_many a262 k0).1 (F140_X2_tellHeld fu c248_groups c248_pots c261_many a262 k0).2.2  v1 v2 v3 v4 a273) _
  unfold s140_X2_tellHeld_2
  refine dz_Tle (fun h1 => ?_) (fun h1 => ?_)
  · skip
    have e2 := dz_l1
    have e3 := dz_add (a := v2) (b := (1 : Int32)) (by omega) (by omega)
    exact (ih k0 (by omega)).1 v1 (v2 + (1 : Int32)) a273 (by omega) (by omega) (by omega) (by omega)
  · skip
    have e4 := dz_l0
    exact (ih k0 (by omega)).2.2 v1 v2 v3 v4 (0 : Int32) (0 : Int32) a273 i0 i1 i2 (by first | assumption | omega) i4 (by omega) (by omega) i5 (by omega)
set_option maxHeartbeats 1000000 in
set_option maxRecDepth 10000 in
theorem t140_X2_tellHeld_h3_g2 (fu : Nat) (hfu : 1000000000000 ≤ fu) (c248_groups : Int32) (c248_pots : Int32) (c261_many : Int32) (a262 : Nat → Int32) (p0 : c248_groups.toInt ≤ 2) (p1 : 2 ≤ c248_groups.toInt) (p2 : c248_pots.toInt ≤ 4) (p3 : 0 ≤ c248_pots.toInt) (p4 : c261_many.toInt ≤ 2) (p5 : 2 ≤ c261_many.toInt) (hr_a262 : dz_rg a262 96 0 3) (k : Nat) (ih : ∀ j9, j9 < k → p140_X2_tellHeld_g2 fu c248_groups c248_pots c261_many a262 j9) : ∀ (v1 : Int32) (v2 : Int32) (v3 : Int32) (v4 : Int32) (v5 : Int32) (v6 : Int32) (a273 : Nat → Int32), 1 ≤ c248_pots.toInt → v2.toInt ≤ 3 → 0 ≤ v2.toInt → v4.toInt ≤ 1 → 0 ≤ v4.toInt → v6.toInt ≤ 2 → 0 ≤ v6.toInt → v2.toInt + 1 ≤ c248_pots.toInt → 0 + 0 + ((4 - v2.toInt) - 1) * 259 + 0 + ((2 - v4.toInt) - 1) * 77 + 0 + (2 - v6.toInt) * 14 + 21 ≤ ((k : Nat) : Int) → dz_T ((F140_X2_tellHeld fu c248_groups c248_pots c261_many a262 k).2.2 v1 v2 v3 v4 v5 v6 a273) (fun r => True) := by
  intro v1 v2 v3 v4 v5 v6 a273 i0 i1 i2 i3 i4 i5 i6 i7 hm
  obtain ⟨k0, rfl⟩ : ∃ x, k = x + 1 := ⟨k - 1, by omega⟩
  show dz_T (s140_X2_tellHeld_3 fu c248_groups c248_pots c261_many a262 (F140_X2_tellHeld fu c248_groups c248_pots c261_many a262 k0).2.1 (F140_X2_tellHeld fu c248_groups c248_pots c261_many a262 k0).2.2  v1 v2 v3 v4 v5 v6 a273) _
  unfold s140_X2_tellHeld_3
  refine dz_Tle (fun h1 => ?_) (fun h1 => ?_)
  · skip
    have e2 := dz_l24
    have e3 := dz_mulr (a := v2) (b := (24 : Int32)) 24 (by omega) (by omega) (by omega)
    have e4 := dz_add (a := (v2 * (24 : Int32))) (b := v4) (by omega) (by omega)
    refine dz_Tin (by omega) (by omega) ?_
    have e5 := dz_l1
    have e6 := dz_add (a := v4) (b := (1 : Int32)) (by omega) (by omega)
    exact (ih k0 (by omega)).2.1 v1 v2 v3 (v4 + (1 : Int32)) (upd a273 ((v2 * (24 : Int32)) + v4).toNatClampNeg v5) i0 i1 i2 (by omega) (by omega) i7 (by omega)
  · skip
    refine dz_Tb (t130_X4_groupAt fu hfu _ _ _ i4 (by first | assumption | omega) i6 (by first | assumption | omega) (hr_a262)) (fun r1 q => ?_)
    obtain ⟨q1_0, q1_1⟩ := q
    have e7 := dz_l1
    have e8 := dz_andr (a := (dz_ush v3 v6)) (b := (1 : Int32)) (by omega)
    have e9 := dz_l4
    have e10 := dz_mull (a := (4 : Int32)) (b := r1) 4 (by omega) (by omega) (by omega)
    have e11 := dz_l31
    have e12 := dz_andr (a := ((4 : Int32) * r1)) (b := (31 : Int32)) (by omega)
    have e13 := dz_andl (a := ((4 : Int32) * r1)) (b := (31 : Int32)) (by omega)
    have e14 := dz_shlb (a := ((dz_ush v3 v6) &&& (1 : Int32))) (b := ((4 : Int32) * r1)) 1 12 (by omega) (by omega) (by omega) (by omega) (by decide)
    have e15 := dz_rng v5
    have e16 := dz_add (a := v6) (b := (1 : Int32)) (by omega) (by omega)
    exact (ih k0 (by omega)).2.2 v1 v2 v3 v4 (v5 + (((dz_ush v3 v6) &&& (1 : Int32)) <<< (((4 : Int32) * r1) &&& (31 : Int32)))) (v6 + (1 : Int32)) a273 i0 i1 i2 i3 i4 (by omega) (by omega) i7 (by omega)
theorem t140_X2_tellHeld_I_g2 (fu : Nat) (hfu : 1000000000000 ≤ fu) (c248_groups : Int32) (c248_pots : Int32) (c261_many : Int32) (a262 : Nat → Int32) (p0 : c248_groups.toInt ≤ 2) (p1 : 2 ≤ c248_groups.toInt) (p2 : c248_pots.toInt ≤ 4) (p3 : 0 ≤ c248_pots.toInt) (p4 : c261_many.toInt ≤ 2) (p5 : 2 ≤ c261_many.toInt) (hr_a262 : dz_rg a262 96 0 3) (k : Nat) : p140_X2_tellHeld_g2 fu c248_groups c248_pots c261_many a262 k := by
  induction k using Nat.strongRecOn with
  | _ k ih => exact ⟨t140_X2_tellHeld_h1_g2 fu hfu c248_groups c248_pots c261_many a262 p0 p1 p2 p3 p4 p5 hr_a262 k ih, t140_X2_tellHeld_h2_g2 fu hfu c248_groups c248_pots c261_many a262 p0 p1 p2 p3 p4 p5 hr_a262 k ih, t140_X2_tellHeld_h3_g2 fu hfu c248_groups c248_pots c261_many a262 p0 p1 p2 p3 p4 p5 hr_a262 k ih⟩
set_option maxHeartbeats 1000000 in
set_option maxRecDepth 10000 in
theorem t140_X2_tellHeld_E_g2 (fu : Nat) (hfu : 1000000000000 ≤ fu) (c248_groups : Int32) (c248_pots : Int32) (c261_many : Int32) (a262 : Nat → Int32) (v1 : Int32) (a273 : Nat → Int32) (p0 : c248_groups.toInt ≤ 2) (p1 : 2 ≤ c248_groups.toInt) (p2 : c248_pots.toInt ≤ 4) (p3 : 0 ≤ c248_pots.toInt) (p4 : c261_many.toInt ≤ 2) (p5 : 2 ≤ c261_many.toInt) (hr_a262 : dz_rg a262 96 0 3) (kv : Nat) (hkv : 1000000000000 ≤ kv) : dz_T (s140_X2_tellHeld_0 fu c248_groups c248_pots c261_many a262 (F140_X2_tellHeld fu c248_groups c248_pots c261_many a262 kv).1  v1 a273) (fun r => True) := by
  unfold s140_X2_tellHeld_0
  have e1 := dz_l0
  exact (t140_X2_tellHeld_I_g2 fu hfu c248_groups c248_pots c261_many a262 p0 p1 p2 p3 p4 p5 hr_a262 kv).1 v1 (0 : Int32) a273 (by omega) (by omega) (by omega) (by omega)
theorem t140_X2_tellHeld_g2 (fu : Nat) (hfu : 1000000000000 ≤ fu) (c248_groups : Int32) (c248_pots : Int32) (c261_many : Int32) (a262 : Nat → Int32) (v1 : Int32) (a273 : Nat → Int32) (p0 : c248_groups.toInt ≤ 2) (p1 : 2 ≤ c248_groups.toInt) (p2 : c248_pots.toInt ≤ 4) (p3 : 0 ≤ c248_pots.toInt) (p4 : c261_many.toInt ≤ 2) (p5 : 2 ≤ c261_many.toInt) (hr_a262 : dz_rg a262 96 0 3) : dz_T (f140_X2_tellHeld fu c248_groups c248_pots c261_many a262 v1 a273) (fun r => True) :=
  t140_X2_tellHeld_E_g2 fu hfu c248_groups c248_pots c261_many a262 v1 a273 p0 p1 p2 p3 p4 p5 hr_a262 fu hfu
abbrev p140_X2_tellHeld_g3 (fu : Nat) (c248_groups : Int32) (c248_pots : Int32) (c261_many : Int32) (a262 : Nat → Int32) (k : Nat) : Prop :=
  (∀ (v1 : Int32) (v2 : Int32) (a273 : Nat → Int32), v2.toInt ≤ 4 → 0 ≤ v2.toInt → v2.toInt ≤ c248_pots.toInt → 0 + 0 + (4 - v2.toInt) * 665 + 7 ≤ ((k : Nat) : Int) → dz_T ((F140_X2_tellHeld fu c248_groups c248_pots c261_many a262 k).1 v1 v2 a273) (fun r => True)) ∧ (∀ (v1 : Int32) (v2 : Int32) (v3 : Int32) (v4 : Int32) (a273 : Nat → Int32), 1 ≤ c248_pots.toInt → v2.toInt ≤ 3 → 0 ≤ v2.toInt → v4.toInt ≤ 6 → 0 ≤ v4.toInt → v2.toInt + 1 ≤ c248_pots.toInt → 0 + 0 + ((4 - v2.toInt) - 1) * 665 + 0 + (6 - v4.toInt) * 91 + 14 ≤ ((k : Nat) : Int) → dz_T ((F140_X2_tellHeld fu c248_groups c248_pots c261_many a262 k).2.1 v1 v2 v3 v4 a273) (fun r => True)) ∧ (∀ (v1 : Int32) (v2 : Int32) (v3 : Int32) (v4 : Int32) (v5 : Int32) (v6 : Int32) (a273 : Nat → Int32), 1 ≤ c248_pots.toInt → v2.toInt ≤ 3 → 0 ≤ v2.toInt → v4.toInt ≤ 5 → 0 ≤ v4.toInt → v6.toInt ≤ 3 → 0 ≤ v6.toInt → v2.toInt + 1 ≤ c248_pots.toInt → 0 + 0 + ((4 - v2.toInt) - 1) * 665 + 0 + ((6 - v4.toInt) - 1) * 91 + 0 + (3 - v6.toInt) * 14 + 21 ≤ ((k : Nat) : Int) → dz_T ((F140_X2_tellHeld fu c248_groups c248_pots c261_many a262 k).2.2 v1 v2 v3 v4 v5 v6 a273) (fun r => True))
set_option maxHeartbeats 1000000 in
set_option maxRecDepth 10000 in
theorem t140_X2_tellHeld_h1_g3 (fu : Nat) (hfu : 1000000000000 ≤ fu) (c248_groups : Int32) (c248_pots : Int32) (c261_many : Int32) (a262 : Nat → Int32) (p0 : c248_groups.toInt ≤ 3) (p1 : 3 ≤ c248_groups.toInt) (p2 : c248_pots.toInt ≤ 4) (p3 : 0 ≤ c248_pots.toInt) (p4 : c261_many.toInt ≤ 6) (p5 : 6 ≤ c261_many.toInt) (hr_a262 : dz_rg a262 96 0 3) (k : Nat) (ih : ∀ j9, j9 < k → p140_X2_tellHeld_g3 fu c248_groups c248_pots c261_many a262 j9) : ∀ (v1 : Int32) (v2 : Int32) (a273 : Nat → Int32), v2.toInt ≤ 4 → 0 ≤ v2.toInt → v2.toInt ≤ c248_pots.toInt → 0 + 0 + (4 - v2.toInt) * 665 + 7 ≤ ((k : Nat) : Int) → dz_T ((F140_X2_tellHeld fu c248_groups c248_pots c261_many a262 k).1 v1 v2 a273) (fun r => True) := by
  intro v1 v2 a273 i0 i1 i2 hm
  obtain ⟨k0, rfl⟩ : ∃ x, k = x + 1 := ⟨k - 1, by omega⟩
  show dz_T (s140_X2_tellHeld_1 fu c248_groups c248_pots c261_many a262 (F140_X2_tellHeld fu c248_groups c248_pots c261_many a262 k0).2.1  v1 v2 a273) _
  unfold s140_X2_tellHeld_1
  refine dz_Tle (fun h1 => ?_) (fun h1 => ?_)
  · skip
    exact dz_Ts trivial
  · skip
    have e2 := dz_mulr (a := v2) (b := c248_groups) 3 (by omega) (by omega) (by omega)
    have e3 := dz_l0
    exact (ih k0 (by omega)).2.1 v1 v2 (dz_ush v1 (v2 * c248_groups)) (0 : Int32) a273 (by first | assumption | omega) (by first | assumption | omega) i1 (by omega) (by omega) (by first | assumption | omega) (by omega)
set_option maxHeartbeats 1000000 in
set_option maxRecDepth 10000 in
theorem t140_X2_tellHeld_h2_g3 (fu : Nat) (hfu : 1000000000000 ≤ fu) (c248_groups : Int32) (c248_pots : Int32) (c261_many : Int32) (a262 : Nat → Int32) (p0 : c248_groups.toInt ≤ 3) (p1 : 3 ≤ c248_groups.toInt) (p2 : c248_pots.toInt ≤ 4) (p3 : 0 ≤ c248_pots.toInt) (p4 : c261_many.toInt ≤ 6) (p5 : 6 ≤ c261_many.toInt) (hr_a262 : dz_rg a262 96 0 3) (k : Nat) (ih : ∀ j9, j9 < k → p140_X2_tellHeld_g3 fu c248_groups c248_pots c261_many a262 j9) : ∀ (v1 : Int32) (v2 : Int32) (v3 : Int32) (v4 : Int32) (a273 : Nat → Int32), 1 ≤ c248_pots.toInt → v2.toInt ≤ 3 → 0 ≤ v2.toInt → v4.toInt ≤ 6 → 0 ≤ v4.toInt → v2.toInt + 1 ≤ c248_pots.toInt → 0 + 0 + ((4 - v2.toInt) - 1) * 665 + 0 + (6 - v4.toInt) * 91 + 14 ≤ ((k : Nat) : Int) → dz_T ((F140_X2_tellHeld fu c248_groups c248_pots c261_many a262 k).2.1 v1 v2 v3 v4 a273) (fun r => True) := by
  intro v1 v2 v3 v4 a273 i0 i1 i2 i3 i4 i5 hm
  obtain ⟨k0, rfl⟩ : ∃ x, k = x + 1 := ⟨k - 1, by omega⟩
  show dz_T (s140_X2_tellHeld_2 fu c248_groups c248_pots c261_many a262 (F140_X2_tellHeld fu c248_groups c248_pots c261_many a262 k0).1 (F140_X2_tellHeld fu c248_groups c248_pots c261_many a262 k0).2.2  v1 v2 v3 v4 a273) _
  unfold s140_X2_tellHeld_2
  refine dz_Tle (fun h1 => ?_) (fun h1 => ?_)
  · skip
    have e2 := dz_l1
    have e3 := dz_add (a := v2) (b := (1 : Int32)) (by omega) (by omega)
    exact (ih k0 (by omega)).1 v1 (v2 + (1 : Int32)) a273 (by omega) (by omega) (by omega) (by omega)
  · skip
    have e4 := dz_l0
    exact (ih k0 (by omega)).2.2 v1 v2 v3 v4 (0 : Int32) (0 : Int32) a273 i0 i1 i2 (by first | assumption | omega) i4 (by omega) (by omega) i5 (by omega)
set_option maxHeartbeats 1000000 in
set_option maxRecDepth 10000 in
theorem t140_X2_tellHeld_h3_g3 (fu : Nat) (hfu : 1000000000000 ≤ fu) (c248_groups : Int32) (c248_pots : Int32) (c261_many : Int32) (a262 : Nat → Int32) (p0 : c248_groups.toInt ≤ 3) (p1 : 3 ≤ c248_groups.toInt) (p2 : c248_pots.toInt ≤ 4) (p3 : 0 ≤ c248_pots.toInt) (p4 : c261_many.toInt ≤ 6) (p5 : 6 ≤ c261_many.toInt) (hr_a262 : dz_rg a262 96 0 3) (k : Nat) (ih : ∀ j9, j9 < k → p140_X2_tellHeld_g3 fu c248_groups c248_pots c261_many a262 j9) : ∀ (v1 : Int32) (v2 : Int32) (v3 : Int32) (v4 : Int32) (v5 : Int32) (v6 : Int32) (a273 : Nat → Int32), 1 ≤ c248_pots.toInt → v2.toInt ≤ 3 → 0 ≤ v2.toInt → v4.toInt ≤ 5 → 0 ≤ v4.toInt → v6.toInt ≤ 3 → 0 ≤ v6.toInt → v2.toInt + 1 ≤ c248_pots.toInt → 0 + 0 + ((4 - v2.toInt) - 1) * 665 + 0 + ((6 - v4.toInt) - 1) * 91 + 0 + (3 - v6.toInt) * 14 + 21 ≤ ((k : Nat) : Int) → dz_T ((F140_X2_tellHeld fu c248_groups c248_pots c261_many a262 k).2.2 v1 v2 v3 v4 v5 v6 a273) (fun r => True) := by
  intro v1 v2 v3 v4 v5 v6 a273 i0 i1 i2 i3 i4 i5 i6 i7 hm
  obtain ⟨k0, rfl⟩ : ∃ x, k = x + 1 := ⟨k - 1, by omega⟩
  show dz_T (s140_X2_tellHeld_3 fu c248_groups c248_pots c261_many a262 (F140_X2_tellHeld fu c248_groups c248_pots c261_many a262 k0).2.1 (F140_X2_tellHeld fu c248_groups c248_pots c261_many a262 k0).2.2  v1 v2 v3 v4 v5 v6 a273) _
  unfold s140_X2_tellHeld_3
  refine dz_Tle (fun h1 => ?_) (fun h1 => ?_)
  · skip
    have e2 := dz_l24
    have e3 := dz_mulr (a := v2) (b := (24 : Int32)) 24 (by omega) (by omega) (by omega)
    have e4 := dz_add (a := (v2 * (24 : Int32))) (b := v4) (by omega) (by omega)
    refine dz_Tin (by omega) (by omega) ?_
    have e5 := dz_l1
    have e6 := dz_add (a := v4) (b := (1 : Int32)) (by omega) (by omega)
    exact (ih k0 (by omega)).2.1 v1 v2 v3 (v4 + (1 : Int32)) (upd a273 ((v2 * (24 : Int32)) + v4).toNatClampNeg v5) i0 i1 i2 (by omega) (by omega) i7 (by omega)
  · skip
    refine dz_Tb (t130_X4_groupAt fu hfu _ _ _ i4 (by first | assumption | omega) i6 i5 (hr_a262)) (fun r1 q => ?_)
    obtain ⟨q1_0, q1_1⟩ := q
    have e7 := dz_l1
    have e8 := dz_andr (a := (dz_ush v3 v6)) (b := (1 : Int32)) (by omega)
    have e9 := dz_l4
    have e10 := dz_mull (a := (4 : Int32)) (b := r1) 4 (by omega) (by omega) (by omega)
    have e11 := dz_l31
    have e12 := dz_andr (a := ((4 : Int32) * r1)) (b := (31 : Int32)) (by omega)
    have e13 := dz_andl (a := ((4 : Int32) * r1)) (b := (31 : Int32)) (by omega)
    have e14 := dz_shlb (a := ((dz_ush v3 v6) &&& (1 : Int32))) (b := ((4 : Int32) * r1)) 1 12 (by omega) (by omega) (by omega) (by omega) (by decide)
    have e15 := dz_rng v5
    have e16 := dz_add (a := v6) (b := (1 : Int32)) (by omega) (by omega)
    exact (ih k0 (by omega)).2.2 v1 v2 v3 v4 (v5 + (((dz_ush v3 v6) &&& (1 : Int32)) <<< (((4 : Int32) * r1) &&& (31 : Int32)))) (v6 + (1 : Int32)) a273 i0 i1 i2 i3 i4 (by omega) (by omega) i7 (by omega)
theorem t140_X2_tellHeld_I_g3 (fu : Nat) (hfu : 1000000000000 ≤ fu) (c248_groups : Int32) (c248_pots : Int32) (c261_many : Int32) (a262 : Nat → Int32) (p0 : c248_groups.toInt ≤ 3) (p1 : 3 ≤ c248_groups.toInt) (p2 : c248_pots.toInt ≤ 4) (p3 : 0 ≤ c248_pots.toInt) (p4 : c261_many.toInt ≤ 6) (p5 : 6 ≤ c261_many.toInt) (hr_a262 : dz_rg a262 96 0 3) (k : Nat) : p140_X2_tellHeld_g3 fu c248_groups c248_pots c261_many a262 k := by
  induction k using Nat.strongRecOn with
  | _ k ih => exact ⟨t140_X2_tellHeld_h1_g3 fu hfu c248_groups c248_pots c261_many a262 p0 p1 p2 p3 p4 p5 hr_a262 k ih, t140_X2_tellHeld_h2_g3 fu hfu c248_groups c248_pots c261_many a262 p0 p1 p2 p3 p4 p5 hr_a262 k ih, t140_X2_tellHeld_h3_g3 fu hfu c248_groups c248_pots c261_many a262 p0 p1 p2 p3 p4 p5 hr_a262 k ih⟩
set_option maxHeartbeats 1000000 in
set_option maxRecDepth 10000 in
theorem t140_X2_tellHeld_E_g3 (fu : Nat) (hfu : 1000000000000 ≤ fu) (c248_groups : Int32) (c248_pots : Int32) (c261_many : Int32) (a262 : Nat → Int32) (v1 : Int32) (a273 : Nat → Int32) (p0 : c248_groups.toInt ≤ 3) (p1 : 3 ≤ c248_groups.toInt) (p2 : c248_pots.toInt ≤ 4) (p3 : 0 ≤ c248_pots.toInt) (p4 : c261_many.toInt ≤ 6) (p5 : 6 ≤ c261_many.toInt) (hr_a262 : dz_rg a262 96 0 3) (kv : Nat) (hkv : 1000000000000 ≤ kv) : dz_T (s140_X2_tellHeld_0 fu c248_groups c248_pots c261_many a262 (F140_X2_tellHeld fu c248_groups c248_pots c261_many a262 kv).1  v1 a273) (fun r => True) := by
  unfold s140_X2_tellHeld_0
  have e1 := dz_l0
  exact (t140_X2_tellHeld_I_g3 fu hfu c248_groups c248_pots c261_many a262 p0 p1 p2 p3 p4 p5 hr_a262 kv).1 v1 (0 : Int32) a273 (by omega) (by omega) (by omega) (by omega)
theorem t140_X2_tellHeld_g3 (fu : Nat) (hfu : 1000000000000 ≤ fu) (c248_groups : Int32) (c248_pots : Int32) (c261_many : Int32) (a262 : Nat → Int32) (v1 : Int32) (a273 : Nat → Int32) (p0 : c248_groups.toInt ≤ 3) (p1 : 3 ≤ c248_groups.toInt) (p2 : c248_pots.toInt ≤ 4) (p3 : 0 ≤ c248_pots.toInt) (p4 : c261_many.toInt ≤ 6) (p5 : 6 ≤ c261_many.toInt) (hr_a262 : dz_rg a262 96 0 3) : dz_T (f140_X2_tellHeld fu c248_groups c248_pots c261_many a262 v1 a273) (fun r => True) :=
  t140_X2_tellHeld_E_g3 fu hfu c248_groups c248_pots c261_many a262 v1 a273 p0 p1 p2 p3 p4 p5 hr_a262 fu hfu
abbrev p140_X2_tellHeld_g4 (fu : Nat) (c248_groups : Int32) (c248_pots : Int32) (c261_many : Int32) (a262 : Nat → Int32) (k : Nat) : Prop :=
  (∀ (v1 : Int32) (v2 : Int32) (a273 : Nat → Int32), v2.toInt ≤ 3 → 0 ≤ v2.toInt → v2.toInt ≤ c248_pots.toInt → 0 + 0 + (3 - v2.toInt) * 2653 + 7 ≤ ((k : Nat) : Int) → dz_T ((F140_X2_tellHeld fu c248_groups c248_pots c261_many a262 k).1 v1 v2 a273) (fun r => True)) ∧ (∀ (v1 : Int32) (v2 : Int32) (v3 : Int32) (v4 : Int32) (a273 : Nat → Int32), 1 ≤ c248_pots.toInt → v2.toInt ≤ 2 → 0 ≤ v2.toInt → v4.toInt ≤ 24 → 0 ≤ v4.toInt → v2.toInt + 1 ≤ c248_pots.toInt → 0 + 0 + ((3 - v2.toInt) - 1) * 2653 + 0 + (24 - v4.toInt) * 105 + 14 ≤ ((k : Nat) : Int) → dz_T ((F140_X2_tellHeld fu c248_groups c248_pots c261_many a262 k).2.1 v1 v2 v3 v4 a273) (fun r => True)) ∧ (∀ (v1 : Int32) (v2 : Int32) (v3 : Int32) (v4 : Int32) (v5 : Int32) (v6 : Int32) (a273 : Nat → Int32), 1 ≤ c248_pots.toInt → v2.toInt ≤ 2 → 0 ≤ v2.toInt → v4.toInt ≤ 23 → 0 ≤ v4.toInt → v6.toInt ≤ 4 → 0 ≤ v6.toInt → v2.toInt + 1 ≤ c248_pots.toInt → 0 + 0 + ((3 - v2.toInt) - 1) * 2653 + 0 + ((24 - v4.toInt) - 1) * 105 + 0 + (4 - v6.toInt) * 14 + 21 ≤ ((k : Nat) : Int) → dz_T ((F140_X2_tellHeld fu c248_groups c248_pots c261_many a262 k).2.2 v1 v2 v3 v4 v5 v6 a273) (fun r => True))
set_option maxHeartbeats 1000000 in
set_option maxRecDepth 10000 in
theorem t140_X2_tellHeld_h1_g4 (fu : Nat) (hfu : 1000000000000 ≤ fu) (c248_groups : Int32) (c248_pots : Int32) (c261_many : Int32) (a262 : Nat → Int32) (p0 : c248_groups.toInt ≤ 4) (p1 : 4 ≤ c248_groups.toInt) (p2 : c248_pots.toInt ≤ 3) (p3 : 0 ≤ c248_pots.toInt) (p4 : c261_many.toInt ≤ 24) (p5 : 24 ≤ c261_many.toInt) (hr_a262 : dz_rg a262 96 0 3) (k : Nat) (ih : ∀ j9, j9 < k → p140_X2_tellHeld_g4 fu c248_groups c248_pots c261_many a262 j9) : ∀ (v1 : Int32) (v2 : Int32) (a273 : Nat → Int32), v2.toInt ≤ 3 → 0 ≤ v2.toInt → v2.toInt ≤ c248_pots.toInt → 0 + 0 + (3 - v2.toInt) * 2653 + 7 ≤ ((k : Nat) : Int) → dz_T ((F140_X2_tellHeld fu c248_groups c248_pots c261_many a262 k).1 v1 v2 a273) (fun r => True) := by
  intro v1 v2 a273 i0 i1 i2 hm
  obtain ⟨k0, rfl⟩ : ∃ x, k = x + 1 := ⟨k - 1, by omega⟩
  show dz_T (s140_X2_tellHeld_1 fu c248_groups c248_pots c261_many a262 (F140_X2_tellHeld fu c248_groups c248_pots c261_many a262 k0).2.1  v1 v2 a273) _
  unfold s140_X2_tellHeld_1
  refine dz_Tle (fun h1 => ?_) (fun h1 => ?_)
  · skip
    exact dz_Ts trivial
  · skip
    have e2 := dz_mulr (a := v2) (b := c248_groups) 4 (by omega) (by omega) (by omega)
    have e3 := dz_l0
    exact (ih k0 (by omega)).2.1 v1 v2 (dz_ush v1 (v2 * c248_groups)) (0 : Int32) a273 (by first | assumption | omega) (by first | assumption | omega) i1 (by omega) (by omega) (by first | assumption | omega) (by omega)
set_option maxHeartbeats 1000000 in
set_option maxRecDepth 10000 in
theorem t140_X2_tellHeld_h2_g4 (fu : Nat) (hfu : 1000000000000 ≤ fu) (c248_groups : Int32) (c248_pots : Int32) (c261_many : Int32) (a262 : Nat → Int32) (p0 : c248_groups.toInt ≤ 4) (p1 : 4 ≤ c248_groups.toInt) (p2 : c248_pots.toInt ≤ 3) (p3 : 0 ≤ c248_pots.toInt) (p4 : c261_many.toInt ≤ 24) (p5 : 24 ≤ c261_many.toInt) (hr_a262 : dz_rg a262 96 0 3) (k : Nat) (ih : ∀ j9, j9 < k → p140_X2_tellHeld_g4 fu c248_groups c248_pots c261_many a262 j9) : ∀ (v1 : Int32) (v2 : Int32) (v3 : Int32) (v4 : Int32) (a273 : Nat → Int32), 1 ≤ c248_pots.toInt → v2.toInt ≤ 2 → 0 ≤ v2.toInt → v4.toInt ≤ 24 → 0 ≤ v4.toInt → v2.toInt + 1 ≤ c248_pots.toInt → 0 + 0 + ((3 - v2.toInt) - 1) * 2653 + 0 + (24 - v4.toInt) * 105 + 14 ≤ ((k : Nat) : Int) → dz_T ((F140_X2_tellHeld fu c248_groups c248_pots c261_many a262 k).2.1 v1 v2 v3 v4 a273) (fun r => True) := by
  intro v1 v2 v3 v4 a273 i0 i1 i2 i3 i4 i5 hm
  obtain ⟨k0, rfl⟩ : ∃ x, k = x + 1 := ⟨k - 1, by omega⟩
  show dz_T (s140_X2_tellHeld_2 fu c248_groups c248_pots c261_many a262 (F140_X2_tellHeld fu c248_groups c248_pots c261_many a262 k0).1 (F140_X2_tellHeld fu c248_groups c248_pots c261_many a262 k0).2.2  v1 v2 v3 v4 a273) _
  unfold s140_X2_tellHeld_2
  refine dz_Tle (fun h1 => ?_) (fun h1 => ?_)
  · skip
    have e2 := dz_l1
    have e3 := dz_add (a := v2) (b := (1 : Int32)) (by omega) (by omega)
    exact (ih k0 (by omega)).1 v1 (v2 + (1 : Int32)) a273 (by omega) (by omega) (by omega) (by omega)
  · skip
    have e4 := dz_l0
    exact (ih k0 (by omega)).2.2 v1 v2 v3 v4 (0 : Int32) (0 : Int32) a273 i0 i1 i2 (by first | assumption | omega) i4 (by omega) (by omega) i5 (by omega)
set_option maxHeartbeats 1000000 in
set_option maxRecDepth 10000 in
theorem t140_X2_tellHeld_h3_g4 (fu : Nat) (hfu : 1000000000000 ≤ fu) (c248_groups : Int32) (c248_pots : Int32) (c261_many : Int32) (a262 : Nat → Int32) (p0 : c248_groups.toInt ≤ 4) (p1 : 4 ≤ c248_groups.toInt) (p2 : c248_pots.toInt ≤ 3) (p3 : 0 ≤ c248_pots.toInt) (p4 : c261_many.toInt ≤ 24) (p5 : 24 ≤ c261_many.toInt) (hr_a262 : dz_rg a262 96 0 3) (k : Nat) (ih : ∀ j9, j9 < k → p140_X2_tellHeld_g4 fu c248_groups c248_pots c261_many a262 j9) : ∀ (v1 : Int32) (v2 : Int32) (v3 : Int32) (v4 : Int32) (v5 : Int32) (v6 : Int32) (a273 : Nat → Int32), 1 ≤ c248_pots.toInt → v2.toInt ≤ 2 → 0 ≤ v2.toInt → v4.toInt ≤ 23 → 0 ≤ v4.toInt → v6.toInt ≤ 4 → 0 ≤ v6.toInt → v2.toInt + 1 ≤ c248_pots.toInt → 0 + 0 + ((3 - v2.toInt) - 1) * 2653 + 0 + ((24 - v4.toInt) - 1) * 105 + 0 + (4 - v6.toInt) * 14 + 21 ≤ ((k : Nat) : Int) → dz_T ((F140_X2_tellHeld fu c248_groups c248_pots c261_many a262 k).2.2 v1 v2 v3 v4 v5 v6 a273) (fun r => True) := by
  intro v1 v2 v3 v4 v5 v6 a273 i0 i1 i2 i3 i4 i5 i6 i7 hm
  obtain ⟨k0, rfl⟩ : ∃ x, k = x + 1 := ⟨k - 1, by omega⟩
  show dz_T (s140_X2_tellHeld_3 fu c248_groups c248_pots c261_many a262 (F140_X2_tellHeld fu c248_groups c248_pots c261_many a262 k0).2.1 (F140_X2_tellHeld fu c248_groups c248_pots c261_many a262 k0).2.2  v1 v2 v3 v4 v5 v6 a273) _
  unfold s140_X2_tellHeld_3
  refine dz_Tle (fun h1 => ?_) (fun h1 => ?_)
  · skip
    have e2 := dz_l24
    have e3 := dz_mulr (a := v2) (b := (24 : Int32)) 24 (by omega) (by omega) (by omega)
    have e4 := dz_add (a := (v2 * (24 : Int32))) (b := v4) (by omega) (by omega)
    refine dz_Tin (by omega) (by omega) ?_
    have e5 := dz_l1
    have e6 := dz_add (a := v4) (b := (1 : Int32)) (by omega) (by omega)
    exact (ih k0 (by omega)).2.1 v1 v2 v3 (v4 + (1 : Int32)) (upd a273 ((v2 * (24 : Int32)) + v4).toNatClampNeg v5) i0 i1 i2 (by omega) (by omega) i7 (by omega)
  · skip
    refine dz_Tb (t130_X4_groupAt fu hfu _ _ _ i4 i3 i6 (by first | assumption | omega) (hr_a262)) (fun r1 q => ?_)
    obtain ⟨q1_0, q1_1⟩ := q
    have e7 := dz_l1
    have e8 := dz_andr (a := (dz_ush v3 v6)) (b := (1 : Int32)) (by omega)
    have e9 := dz_l4
    have e10 := dz_mull (a := (4 : Int32)) (b := r1) 4 (by omega) (by omega) (by omega)
    have e11 := dz_l31
    have e12 := dz_andr (a := ((4 : Int32) * r1)) (b := (31 : Int32)) (by omega)
    have e13 := dz_andl (a := ((4 : Int32) * r1)) (b := (31 : Int32)) (by omega)
    have e14 := dz_shlb (a := ((dz_ush v3 v6) &&& (1 : Int32))) (b := ((4 : Int32) * r1)) 1 12 (by omega) (by omega) (by omega) (by omega) (by decide)
    have e15 := dz_rng v5
    have e16 := dz_add (a := v6) (b := (1 : Int32)) (by omega) (by omega)
    exact (ih k0 (by omega)).2.2 v1 v2 v3 v4 (v5 + (((dz_ush v3 v6) &&& (1 : Int32)) <<< (((4 : Int32) * r1) &&& (31 : Int32)))) (v6 + (1 : Int32)) a273 i0 i1 i2 i3 i4 (by omega) (by omega) i7 (by omega)
theorem t140_X2_tellHeld_I_g4 (fu : Nat) (hfu : 1000000000000 ≤ fu) (c248_groups : Int32) (c248_pots : Int32) (c261_many : Int32) (a262 : Nat → Int32) (p0 : c248_groups.toInt ≤ 4) (p1 : 4 ≤ c248_groups.toInt) (p2 : c248_pots.toInt ≤ 3) (p3 : 0 ≤ c248_pots.toInt) (p4 : c261_many.toInt ≤ 24) (p5 : 24 ≤ c261_many.toInt) (hr_a262 : dz_rg a262 96 0 3) (k : Nat) : p140_X2_tellHeld_g4 fu c248_groups c248_pots c261_many a262 k := by
  induction k using Nat.strongRecOn with
  | _ k ih => exact ⟨t140_X2_tellHeld_h1_g4 fu hfu c248_groups c248_pots c261_many a262 p0 p1 p2 p3 p4 p5 hr_a262 k ih, t140_X2_tellHeld_h2_g4 fu hfu c248_groups c248_pots c261_many a262 p0 p1 p2 p3 p4 p5 hr_a262 k ih, t140_X2_tellHeld_h3_g4 fu hfu c248_groups c248_pots c261_many a262 p0 p1 p2 p3 p4 p5 hr_a262 k ih⟩
set_option maxHeartbeats 1000000 in
set_option maxRecDepth 10000 in
theorem t140_X2_tellHeld_E_g4 (fu : Nat) (hfu : 1000000000000 ≤ fu) (c248_groups : Int32) (c248_pots : Int32) (c261_many : Int32) (a262 : Nat → Int32) (v1 : Int32) (a273 : Nat → Int32) (p0 : c248_groups.toInt ≤ 4) (p1 : 4 ≤ c248_groups.toInt) (p2 : c248_pots.toInt ≤ 3) (p3 : 0 ≤ c248_pots.toInt) (p4 : c261_many.toInt ≤ 24) (p5 : 24 ≤ c261_many.toInt) (hr_a262 : dz_rg a262 96 0 3) (kv : Nat) (hkv : 1000000000000 ≤ kv) : dz_T (s140_X2_tellHeld_0 fu c248_groups c248_pots c261_many a262 (F140_X2_tellHeld fu c248_groups c248_pots c261_many a262 kv).1  v1 a273) (fun r => True) := by
  unfold s140_X2_tellHeld_0
  have e1 := dz_l0
  exact (t140_X2_tellHeld_I_g4 fu hfu c248_groups c248_pots c261_many a262 p0 p1 p2 p3 p4 p5 hr_a262 kv).1 v1 (0 : Int32) a273 (by omega) (by omega) (by omega) (by omega)
theorem t140_X2_tellHeld_g4 (fu : Nat) (hfu : 1000000000000 ≤ fu) (c248_groups : Int32) (c248_pots : Int32) (c261_many : Int32) (a262 : Nat → Int32) (v1 : Int32) (a273 : Nat → Int32) (p0 : c248_groups.toInt ≤ 4) (p1 : 4 ≤ c248_groups.toInt) (p2 : c248_pots.toInt ≤ 3) (p3 : 0 ≤ c248_pots.toInt) (p4 : c261_many.toInt ≤ 24) (p5 : 24 ≤ c261_many.toInt) (hr_a262 : dz_rg a262 96 0 3) : dz_T (f140_X2_tellHeld fu c248_groups c248_pots c261_many a262 v1 a273) (fun r => True) :=
  t140_X2_tellHeld_E_g4 fu hfu c248_groups c248_pots c261_many a262 v1 a273 p0 p1 p2 p3 p4 p5 hr_a262 fu hfu
set_option maxHeartbeats 1000000 in
theorem t140_X2_tellHeld_s (fu : Nat) (hfu : 1000000000000 ≤ fu) (κ : Nat) (hκ : κ < 14) (c248_groups : Int32) (c248_pots : Int32) (c261_many : Int32) (a262 : Nat → Int32) (v1 : Int32) (a273 : Nat → Int32) (p0 : c248_groups.toInt ≤ 4) (p1 : 2 ≤ c248_groups.toInt) (p2 : c248_pots.toInt ≤ 4) (p3 : 0 ≤ c248_pots.toInt) (p4 : c261_many.toInt ≤ 24) (p5 : 0 ≤ c261_many.toInt) (hr_a262 : dz_rg a262 96 0 3) (o0 : c248_groups.toInt = ((dz_kg κ : Nat) : Int)) (o1 : c248_pots.toInt = ((dz_kp κ : Nat) : Int)) (o2 : c261_many.toInt = ((dz_kr κ : Nat) : Int)) : dz_T (f140_X2_tellHeld fu c248_groups c248_pots c261_many a262 v1 a273) (fun r => True) := by
  rcases (show κ = 0 ∨ κ = 1 ∨ κ = 2 ∨ κ = 3 ∨ κ = 4 ∨ κ = 5 ∨ κ = 6 ∨ κ = 7 ∨ κ = 8 ∨ κ = 9 ∨ κ = 10 ∨ κ = 11 ∨ κ = 12 ∨ κ = 13 by omega) with rfl | rfl | rfl | rfl | rfl | rfl | rfl | rfl | rfl | rfl | rfl | rfl | rfl | rfl
  · skip
    have o0 : c248_groups.toInt = (2 : Int) := o0
    have o1 : c248_pots.toInt = (0 : Int) := o1
    have o2 : c261_many.toInt = (2 : Int) := o2
    refine dz_Tw (t140_X2_tellHeld_g2 fu hfu c248_groups c248_pots c261_many a262 v1 a273 (by first | assumption | omega) (by first | assumption | omega) (by first | assumption | omega) (by first | assumption | omega) (by first | assumption | omega) (by first | assumption | omega) (by first | exact hr_a262 | exact dz_rgm hr_a262 (by omega) (by omega) | exact dz_pmr hr_a262 (by decide) (by omega) (by omega) (by omega) | exact dz_ptr hr_a262 (by decide) (by decide) (by omega) | exact dz_ptr hr_a262 (by decide) (by decide) (by show _ ≤ 0; omega) | exact dz_rgs hr_a262 (by omega))) (fun r h => ?_)
    exact trivial
  · skip
    have o0 : c248_groups.toInt = (2 : Int) := o0
    have o1 : c248_pots.toInt = (1 : Int) := o1
    have o2 : c261_many.toInt = (2 : Int) := o2
    refine dz_Tw (t140_X2_tellHeld_g2 fu hfu c248_groups c248_pots c261_many a262 v1 a273 (by first | assumption | omega) (by first | assumption | omega) (by first | assumption | omega) (by first | assumption | omega) (by first | assumption | omega) (by first | assumption | omega) (by first | exact hr_a262 | exact dz_rgm hr_a262 (by omega) (by omega) | exact dz_pmr hr_a262 (by decide) (by omega) (by omega) (by omega) | exact dz_ptr hr_a262 (by decide) (by decide) (by omega) | exact dz_ptr hr_a262 (by decide) (by decide) (by show _ ≤ 1; omega) | exact dz_rgs hr_a262 (by omega))) (fun r h => ?_)
    exact trivial
  · skip
    have o0 : c248_groups.toInt = (2 : Int) := o0
    have o1 : c248_pots.toInt = (2 : Int) := o1
    have o2 : c261_many.toInt = (2 : Int) := o2
    refine dz_Tw (t140_X2_tellHeld_g2 fu hfu c248_groups c248_pots c261_many a262 v1 a273 (by first | assumption | omega) (by first | assumption | omega) (by first | assumption | omega) (by first | assumption | omega) (by first | assumption | omega) (by first | assumption | omega) (by first | exact hr_a262 | exact dz_rgm hr_a262 (by omega) (by omega) | exact dz_pmr hr_a262 (by decide) (by omega) (by omega) (by omega) | exact dz_ptr hr_a262 (by decide) (by decide) (by omega) | exact dz_ptr hr_a262 (by decide) (by decide) (by show _ ≤ 2; omega) | exact dz_rgs hr_a262 (by omega))) (fun r h => ?_)
    exact trivial
  · skip
    have o0 : c248_groups.toInt = (2 : Int) := o0
    have o1 : c248_pots.toInt = (3 : Int) := o1
    have o2 : c261_many.toInt = (2 : Int) := o2
    refine dz_Tw (t140_X2_tellHeld_g2 fu hfu c248_groups c248_pots c261_many a262 v1 a273 (by first | assumption | omega) (by first | assumption | omega) (by first | assumption | omega) (by first | assumption | omega) (by first | assumption | omega) (by first | assumption | omega) (by first | exact hr_a262 | exact dz_rgm hr_a262 (by omega) (by omega) | exact dz_pmr hr_a262 (by decide) (by omega) (by omega) (by omega) | exact dz_ptr hr_a262 (by decide) (by decide) (by omega) | exact dz_ptr hr_a262 (by decide) (by decide) (by show _ ≤ 3; omega) | exact dz_rgs hr_a262 (by omega))) (fun r h => ?_)
    exact trivial
  · skip
    have o0 : c248_groups.toInt = (2 : Int) := o0
    have o1 : c248_pots.toInt = (4 : Int) := o1
    have o2 : c261_many.toInt = (2 : Int) := o2
    refine dz_Tw (t140_X2_tellHeld_g2 fu hfu c248_groups c248_pots c261_many a262 v1 a273 (by first | assumption | omega) (by first | assumption | omega) (by first | assumption | omega) (by first | assumption | omega) (by first | assumption | omega) (by first | assumption | omega) (by first | exact hr_a262 | exact dz_rgm hr_a262 (by omega) (by omega) | exact dz_pmr hr_a262 (by decide) (by omega) (by omega) (by omega) | exact dz_ptr hr_a262 (by decide) (by decide) (by omega) | exact dz_ptr hr_a262 (by decide) (by decide) (by show _ ≤ 4; omega) | exact dz_rgs hr_a262 (by omega))) (fun r h => ?_)
    exact trivial
  · skip
    have o0 : c248_groups.toInt = (3 : Int) := o0
    have o1 : c248_pots.toInt = (0 : Int) := o1
    have o2 : c261_many.toInt = (6 : Int) := o2
    refine dz_Tw (t140_X2_tellHeld_g3 fu hfu c248_groups c248_pots c261_many a262 v1 a273 (by first | assumption | omega) (by first | assumption | omega) (by first | assumption | omega) (by first | assumption | omega) (by first | assumption | omega) (by first | assumption | omega) (by first | exact hr_a262 | exact dz_rgm hr_a262 (by omega) (by omega) | exact dz_pmr hr_a262 (by decide) (by omega) (by omega) (by omega) | exact dz_ptr hr_a262 (by decide) (by decide) (by omega) | exact dz_ptr hr_a262 (by decide) (by decide) (by show _ ≤ 0; omega) | exact dz_rgs hr_a262 (by omega))) (fun r h => ?_)
    exact trivial
  · skip
    have o0 : c248_groups.toInt = (3 : Int) := o0
    have o1 : c248_pots.toInt = (1 : Int) := o1
    have o2 : c261_many.toInt = (6 : Int) := o2
    refine dz_Tw (t140_X2_tellHeld_g3 fu hfu c248_groups c248_pots c261_many a262 v1 a273 (by first | assumption | omega) (by first | assumption | omega) (by first | assumption | omega) (by first | assumption | omega) (by first | assumption | omega) (by first | assumption | omega) (by first | exact hr_a262 | exact dz_rgm hr_a262 (by omega) (by omega) | exact dz_pmr hr_a262 (by decide) (by omega) (by omega) (by omega) | exact dz_ptr hr_a262 (by decide) (by decide) (by omega) | exact dz_ptr hr_a262 (by decide) (by decide) (by show _ ≤ 1; omega) | exact dz_rgs hr_a262 (by omega))) (fun r h => ?_)
    exact trivial
  · skip
    have o0 : c248_groups.toInt = (3 : Int) := o0
    have o1 : c248_pots.toInt = (2 : Int) := o1
    have o2 : c261_many.toInt = (6 : Int) := o2
    refine dz_Tw (t140_X2_tellHeld_g3 fu hfu c248_groups c248_pots c261_many a262 v1 a273 (by first | assumption | omega) (by first | assumption | omega) (by first | assumption | omega) (by first | assumption | omega) (by first | assumption | omega) (by first | assumption | omega) (by first | exact hr_a262 | exact dz_rgm hr_a262 (by omega) (by omega) | exact dz_pmr hr_a262 (by decide) (by omega) (by omega) (by omega) | exact dz_ptr hr_a262 (by decide) (by decide) (by omega) | exact dz_ptr hr_a262 (by decide) (by decide) (by show _ ≤ 2; omega) | exact dz_rgs hr_a262 (by omega))) (fun r h => ?_)
    exact trivial
  · skip
    have o0 : c248_groups.toInt = (3 : Int) := o0
    have o1 : c248_pots.toInt = (3 : Int) := o1
    have o2 : c261_many.toInt = (6 : Int) := o2
    refine dz_Tw (t140_X2_tellHeld_g3 fu hfu c248_groups c248_pots c261_many a262 v1 a273 (by first | assumption | omega) (by first | assumption | omega) (by first | assumption | omega) (by first | assumption | omega) (by first | assumption | omega) (by first | assumption | omega) (by first | exact hr_a262 | exact dz_rgm hr_a262 (by omega) (by omega) | exact dz_pmr hr_a262 (by decide) (by omega) (by omega) (by omega) | exact dz_ptr hr_a262 (by decide) (by decide) (by omega) | exact dz_ptr hr_a262 (by decide) (by decide) (by show _ ≤ 3; omega) | exact dz_rgs hr_a262 (by omega))) (fun r h => ?_)
    exact trivial
  · skip
    have o0 : c248_groups.toInt = (3 : Int) := o0
    have o1 : c248_pots.toInt = (4 : Int) := o1
    have o2 : c261_many.toInt = (6 : Int) := o2
    refine dz_Tw (t140_X2_tellHeld_g3 fu hfu c248_groups c248_pots c261_many a262 v1 a273 (by first | assumption | omega) (by first | assumption | omega) (by first | assumption | omega) (by first | assumption | omega) (by first | assumption | omega) (by first | assumption | omega) (by first | exact hr_a262 | exact dz_rgm hr_a262 (by omega) (by omega) | exact dz_pmr hr_a262 (by decide) (by omega) (by omega) (by omega) | exact dz_ptr hr_a262 (by decide) (by decide) (by omega) | exact dz_ptr hr_a262 (by decide) (by decide) (by show _ ≤ 4; omega) | exact dz_rgs hr_a262 (by omega))) (fun r h => ?_)
    exact trivial
  · skip
    have o0 : c248_groups.toInt = (4 : Int) := o0
    have o1 : c248_pots.toInt = (0 : Int) := o1
    have o2 : c261_many.toInt = (24 : Int) := o2
    refine dz_Tw (t140_X2_tellHeld_g4 fu hfu c248_groups c248_pots c261_many a262 v1 a273 (by first | assumption | omega) (by first | assumption | omega) (by first | assumption | omega) (by first | assumption | omega) (by first | assumption | omega) (by first | assumption | omega) (by first | exact hr_a262 | exact dz_rgm hr_a262 (by omega) (by omega) | exact dz_pmr hr_a262 (by decide) (by omega) (by omega) (by omega) | exact dz_ptr hr_a262 (by decide) (by decide) (by omega) | exact dz_ptr hr_a262 (by decide) (by decide) (by show _ ≤ 0; omega) | exact dz_rgs hr_a262 (by omega))) (fun r h => ?_)
    exact trivial
  · skip
    have o0 : c248_groups.toInt = (4 : Int) := o0
    have o1 : c248_pots.toInt = (1 : Int) := o1
    have o2 : c261_many.toInt = (24 : Int) := o2
    refine dz_Tw (t140_X2_tellHeld_g4 fu hfu c248_groups c248_pots c261_many a262 v1 a273 (by first | assumption | omega) (by first | assumption | omega) (by first | assumption | omega) (by first | assumption | omega) (by first | assumption | omega) (by first | assumption | omega) (by first | exact hr_a262 | exact dz_rgm hr_a262 (by omega) (by omega) | exact dz_pmr hr_a262 (by decide) (by omega) (by omega) (by omega) | exact dz_ptr hr_a262 (by decide) (by decide) (by omega) | exact dz_ptr hr_a262 (by decide) (by decide) (by show _ ≤ 1; omega) | exact dz_rgs hr_a262 (by omega))) (fun r h => ?_)
    exact trivial
  · skip
    have o0 : c248_groups.toInt = (4 : Int) := o0
    have o1 : c248_pots.toInt = (2 : Int) := o1
    have o2 : c261_many.toInt = (24 : Int) := o2
    refine dz_Tw (t140_X2_tellHeld_g4 fu hfu c248_groups c248_pots c261_many a262 v1 a273 (by first | assumption | omega) (by first | assumption | omega) (by first | assumption | omega) (by first | assumption | omega) (by first | assumption | omega) (by first | assumption | omega) (by first | exact hr_a262 | exact dz_rgm hr_a262 (by omega) (by omega) | exact dz_pmr hr_a262 (by decide) (by omega) (by omega) (by omega) | exact dz_ptr hr_a262 (by decide) (by decide) (by omega) | exact dz_ptr hr_a262 (by decide) (by decide) (by show _ ≤ 2; omega) | exact dz_rgs hr_a262 (by omega))) (fun r h => ?_)
    exact trivial
  · skip
    have o0 : c248_groups.toInt = (4 : Int) := o0
    have o1 : c248_pots.toInt = (3 : Int) := o1
    have o2 : c261_many.toInt = (24 : Int) := o2
    refine dz_Tw (t140_X2_tellHeld_g4 fu hfu c248_groups c248_pots c261_many a262 v1 a273 (by first | assumption | omega) (by first | assumption | omega) (by first | assumption | omega) (by first | assumption | omega) (by first | assumption | omega) (by first | assumption | omega) (by first | exact hr_a262 | exact dz_rgm hr_a262 (by omega) (by omega) | exact dz_pmr hr_a262 (by decide) (by omega) (by omega) (by omega) | exact dz_ptr hr_a262 (by decide) (by decide) (by omega) | exact dz_ptr hr_a262 (by decide) (by decide) (by show _ ≤ 3; omega) | exact dz_rgs hr_a262 (by omega))) (fun r h => ?_)
    exact trivial
abbrev p142_X2_breakBar_g21 (fu : Nat) (c248_pots : Int32) (c261_many : Int32) (c267_total : Int32) (a268 : Nat → Int32) (n269 : Nat) (a273 : Nat → Int32) (k : Nat) : Prop :=
  (∀ (v1 : Int32) (v2 : Int32) (v3 : Int32) (v4 : Int32) (v5 : Int32) (a269 : Nat → Int32), v1.toInt ≤ 1023 → 0 ≤ v1.toInt → v3.toInt ≤ 0 → 0 ≤ v3.toInt → v4.toInt ≤ 2 → 2 ≤ v4.toInt → v5.toInt ≤ 3 → 0 ≤ v5.toInt → dz_rg a269 n269 0 1023 → v5.toInt % 2 = 0 → 0 + 0 + (13824 - v5.toInt) * 112 + 8 ≤ ((k : Nat) : Int) → dz_T ((F142_X2_breakBar fu c248_pots c261_many c267_total a268 n269 a273 k).1 v1 v2 v3 v4 v5 a269) (fun r => dz_rg r n269 0 1023)) ∧ (∀ (v1 : Int32) (v2 : Int32) (v3 : Int32) (v4 : Int32) (v5 : Int32) (v6 : Int32) (v7 : Int32) (a269 : Nat → Int32), v1.toInt ≤ 1023 → 0 ≤ v1.toInt → v3.toInt ≤ 0 → 0 ≤ v3.toInt → v4.toInt ≤ 2 → 2 ≤ v4.toInt → v5.toInt ≤ 1 → 0 ≤ v5.toInt → v7.toInt ≤ (-1) → (-1) ≤ v7.toInt → v2.toInt ≤ v6.toInt → v6.toInt ≤ v2.toInt → dz_rg a269 n269 0 1023 → v5.toInt % 2 = 0 → 0 + 0 + ((13824 - v5.toInt) - 1) * 112 + 64 + (v7.toInt - (-1)) * 16 + 16 ≤ ((k : Nat) : Int) → dz_T ((F142_X2_breakBar fu c248_pots c261_many c267_total a268 n269 a273 k).2.1 v1 v2 v3 v4 v5 v6 v7 a269) (fun r => dz_rg r n269 0 1023)) ∧ (∀ (v1 : Int32) (v2 : Int32) (v3 : Int32) (v4 : Int32) (v5 : Int32) (v6 : Int32) (v7 : Int32) (a269 : Nat → Int32), v1.toInt ≤ 1023 → 0 ≤ v1.toInt → v3.toInt ≤ 0 → 0 ≤ v3.toInt → v4.toInt ≤ 2 → 2 ≤ v4.toInt → v5.toInt ≤ 1 → 0 ≤ v5.toInt → v7.toInt ≤ 2 → 0 ≤ v7.toInt → v2.toInt ≤ v6.toInt → v6.toInt ≤ v2.toInt → dz_rg a269 n269 0 1023 → v5.toInt % 2 = 0 → 0 + 0 + ((13824 - v5.toInt) - 1) * 112 + 0 + (2 - v7.toInt) * 16 + 16 ≤ ((k : Nat) : Int) → dz_T ((F142_X2_breakBar fu c248_pots c261_many c267_total a268 n269 a273 k).2.2.1 v1 v2 v3 v4 v5 v6 v7 a269) (fun r => dz_rg r n269 0 1023))
set_option maxHeartbeats 1000000 in
set_option maxRecDepth 10000 in
theorem t142_X2_breakBar_h1_g21 (fu : Nat) (hfu : 1000000000000 ≤ fu) (c248_pots : Int32) (c261_many : Int32) (c267_total : Int32) (a268 : Nat → Int32) (n269 : Nat) (a273 : Nat → Int32) (p0 : c248_pots.toInt ≤ 1) (p1 : 1 ≤ c248_pots.toInt) (p2 : c261_many.toInt ≤ 2) (p3 : 2 ≤ c261_many.toInt) (p4 : c267_total.toInt ≤ 2) (p5 : 2 ≤ c267_total.toInt) (p6 : ((n269 : Nat) : Int) ≤ 13824) (p7 : 1 ≤ ((n269 : Nat) : Int)) (p8 : c267_total.toInt ≤ ((n269 : Nat) : Int)) (p9 : 1 ≤ c248_pots.toInt) (hr_a268 : dz_pt a268 [1]) (k : Nat) (ih : ∀ j9, j9 < k → p142_X2_breakBar_g21 fu c248_pots c261_many c267_total a268 n269 a273 j9) : ∀ (v1 : Int32) (v2 : Int32) (v3 : Int32) (v4 : Int32) (v5 : Int32) (a269 : Nat → Int32), v1.toInt ≤ 1023 → 0 ≤ v1.toInt → v3.toInt ≤ 0 → 0 ≤ v3.toInt → v4.toInt ≤ 2 → 2 ≤ v4.toInt → v5.toInt ≤ 3 → 0 ≤ v5.toInt → dz_rg a269 n269 0 1023 → v5.toInt % 2 = 0 → 0 + 0 + (13824 - v5.toInt) * 112 + 8 ≤ ((k : Nat) : Int) → dz_T ((F142_X2_breakBar fu c248_pots c261_many c267_total a268 n269 a273 k).1 v1 v2 v3 v4 v5 a269) (fun r => dz_rg r n269 0 1023) := by
  intro v1 v2 v3 v4 v5 a269 i0 i1 i2 i3 i4 i5 i6 i7 hr_a269 x0 hm
  obtain ⟨k0, rfl⟩ : ∃ x, k = x + 1 := ⟨k - 1, by omega⟩
  show dz_T (s142_X2_breakBar_1 fu c248_pots c261_many c267_total a268 n269 a273 (F142_X2_breakBar fu c248_pots c261_many c267_total a268 n269 a273 k0).2.1  v1 v2 v3 v4 v5 a269) _
  unfold s142_X2_breakBar_1
  refine dz_Tle (fun h1 => ?_) (fun h1 => ?_)
  · skip
    exact dz_Ts (hr_a269)
  · skip
    have e2 := dz_l0
    refine dz_Tle (fun h3 => ?_) (fun h3 => ?_)
    · skip
      exfalso; omega
    · skip
      have e4 := dz_l2
      have e5 := dz_sub (a := c248_pots) (b := (2 : Int32)) (by omega) (by omega)
      exact (ih k0 (by omega)).2.1 v1 v2 v3 v4 v5 v2 (c248_pots - (2 : Int32)) a269 i0 i1 i2 i3 i4 i5 (by first | assumption | omega) i7 (by omega) (by omega) (by first | assumption | omega) (by first | assumption | omega) (hr_a269) (by omega) (by omega)
set_option maxHeartbeats 1000000 in
set_option maxRecDepth 10000 in
theorem t142_X2_breakBar_h2_g21 (fu : Nat) (hfu : 1000000000000 ≤ fu) (c248_pots : Int32) (c261_many : Int32) (c267_total : Int32) (a268 : Nat → Int32) (n269 : Nat) (a273 : Nat → Int32) (p0 : c248_pots.toInt ≤ 1) (p1 : 1 ≤ c248_pots.toInt) (p2 : c261_many.toInt ≤ 2) (p3 : 2 ≤ c261_many.toInt) (p4 : c267_total.toInt ≤ 2) (p5 : 2 ≤ c267_total.toInt) (p6 : ((n269 : Nat) : Int) ≤ 13824) (p7 : 1 ≤ ((n269 : Nat) : Int)) (p8 : c267_total.toInt ≤ ((n269 : Nat) : Int)) (p9 : 1 ≤ c248_pots.toInt) (hr_a268 : dz_pt a268 [1]) (k : Nat) (ih : ∀ j9, j9 < k → p142_X2_breakBar_g21 fu c248_pots c261_many c267_total a268 n269 a273 j9) : ∀ (v1 : Int32) (v2 : Int32) (v3 : Int32) (v4 : Int32) (v5 : Int32) (v6 : Int32) (v7 : Int32) (a269 : Nat → Int32), v1.toInt ≤ 1023 → 0 ≤ v1.toInt → v3.toInt ≤ 0 → 0 ≤ v3.toInt → v4.toInt ≤ 2 → 2 ≤ v4.toInt → v5.toInt ≤ 1 → 0 ≤ v5.toInt → v7.toInt ≤ (-1) → (-1) ≤ v7.toInt → v2.toInt ≤ v6.toInt → v6.toInt ≤ v2.toInt → dz_rg a269 n269 0 1023 → v5.toInt % 2 = 0 → 0 + 0 + ((13824 - v5.toInt) - 1) * 112 + 64 + (v7.toInt - (-1)) * 16 + 16 ≤ ((k : Nat) : Int) → dz_T ((F142_X2_breakBar fu c248_pots c261_many c267_total a268 n269 a273 k).2.1 v1 v2 v3 v4 v5 v6 v7 a269) (fun r => dz_rg r n269 0 1023) := by
  intro v1 v2 v3 v4 v5 v6 v7 a269 i0 i1 i2 i3 i4 i5 i6 i7 i8 i9 i10 i11 hr_a269 x0 hm
  obtain ⟨k0, rfl⟩ : ∃ x, k = x + 1 := ⟨k - 1, by omega⟩
  show dz_T (s142_X2_breakBar_2 fu c248_pots c261_many c267_total a268 n269 a273 (F142_X2_breakBar fu c248_pots c261_many c267_total a268 n269 a273 k0).2.1 (F142_X2_breakBar fu c248_pots c261_many c267_total a268 n269 a273 k0).2.2.1  v1 v2 v3 v4 v5 v6 v7 a269) _
  unfold s142_X2_breakBar_2
  have e1 := dz_l0
  refine dz_Tlt (fun h2 => ?_) (fun h2 => ?_)
  · skip
    exact (ih k0 (by omega)).2.2 v1 v2 v3 v4 v5 v6 (0 : Int32) a269 i0 i1 i2 i3 i4 i5 i6 i7 (by omega) (by omega) i10 i11 (hr_a269) (by omega) (by omega)
  · skip
    exfalso; omega
set_option maxHeartbeats 1000000 in
set_option maxRecDepth 10000 in
theorem t142_X2_breakBar_h3_g21 (fu : Nat) (hfu : 1000000000000 ≤ fu) (c248_pots : Int32) (c261_many : Int32) (c267_total : Int32) (a268 : Nat → Int32) (n269 : Nat) (a273 : Nat → Int32) (p0 : c248_pots.toInt ≤ 1) (p1 : 1 ≤ c248_pots.toInt) (p2 : c261_many.toInt ≤ 2) (p3 : 2 ≤ c261_many.toInt) (p4 : c267_total.toInt ≤ 2) (p5 : 2 ≤ c267_total.toInt) (p6 : ((n269 : Nat) : Int) ≤ 13824) (p7 : 1 ≤ ((n269 : Nat) : Int)) (p8 : c267_total.toInt ≤ ((n269 : Nat) : Int)) (p9 : 1 ≤ c248_pots.toInt) (hr_a268 : dz_pt a268 [1]) (k : Nat) (ih : ∀ j9, j9 < k → p142_X2_breakBar_g21 fu c248_pots c261_many c267_total a268 n269 a273 j9) : ∀ (v1 : Int32) (v2 : Int32) (v3 : Int32) (v4 : Int32) (v5 : Int32) (v6 : Int32) (v7 : Int32) (a269 : Nat → Int32), v1.toInt ≤ 1023 → 0 ≤ v1.toInt → v3.toInt ≤ 0 → 0 ≤ v3.toInt → v4.toInt ≤ 2 → 2 ≤ v4.toInt → v5.toInt ≤ 1 → 0 ≤ v5.toInt → v7.toInt ≤ 2 → 0 ≤ v7.toInt → v2.toInt ≤ v6.toInt → v6.toInt ≤ v2.toInt → dz_rg a269 n269 0 1023 → v5.toInt % 2 = 0 → 0 + 0 + ((13824 - v5.toInt) - 1) * 112 + 0 + (2 - v7.toInt) * 16 + 16 ≤ ((k : Nat) : Int) → dz_T ((F142_X2_breakBar fu c248_pots c261_many c267_total a268 n269 a273 k).2.2.1 v1 v2 v3 v4 v5 v6 v7 a269) (fun r => dz_rg r n269 0 1023) := by
  intro v1 v2 v3 v4 v5 v6 v7 a269 i0 i1 i2 i3 i4 i5 i6 i7 i8 i9 i10 i11 hr_a269 x0 hm
  obtain ⟨k0, rfl⟩ : ∃ x, k = x + 1 := ⟨k - 1, by omega⟩
  show dz_T (s142_X2_breakBar_3 fu c248_pots c261_many c267_total a268 n269 a273 (F142_X2_breakBar fu c248_pots c261_many c267_total a268 n269 a273 k0).1 (F142_X2_breakBar fu c248_pots c261_many c267_total a268 n269 a273 k0).2.2.2  v1 v2 v3 v4 v5 v6 v7 a269) _
  unfold s142_X2_breakBar_3
  refine dz_Tle (fun h1 => ?_) (fun h1 => ?_)
  · skip
    have e2 := dz_add (a := v5) (b := v4) (by omega) (by omega)
    exact (ih k0 (by omega)).1 v1 v2 v3 v4 (v5 + v4) a269 i0 i1 i2 i3 i4 i5 (by omega) (by omega) (hr_a269) (by omega) (by omega)
  · skip
    have e3 := dz_add (a := v3) (b := v7) (by omega) (by omega)
    refine dz_Tin (by omega) (by omega) ?_
    have e4 := dz_rng v6
    have e5 := dz_rng (a273 (v3 + v7).toNatClampNeg)
    have e6 := dz_l34952
    have e7 := dz_andr (a := (v6 + (a273 (v3 + v7).toNatClampNeg))) (b := (34952 : Int32)) (by omega)
    have e8 := dz_l0
    refine dz_Teq (fun h9 => ?_) (fun h9 => ?_)
    · skip
      obtain ⟨k1, rfl⟩ : ∃ x, k0 = x + 1 := ⟨k0 - 1, by omega⟩
      show dz_T (s142_X2_breakBar_4 fu c248_pots c261_many c267_total a268 n269 a273 (F142_X2_breakBar fu c248_pots c261_many c267_total a268 n269 a273 k1).2.2.1 v1 v2 v3 v4 v5 v6 v7 a269) _
      unfold s142_X2_breakBar_4
      have e10 := dz_l1
      have e11 := dz_add (a := v7) (b := (1 : Int32)) (by omega) (by omega)
      exact (ih k1 (by omega)).2.2 v1 v2 v3 v4 v5 v6 (v7 + (1 : Int32)) a269 i0 i1 i2 i3 i4 i5 i6 i7 (by omega) (by omega) i10 i11 (hr_a269) (by omega) (by omega)
    · skip
      have e12 := dz_add (a := v5) (b := v7) (by omega) (by omega)
      refine dz_Tin (by omega) (by omega) ?_
      refine dz_Tin (by omega) (by omega) ?_
      obtain ⟨k2, rfl⟩ : ∃ x, k0 = x + 1 := ⟨k0 - 1, by omega⟩
      show dz_T (s142_X2_breakBar_4 fu c248_pots c261_many c267_total a268 n269 a273 (F142_X2_breakBar fu c248_pots c261_many c267_total a268 n269 a273 k2).2.2.1 v1 v2 v3 v4 v5 v6 v7 (upd a269 (v5 + v7).toNatClampNeg ((a269 (v5 + v7).toNatClampNeg) ||| v1))) _
      unfold s142_X2_breakBar_4
      have e13 := dz_l1
      have e14 := dz_add (a := v7) (b := (1 : Int32)) (by omega) (by omega)
      have e15 := dz_rgat (hr_a269) (i := (v5 + v7)) (by omega) (by omega)
      have e16 := dz_orb (a := (a269 (v5 + v7).toNatClampNeg)) (b := v1) 10 (by omega) (by omega) (by omega) (by omega) (by omega)
      exact (ih k2 (by omega)).2.2 v1 v2 v3 v4 v5 v6 (v7 + (1 : Int32)) (upd a269 (v5 + v7).toNatClampNeg ((a269 (v5 + v7).toNatClampNeg) ||| v1)) i0 i1 i2 i3 i4 i5 i6 i7 (by omega) (by omega) i10 i11 (dz_rgu (hr_a269) (by omega) (by omega)) (by omega) (by omega)
theorem t142_X2_breakBar_I_g21 (fu : Nat) (hfu : 1000000000000 ≤ fu) (c248_pots : Int32) (c261_many : Int32) (c267_total : Int32) (a268 : Nat → Int32) (n269 : Nat) (a273 : Nat → Int32) (p0 : c248_pots.toInt ≤ 1) (p1 : 1 ≤ c248_pots.toInt) (p2 : c261_many.toInt ≤ 2) (p3 : 2 ≤ c261_many.toInt) (p4 : c267_total.toInt ≤ 2) (p5 : 2 ≤ c267_total.toInt) (p6 : ((n269 : Nat) : Int) ≤ 13824) (p7 : 1 ≤ ((n269 : Nat) : Int)) (p8 : c267_total.toInt ≤ ((n269 : Nat) : Int)) (p9 : 1 ≤ c248_pots.toInt) (hr_a268 : dz_pt a268 [1]) (k : Nat) : p142_X2_breakBar_g21 fu c248_pots c261_many c267_total a268 n269 a273 k := by
  induction k using Nat.strongRecOn with
  | _ k ih => exact ⟨t142_X2_breakBar_h1_g21 fu hfu c248_pots c261_many c267_total a268 n269 a273 p0 p1 p2 p3 p4 p5 p6 p7 p8 p9 hr_a268 k ih, t142_X2_breakBar_h2_g21 fu hfu c248_pots c261_many c267_total a268 n269 a273 p0 p1 p2 p3 p4 p5 p6 p7 p8 p9 hr_a268 k ih, t142_X2_breakBar_h3_g21 fu hfu c248_pots c261_many c267_total a268 n269 a273 p0 p1 p2 p3 p4 p5 p6 p7 p8 p9 hr_a268 k ih⟩
set_option maxHeartbeats 1000000 in
set_option maxRecDepth 10000 in
theorem t142_X2_breakBar_E_g21 (fu : Nat) (hfu : 1000000000000 ≤ fu) (c248_pots : Int32) (c261_many : Int32) (c267_total : Int32) (a268 : Nat → Int32) (n269 : Nat) (a273 : Nat → Int32) (v1 : Int32) (v2 : Int32) (a269 : Nat → Int32) (p0 : c248_pots.toInt ≤ 1) (p1 : 1 ≤ c248_pots.toInt) (p2 : c261_many.toInt ≤ 2) (p3 : 2 ≤ c261_many.toInt) (p4 : c267_total.toInt ≤ 2) (p5 : 2 ≤ c267_total.toInt) (p6 : ((n269 : Nat) : Int) ≤ 13824) (p7 : 1 ≤ ((n269 : Nat) : Int)) (p8 : c267_total.toInt ≤ ((n269 : Nat) : Int)) (p9 : 1 ≤ c248_pots.toInt) (p10 : 0 ≤ v1.toInt) (p11 : v1.toInt ≤ 1023) (hr_a268 : dz_pt a268 [1]) (hr_a269 : dz_rg a269 n269 0 1023) (kv : Nat) (hkv : 1000000000000 ≤ kv) : dz_T (s142_X2_breakBar_0 fu c248_pots c261_many c267_total a268 n269 a273 (F142_X2_breakBar fu c248_pots c261_many c267_total a268 n269 a273 kv).1  v1 v2 a269) (fun r => dz_rg r n269 0 1023) := by
  unfold s142_X2_breakBar_0
  have e1 := dz_l1
  have e2 := dz_sub (a := c248_pots) (b := (1 : Int32)) (by omega) (by omega)
  have e3 := dz_l24
  have e4 := dz_mull (a := (c248_pots - (1 : Int32))) (b := (24 : Int32)) 0 (by omega) (by omega) (by omega)
  have e5 := dz_l0
  exact (t142_X2_breakBar_I_g21 fu hfu c248_pots c261_many c267_total a268 n269 a273 p0 p1 p2 p3 p4 p5 p6 p7 p8 p9 hr_a268 kv).1 v1 v2 ((c248_pots - (1 : Int32)) * (24 : Int32)) c261_many (0 : Int32) a269 p11 p10 (by omega) (by omega) p2 p3 (by omega) (by omega) (hr_a269) (by omega) (by omega)
theorem t142_X2_breakBar_g21 (fu : Nat) (hfu : 1000000000000 ≤ fu) (c248_pots : Int32) (c261_many : Int32) (c267_total : Int32) (a268 : Nat → Int32) (n269 : Nat) (a273 : Nat → Int32) (v1 : Int32) (v2 : Int32) (a269 : Nat → Int32) (p0 : c248_pots.toInt ≤ 1) (p1 : 1 ≤ c248_pots.toInt) (p2 : c261_many.toInt ≤ 2) (p3 : 2 ≤ c261_many.toInt) (p4 : c267_total.toInt ≤ 2) (p5 : 2 ≤ c267_total.toInt) (p6 : ((n269 : Nat) : Int) ≤ 13824) (p7 : 1 ≤ ((n269 : Nat) : Int)) (p8 : c267_total.toInt ≤ ((n269 : Nat) : Int)) (p9 : 1 ≤ c248_pots.toInt) (p10 : 0 ≤ v1.toInt) (p11 : v1.toInt ≤ 1023) (hr_a268 : dz_pt a268 [1]) (hr_a269 : dz_rg a269 n269 0 1023) : dz_T (f142_X2_breakBar fu c248_pots c261_many c267_total a268 n269 a273 v1 v2 a269) (fun r => dz_rg r n269 0 1023) :=
  t142_X2_breakBar_E_g21 fu hfu c248_pots c261_many c267_total a268 n269 a273 v1 v2 a269 p0 p1 p2 p3 p4 p5 p6 p7 p8 p9 p10 p11 hr_a268 hr_a269 fu hfu
