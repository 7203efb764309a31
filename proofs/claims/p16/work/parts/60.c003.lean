abbrev p142_X2_breakBar_g22 (fu : Nat) (c248_pots : Int32) (c261_many : Int32) (c267_total : Int32) (a268 : Nat → Int32) (n269 : Nat) (a273 : Nat → Int32) (k : Nat) : Prop :=
  (∀ (v1 : Int32) (v2 : Int32) (v3 : Int32) (v4 : Int32) (v5 : Int32) (a269 : Nat → Int32), v1.toInt ≤ 1023 → 0 ≤ v1.toInt → v3.toInt ≤ 24 → 24 ≤ v3.toInt → v4.toInt ≤ 2 → 2 ≤ v4.toInt → v5.toInt ≤ 5 → 0 ≤ v5.toInt → dz_rg a269 n269 0 1023 → v5.toInt % 2 = 0 → 0 + 0 + (13824 - v5.toInt) * 128 + 8 ≤ ((k : Nat) : Int) → dz_T ((F142_X2_breakBar fu c248_pots c261_many c267_total a268 n269 a273 k).1 v1 v2 v3 v4 v5 a269) (fun r => dz_rg r n269 0 1023)) ∧ (∀ (v1 : Int32) (v2 : Int32) (v3 : Int32) (v4 : Int32) (v5 : Int32) (v6 : Int32) (v7 : Int32) (a269 : Nat → Int32), v1.toInt ≤ 1023 → 0 ≤ v1.toInt → v3.toInt ≤ 24 → 24 ≤ v3.toInt → v4.toInt ≤ 2 → 2 ≤ v4.toInt → v5.toInt ≤ 3 → 0 ≤ v5.toInt → v7.toInt ≤ 0 → (-1) ≤ v7.toInt → dz_rg a269 n269 0 1023 → v5.toInt % 2 = 0 → 0 + 0 + ((13824 - v5.toInt) - 1) * 128 + 64 + (v7.toInt - (-1)) * 16 + 16 ≤ ((k : Nat) : Int) → dz_T ((F142_X2_breakBar fu c248_pots c261_many c267_total a268 n269 a273 k).2.1 v1 v2 v3 v4 v5 v6 v7 a269) (fun r => dz_rg r n269 0 1023)) ∧ (∀ (v1 : Int32) (v2 : Int32) (v3 : Int32) (v4 : Int32) (v5 : Int32) (v6 : Int32) (v7 : Int32) (a269 : Nat → Int32), v1.toInt ≤ 1023 → 0 ≤ v1.toInt → v3.toInt ≤ 24 → 24 ≤ v3.toInt → v4.toInt ≤ 2 → 2 ≤ v4.toInt → v5.toInt ≤ 3 → 0 ≤ v5.toInt → v7.toInt ≤ 2 → 0 ≤ v7.toInt → dz_rg a269 n269 0 1023 → v5.toInt % 2 = 0 → 0 + 0 + ((13824 - v5.toInt) - 1) * 128 + 0 + (2 - v7.toInt) * 16 + 16 ≤ ((k : Nat) : Int) → dz_T ((F142_X2_breakBar fu c248_pots c261_many c267_total a268 n269 a273 k).2.2.1 v1 v2 v3 v4 v5 v6 v7 a269) (fun r => dz_rg r n269 0 1023))
set_option maxHeartbeats 1000000 in
set_option maxRecDepth 10000 in
theorem t142_X2_breakBar_h1_g22 (fu : Nat) (hfu : 1000000000000 ≤ fu) (c248_pots : Int32) (c261_many : Int32) (c267_total : Int32) (a268 : Nat → Int32) (n269 : Nat) (a273 : Nat → Int32) (p0 : c248_pots.toInt ≤ 2) (p1 : 2 ≤ c248_pots.toInt) (p2 : c261_many.toInt ≤ 2) (p3 : 2 ≤ c261_many.toInt) (p4 : c267_total.toInt ≤ 4) (p5 : 4 ≤ c267_total.toInt) (p6 : ((n269 : Nat) : Int) ≤ 13824) (p7 : 1 ≤ ((n269 : Nat) : Int)) (p8 : c267_total.toInt ≤ ((n269 : Nat) : Int)) (p9 : 1 ≤ c248_pots.toInt) (hr_a268 : dz_pt a268 [2, 1]) (k : Nat) (ih : ∀ j9, j9 < k → p142_X2_breakBar_g22 fu c248_pots c261_many c267_total a268 n269 a273 j9) : ∀ (v1 : Int32) (v2 : Int32) (v3 : Int32) (v4 : Int32) (v5 : Int32) (a269 : Nat → Int32), v1.toInt ≤ 1023 → 0 ≤ v1.toInt → v3.toInt ≤ 24 → 24 ≤ v3.toInt → v4.toInt ≤ 2 → 2 ≤ v4.toInt → v5.toInt ≤ 5 → 0 ≤ v5.toInt → dz_rg a269 n269 0 1023 → v5.toInt % 2 = 0 → 0 + 0 + (13824 - v5.toInt) * 128 + 8 ≤ ((k : Nat) : Int) → dz_T ((F142_X2_breakBar fu c248_pots c261_many c267_total a268 n269 a273 k).1 v1 v2 v3 v4 v5 a269) (fun r => dz_rg r n269 0 1023) := by
  intro v1 v2 v3 v4 v5 a269 i0 i1 i2 i3 i4 i5 i6 i7 hr_a269 x0 hm
  obtain ⟨k0, rfl⟩ : ∃ x, k = x + 1 := ⟨k - 1, by omega⟩
  show dz_T (s142_X2_breakBar_1 fu c248_pots c261_many c267_total a268 n269 a273 (F142_X2_breakBar fu c248_pots c261_many c267_total a268 n269 a273 k0).2.1  v1 v2 v3 v4 v5 a269) _
  unfold s142_X2_breakBar_1
  refine dz_Tle (fun h1 => ?_) (fun h1 => ?_)
  · skip
    exact dz_Ts (hr_a269)
  · skip
    have e2 := dz_l0
    refine dz_Tle (fun h3 => ?_) (fun h3 => ?_)
    · skip
      exfalso; omega
    · skip
      have e4 := dz_l2
      have e5 := dz_sub (a := c248_pots) (b := (2 : Int32)) (by omega) (by omega)
      exact (ih k0 (by omega)).2.1 v1 v2 v3 v4 v5 v2 (c248_pots - (2 : Int32)) a269 i0 i1 i2 i3 i4 i5 (by first | assumption | omega) i7 (by omega) (by omega) (hr_a269) (by omega) (by omega)
set_option maxHeartbeats 1000000 in
set_option maxRecDepth 10000 in
theorem t142_X2_breakBar_h2_g22 (fu : Nat) (hfu : 1000000000000 ≤ fu) (c248_pots : Int32) (c261_many : Int32) (c267_total : Int32) (a268 : Nat → Int32) (n269 : Nat) (a273 : Nat → Int32) (p0 : c248_pots.toInt ≤ 2) (p1 : 2 ≤ c248_pots.toInt) (p2 : c261_many.toInt ≤ 2) (p3 : 2 ≤ c261_many.toInt) (p4 : c267_total.toInt ≤ 4) (p5 : 4 ≤ c267_total.toInt) (p6 : ((n269 : Nat) : Int) ≤ 13824) (p7 : 1 ≤ ((n269 : Nat) : Int)) (p8 : c267_total.toInt ≤ ((n269 : Nat) : Int)) (p9 : 1 ≤ c248_pots.toInt) (hr_a268 : dz_pt a268 [2, 1]) (k : Nat) (ih : ∀ j9, j9 < k → p142_X2_breakBar_g22 fu c248_pots c261_many c267_total a268 n269 a273 j9) : ∀ (v1 : Int32) (v2 : Int32) (v3 : Int32) (v4 : Int32) (v5 : Int32) (v6 : Int32) (v7 : Int32) (a269 : Nat → Int32), v1.toInt ≤ 1023 → 0 ≤ v1.toInt → v3.toInt ≤ 24 → 24 ≤ v3.toInt → v4.toInt ≤ 2 → 2 ≤ v4.toInt → v5.toInt ≤ 3 → 0 ≤ v5.toInt → v7.toInt ≤ 0 → (-1) ≤ v7.toInt → dz_rg a269 n269 0 1023 → v5.toInt % 2 = 0 → 0 + 0 + ((13824 - v5.toInt) - 1) * 128 + 64 + (v7.toInt - (-1)) * 16 + 16 ≤ ((k : Nat) : Int) → dz_T ((F142_X2_breakBar fu c248_pots c261_many c267_total a268 n269 a273 k).2.1 v1 v2 v3 v4 v5 v6 v7 a269) (fun r => dz_rg r n269 0 1023) := by
  intro v1 v2 v3 v4 v5 v6 v7 a269 i0 i1 i2 i3 i4 i5 i6 i7 i8 i9 hr_a269 x0 hm
  obtain ⟨k0, rfl⟩ : ∃ x, k = x + 1 := ⟨k - 1, by omega⟩
  show dz_T (s142_X2_breakBar_2 fu c248_pots c261_many c267_total a268 n269 a273 (F142_X2_breakBar fu c248_pots c261_many c267_total a268 n269 a273 k0).2.1 (F142_X2_breakBar fu c248_pots c261_many c267_total a268 n269 a273 k0).2.2.1  v1 v2 v3 v4 v5 v6 v7 a269) _
  unfold s142_X2_breakBar_2
  have e1 := dz_l0
  refine dz_Tlt (fun h2 => ?_) (fun h2 => ?_)
  · skip
    exact (ih k0 (by omega)).2.2 v1 v2 v3 v4 v5 v6 (0 : Int32) a269 i0 i1 i2 i3 i4 i5 i6 i7 (by omega) (by omega) (hr_a269) (by omega) (by omega)
  · skip
    refine dz_Tbe (show f141_X2_rankIn fu c261_many a268 v5 v7 = (if dz_in v7 4 then (if ((a268 v7.toNatClampNeg) ≤ (0 : Int32)) then (some (0 : Int32)) else (if (c261_many ≤ (0 : Int32)) then (some (0 : Int32)) else (if (¬ ((a268 v7.toNatClampNeg) = (0 : Int32))) then (if (¬ (c261_many = (0 : Int32))) then (some (dz_rem (v5 / (a268 v7.toNatClampNeg)) c261_many)) else none) else none))) else none) from rfl) ?_
    refine dz_Tinb (by omega) (by omega) ?_
    have e3 := dz_ptat (hr_a268) (i := v7) (x := 2) 0 (by omega) (by decide)
    refine dz_Tleb (fun h4 => ?_) (fun h4 => ?_)
    · skip
      exfalso; omega
    · skip
      refine dz_Tleb (fun h5 => ?_) (fun h5 => ?_)
      · skip
        exfalso; omega
      · skip
        refine dz_Tzb (by omega) ?_
        refine dz_Tzb (by omega) ?_
        refine dz_Tsb ?_
        have e6 := dz_l24
        have e7 := dz_mull (a := v7) (b := (24 : Int32)) 0 (by omega) (by omega) (by omega)
        have e8 := dz_divn (a := v5) (b := (a268 v7.toNatClampNeg)) 2 (by omega) (by omega) (by omega)
        have e9 := dz_remn (a := (v5 / (a268 v7.toNatClampNeg))) (b := c261_many) 2 (by omega) (by omega) (by omega)
        have e10 := dz_add (a := (v7 * (24 : Int32))) (b := (dz_rem (v5 / (a268 v7.toNatClampNeg)) c261_many)) (by omega) (by omega)
        refine dz_Tin (by omega) (by omega) ?_
        have e11 := dz_rng v6
        have e12 := dz_rng (a273 ((v7 * (24 : Int32)) + (dz_rem (v5 / (a268 v7.toNatClampNeg)) c261_many)).toNatClampNeg)
        have e13 := dz_lm1
        have e14 := dz_add (a := v7) (b := (-(1 : Int32))) (by omega) (by omega)
        generalize (v7 + (-(1 : Int32))) = z1 at *
        exact (ih k0 (by omega)).2.1 v1 v2 v3 v4 v5 (v6 + (a273 ((v7 * (24 : Int32)) + (dz_rem (v5 / (a268 v7.toNatClampNeg)) c261_many)).toNatClampNeg)) z1 a269 i0 i1 i2 i3 i4 i5 i6 i7 (by omega) (by omega) (hr_a269) (by omega) (by omega)
set_option maxHeartbeats 1000000 in
set_option maxRecDepth 10000 in
theorem t142_X2_breakBar_h3_g22 (fu : Nat) (hfu : 1000000000000 ≤ fu) (c248_pots : Int32) (c261_many : Int32) (c267_total : Int32) (a268 : Nat → Int32) (n269 : Nat) (a273 : Nat → Int32) (p0 : c248_pots.toInt ≤ 2) (p1 : 2 ≤ c248_pots.toInt) (p2 : c261_many.toInt ≤ 2) (p3 : 2 ≤ c261_many.toInt) (p4 : c267_total.toInt ≤ 4) (p5 : 4 ≤ c267_total.toInt) (p6 : ((n269 : Nat) : Int) ≤ 13824) (p7 : 1 ≤ ((n269 : Nat) : Int)) (p8 : c267_total.toInt ≤ ((n269 : Nat) : Int)) (p9 : 1 ≤ c248_pots.toInt) (hr_a268 : dz_pt a268 [2, 1]) (k : Nat) (ih : ∀ j9, j9 < k → p142_X2_breakBar_g22 fu c248_pots c261_many c267_total a268 n269 a273 j9) : ∀ (v1 : Int32) (v2 : Int32) (v3 : Int32) (v4 : Int32) (v5 : Int32) (v6 : Int32) (v7 : Int32) (a269 : Nat → Int32), v1.toInt ≤ 1023 → 0 ≤ v1.toInt → v3.toInt ≤ 24 → 24 ≤ v3.toInt → v4.toInt ≤ 2 → 2 ≤ v4.toInt → v5.toInt ≤ 3 → 0 ≤ v5.toInt → v7.toInt ≤ 2 → 0 ≤ v7.toInt → dz_rg a269 n269 0 1023 → v5.toInt % 2 = 0 → 0 + 0 + ((13824 - v5.toInt) - 1) * 128 + 0 + (2 - v7.toInt) * 16 + 16 ≤ ((k : Nat) : Int) → dz_T ((F142_X2_breakBar fu c248_pots c261_many c267_total a268 n269 a273 k).2.2.1 v1 v2 v3 v4 v5 v6 v7 a269) (fun r => dz_rg r n269 0 1023) := by
  intro v1 v2 v3 v4 v5 v6 v7 a269 i0 i1 i2 i3 i4 i5 i6 i7 i8 i9 hr_a269 x0 hm
  obtain ⟨k0, rfl⟩ : ∃ x, k = x + 1 := ⟨k - 1, by omega⟩
  show dz_T (s142_X2_breakBar_3 fu c248_pots c261_many c267_total a268 n269 a273 (F142_X2_breakBar fu c248_pots c261_many c267_total a268 n269 a273 k0).1 (F142_X2_breakBar fu c248_pots c261_many c267_total a268 n269 a273 k0).2.2.2  v1 v2 v3 v4 v5 v6 v7 a269) _
  unfold s142_X2_breakBar_3
  refine dz_Tle (fun h1 => ?_) (fun h1 => ?_)
  · skip
    have e2 := dz_add (a := v5) (b := v4) (by omega) (by omega)
    exact (ih k0 (by omega)).1 v1 v2 v3 v4 (v5 + v4) a269 i0 i1 i2 i3 i4 i5 (by omega) (by omega) (hr_a269) (by omega) (by omega)
  · skip
    have e3 := dz_add (a := v3) (b := v7) (by omega) (by omega)
    refine dz_Tin (by omega) (by omega) ?_
    have e4 := dz_rng v6
    have e5 := dz_rng (a273 (v3 + v7).toNatClampNeg)
    have e6 := dz_l34952
    have e7 := dz_andr (a := (v6 + (a273 (v3 + v7).toNatClampNeg))) (b := (34952 : Int32)) (by omega)
    have e8 := dz_l0
    refine dz_Teq (fun h9 => ?_) (fun h9 => ?_)
    · skip
      obtain ⟨k1, rfl⟩ : ∃ x, k0 = x + 1 := ⟨k0 - 1, by omega⟩
      show dz_T (s142_X2_breakBar_4 fu c248_pots c261_many c267_total a268 n269 a273 (F142_X2_breakBar fu c248_pots c261_many c267_total a268 n269 a273 k1).2.2.1 v1 v2 v3 v4 v5 v6 v7 a269) _
      unfold s142_X2_breakBar_4
      have e10 := dz_l1
      have e11 := dz_add (a := v7) (b := (1 : Int32)) (by omega) (by omega)
      exact (ih k1 (by omega)).2.2 v1 v2 v3 v4 v5 v6 (v7 + (1 : Int32)) a269 i0 i1 i2 i3 i4 i5 i6 i7 (by omega) (by omega) (hr_a269) (by omega) (by omega)
    · skip
      have e12 := dz_add (a := v5) (b := v7) (by omega) (by omega)
      refine dz_Tin (by omega) (by omega) ?_
      refine dz_Tin (by omega) (by omega) ?_
      obtain ⟨k2, rfl⟩ : ∃ x, k0 = x + 1 := ⟨k0 - 1, by omega⟩
      show dz_T (s142_X2_breakBar_4 fu c248_pots c261_many c267_total a268 n269 a273 (F142_X2_breakBar fu c248_pots c261_many c267_total a268 n269 a273 k2).2.2.1 v1 v2 v3 v4 v5 v6 v7 (upd a269 (v5 + v7).toNatClampNeg ((a269 (v5 + v7).toNatClampNeg) ||| v1))) _
      unfold s142_X2_breakBar_4
      have e13 := dz_l1
      have e14 := dz_add (a := v7) (b := (1 : Int32)) (by omega) (by omega)
      have e15 := dz_rgat (hr_a269) (i := (v5 + v7)) (by omega) (by omega)
      have e16 := dz_orb (a := (a269 (v5 + v7).toNatClampNeg)) (b := v1) 10 (by omega) (by omega) (by omega) (by omega) (by omega)
      exact (ih k2 (by omega)).2.2 v1 v2 v3 v4 v5 v6 (v7 + (1 : Int32)) (upd a269 (v5 + v7).toNatClampNeg ((a269 (v5 + v7).toNatClampNeg) ||| v1)) i0 i1 i2 i3 i4 i5 i6 i7 (by omega) (by omega) (dz_rgu (hr_a269) (by omega) (by omega)) (by omega) (by omega)
theorem t142_X2_breakBar_I_g22 (fu : Nat) (hfu : 1000000000000 ≤ fu) (c248_pots : Int32) (c261_many : Int32) (c267_total : Int32) (a268 : Nat → Int32) (n269 : Nat) (a273 : Nat → Int32) (p0 : c248_pots.toInt ≤ 2) (p1 : 2 ≤ c248_pots.toInt) (p2 : c261_many.toInt ≤ 2) (p3 : 2 ≤ c261_many.toInt) (p4 : c267_total.toInt ≤ 4) (p5 : 4 ≤ c267_total.toInt) (p6 : ((n269 : Nat) : Int) ≤ 13824) (p7 : 1 ≤ ((n269 : Nat) : Int)) (p8 : c267_total.toInt ≤ ((n269 : Nat) : Int)) (p9 : 1 ≤ c248_pots.toInt) (hr_a268 : dz_pt a268 [2, 1]) (k : Nat) : p142_X2_breakBar_g22 fu c248_pots c261_many c267_total a268 n269 a273 k := by
  induction k using Nat.strongRecOn with
  | _ k ih => exact ⟨t142_X2_breakBar_h1_g22 fu hfu c248_pots c261_many c267_total a268 n269 a273 p0 p1 p2 p3 p4 p5 p6 p7 p8 p9 hr_a268 k ih, t142_X2_breakBar_h2_g22 fu hfu c248_pots c261_many c267_total a268 n269 a273 p0 p1 p2 p3 p4 p5 p6 p7 p8 p9 hr_a268 k ih, t142_X2_breakBar_h3_g22 fu hfu c248_pots c261_many c267_total a268 n269 a273 p0 p1 p2 p3 p4 p5 p6 p7 p8 p9 hr_a268 k ih⟩
set_option maxHeartbeats 1000000 in
set_option maxRecDepth 10000 in
theorem t142_X2_breakBar_E_g22 (fu : Nat) (hfu : 1000000000000 ≤ fu) (c248_pots : Int32) (c261_many : Int32) (c267_total : Int32) (a268 : Nat → Int32) (n269 : Nat) (a273 : Nat → Int32) (v1 : Int32) (v2 : Int32) (a269 : Nat → Int32) (p0 : c248_pots.toInt ≤ 2) (p1 : 2 ≤ c248_pots.toInt) (p2 : c261_many.toInt ≤ 2) (p3 : 2 ≤ c261_many.toInt) (p4 : c267_total.toInt ≤ 4) (p5 : 4 ≤ c267_total.toInt) (p6 : ((n269 : Nat) : Int) ≤ 13824) (p7 : 1 ≤ ((n269 : Nat) : Int)) (p8 : c267_total.toInt ≤ ((n269 : Nat) : Int)) (p9 : 1 ≤ c248_pots.toInt) (p10 : 0 ≤ v1.toInt) (p11 : v1.toInt ≤ 1023) (hr_a268 : dz_pt a268 [2, 1]) (hr_a269 : dz_rg a269 n269 0 1023) (kv : Nat) (hkv : 1000000000000 ≤ kv) : dz_T (s142_X2_breakBar_0 fu c248_pots c261_many c267_total a268 n269 a273 (F142_X2_breakBar fu c248_pots c261_many c267_total a268 n269 a273 kv).1  v1 v2 a269) (fun r => dz_rg r n269 0 1023) := by
  unfold s142_X2_breakBar_0
  have e1 := dz_l1
  have e2 := dz_sub (a := c248_pots) (b := (1 : Int32)) (by omega) (by omega)
  have e3 := dz_l24
  have e4 := dz_mull (a := (c248_pots - (1 : Int32))) (b := (24 : Int32)) 1 (by omega) (by omega) (by omega)
  have e5 := dz_l0
  exact (t142_X2_breakBar_I_g22 fu hfu c248_pots c261_many c267_total a268 n269 a273 p0 p1 p2 p3 p4 p5 p6 p7 p8 p9 hr_a268 kv).1 v1 v2 ((c248_pots - (1 : Int32)) * (24 : Int32)) c261_many (0 : Int32) a269 p11 p10 (by omega) (by omega) p2 p3 (by omega) (by omega) (hr_a269) (by omega) (by omega)
theorem t142_X2_breakBar_g22 (fu : Nat) (hfu : 1000000000000 ≤ fu) (c248_pots : Int32) (c261_many : Int32) (c267_total : Int32) (a268 : Nat → Int32) (n269 : Nat) (a273 : Nat → Int32) (v1 : Int32) (v2 : Int32) (a269 : Nat → Int32) (p0 : c248_pots.toInt ≤ 2) (p1 : 2 ≤ c248_pots.toInt) (p2 : c261_many.toInt ≤ 2) (p3 : 2 ≤ c261_many.toInt) (p4 : c267_total.toInt ≤ 4) (p5 : 4 ≤ c267_total.toInt) (p6 : ((n269 : Nat) : Int) ≤ 13824) (p7 : 1 ≤ ((n269 : Nat) : Int)) (p8 : c267_total.toInt ≤ ((n269 : Nat) : Int)) (p9 : 1 ≤ c248_pots.toInt) (p10 : 0 ≤ v1.toInt) (p11 : v1.toInt ≤ 1023) (hr_a268 : dz_pt a268 [2, 1]) (hr_a269 : dz_rg a269 n269 0 1023) : dz_T (f142_X2_breakBar fu c248_pots c261_many c267_total a268 n269 a273 v1 v2 a269) (fun r => dz_rg r n269 0 1023) :=
  t142_X2_breakBar_E_g22 fu hfu c248_pots c261_many c267_total a268 n269 a273 v1 v2 a269 p0 p1 p2 p3 p4 p5 p6 p7 p8 p9 p10 p11 hr_a268 hr_a269 fu hfu
abbrev p142_X2_breakBar_g23 (fu : Nat) (c248_pots : Int32) (c261_many : Int32) (c267_total : Int32) (a268 : Nat → Int32) (n269 : Nat) (a273 : Nat → Int32) (k : Nat) : Prop :=
  (∀ (v1 : Int32) (v2 : Int32) (v3 : Int32) (v4 : Int32) (v5 : Int32) (a269 : Nat → Int32), v1.toInt ≤ 1023 → 0 ≤ v1.toInt → v3.toInt ≤ 48 → 48 ≤ v3.toInt → v4.toInt ≤ 2 → 2 ≤ v4.toInt → v5.toInt ≤ 9 → 0 ≤ v5.toInt → dz_rg a269 n269 0 1023 → v5.toInt % 2 = 0 → 0 + 0 + (13824 - v5.toInt) * 144 + 8 ≤ ((k : Nat) : Int) → dz_T ((F142_X2_breakBar fu c248_pots c261_many c267_total a268 n269 a273 k).1 v1 v2 v3 v4 v5 a269) (fun r => dz_rg r n269 0 1023)) ∧ (∀ (v1 : Int32) (v2 : Int32) (v3 : Int32) (v4 : Int32) (v5 : Int32) (v6 : Int32) (v7 : Int32) (a269 : Nat → Int32), v1.toInt ≤ 1023 → 0 ≤ v1.toInt → v3.toInt ≤ 48 → 48 ≤ v3.toInt → v4.toInt ≤ 2 → 2 ≤ v4.toInt → v5.toInt ≤ 7 → 0 ≤ v5.toInt → v7.toInt ≤ 1 → (-1) ≤ v7.toInt → dz_rg a269 n269 0 1023 → v5.toInt % 2 = 0 → 0 + 0 + ((13824 - v5.toInt) - 1) * 144 + 64 + (v7.toInt - (-1)) * 16 + 16 ≤ ((k : Nat) : Int) → dz_T ((F142_X2_breakBar fu c248_pots c261_many c267_total a268 n269 a273 k).2.1 v1 v2 v3 v4 v5 v6 v7 a269) (fun r => dz_rg r n269 0 1023)) ∧ (∀ (v1 : Int32) (v2 : Int32) (v3 : Int32) (v4 : Int32) (v5 : Int32) (v6 : Int32) (v7 : Int32) (a269 : Nat → Int32), v1.toInt ≤ 1023 → 0 ≤ v1.toInt → v3.toInt ≤ 48 → 48 ≤ v3.toInt → v4.toInt ≤ 2 → 2 ≤ v4.toInt → v5.toInt ≤ 7 → 0 ≤ v5.toInt → v7.toInt ≤ 2 → 0 ≤ v7.toInt → dz_rg a269 n269 0 1023 → v5.toInt % 2 = 0 → 0 + 0 + ((13824 - v5.toInt) - 1) * 144 + 0 + (2 - v7.toInt) * 16 + 16 ≤ ((k : Nat) : Int) → dz_T ((F142_X2_breakBar fu c248_pots c261_many c267_total a268 n269 a273 k).2.2.1 v1 v2 v3 v4 v5 v6 v7 a269) (fun r => dz_rg r n269 0 1023))
set_option maxHeartbeats 1000000 in
set_option maxRecDepth 10000 in
theorem t142_X2_breakBar_h1_g23 (fu : Nat) (hfu : 1000000000000 ≤ fu) (c248_pots : Int32) (c261_many : Int32) (c267_total : Int32) (a268 : Nat → Int32) (n269 : Nat) (a273 : Nat → Int32) (p0 : c248_pots.toInt ≤ 3) (p1 : 3 ≤ c248_pots.toInt) (p2 : c261_many.toInt ≤ 2) (p3 : 2 ≤ c261_many.toInt) (p4 : c267_total.toInt ≤ 8) (p5 : 8 ≤ c267_total.toInt) (p6 : ((n269 : Nat) : Int) ≤ 13824) (p7 : 1 ≤ ((n269 : Nat) : Int)) (p8 : c267_total.toInt ≤ ((n269 : Nat) : Int)) (p9 : 1 ≤ c248_pots.toInt) (hr_a268 : dz_pt a268 [4, 2, 1]) (k : Nat) (ih : ∀ j9, j9 < k → p142_X2_breakBar_g23 fu c248_pots c261_many c267_total a268 n269 a273 j9) : ∀ (v1 : Int32) (v2 : Int32) (v3 : Int32) (v4 : Int32) (v5 : Int32) (a269 : Nat → Int32), v1.toInt ≤ 1023 → 0 ≤ v1.toInt → v3.toInt ≤ 48 → 48 ≤ v3.toInt → v4.toInt ≤ 2 → 2 ≤ v4.toInt → v5.toInt ≤ 9 → 0 ≤ v5.toInt → dz_rg a269 n269 0 1023 → v5.toInt % 2 = 0 → 0 + 0 + (13824 - v5.toInt) * 144 + 8 ≤ ((k : Nat) : Int) → dz_T ((F142_X2_breakBar fu c248_pots c261_many c267_total a268 n269 a273 k).1 v1 v2 v3 v4 v5 a269) (fun r => dz_rg r n269 0 1023) := by
  intro v1 v2 v3 v4 v5 a269 i0 i1 i2 i3 i4 i5 i6 i7 hr_a269 x0 hm
  obtain ⟨k0, rfl⟩ : ∃ x, k = x + 1 := ⟨k - 1, by omega⟩
  show dz_T (s142_X2_breakBar_1 fu c248_pots c261_many c267_total a268 n269 a273 (F142_X2_breakBar fu c248_pots c261_many c267_total a268 n269 a273 k0).2.1  v1 v2 v3 v4 v5 a269) _
  unfold s142_X2_breakBar_1
  refine dz_Tle (fun h1 => ?_) (fun h1 => ?_)
  · skip
    exact dz_Ts (hr_a269)
  · skip
    have e2 := dz_l0
    refine dz_Tle (fun h3 => ?_) (fun h3 => ?_)
    · skip
      exfalso; omega
    · skip
      have e4 := dz_l2
      have e5 := dz_sub (a := c248_pots) (b := (2 : Int32)) (by omega) (by omega)
      exact (ih k0 (by omega)).2.1 v1 v2 v3 v4 v5 v2 (c248_pots - (2 : Int32)) a269 i0 i1 i2 i3 i4 i5 (by first | assumption | omega) i7 (by omega) (by omega) (hr_a269) (by omega) (by omega)
set_option maxHeartbeats 1000000 in
set_option maxRecDepth 10000 in
theorem t142_X2_breakBar_h2_g23 (fu : Nat) (hfu : 1000000000000 ≤ fu) (c248_pots : Int32) (c261_many : Int32) (c267_total : Int32) (a268 : Nat → Int32) (n269 : Nat) (a273 : Nat → Int32) (p0 : c248_pots.toInt ≤ 3) (p1 : 3 ≤ c248_pots.toInt) (p2 : c261_many.toInt ≤ 2) (p3 : 2 ≤ c261_many.toInt) (p4 : c267_total.toInt ≤ 8) (p5 : 8 ≤ c267_total.toInt) (p6 : ((n269 : Nat) : Int) ≤ 13824) (p7 : 1 ≤ ((n269 : Nat) : Int)) (p8 : c267_total.toInt ≤ ((n269 : Nat) : Int)) (p9 : 1 ≤ c248_pots.toInt) (hr_a268 : dz_pt a268 [4, 2, 1]) (k : Nat) (ih : ∀ j9, j9 < k → p142_X2_breakBar_g23 fu c248_pots c261_many c267_total a268 n269 a273 j9) : ∀ (v1 : Int32) (v2 : Int32) (v3 : Int32) (v4 : Int32) (v5 : Int32) (v6 : Int32) (v7 : Int32) (a269 : Nat → Int32), v1.toInt ≤ 1023 → 0 ≤ v1.toInt → v3.toInt ≤ 48 → 48 ≤ v3.toInt → v4.toInt ≤ 2 → 2 ≤ v4.toInt → v5.toInt ≤ 7 → 0 ≤ v5.toInt → v7.toInt ≤ 1 → (-1) ≤ v7.toInt → dz_rg a269 n269 0 1023 → v5.toInt % 2 = 0 → 0 + 0 + ((13824 - v5.toInt) - 1) * 144 + 64 + (v7.toInt - (-1)) * 16 + 16 ≤ ((k : Nat) : Int) → dz_T ((F142_X2_breakBar fu c248_pots c261_many c267_total a268 n269 a273 k).2.1 v1 v2 v3 v4 v5 v6 v7 a269) (fun r => dz_rg r n269 0 1023) := by
  intro v1 v2 v3 v4 v5 v6 v7 a269 i0 i1 i2 i3 i4 i5 i6 i7 i8 i9 hr_a269 x0 hm
  obtain ⟨k0, rfl⟩ : ∃ x, k = x + 1 := ⟨k - 1, by omega⟩
  show dz_T (s142_X2_breakBar_2 fu c248_pots c261_many c267_total a268 n269 a273 (F142_X2_breakBar fu c248_pots c261_many c267_total a268 n269 a273 k0).2.1 (F142_X2_breakBar fu c248_pots c261_many c267_total a268 n269 a273 k0).2.2.1  v1 v2 v3 v4 v5 v6 v7 a269) _
  unfold s142_X2_breakBar_2
  have e1 := dz_l0
  refine dz_Tlt (fun h2 => ?_) (fun h2 => ?_)
  · skip
    exact (ih k0 (by omega)).2.2 v1 v2 v3 v4 v5 v6 (0 : Int32) a269 i0 i1 i2 i3 i4 i5 i6 i7 (by omega) (by omega) (hr_a269) (by omega) (by omega)
  · skip
    refine dz_Tbe (show f141_X2_rankIn fu c261_many a268 v5 v7 = (if dz_in v7 4 then (if ((a268 v7.toNatClampNeg) ≤ (0 : Int32)) then (some (0 : Int32)) else (if (c261_many ≤ (0 : Int32)) then (some (0 : Int32)) else (if (¬ ((a268 v7.toNatClampNeg) = (0 : Int32))) then (if (¬ (c261_many = (0 : Int32))) then (some (dz_rem (v5 / (a268 v7.toNatClampNeg)) c261_many)) else none) else none))) else none) from rfl) ?_
    refine dz_Tinb (by omega) (by omega) ?_
    have e3 := dz_ptrg (hr_a268) (i := v7) 1 4 (by decide) (by omega) (by show _ < ((3 : Nat) : Int); omega)
    refine dz_Tleb (fun h4 => ?_) (fun h4 => ?_)
    · skip
      exfalso; omega
    · skip
      refine dz_Tleb (fun h5 => ?_) (fun h5 => ?_)
      · skip
        exfalso; omega
      · skip
        refine dz_Tzb (by omega) ?_
        refine dz_Tzb (by omega) ?_
        refine dz_Tsb ?_
        have e6 := dz_l24
        have e7 := dz_mulr (a := v7) (b := (24 : Int32)) 24 (by omega) (by omega) (by omega)
        have e8 := dz_divq (a := v5) (b := (a268 v7.toNatClampNeg)) 1 7 (by omega) (by omega) (by omega) (by omega)
        have e9 := dz_remn (a := (v5 / (a268 v7.toNatClampNeg))) (b := c261_many) 2 (by omega) (by omega) (by omega)
        have e10 := dz_add (a := (v7 * (24 : Int32))) (b := (dz_rem (v5 / (a268 v7.toNatClampNeg)) c261_many)) (by omega) (by omega)
        refine dz_Tin (by omega) (by omega) ?_
        have e11 := dz_rng v6
        have e12 := dz_rng (a273 ((v7 * (24 : Int32)) + (dz_rem (v5 / (a268 v7.toNatClampNeg)) c261_many)).toNatClampNeg)
        have e13 := dz_lm1
        have e14 := dz_add (a := v7) (b := (-(1 : Int32))) (by omega) (by omega)
        generalize (v7 + (-(1 : Int32))) = z1 at *
        exact (ih k0 (by omega)).2.1 v1 v2 v3 v4 v5 (v6 + (a273 ((v7 * (24 : Int32)) + (dz_rem (v5 / (a268 v7.toNatClampNeg)) c261_many)).toNatClampNeg)) z1 a269 i0 i1 i2 i3 i4 i5 i6 i7 (by omega) (by omega) (hr_a269) (by omega) (by omega)
set_option maxHeartbeats 1000000 in
set_option maxRecDepth 10000 in
theorem t142_X2_breakBar_h3_g23 (fu : Nat) (hfu : 1000000000000 ≤ fu) (c248_pots : Int32) (c261_many : Int32) (c267_total : Int32) (a268 : Nat → Int32) (n269 : Nat) (a273 : Nat → Int32) (p0 : c248_pots.toInt ≤ 3) (p1 : 3 ≤ c248_pots.toInt) (p2 : c261_many.toInt ≤ 2) (p3 : 2 ≤ c261_many.toInt) (p4 : c267_total.toInt ≤ 8) (p5 : 8 ≤ c267_total.toInt) (p6 : ((n269 : Nat) : Int) ≤ 13824) (p7 : 1 ≤ ((n269 : Nat) : Int)) (p8 : c267_total.toInt ≤ ((n269 : Nat) : Int)) (p9 : 1 ≤ c248_pots.toInt) (hr_a268 : dz_pt a268 [4, 2, 1]) (k : Nat) (ih : ∀ j9, j9 < k → p142_X2_breakBar_g23 fu c248_pots c261_many c267_total a268 n269 a273 j9) : ∀ (v1 : Int32) (v2 : Int32) (v3 : Int32) (v4 : Int32) (v5 : Int32) (v6 : Int32) (v7 : Int32) (a269 : Nat → Int32), v1.toInt ≤ 1023 → 0 ≤ v1.toInt → v3.toInt ≤ 48 → 48 ≤ v3.toInt → v4.toInt ≤ 2 → 2 ≤ v4.toInt → v5.toInt ≤ 7 → 0 ≤ v5.toInt → v7.toInt ≤ 2 → 0 ≤ v7.toInt → dz_rg a269 n269 0 1023 → v5.toInt % 2 = 0 → 0 + 0 + ((13824 - v5.toInt) - 1) * 144 + 0 + (2 - v7.toInt) * 16 + 16 ≤ ((k : Nat) : Int) → dz_T ((F142_X2_breakBar fu c248_pots c261_many c267_total a268 n269 a273 k).2.2.1 v1 v2 v3 v4 v5 v6 v7 a269) (fun r => dz_rg r n269 0 1023) := by
  intro v1 v2 v3 v4 v5 v6 v7 a269 i0 i1 i2 i3 i4 i5 i6 i7 i8 i9 hr_a269 x0 hm
  obtain ⟨k0, rfl⟩ : ∃ x, k = x + 1 := ⟨k - 1, by omega⟩
  show dz_T (s142_X2_breakBar_3 fu c248_pots c261_many c267_total a268 n269 a273 (F142_X2_breakBar fu c248_pots c261_many c267_total a268 n269 a273 k0).1 (F142_X2_breakBar fu c248_pots c261_many c267_total a268 n269 a273 k0).2.2.2  v1 v2 v3 v4 v5 v6 v7 a269) _
  unfold s142_X2_breakBar_3
  refine dz_Tle (fun h1 => ?_) (fun h1 => ?_)
  · skip
    have e2 := dz_add (a := v5) (b := v4) (by omega) (by omega)
    exact (ih k0 (by omega)).1 v1 v2 v3 v4 (v5 + v4) a269 i0 i1 i2 i3 i4 i5 (by omega) (by omega) (hr_a269) (by omega) (by omega)
  · skip
    have e3 := dz_add (a := v3) (b := v7) (by omega) (by omega)
    refine dz_Tin (by omega) (by omega) ?_
    have e4 := dz_rng v6
    have e5 := dz_rng (a273 (v3 + v7).toNatClampNeg)
    have e6 := dz_l34952
    have e7 := dz_andr (a := (v6 + (a273 (v3 + v7).toNatClampNeg))) (b := (34952 : Int32)) (by omega)
    have e8 := dz_l0
    refine dz_Teq (fun h9 => ?_) (fun h9 => ?_)
    · skip
      obtain ⟨k1, rfl⟩ : ∃ x, k0 = x + 1 := ⟨k0 - 1, by omega⟩
      show dz_T (s142_X2_breakBar_4 fu c248_pots c261_many c267_total a268 n269 a273 (F142_X2_breakBar fu c248_pots c261_many c267_total a268 n269 a273 k1).2.2.1 v1 v2 v3 v4 v5 v6 v7 a269) _
      unfold s142_X2_breakBar_4
      have e10 := dz_l1
      have e11 := dz_add (a := v7) (b := (1 : Int32)) (by omega) (by omega)
      exact (ih k1 (by omega)).2.2 v1 v2 v3 v4 v5 v6 (v7 + (1 : Int32)) a269 i0 i1 i2 i3 i4 i5 i6 i7 (by omega) (by omega) (hr_a269) (by omega) (by omega)
    · skip
      have e12 := dz_add (a := v5) (b := v7) (by omega) (by omega)
      refine dz_Tin (by omega) (by omega) ?_
      refine dz_Tin (by omega) (by omega) ?_
      obtain ⟨k2, rfl⟩ : ∃ x, k0 = x + 1 := ⟨k0 - 1, by omega⟩
      show dz_T (s142_X2_breakBar_4 fu c248_pots c261_many c267_total a268 n269 a273 (F142_X2_breakBar fu c248_pots c261_many c267_total a268 n269 a273 k2).2.2.1 v1 v2 v3 v4 v5 v6 v7 (upd a269 (v5 + v7).toNatClampNeg ((a269 (v5 + v7).toNatClampNeg) ||| v1))) _
      unfold s142_X2_breakBar_4
      have e13 := dz_l1
      have e14 := dz_add (a := v7) (b := (1 : Int32)) (by omega) (by omega)
      have e15 := dz_rgat (hr_a269) (i := (v5 + v7)) (by omega) (by omega)
      have e16 := dz_orb (a := (a269 (v5 + v7).toNatClampNeg)) (b := v1) 10 (by omega) (by omega) (by omega) (by omega) (by omega)
      exact (ih k2 (by omega)).2.2 v1 v2 v3 v4 v5 v6 (v7 + (1 : Int32)) (upd a269 (v5 + v7).toNatClampNeg ((a269 (v5 + v7).toNatClampNeg) ||| v1)) i0 i1 i2 i3 i4 i5 i6 i7 (by omega) (by omega) (dz_rgu (hr_a269) (by omega) (by omega)) (by omega) (by omega)
theorem t142_X2_breakBar_I_g23 (fu : Nat) (hfu : 1000000000000 ≤ fu) (c248_pots : Int32) (c261_many : Int32) (c267_total : Int32) (a268 : Nat → Int32) (n269 : Nat) (a273 : Nat → Int32) (p0 : c248_pots.toInt ≤ 3) (p1 : 3 ≤ c248_pots.toInt) (p2 : c261_many.toInt ≤ 2) (p3 : 2 ≤ c261_many.toInt) (p4 : c267_total.toInt ≤ 8) (p5 : 8 ≤ c267_total.toInt) (p6 : ((n269 : Nat) : Int) ≤ 13824) (p7 : 1 ≤ ((n269 : Nat) : Int)) (p8 : c267_total.toInt ≤ ((n269 : Nat) : Int)) (p9 : 1 ≤ c248_pots.toInt) (hr_a268 : dz_pt a268 [4, 2, 1]) (k : Nat) : p142_X2_breakBar_g23 fu c248_pots c261_many c267_total a268 n269 a273 k := by
  induction k using Nat.strongRecOn with
  | _ k ih => exact ⟨t142_X2_breakBar_h1_g23 fu hfu c248_pots c261_many c267_total a268 n269 a273 p0 p1 p2 p3 p4 p5 p6 p7 p8 p9 hr_a268 k ih, t142_X2_breakBar_h2_g23 fu hfu c248_pots c261_many c267_total a268 n269 a273 p0 p1 p2 p3 p4 p5 p6 p7 p8 p9 hr_a268 k ih, t142_X2_breakBar_h3_g23 fu hfu c248_pots c261_many c267_total a268 n269 a273 p0 p1 p2 p3 p4 p5 p6 p7 p8 p9 hr_a268 k ih⟩
set_option maxHeartbeats 1000000 in
set_option maxRecDepth 10000 in
theorem t142_X2_breakBar_E_g23 (fu : Nat) (hfu : 1000000000000 ≤ fu) (c248_pots : Int32) (c261_many : Int32) (c267_total : Int32) (a268 : Nat → Int32) (n269 : Nat) (a273 : Nat → Int32) (v1 : Int32) (v2 : Int32) (a269 : Nat → Int32) (p0 : c248_pots.toInt ≤ 3) (p1 : 3 ≤ c248_pots.toInt) (p2 : c261_many.toInt ≤ 2) (p3 : 2 ≤ c261_many.toInt) (p4 : c267_total.toInt ≤ 8) (p5 : 8 ≤ c267_total.toInt) (p6 : ((n269 : Nat) : Int) ≤ 13824) (p7 : 1 ≤ ((n269 : Nat) : Int)) (p8 : c267_total.toInt ≤ ((n269 : Nat) : Int)) (p9 : 1 ≤ c248_pots.toInt) (p10 : 0 ≤ v1.toInt) (p11 : v1.toInt ≤ 1023) (hr_a268 : dz_pt a268 [4, 2, 1]) (hr_a269 : dz_rg a269 n269 0 1023) (kv : Nat) (hkv : 1000000000000 ≤ kv) : dz_T (s142_X2_breakBar_0 fu c248_pots c261_many c267_total a268 n269 a273 (F142_X2_breakBar fu c248_pots c261_many c267_total a268 n269 a273 kv).1  v1 v2 a269) (fun r => dz_rg r n269 0 1023) := by
  unfold s142_X2_breakBar_0
  have e1 := dz_l1
  have e2 := dz_sub (a := c248_pots) (b := (1 : Int32)) (by omega) (by omega)
  have e3 := dz_l24
  have e4 := dz_mull (a := (c248_pots - (1 : Int32))) (b := (24 : Int32)) 2 (by omega) (by omega) (by omega)
  have e5 := dz_l0
  exact (t142_X2_breakBar_I_g23 fu hfu c248_pots c261_many c267_total a268 n269 a273 p0 p1 p2 p3 p4 p5 p6 p7 p8 p9 hr_a268 kv).1 v1 v2 ((c248_pots - (1 : Int32)) * (24 : Int32)) c261_many (0 : Int32) a269 p11 p10 (by omega) (by omega) p2 p3 (by omega) (by omega) (hr_a269) (by omega) (by omega)
theorem t142_X2_breakBar_g23 (fu : Nat) (hfu : 1000000000000 ≤ fu) (c248_pots : Int32) (c261_many : Int32) (c267_total : Int32) (a268 : Nat → Int32) (n269 : Nat) (a273 : Nat → Int32) (v1 : Int32) (v2 : Int32) (a269 : Nat → Int32) (p0 : c248_pots.toInt ≤ 3) (p1 : 3 ≤ c248_pots.toInt) (p2 : c261_many.toInt ≤ 2) (p3 : 2 ≤ c261_many.toInt) (p4 : c267_total.toInt ≤ 8) (p5 : 8 ≤ c267_total.toInt) (p6 : ((n269 : Nat) : Int) ≤ 13824) (p7 : 1 ≤ ((n269 : Nat) : Int)) (p8 : c267_total.toInt ≤ ((n269 : Nat) : Int)) (p9 : 1 ≤ c248_pots.toInt) (p10 : 0 ≤ v1.toInt) (p11 : v1.toInt ≤ 1023) (hr_a268 : dz_pt a268 [4, 2, 1]) (hr_a269 : dz_rg a269 n269 0 1023) : dz_T (f142_X2_breakBar fu c248_pots c261_many c267_total a268 n269 a273 v1 v2 a269) (fun r => dz_rg r n269 0 1023) :=
  t142_X2_breakBar_E_g23 fu hfu c248_pots c261_many c267_total a268 n269 a273 v1 v2 a269 p0 p1 p2 p3 p4 p5 p6 p7 p8 p9 p10 p11 hr_a268 hr_a269 fu hfu
abbrev p142_X2_breakBar_g24 (fu : Nat) (c248_pots : Int32) (c261_many : Int32) (c267_total : Int32) (a268 : Nat → Int32) (n269 : Nat) (a273 : Nat → Int32) (k : Nat) : Prop :=
  (∀ (v1 : Int32) (v2 : Int32) (v3 : Int32) (v4 : Int32) (v5 : Int32) (a269 : Nat → Int32), v1.toInt ≤ 1023 → 0 ≤ v1.toInt → v3.toInt ≤ 72 → 72 ≤ v3.toInt → v4.toInt ≤ 2 → 2 ≤ v4.toInt → v5.toInt ≤ 17 → 0 ≤ v5.toInt → dz_rg a269 n269 0 1023 → v5.toInt % 2 = 0 → 0 + 0 + (13824 - v5.toInt) * 160 + 8 ≤ ((k : Nat) : Int) → dz_T ((F142_X2_breakBar fu c248_pots c261_many c267_total a268 n269 a273 k).1 v1 v2 v3 v4 v5 a269) (fun r => dz_rg r n269 0 1023)) ∧ (∀ (v1 : Int32) (v2 : Int32) (v3 : Int32) (v4 : Int32) (v5 : Int32) (v6 : Int32) (v7 : Int32) (a269 : Nat → Int32), v1.toInt ≤ 1023 → 0 ≤ v1.toInt → v3.toInt ≤ 72 → 72 ≤ v3.toInt → v4.toInt ≤ 2 → 2 ≤ v4.toInt → v5.toInt ≤ 15 → 0 ≤ v5.toInt → v7.toInt ≤ 2 → (-1) ≤ v7.toInt → dz_rg a269 n269 0 1023 → v5.toInt % 2 = 0 → 0 + 0 + ((13824 - v5.toInt) - 1) * 160 + 64 + (v7.toInt - (-1)) * 16 + 16 ≤ ((k : Nat) : Int) → dz_T ((F142_X2_breakBar fu c248_pots c261_many c267_total a268 n269 a273 k).2.1 v1 v2 v3 v4 v5 v6 v7 a269) (fun r => dz_rg r n269 0 1023)) ∧ (∀ (v1 : Int32) (v2 : Int32) (v3 : Int32) (v4 : Int32) (v5 : Int32) (v6 : Int32) (v7 : Int32) (a269 : Nat → Int32), v1.toInt ≤ 1023 → 0 ≤ v1.toInt → v3.toInt ≤ 72 → 72 ≤ v3.toInt → v4.toInt ≤ 2 → 2 ≤ v4.toInt → v5.toInt ≤ 15 → 0 ≤ v5.toInt → v7.toInt ≤ 2 → 0 ≤ v7.toInt → dz_rg a269 n269 0 1023 → v5.toInt % 2 = 0 → 0 + 0 + ((13824 - v5.toInt) - 1) * 160 + 0 + (2 - v7.toInt) * 16 + 16 ≤ ((k : Nat) : Int) → dz_T ((F142_X2_breakBar fu c248_pots c261_many c267_total a268 n269 a273 k).2.2.1 v1 v2 v3 v4 v5 v6 v7 a269) (fun r => dz_rg r n269 0 1023))
set_option maxHeartbeats 1000000 in
set_option maxRecDepth 10000 in
theorem t142_X2_breakBar_h1_g24 (fu : Nat) (hfu : 1000000000000 ≤ fu) (c248_pots : Int32) (c261_many : Int32) (c267_total : Int32) (a268 : Nat → Int32) (n269 : Nat) (a273 : Nat → Int32) (p0 : c248_pots.toInt ≤ 4) (p1 : 4 ≤ c248_pots.toInt) (p2 : c261_many.toInt ≤ 2) (p3 : 2 ≤ c261_many.toInt) (p4 : c267_total.toInt ≤ 16) (p5 : 16 ≤ c267_total.toInt) (p6 : ((n269 : Nat) : Int) ≤ 13824) (p7 : 1 ≤ ((n269 : Nat) : Int)) (p8 : c267_total.toInt ≤ ((n269 : Nat) : Int)) (p9 : 1 ≤ c248_pots.toInt) (hr_a268 : dz_pt a268 [8, 4, 2, 1]) (k : Nat) (ih : ∀ j9, j9 < k → p142_X2_breakBar_g24 fu c248_pots c261_many c267_total a268 n269 a273 j9) : ∀ (v1 : Int32) (v2 : Int32) (v3 : Int32) (v4 : Int32) (v5 : Int32) (a269 : Nat → Int32), v1.toInt ≤ 1023 → 0 ≤ v1.toInt → v3.toInt ≤ 72 → 72 ≤ v3.toInt → v4.toInt ≤ 2 → 2 ≤ v4.toInt → v5.toInt ≤ 17 → 0 ≤ v5.toInt → dz_rg a269 n269 0 1023 → v5.toInt % 2 = 0 → 0 + 0 + (13824 - v5.toInt) * 160 + 8 ≤ ((k : Nat) : Int) → dz_T ((F142_X2_breakBar fu c248_pots c261_many c267_total a268 n269 a273 k).1 v1 v2 v3 v4 v5 a269) (fun r => dz_rg r n269 0 1023) := by
  intro v1 v2 v3 v4 v5 a269 i0 i1 i2 i3 i4 i5 i6 i7 hr_a269 x0 hm
  obtain ⟨k0, rfl⟩ : ∃ x, k = x + 1 := ⟨k - 1, by omega⟩
  show dz_T (s142_X2_breakBar_1 fu c248_pots c261_many c267_total a268 n269 a273 (F142_X2_breakBar fu c248_pots c261_many c267_total a268 n269 a273 k0).2.1  v1 v2 v3 v4 v5 a269) _
  unfold s142_X2_breakBar_1
  refine dz_Tle (fun h1 => ?_) (fun h1 => ?_)
  · skip
    exact dz_Ts (hr_a269)
  · skip
    have e2 := dz_l0
    refine dz_Tle (fun h3 => ?_) (fun h3 => ?_)
    · skip
      exfalso; omega
    · skip
      have e4 := dz_l2
      have e5 := dz_sub (a := c248_pots) (b := (2 : Int32)) (by omega) (by omega)
      exact (ih k0 (by omega)).2.1 v1 v2 v3 v4 v5 v2 (c248_pots - (2 : Int32)) a269 i0 i1 i2 i3 i4 i5 (by first | assumption | omega) i7 (by omega) (by omega) (hr_a269) (by omega) (by omega)
set_option maxHeartbeats 1000000 in
set_option maxRecDepth 10000 in
theorem t142_X2_breakBar_h2_g24 (fu : Nat) (hfu : 1000000000000 ≤ fu) (c248_pots : Int32) (c261_many : Int32) (c267_total : Int32) (a268 : Nat → Int32) (n269 : Nat) (a273 : Nat → Int32) (p0 : c248_pots.toInt ≤ 4) (p1 : 4 ≤ c248_pots.toInt) (p2 : c261_many.toInt ≤ 2) (p3 : 2 ≤ c261_many.toInt) (p4 : c267_total.toInt ≤ 16) (p5 : 16 ≤ c267_total.toInt) (p6 : ((n269 : Nat) : Int) ≤ 13824) (p7 : 1 ≤ ((n269 : Nat) : Int)) (p8 : c267_total.toInt ≤ ((n269 : Nat) : Int)) (p9 : 1 ≤ c248_pots.toInt) (hr_a268 : dz_pt a268 [8, 4, 2, 1]) (k : Nat) (ih : ∀ j9, j9 < k → p142_X2_breakBar_g24 fu c248_pots c261_many c267_total a268 n269 a273 j9) : ∀ (v1 : Int32) (v2 : Int32) (v3 : Int32) (v4 : Int32) (v5 : Int32) (v6 : Int32) (v7 : Int32) (a269 : Nat → Int32), v1.toInt ≤ 1023 → 0 ≤ v1.toInt → v3.toInt ≤ 72 → 72 ≤ v3.toInt → v4.toInt ≤ 2 → 2 ≤ v4.toInt → v5.toInt ≤ 15 → 0 ≤ v5.toInt → v7.toInt ≤ 2 → (-1) ≤ v7.toInt → dz_rg a269 n269 0 1023 → v5.toInt % 2 = 0 → 0 + 0 + ((13824 - v5.toInt) - 1) * 160 + 64 + (v7.toInt - (-1)) * 16 + 16 ≤ ((k : Nat) : Int) → dz_T ((F142_X2_breakBar fu c248_pots c261_many c267_total a268 n269 a273 k).2.1 v1 v2 v3 v4 v5 v6 v7 a269) (fun r => dz_rg r n269 0 1023) := by
  intro v1 v2 v3 v4 v5 v6 v7 a269 i0 i1 i2 i3 i4 i5 i6 i7 i8 i9 hr_a269 x0 hm
  obtain ⟨k0, rfl⟩ : ∃ x, k = x + 1 := ⟨k - 1, by omega⟩
  show dz_T (s142_X2_breakBar_2 fu c248_pots c261_many c267_total a268 n269 a273 (F142_X2_breakBar fu c248_pots c261_many c267_total a268 n269 a273 k0).2.1 (F142_X2_breakBar fu c248_pots c261_many c267_total a268 n269 a273 k0).2.2.1  v1 v2 v3 v4 v5 v6 v7 a269) _
  unfold s142_X2_breakBar_2
  have e1 := dz_l0
  refine dz_Tlt (fun h2 => ?_) (fun h2 => ?_)
  · skip
    exact (ih k0 (by omega)).2.2 v1 v2 v3 v4 v5 v6 (0 : Int32) a269 i0 i1 i2 i3 i4 i5 i6 i7 (by omega) (by omega) (hr_a269) (by omega) (by omega)
  · skip
    refine dz_Tbe (show f141_X2_rankIn fu c261_many a268 v5 v7 = (if dz_in v7 4 then (if ((a268 v7.toNatClampNeg) ≤ (0 : Int32)) then (some (0 : Int32)) else (if (c261_many ≤ (0 : Int32)) then (some (0 : Int32)) else (if (¬ ((a268 v7.toNatClampNeg) = (0 : Int32))) then (if (¬ (c261_many = (0 : Int32))) then (some (dz_rem (v5 / (a268 v7.toNatClampNeg)) c261_many)) else none) else none))) else none) from rfl) ?_
    refine dz_Tinb (by omega) (by omega) ?_
    have e3 := dz_ptrg (hr_a268) (i := v7) 1 8 (by decide) (by omega) (by show _ < ((4 : Nat) : Int); omega)
    refine dz_Tleb (fun h4 => ?_) (fun h4 => ?_)
    · skip
      exfalso; omega
    · skip
      refine dz_Tleb (fun h5 => ?_) (fun h5 => ?_)
      · skip
        exfalso; omega
      · skip
        refine dz_Tzb (by omega) ?_
        refine dz_Tzb (by omega) ?_
        refine dz_Tsb ?_
        have e6 := dz_l24
        have e7 := dz_mulr (a := v7) (b := (24 : Int32)) 24 (by omega) (by omega) (by omega)
        have e8 := dz_divq (a := v5) (b := (a268 v7.toNatClampNeg)) 1 15 (by omega) (by omega) (by omega) (by omega)
        have e9 := dz_remn (a := (v5 / (a268 v7.toNatClampNeg))) (b := c261_many) 2 (by omega) (by omega) (by omega)
        have e10 := dz_add (a := (v7 * (24 : Int32))) (b := (dz_rem (v5 / (a268 v7.toNatClampNeg)) c261_many)) (by omega) (by omega)
        refine dz_Tin (by omega) (by omega) ?_
        have e11 := dz_rng v6
        have e12 := dz_rng (a273 ((v7 * (24 : Int32)) + (dz_rem (v5 / (a268 v7.toNatClampNeg)) c261_many)).toNatClampNeg)
        have e13 := dz_lm1
        have e14 := dz_add (a := v7) (b := (-(1 : Int32))) (by omega) (by omega)
        generalize (v7 + (-(1 : Int32))) = z1 at *
        exact (ih k0 (by omega)).2.1 v1 v2 v3 v4 v5 (v6 + (a273 ((v7 * (24 : Int32)) + (dz_rem (v5 / (a268 v7.toNatClampNeg)) c261_many)).toNatClampNeg)) z1 a269 i0 i1 i2 i3 i4 i5 i6 i7 (by omega) (by omega) (hr_a269) (by omega) (by omega)
set_option maxHeartbeats 1000000 in
set_option maxRecDepth 10000 in
theorem t142_X2_breakBar_h3_g24 (fu : Nat) (hfu : 1000000000000 ≤ fu) (c248_pots : Int32) (c261_many : Int32) (c267_total : Int32) (a268 : Nat → Int32) (n269 : Nat) (a273 : Nat → Int32) (p0 : c248_pots.toInt ≤ 4) (p1 : 4 ≤ c248_pots.toInt) (p2 : c261_many.toInt ≤ 2) (p3 : 2 ≤ c261_many.toInt) (p4 : c267_total.toInt ≤ 16) (p5 : 16 ≤ c267_total.toInt) (p6 : ((n269 : Nat) : Int) ≤ 13824) (p7 : 1 ≤ ((n269 : Nat) : Int)) (p8 : c267_total.toInt ≤ ((n269 : Nat) : Int)) (p9 : 1 ≤ c248_pots.toInt) (hr_a268 : dz_pt a268 [8, 4, 2, 1]) (k : Nat) (ih : ∀ j9, j9 < k → p142_X2_breakBar_g24 fu c248_pots c261_many c267_total a268 n269 a273 j9) : ∀ (v1 : Int32) (v2 : Int32) (v3 : Int32) (v4 : Int32) (v5 : Int32) (v6 : Int32) (v7 : Int32) (a269 : Nat → Int32), v1.toInt ≤ 1023 → 0 ≤ v1.toInt → v3.toInt ≤ 72 → 72 ≤ v3.toInt → v4.toInt ≤ 2 → 2 ≤ v4.toInt → v5.toInt ≤ 15 → 0 ≤ v5.toInt → v7.toInt ≤ 2 → 0 ≤ v7.toInt → dz_rg a269 n269 0 1023 → v5.toInt % 2 = 0 → 0 + 0 + ((13824 - v5.toInt) - 1) * 160 + 0 + (2 - v7.toInt) * 16 + 16 ≤ ((k : Nat) : Int) → dz_T ((F142_X2_breakBar fu c248_pots c261_many c267_total a268 n269 a273 k).2.2.1 v1 v2 v3 v4 v5 v6 v7 a269) (fun r => dz_rg r n269 0 1023) := by
  intro v1 v2 v3 v4 v5 v6 v7 a269 i0 i1 i2 i3 i4 i5 i6 i7 i8 i9 hr_a269 x0 hm
  obtain ⟨k0, rfl⟩ : ∃ x, k = x + 1 := ⟨k - 1, by omega⟩
  show dz_T (s142_X2_breakBar_3 fu c248_pots c261_many c267_total a268 n269 a273 (F142_X2_breakBar fu c248_pots c261_many c267_total a268 n269 a273 k0).1 (F142_X2_breakBar fu c248_pots c261_many c267_total a268 n269 a273 k0).2.2.2  v1 v2 v3 v4 v5 v6 v7 a269) _
  unfold s142_X2_breakBar_3
  refine dz_Tle (fun h1 => ?_) (fun h1 => ?_)
  · skip
    have e2 := dz_add (a := v5) (b := v4) (by omega) (by omega)
    exact (ih k0 (by omega)).1 v1 v2 v3 v4 (v5 + v4) a269 i0 i1 i2 i3 i4 i5 (by omega) (by omega) (hr_a269) (by omega) (by omega)
  · skip
    have e3 := dz_add (a := v3) (b := v7) (by omega) (by omega)
    refine dz_Tin (by omega) (by omega) ?_
    have e4 := dz_rng v6
    have e5 := dz_rng (a273 (v3 + v7).toNatClampNeg)
    have e6 := dz_l34952
    have e7 := dz_andr (a := (v6 + (a273 (v3 + v7).toNatClampNeg))) (b := (34952 : Int32)) (by omega)
    have e8 := dz_l0
    refine dz_Teq (fun h9 => ?_) (fun h9 => ?_)
    · skip
      obtain ⟨k1, rfl⟩ : ∃ x, k0 = x + 1 := ⟨k0 - 1, by omega⟩
      show dz_T (s142_X2_breakBar_4 fu c248_pots c261_many c267_total a268 n269 a273 (F142_X2_breakBar fu c248_pots c261_many c267_total a268 n269 a273 k1).2.2.1 v1 v2 v3 v4 v5 v6 v7 a269) _
      unfold s142_X2_breakBar_4
      have e10 := dz_l1
      have e11 := dz_add (a := v7) (b := (1 : Int32)) (by omega) (by omega)
      exact (ih k1 (by omega)).2.2 v1 v2 v3 v4 v5 v6 (v7 + (1 : Int32)) a269 i0 i1 i2 i3 i4 i5 i6 i7 (by omega) (by omega) (hr_a269) (by omega) (by omega)
    · skip
      have e12 := dz_add (a := v5) (b := v7) (by omega) (by omega)
      refine dz_Tin (by omega) (by omega) ?_
      refine dz_Tin (by omega) (by omega) ?_
      obtain ⟨k2, rfl⟩ : ∃ x, k0 = x + 1 := ⟨k0 - 1, by omega⟩
      show dz_T (s142_X2_breakBar_4 fu c248_pots c261_many c267_total a268 n269 a273 (F142_X2_breakBar fu c248_pots c261_many c267_total a268 n269 a273 k2).2.2.1 v1 v2 v3 v4 v5 v6 v7 (upd a269 (v5 + v7).toNatClampNeg ((a269 (v5 + v7).toNatClampNeg) ||| v1))) _
      unfold s142_X2_breakBar_4
      have e13 := dz_l1
      have e14 := dz_add (a := v7) (b := (1 : Int32)) (by omega) (by omega)
      have e15 := dz_rgat (hr_a269) (i := (v5 + v7)) (by omega) (by omega)
      have e16 := dz_orb (a := (a269 (v5 + v7).toNatClampNeg)) (b := v1) 10 (by omega) (by omega) (by omega) (by omega) (by omega)
      exact (ih k2 (by omega)).2.2 v1 v2 v3 v4 v5 v6 (v7 + (1 : Int32)) (upd a269 (v5 + v7).toNatClampNeg ((a269 (v5 + v7).toNatClampNeg) ||| v1)) i0 i1 i2 i3 i4 i5 i6 i7 (by omega) (by omega) (dz_rgu (hr_a269) (by omega) (by omega)) (by omega) (by omega)
theorem t142_X2_breakBar_I_g24 (fu : Nat) (hfu : 1000000000000 ≤ fu) (c248_pots : Int32) (c261_many : Int32) (c267_total : Int32) (a268 : Nat → Int32) (n269 : Nat) (a273 : Nat → Int32) (p0 : c248_pots.toInt ≤ 4) (p1 : 4 ≤ c248_pots.toInt) (p2 : c261_many.toInt ≤ 2) (p3 : 2 ≤ c261_many.toInt) (p4 : c267_total.toInt ≤ 16) (p5 : 16 ≤ c267_total.toInt) (p6 : ((n269 : Nat) : Int) ≤ 13824) (p7 : 1 ≤ ((n269 : Nat) : Int)) (p8 : c267_total.toInt ≤ ((n269 : Nat) : Int)) (p9 : 1 ≤ c248_pots.toInt) (hr_a268 : dz_pt a268 [8, 4, 2, 1]) (k : Nat) : p142_X2_breakBar_g24 fu c248_pots c261_many c267_total a268 n269 a273 k := by
  induction k using Nat.strongRecOn with
  | _ k ih => exact ⟨t142_X2_breakBar_h1_g24 fu hfu c248_pots c261_many c267_total a268 n269 a273 p0 p1 p2 p3 p4 p5 p6 p7 p8 p9 hr_a268 k ih, t142_X2_breakBar_h2_g24 fu hfu c248_pots c261_many c267_total a268 n269 a273 p0 p1 p2 p3 p4 p5 p6 p7 p8 p9 hr_a268 k ih, t142_X2_breakBar_h3_g24 fu hfu c248_pots c261_many c267_total a268 n269 a273 p0 p1 p2 p3 p4 p5 p6 p7 p8 p9 hr_a268 k ih⟩
set_option maxHeartbeats 1000000 in
set_option maxRecDepth 10000 in
theorem t142_X2_breakBar_E_g24 (fu : Nat) (hfu : 1000000000000 ≤ fu) (c248_pots : Int32) (c261_many : Int32) (c267_total : Int32) (a268 : Nat → Int32) (n269 : Nat) (a273 : Nat → Int32) (v1 : Int32) (v2 : Int32) (a269 : Nat → Int32) (p0 : c248_pots.toInt ≤ 4) (p1 : 4 ≤ c248_pots.toInt) (p2 : c261_many.toInt ≤ 2) (p3 : 2 ≤ c261_many.toInt) (p4 : c267_total.toInt ≤ 16) (p5 : 16 ≤ c267_total.toInt) (p6 : ((n269 : Nat) : Int) ≤ 13824) (p7 : 1 ≤ ((n269 : Nat) : Int)) (p8 : c267_total.toInt ≤ ((n269 : Nat) : Int)) (p9 : 1 ≤ c248_pots.toInt) (p10 : 0 ≤ v1.toInt) (p11 : v1.toInt ≤ 1023) (hr_a268 : dz_pt a268 [8, 4, 2, 1]) (hr_a269 : dz_rg a269 n269 0 1023) (kv : Nat) (hkv : 1000000000000 ≤ kv) : dz_T (s142_X2_breakBar_0 fu c248_pots c261_many c267_total a268 n269 a273 (F142_X2_breakBar fu c248_pots c261_many c267_total a268 n269 a273 kv).1  v1 v2 a269) (fun r => dz_rg r n269 0 1023) := by
  unfold s142_X2_breakBar_0
  have e1 := dz_l1
  have e2 := dz_sub (a := c248_pots) (b := (1 : Int32)) (by omega) (by omega)
  have e3 := dz_l24
  have e4 := dz_mull (a := (c248_pots - (1 : Int32))) (b := (24 : Int32)) 3 (by omega) (by omega) (by omega)
  have e5 := dz_l0
  exact (t142_X2_breakBar_I_g24 fu hfu c248_pots c261_many c267_total a268 n269 a273 p0 p1 p2 p3 p4 p5 p6 p7 p8 p9 hr_a268 kv).1 v1 v2 ((c248_pots - (1 : Int32)) * (24 : Int32)) c261_many (0 : Int32) a269 p11 p10 (by omega) (by omega) p2 p3 (by omega) (by omega) (hr_a269) (by omega) (by omega)
theorem t142_X2_breakBar_g24 (fu : Nat) (hfu : 1000000000000 ≤ fu) (c248_pots : Int32) (c261_many : Int32) (c267_total : Int32) (a268 : Nat → Int32) (n269 : Nat) (a273 : Nat → Int32) (v1 : Int32) (v2 : Int32) (a269 : Nat → Int32) (p0 : c248_pots.toInt ≤ 4) (p1 : 4 ≤ c248_pots.toInt) (p2 : c261_many.toInt ≤ 2) (p3 : 2 ≤ c261_many.toInt) (p4 : c267_total.toInt ≤ 16) (p5 : 16 ≤ c267_total.toInt) (p6 : ((n269 : Nat) : Int) ≤ 13824) (p7 : 1 ≤ ((n269 : Nat) : Int)) (p8 : c267_total.toInt ≤ ((n269 : Nat) : Int)) (p9 : 1 ≤ c248_pots.toInt) (p10 : 0 ≤ v1.toInt) (p11 : v1.toInt ≤ 1023) (hr_a268 : dz_pt a268 [8, 4, 2, 1]) (hr_a269 : dz_rg a269 n269 0 1023) : dz_T (f142_X2_breakBar fu c248_pots c261_many c267_total a268 n269 a273 v1 v2 a269) (fun r => dz_rg r n269 0 1023) :=
  t142_X2_breakBar_E_g24 fu hfu c248_pots c261_many c267_total a268 n269 a273 v1 v2 a269 p0 p1 p2 p3 p4 p5 p6 p7 p8 p9 p10 p11 hr_a268 hr_a269 fu hfu
abbrev p142_X2_breakBar_g31 (fu : Nat) (c248_pots : Int32) (c261_many : Int32) (c267_total : Int32) (a268 : Nat → Int32) (n269 : Nat) (a273 : Nat → Int32) (k : Nat) : Prop :=
  (∀ (v1 : Int32) (v2 : Int32) (v3 : Int32) (v4 : Int32) (v5 : Int32) (a269 : Nat → Int32), v1.toInt ≤ 1023 → 0 ≤ v1.toInt → v3.toInt ≤ 0 → 0 ≤ v3.toInt → v4.toInt ≤ 6 → 6 ≤ v4.toInt → v5.toInt ≤ 11 → 0 ≤ v5.toInt → dz_rg a269 n269 0 1023 → v5.toInt % 6 = 0 → 0 + 0 + (13824 - v5.toInt) * 176 + 8 ≤ ((k : Nat) : Int) → dz_T ((F142_X2_breakBar fu c248_pots c261_many c267_total a268 n269 a273 k).1 v1 v2 v3 v4 v5 a269) (fun r => dz_rg r n269 0 1023)) ∧ (∀ (v1 : Int32) (v2 : Int32) (v3 : Int32) (v4 : Int32) (v5 : Int32) (v6 : Int32) (v7 : Int32) (a269 : Nat → Int32), v1.toInt ≤ 1023 → 0 ≤ v1.toInt → v3.toInt ≤ 0 → 0 ≤ v3.toInt → v4.toInt ≤ 6 → 6 ≤ v4.toInt → v5.toInt ≤ 5 → 0 ≤ v5.toInt → v7.toInt ≤ (-1) → (-1) ≤ v7.toInt → v2.toInt ≤ v6.toInt → v6.toInt ≤ v2.toInt → dz_rg a269 n269 0 1023 → v5.toInt % 6 = 0 → 0 + 0 + ((13824 - v5.toInt) - 1) * 176 + 128 + (v7.toInt - (-1)) * 16 + 16 ≤ ((k : Nat) : Int) → dz_T ((F142_X2_breakBar fu c248_pots c261_many c267_total a268 n269 a273 k).2.1 v1 v2 v3 v4 v5 v6 v7 a269) (fun r => dz_rg r n269 0 1023)) ∧ (∀ (v1 : Int32) (v2 : Int32) (v3 : Int32) (v4 : Int32) (v5 : Int32) (v6 : Int32) (v7 : Int32) (a269 : Nat → Int32), v1.toInt ≤ 1023 → 0 ≤ v1.toInt → v3.toInt ≤ 0 → 0 ≤ v3.toInt → v4.toInt ≤ 6 → 6 ≤ v4.toInt → v5.toInt ≤ 5 → 0 ≤ v5.toInt → v7.toInt ≤ 6 → 0 ≤ v7.toInt → v2.toInt ≤ v6.toInt → v6.toInt ≤ v2.toInt → dz_rg a269 n269 0 1023 → v5.toInt % 6 = 0 → 0 + 0 + ((13824 - v5.toInt) - 1) * 176 + 0 + (6 - v7.toInt) * 16 + 16 ≤ ((k : Nat) : Int) → dz_T ((F142_X2_breakBar fu c248_pots c261_many c267_total a268 n269 a273 k).2.2.1 v1 v2 v3 v4 v5 v6 v7 a269) (fun r => dz_rg r n269 0 1023))
set_option maxHeartbeats 1000000 in
set_option maxRecDepth 10000 in
theorem t142_X2_breakBar_h1_g31 (fu : Nat) (hfu : 1000000000000 ≤ fu) (c248_pots : Int32) (c261_many : Int32) (c267_total : Int32) (a268 : Nat → Int32) (n269 : Nat) (a273 : Nat → Int32) (p0 : c248_pots.toInt ≤ 1) (p1 : 1 ≤ c248_pots.toInt) (p2 : c261_many.toInt ≤ 6) (p3 : 6 ≤ c261_many.toInt) (p4 : c267_total.toInt ≤ 6) (p5 : 6 ≤ c267_total.toInt) (p6 : ((n269 : Nat) : Int) ≤ 13824) (p7 : 1 ≤ ((n269 : Nat) : Int)) (p8 : c267_total.toInt ≤ ((n269 : Nat) : Int)) (p9 : 1 ≤ c248_pots.toInt) (hr_a268 : dz_pt a268 [1]) (k : Nat) (ih : ∀ j9, j9 < k → p142_X2_breakBar_g31 fu c248_pots c261_many c267_total a268 n269 a273 j9) : ∀ (v1 : Int32) (v2 : Int32) (v3 : Int32) (v4 : Int32) (v5 : Int32) (a269 : Nat → Int32), v1.toInt ≤ 1023 → 0 ≤ v1.toInt → v3.toInt ≤ 0 → 0 ≤ v3.toInt → v4.toInt ≤ 6 → 6 ≤ v4.toInt → v5.toInt ≤ 11 → 0 ≤ v5.toInt → dz_rg a269 n269 0 1023 → v5.toInt % 6 = 0 → 0 + 0 + (13824 - v5.toInt) * 176 + 8 ≤ ((k : Nat) : Int) → dz_T ((F142_X2_breakBar fu c248_pots c261_many c267_total a268 n269 a273 k).1 v1 v2 v3 v4 v5 a269) (fun r => dz_rg r n269 0 1023) := by
  intro v1 v2 v3 v4 v5 a269 i0 i1 i2 i3 i4 i5 i6 i7 hr_a269 x0 hm
  obtain ⟨k0, rfl⟩ : ∃ x, k = x + 1 := ⟨k - 1, by omega⟩
  show dz_T (s142_X2_breakBar_1 fu c248_pots c261_many c267_total a268 n269 a273 (F142_X2_breakBar fu c248_pots c261_many c267_total a268 n269 a273 k0).2.1  v1 v2 v3 v4 v5 a269) _
  unfold s142_X2_breakBar_1
  refine dz_Tle (fun h1 => ?_) (fun h1 => ?_)
  · skip
    exact dz_Ts (hr_a269)
  · skip
    have e2 := dz_l0
    refine dz_Tle (fun h3 => ?_) (fun h3 => ?_)
    · skip
      exfalso; omega
    · skip
      have e4 := dz_l2
      have e5 := dz_sub (a := c248_pots) (b := (2 : Int32)) (by omega) (by omega)
      exact (ih k0 (by omega)).2.1 v1 v2 v3 v4 v5 v2 (c248_pots - (2 : Int32)) a269 i0 i1 i2 i3 i4 i5 (by first | assumption | omega) i7 (by omega) (by omega) (by first | assumption | omega) (by first | assumption | omega) (hr_a269) (by omega) (by omega)
set_option maxHeartbeats 1000000 in
set_option maxRecDepth 10000 in
theorem t142_X2_breakBar_h2_g31 (fu : Nat) (hfu : 1000000000000 ≤ fu) (c248_pots : Int32) (c261_many : Int32) (c267_total : Int32) (a268 : Nat → Int32) (n269 : Nat) (a273 : Nat → Int32) (p0 : c248_pots.toInt ≤ 1) (p1 : 1 ≤ c248_pots.toInt) (p2 : c261_many.toInt ≤ 6) (p3 : 6 ≤ c261_many.toInt) (p4 : c267_total.toInt ≤ 6) (p5 : 6 ≤ c267_total.toInt) (p6 : ((n269 : Nat) : Int) ≤ 13824) (p7 : 1 ≤ ((n269 : Nat) : Int)) (p8 : c267_total.toInt ≤ ((n269 : Nat) : Int)) (p9 : 1 ≤ c248_pots.toInt) (hr_a268 : dz_pt a268 [1]) (k : Nat) (ih : ∀ j9, j9 < k → p142_X2_breakBar_g31 fu c248_pots c261_many c267_total a268 n269 a273 j9) : ∀ (v1 : Int32) (v2 : Int32) (v3 : Int32) (v4 : Int32) (v5 : Int32) (v6 : Int32) (v7 : Int32) (a269 : Nat → Int32), v1.toInt ≤ 1023 → 0 ≤ v1.toInt → v3.toInt ≤ 0 → 0 ≤ v3.toInt → v4.toInt ≤ 6 → 6 ≤ v4.toInt → v5.toInt ≤ 5 → 0 ≤ v5.toInt → v7.toInt ≤ (-1) → (-1) ≤ v7.toInt → v2.toInt ≤ v6.toInt → v6.toInt ≤ v2.toInt → dz_rg a269 n269 0 1023 → v5.toInt % 6 = 0 → 0 + 0 + ((13824 - v5.toInt) - 1) * 176 + 128 + (v7.toInt - (-1)) * 16 + 16 ≤ ((k : Nat) : Int) → dz_T ((F142_X2_breakBar fu c248_pots c261_many c267_total a268 n269 a273 k).2.1 v1 v2 v3 v4 v5 v6 v7 a269) (fun r => dz_rg r n269 0 1023) := by
  intro v1 v2 v3 v4 v5 v6 v7 a269 i0 i1 i2 i3 i4 i5 i6 i7 i8 i9 i10 i11 hr_a269 x0 hm
  obtain ⟨k0, rfl⟩ : ∃ x, k = x + 1 := ⟨k - 1, by omega⟩
  show dz_T (s142_X2_breakBar_2 fu c248_pots c261_many c267_total a268 n269 a273 (F142_X2_breakBar fu c248_pots c261_many c267_total a268 n269 a273 k0).2.1 (F142_X2_breakBar fu c248_pots c261_many c267_total a268 n269 a273 k0).2.2.1  v1 v2 v3 v4 v5 v6 v7 a269) _
  unfold s142_X2_breakBar_2
  have e1 := dz_l0
  refine dz_Tlt (fun h2 => ?_) (fun h2 => ?_)
  · skip
    exact (ih k0 (by omega)).2.2 v1 v2 v3 v4 v5 v6 (0 : Int32) a269 i0 i1 i2 i3 i4 i5 i6 i7 (by omega) (by omega) i10 i11 (hr_a269) (by omega) (by omega)
  · skip
    exfalso; omega
set_option maxHeartbeats 1000000 in
set_option maxRecDepth 10000 in
theorem t142_X2_breakBar_h3_g31 (fu : Nat) (hfu : 1000000000000 ≤ fu) (c248_pots : Int32) (c261_many : Int32) (c267_total : Int32) (a268 : Nat → Int32) (n269 : Nat) (a273 : Nat → Int32) (p0 : c248_pots.toInt ≤ 1) (p1 : 1 ≤ c248_pots.toInt) (p2 : c261_many.toInt ≤ 6) (p3 : 6 ≤ c261_many.toInt) (p4 : c267_total.toInt ≤ 6) (p5 : 6 ≤ c267_total.toInt) (p6 : ((n269 : Nat) : Int) ≤ 13824) (p7 : 1 ≤ ((n269 : Nat) : Int)) (p8 : c267_total.toInt ≤ ((n269 : Nat) : Int)) (p9 : 1 ≤ c248_pots.toInt) (hr_a268 : dz_pt a268 [1]) (k : Nat) (ih : ∀ j9, j9 < k → p142_X2_breakBar_g31 fu c248_pots c261_many c267_total a268 n269 a273 j9) : ∀ (v1 : Int32) (v2 : Int32) (v3 : Int32) (v4 : Int32) (v5 : Int32) (v6 : Int32) (v7 : Int32) (a269 : Nat → Int32), v1.toInt ≤ 1023 → 0 ≤ v1.toInt → v3.toInt ≤ 0 → 0 ≤ v3.toInt → v4.toInt ≤ 6 → 6 ≤ v4.toInt → v5.toInt ≤ 5 → 0 ≤ v5.toInt → v7.toInt ≤ 6 → 0 ≤ v7.toInt → v2.toInt ≤ v6.toInt → v6.toInt ≤ v2.toInt → dz_rg a269 n269 0 1023 → v5.toInt % 6 = 0 → 0 + 0 + ((13824 - v5.toInt) - 1) * 176 + 0 + (6 - v7.toInt) * 16 + 16 ≤ ((k : Nat) : Int) → dz_T ((F142_X2_breakBar fu c248_pots c261_many c267_total a268 n269 a273 k).2.2.1 v1 v2 v3 v4 v5 v6 v7 a269) (fun r => dz_rg r n269 0 1023) := by
  intro v1 v2 v3 v4 v5 v6 v7 a269 i0 i1 i2 i3 i4 i5 i6 i7 i8 i9 i10 i11 hr_a269 x0 hm
  obtain ⟨k0, rfl⟩ : ∃ x, k = x + 1 := ⟨k - 1, by omega⟩
  show dz_T (s142_X2_breakBar_3 fu c248_pots c261_many c267_total a268 n269 a273 (F142_X2_breakBar fu c248_pots c261_many c267_total a268 n269 a273 k0).1 (F142_X2_breakBar fu c248_pots c261_many c267_total a268 n269 a273 k0).2.2.2  v1 v2 v3 v4 v5 v6 v7 a269) _
  unfold s142_X2_breakBar_3
  refine dz_Tle (fun h1 => ?_) (fun h1 => ?_)
  · skip
    have e2 := dz_add (a := v5) (b := v4) (by omega) (by omega)
    exact (ih k0 (by omega)).1 v1 v2 v3 v4 (v5 + v4) a269 i0 i1 i2 i3 i4 i5 (by omega) (by omega) (hr_a269) (by omega) (by omega)
  · skip
    have e3 := dz_add (a := v3) (b := v7) (by omega) (by omega)
    refine dz_Tin (by omega) (by omega) ?_
    have e4 := dz_rng v6
    have e5 := dz_rng (a273 (v3 + v7).toNatClampNeg)
    have e6 := dz_l34952
    have e7 := dz_andr (a := (v6 + (a273 (v3 + v7).toNatClampNeg))) (b := (34952 : Int32)) (by omega)
    have e8 := dz_l0
    refine dz_Teq (fun h9 => ?_) (fun h9 => ?_)
    · skip
      obtain ⟨k1, rfl⟩ : ∃ x, k0 = x + 1 := ⟨k0 - 1, by omega⟩
      show dz_T (s142_X2_breakBar_4 fu c248_pots c261_many c267_total a268 n269 a273 (F142_X2_breakBar fu c248_pots c261_many c267_total a268 n269 a273 k1).2.2.1 v1 v2 v3 v4 v5 v6 v7 a269) _
      unfold s142_X2_breakBar_4
      have e10 := dz_l1
      have e11 := dz_add (a := v7) (b := (1 : Int32)) (by omega) (by omega)
      exact (ih k1 (by omega)).2.2 v1 v2 v3 v4 v5 v6 (v7 + (1 : Int32)) a269 i0 i1 i2 i3 i4 i5 i6 i7 (by omega) (by omega) i10 i11 (hr_a269) (by omega) (by omega)
    · skip
      have e12 := dz_add (a := v5) (b := v7) (by omega) (by omega)
      refine dz_Tin (by omega) (by omega) ?_
      refine dz_Tin (by omega) (by omega) ?_
      obtain ⟨k2, rfl⟩ : ∃ x, k0 = x + 1 := ⟨k0 - 1, by omega⟩
      show dz_T (s142_X2_breakBar_4 fu c248_pots c261_many c267_total a268 n269 a273 (F142_X2_breakBar fu c248_pots c261_many c267_total a268 n269 a273 k2).2.2.1 v1 v2 v3 v4 v5 v6 v7 (upd a269 (v5 + v7).toNatClampNeg ((a269 (v5 + v7).toNatClampNeg) ||| v1))) _
      unfold s142_X2_breakBar_4
      have e13 := dz_l1
      have e14 := dz_add (a := v7) (b := (1 : Int32)) (by omega) (by omega)
      have e15 := dz_rgat (hr_a269) (i := (v5 + v7)) (by omega) (by omega)
      have e16 := dz_orb (a := (a269 (v5 + v7).toNatClampNeg)) (b := v1) 10 (by omega) (by omega) (by omega) (by omega) (by omega)
      exact (ih k2 (by omega)).2.2 v1 v2 v3 v4 v5 v6 (v7 + (1 : Int32)) (upd a269 (v5 + v7).toNatClampNeg ((a269 (v5 + v7).toNatClampNeg) ||| v1)) i0 i1 i2 i3 i4 i5 i6 i7 (by omega) (by omega) i10 i11 (dz_rgu (hr_a269) (by omega) (by omega)) (by omega) (by omega)
theorem t142_X2_breakBar_I_g31 (fu : Nat) (hfu : 1000000000000 ≤ fu) (c248_pots : Int32) (c261_many : Int32) (c267_total : Int32) (a268 : Nat → Int32) (n269 : Nat) (a273 : Nat → Int32) (p0 : c248_pots.toInt ≤ 1) (p1 : 1 ≤ c248_pots.toInt) (p2 : c261_many.toInt ≤ 6) (p3 : 6 ≤ c261_many.toInt) (p4 : c267_total.toInt ≤ 6) (p5 : 6 ≤ c267_total.toInt) (p6 : ((n269 : Nat) : Int) ≤ 13824) (p7 : 1 ≤ ((n269 : Nat) : Int)) (p8 : c267_total.toInt ≤ ((n269 : Nat) : Int)) (p9 : 1 ≤ c248_pots.toInt) (hr_a268 : dz_pt a268 [1]) (k : Nat) : p142_X2_breakBar_g31 fu c248_pots c261_many c267_total a268 n269 a273 k := by
  induction k using Nat.strongRecOn with
  | _ k ih => exact ⟨t142_X2_breakBar_h1_g31 fu hfu c248_pots c261_many c267_total a268 n269 a273 p0 p1 p2 p3 p4 p5 p6 p7 p8 p9 hr_a268 k ih, t142_X2_breakBar_h2_g31 fu hfu c248_pots c261_many c267_total a268 n269 a273 p0 p1 p2 p3 p4 p5 p6 p7 p8 p9 hr_a268 k ih, t142_X2_breakBar_h3_g31 fu hfu c248_pots c261_many c267_total a268 n269 a273 p0 p1 p2 p3 p4 p5 p6 p7 p8 p9 hr_a268 k ih⟩
set_option maxHeartbeats 1000000 in
set_option maxRecDepth 10000 in
theorem t142_X2_breakBar_E_g31 (fu : Nat) (hfu : 1000000000000 ≤ fu) (c248_pots : Int32) (c261_many : Int32) (c267_total : Int32) (a268 : Nat → Int32) (n269 : Nat) (a273 : Nat → Int32) (v1 : Int32) (v2 : Int32) (a269 : Nat → Int32) (p0 : c248_pots.toInt ≤ 1) (p1 : 1 ≤ c248_pots.toInt) (p2 : c261_many.toInt ≤ 6) (p3 : 6 ≤ c261_many.toInt) (p4 : c267_total.toInt ≤ 6) (p5 : 6 ≤ c267_total.toInt) (p6 : ((n269 : Nat) : Int) ≤ 13824) (p7 : 1 ≤ ((n269 : Nat) : Int)) (p8 : c267_total.toInt ≤ ((n269 : Nat) : Int)) (p9 : 1 ≤ c248_pots.toInt) (p10 : 0 ≤ v1.toInt) (p11 : v1.toInt ≤ 1023) (hr_a268 : dz_pt a268 [1]) (hr_a269 : dz_rg a269 n269 0 1023) (kv : Nat) (hkv : 1000000000000 ≤ kv) : dz_T (s142_X2_breakBar_0 fu c248_pots c261_many c267_total a268 n269 a273 (F142_X2_breakBar fu c248_pots c261_many c267_total a268 n269 a273 kv).1  v1 v2 a269) (fun r => dz_rg r n269 0 1023) := by
  unfold s142_X2_breakBar_0
  have e1 := dz_l1
  have e2 := dz_sub (a := c248_pots) (b := (1 : Int32)) (by omega) (by omega)
  have e3 := dz_l24
  have e4 := dz_mull (a := (c248_pots - (1 : Int32))) (b := (24 : Int32)) 0 (by omega) (by omega) (by omega)
  have e5 := dz_l0
  exact (t142_X2_breakBar_I_g31 fu hfu c248_pots c261_many c267_total a268 n269 a273 p0 p1 p2 p3 p4 p5 p6 p7 p8 p9 hr_a268 kv).1 v1 v2 ((c248_pots - (1 : Int32)) * (24 : Int32)) c261_many (0 : Int32) a269 p11 p10 (by omega) (by omega) p2 p3 (by omega) (by omega) (hr_a269) (by omega) (by omega)
theorem t142_X2_breakBar_g31 (fu : Nat) (hfu : 1000000000000 ≤ fu) (c248_pots : Int32) (c261_many : Int32) (c267_total : Int32) (a268 : Nat → Int32) (n269 : Nat) (a273 : Nat → Int32) (v1 : Int32) (v2 : Int32) (a269 : Nat → Int32) (p0 : c248_pots.toInt ≤ 1) (p1 : 1 ≤ c248_pots.toInt) (p2 : c261_many.toInt ≤ 6) (p3 : 6 ≤ c261_many.toInt) (p4 : c267_total.toInt ≤ 6) (p5 : 6 ≤ c267_total.toInt) (p6 : ((n269 : Nat) : Int) ≤ 13824) (p7 : 1 ≤ ((n269 : Nat) : Int)) (p8 : c267_total.toInt ≤ ((n269 : Nat) : Int)) (p9 : 1 ≤ c248_pots.toInt) (p10 : 0 ≤ v1.toInt) (p11 : v1.toInt ≤ 1023) (hr_a268 : dz_pt a268 [1]) (hr_a269 : dz_rg a269 n269 0 1023) : dz_T (f142_X2_breakBar fu c248_pots c261_many c267_total a268 n269 a273 v1 v2 a269) (fun r => dz_rg r n269 0 1023) :=
  t142_X2_breakBar_E_g31 fu hfu c248_pots c261_many c267_total a268 n269 a273 v1 v2 a269 p0 p1 p2 p3 p4 p5 p6 p7 p8 p9 p10 p11 hr_a268 hr_a269 fu hfu
abbrev p142_X2_breakBar_g32 (fu : Nat) (c248_pots : Int32) (c261_many : Int32) (c267_total : Int32) (a268 : Nat → Int32) (n269 : Nat) (a273 : Nat → Int32) (k : Nat) : Prop :=
  (∀ (v1 : Int32) (v2 : Int32) (v3 : Int32) (v4 : Int32) (v5 : Int32) (a269 : Nat → Int32), v1.toInt ≤ 1023 → 0 ≤ v1.toInt → v3.toInt ≤ 24 → 24 ≤ v3.toInt → v4.toInt ≤ 6 → 6 ≤ v4.toInt → v5.toInt ≤ 41 → 0 ≤ v5.toInt → dz_rg a269 n269 0 1023 → v5.toInt % 6 = 0 → 0 + 0 + (13824 - v5.toInt) * 192 + 8 ≤ ((k : Nat) : Int) → dz_T ((F142_X2_breakBar fu c248_pots c261_many c267_total a268 n269 a273 k).1 v1 v2 v3 v4 v5 a269) (fun r => dz_rg r n269 0 1023)) ∧ (∀ (v1 : Int32) (v2 : Int32) (v3 : Int32) (v4 : Int32) (v5 : Int32) (v6 : Int32) (v7 : Int32) (a269 : Nat → Int32), v1.toInt ≤ 1023 → 0 ≤ v1.toInt → v3.toInt ≤ 24 → 24 ≤ v3.toInt → v4.toInt ≤ 6 → 6 ≤ v4.toInt → v5.toInt ≤ 35 → 0 ≤ v5.toInt → v7.toInt ≤ 0 → (-1) ≤ v7.toInt → dz_rg a269 n269 0 1023 → v5.toInt % 6 = 0 → 0 + 0 + ((13824 - v5.toInt) - 1) * 192 + 128 + (v7.toInt - (-1)) * 16 + 16 ≤ ((k : Nat) : Int) → dz_T ((F142_X2_breakBar fu c248_pots c261_many c267_total a268 n269 a273 k).2.1 v1 v2 v3 v4 v5 v6 v7 a269) (fun r => dz_rg r n269 0 1023)) ∧ (∀ (v1 : Int32) (v2 : Int32) (v3 : Int32) (v4 : Int32) (v5 : Int32) (v6 : Int32) (v7 : Int32) (a269 : Nat → Int32), v1.toInt ≤ 1023 → 0 ≤ v1.toInt → v3.toInt ≤ 24 → 24 ≤ v3.toInt → v4.toInt ≤ 6 → 6 ≤ v4.toInt → v5.toInt ≤ 35 → 0 ≤ v5.toInt → v7.toInt ≤ 6 → 0 ≤ v7.toInt → dz_rg a269 n269 0 1023 → v5.toInt % 6 = 0 → 0 + 0 + ((13824 - v5.toInt) - 1) * 192 + 0 + (6 - v7.toInt) * 16 + 16 ≤ ((k : Nat) : Int) → dz_T ((F142_X2_breakBar fu c248_pots c261_many c267_total a268 n269 a273 k).2.2.1 v1 v2 v3 v4 v5 v6 v7 a269) (fun r => dz_rg r n269 0 1023))
set_option maxHeartbeats 1000000 in
set_option maxRecDepth 10000 in
theorem t142_X2_breakBar_h1_g32 (fu : Nat) (hfu : 1000000000000 ≤ fu) (c248_pots : Int32) (c261_many : Int32) (c267_total : Int32) (a268 : Nat → Int32) (n269 : Nat) (a273 : Nat → Int32) (p0 : c248_pots.toInt ≤ 2) (p1 : 2 ≤ c248_pots.toInt) (p2 : c261_many.toInt ≤ 6) (p3 : 6 ≤ c261_many.toInt) (p4 : c267_total.toInt ≤ 36) (p5 : 36 ≤ c267_total.toInt) (p6 : ((n269 : Nat) : Int) ≤ 13824) (p7 : 1 ≤ ((n269 : Nat) : Int)) (p8 : c267_total.toInt ≤ ((n269 : Nat) : Int)) (p9 : 1 ≤ c248_pots.toInt) (hr_a268 : dz_pt a268 [6, 1]) (k : Nat) (ih : ∀ j9, j9 < k → p142_X2_breakBar_g32 fu c248_pots c261_many c267_total a268 n269 a273 j9) : ∀ (v1 : Int32) (v2 : Int32) (v3 : Int32) (v4 : Int32) (v5 : Int32) (a269 : Nat → Int32), v1.toInt ≤ 1023 → 0 ≤ v1.toInt → v3.toInt ≤ 24 → 24 ≤ v3.toInt → v4.toInt ≤ 6 → 6 ≤ v4.toInt → v5.toInt ≤ 41 → 0 ≤ v5.toInt → dz_rg a269 n269 0 1023 → v5.toInt % 6 = 0 → 0 + 0 + (13824 - v5.toInt) * 192 + 8 ≤ ((k : Nat) : Int) → dz_T ((F142_X2_breakBar fu c248_pots c261_many c267_total a268 n269 a273 k).1 v1 v2 v3 v4 v5 a269) (fun r => dz_rg r n269 0 1023) := by
  intro v1 v2 v3 v4 v5 a269 i0 i1 i2 i3 i4 i5 i6 i7 hr_a269 x0 hm
  obtain ⟨k0, rfl⟩ : ∃ x, k = x + 1 := ⟨k - 1, by omega⟩
  show dz_T (s142_X2_breakBar_1 fu c248_pots c261_many c267_total a268 n269 a273 (F142_X2_breakBar fu c248_pots c261_many c267_total a268 n269 a273 k0).2.1  v1 v2 v3 v4 v5 a269) _
  unfold s142_X2_breakBar_1
  refine dz_Tle (fun h1 => ?_) (fun h1 => ?_)
  · skip
    exact dz_Ts (hr_a269)
  · skip
    have e2 := dz_l0
    refine dz_Tle (fun h3 => ?_) (fun h3 => ?_)
    · skip
      exfalso; omega
    · skip
      have e4 := dz_l2
      have e5 := dz_sub (a := c248_pots) (b := (2 : Int32)) (by omega) (by omega)
      exact (ih k0 (by omega)).2.1 v1 v2 v3 v4 v5 v2 (c248_pots - (2 : Int32)) a269 i0 i1 i2 i3 i4 i5 (by first | assumption | omega) i7 (by omega) (by omega) (hr_a269) (by omega) (by omega)
set_option maxHeartbeats 1000000 in
set_option maxRecDepth 10000 in
theorem t142_X2_breakBar_h2_g32 (fu : Nat) (hfu : 1000000000000 ≤ fu) (c248_pots : Int32) (c261_many : Int32) (c267_total : Int32) (a268 : Nat → Int32) (n269 : Nat) (a273 : Nat → Int32) (p0 : c248_pots.toInt ≤ 2) (p1 : 2 ≤ c248_pots.toInt) (p2 : c261_many.toInt ≤ 6) (p3 : 6 ≤ c261_many.toInt) (p4 : c267_total.toInt ≤ 36) (p5 : 36 ≤ c267_total.toInt) (p6 : ((n269 : Nat) : Int) ≤ 13824) (p7 : 1 ≤ ((n269 : Nat) : Int)) (p8 : c267_total.toInt ≤ ((n269 : Nat) : Int)) (p9 : 1 ≤ c248_pots.toInt) (hr_a268 : dz_pt a268 [6, 1]) (k : Nat) (ih : ∀ j9, j9 < k → p142_X2_breakBar_g32 fu c248_pots c261_many c267_total a268 n269 a273 j9) : ∀ (v1 : Int32) (v2 : Int32) (v3 : Int32) (v4 : Int32) (v5 : Int32) (v6 : Int32) (v7 : Int32) (a269 : Nat → Int32), v1.toInt ≤ 1023 → 0 ≤ v1.toInt → v3.toInt ≤ 24 → 24 ≤ v3.toInt → v4.toInt ≤ 6 → 6 ≤ v4.toInt → v5.toInt ≤ 35 → 0 ≤ v5.toInt → v7.toInt ≤ 0 → (-1) ≤ v7.toInt → dz_rg a269 n269 0 1023 → v5.toInt % 6 = 0 → 0 + 0 + ((13824 - v5.toInt) - 1) * 192 + 128 + (v7.toInt - (-1)) * 16 + 16 ≤ ((k : Nat) : Int) → dz_T ((F142_X2_breakBar fu c248_pots c261_many c267_total a268 n269 a273 k).2.1 v1 v2 v3 v4 v5 v6 v7 a269) (fun r => dz_rg r n269 0 1023) := by
  intro v1 v2 v3 v4 v5 v6 v7 a269 i0 i1 i2 i3 i4 i5 i6 i7 i8 i9 hr_a269 x0 hm
  obtain ⟨k0, rfl⟩ : ∃ x, k = x + 1 := ⟨k - 1, by omega⟩
  show dz_T (s142_X2_breakBar_2 fu c248_pots c261_many c267_total a268 n269 a273 (F142_X2_breakBar fu c248_pots c261_many c267_total a268 n269 a273 k0).2.1 (F142_X2_breakBar fu c248_pots c261_many c267_total a268 n269 a273 k0).2.2.1  v1 v2 v3 v4 v5 v6 v7 a269) _
  unfold s142_X2_breakBar_2
  have e1 := dz_l0
  refine dz_Tlt (fun h2 => ?_) (fun h2 => ?_)
  · skip
    exact (ih k0 (by omega)).2.2 v1 v2 v3 v4 v5 v6 (0 : Int32) a269 i0 i1 i2 i3 i4 i5 i6 i7 (by omega) (by omega) (hr_a269) (by omega) (by omega)
  · skip
    refine dz_Tbe (show f141_X2_rankIn fu c261_many a268 v5 v7 = (if dz_in v7 4 then (if ((a268 v7.toNatClampNeg) ≤ (0 : Int32)) then (some (0 : Int32)) else (if (c261_many ≤ (0 : Int32)) then (some (0 : Int32)) else (if (¬ ((a268 v7.toNatClampNeg) = (0 : Int32))) then (if (¬ (c261_many = (0 : Int32))) then (some (dz_rem (v5 / (a268 v7.toNatClampNeg)) c261_many)) else none) else none))) else none) from rfl) ?_
    refine dz_Tinb (by omega) (by omega) ?_
    have e3 := dz_ptat (hr_a268) (i := v7) (x := 6) 0 (by omega) (by decide)
    refine dz_Tleb (fun h4 => ?_) (fun h4 => ?_)
    · skip
      exfalso; omega
    · skip
      refine dz_Tleb (fun h5 => ?_) (fun h5 => ?_)
      · skip
        exfalso; omega
      · skip
        refine dz_Tzb (by omega) ?_
        refine dz_Tzb (by omega) ?_
        refine dz_Tsb ?_
        have e6 := dz_l24
        have e7 := dz_mull (a := v7) (b := (24 : Int32)) 0 (by omega) (by omega) (by omega)
        have e8 := dz_divn (a := v5) (b := (a268 v7.toNatClampNeg)) 6 (by omega) (by omega) (by omega)
        have e9 := dz_remn (a := (v5 / (a268 v7.toNatClampNeg))) (b := c261_many) 6 (by omega) (by omega) (by omega)
        have e10 := dz_add (a := (v7 * (24 : Int32))) (b := (dz_rem (v5 / (a268 v7.toNatClampNeg)) c261_many)) (by omega) (by omega)
        refine dz_Tin (by omega) (by omega) ?_
        have e11 := dz_rng v6
        have e12 := dz_rng (a273 ((v7 * (24 : Int32)) + (dz_rem (v5 / (a268 v7.toNatClampNeg)) c261_many)).toNatClampNeg)
        have e13 := dz_lm1
        have e14 := dz_add (a := v7) (b := (-(1 : Int32))) (by omega) (by omega)
        generalize (v7 + (-(1 : Int32))) = z1 at *
        exact (ih k0 (by omega)).2.1 v1 v2 v3 v4 v5 (v6 + (a273 ((v7 * (24 : Int32)) + (dz_rem (v5 / (a268 v7.toNatClampNeg)) c261_many)).toNatClampNeg)) z1 a269 i0 i1 i2 i3 i4 i5 i6 i7 (by omega) (by omega) (hr_a269) (by omega) (by omega)
set_option maxHeartbeats 1000000 in
set_option maxRecDepth 10000 in
theorem t142_X2_breakBar_h3_g32 (fu : Nat) (hfu : 1000000000000 ≤ fu) (c248_pots : Int32) (c261_many : Int32) (c267_total : Int32) (a268 : Nat → Int32) (n269 : Nat) (a273 : Nat → Int32) (p0 : c248_pots.toInt ≤ 2) (p1 : 2 ≤ c248_pots.toInt) (p2 : c261_many.toInt ≤ 6) (p3 : 6 ≤ c261_many.toInt) (p4 : c267_total.toInt ≤ 36) (p5 : 36 ≤ c267_total.toInt) (p6 : ((n269 : Nat) : Int) ≤ 13824) (p7 : 1 ≤ ((n269 : Nat) : Int)) (p8 : c267_total.toInt ≤ ((n269 : Nat) : Int)) (p9 : 1 ≤ c248_pots.toInt) (hr_a268 : dz_pt a268 [6, 1]) (k : Nat) (ih : ∀ j9, j9 < k → p142_X2_breakBar_g32 fu c248_pots c261_many c267_total a268 n269 a273 j9) : ∀ (v1 : Int32) (v2 : Int32) (v3 : Int32) (v4 : Int32) (v5 : Int32) (v6 : Int32) (v7 : Int32) (a269 : Nat → Int32), v1.toInt ≤ 1023 → 0 ≤ v1.toInt → v3.toInt ≤ 24 → 24 ≤ v3.toInt → v4.toInt ≤ 6 → 6 ≤ v4.toInt → v5.toInt ≤ 35 → 0 ≤ v5.toInt → v7.toInt ≤ 6 → 0 ≤ v7.toInt → dz_rg a269 n269 0 1023 → v5.toInt % 6 = 0 → 0 + 0 + ((13824 - v5.toInt) - 1) * 192 + 0 + (6 - v7.toInt) * 16 + 16 ≤ ((k : Nat) : Int) → dz_T ((F142_X2_breakBar fu c248_pots c261_many c267_total a268 n269 a273 k).2.2.1 v1 v2 v3 v4 v5 v6 v7 a269) (fun r => dz_rg r n269 0 1023) := by
  intro v1 v2 v3 v4 v5 v6 v7 a269 i0 i1 i2 i3 i4 i5 i6 i7 i8 i9 hr_a269 x0 hm
  obtain ⟨k0, rfl⟩ : ∃ x, k = x + 1 := ⟨k - 1, by omega⟩
  show dz_T (s142_X2_breakBar_3 fu c248_pots c261_many c267_total a268 n269 a273 (F142_X2_breakBar fu c248_pots c261_many c267_total a268 n269 a273 k0).1 (F142_X2_breakBar fu c248_pots c261_many c267_total a268 n269 a273 k0).2.2.2  v1 v2 v3 v4 v5 v6 v7 a269) _
  unfold s142_X2_breakBar_3
  refine dz_Tle (fun h1 => ?_) (fun h1 => ?_)
  · skip
    have e2 := dz_add (a := v5) (b := v4) (by omega) (by omega)
    exact (ih k0 (by omega)).1 v1 v2 v3 v4 (v5 + v4) a269 i0 i1 i2 i3 i4 i5 (by omega) (by omega) (hr_a269) (by omega) (by omega)
  · skip
    have e3 := dz_add (a := v3) (b := v7) (by omega) (by omega)
    refine dz_Tin (by omega) (by omega) ?_
    have e4 := dz_rng v6
    have e5 := dz_rng (a273 (v3 + v7).toNatClampNeg)
    have e6 := dz_l34952
    have e7 := dz_andr (a := (v6 + (a273 (v3 + v7).toNatClampNeg))) (b := (34952 : Int32)) (by omega)
    have e8 := dz_l0
    refine dz_Teq (fun h9 => ?_) (fun h9 => ?_)
    · skip
      obtain ⟨k1, rfl⟩ : ∃ x, k0 = x + 1 := ⟨k0 - 1, by omega⟩
      show dz_T (s142_X2_breakBar_4 fu c248_pots c261_many c267_total a268 n269 a273 (F142_X2_breakBar fu c248_pots c261_many c267_total a268 n269 a273 k1).2.2.1 v1 v2 v3 v4 v5 v6 v7 a269) _
      unfold s142_X2_breakBar_4
      have e10 := dz_l1
      have e11 := dz_add (a := v7) (b := (1 : Int32)) (by omega) (by omega)
      exact (ih k1 (by omega)).2.2 v1 v2 v3 v4 v5 v6 (v7 + (1 : Int32)) a269 i0 i1 i2 i3 i4 i5 i6 i7 (by omega) (by omega) (hr_a269) (by omega) (by omega)
    · skip
      have e12 := dz_add (a := v5) (b := v7) (by omega) (by omega)
      refine dz_Tin (by omega) (by omega) ?_
      refine dz_Tin (by omega) (by omega) ?_
      obtain ⟨k2, rfl⟩ : ∃ x, k0 = x + 1 := ⟨k0 - 1, by omega⟩
      show dz_T (s142_X2_breakBar_4 fu c248_pots c261_many c267_total a268 n269 a273 (F142_X2_breakBar fu c248_pots c261_many c267_total a268 n269 a273 k2).2.2.1 v1 v2 v3 v4 v5 v6 v7 (upd a269 (v5 + v7).toNatClampNeg ((a269 (v5 + v7).toNatClampNeg) ||| v1))) _
      unfold s142_X2_breakBar_4
      have e13 := dz_l1
      have e14 := dz_add (a := v7) (b := (1 : Int32)) (by omega) (by omega)
      have e15 := dz_rgat (hr_a269) (i := (v5 + v7)) (by omega) (by omega)
      have e16 := dz_orb (a := (a269 (v5 + v7).toNatClampNeg)) (b := v1) 10 (by omega) (by omega) (by omega) (by omega) (by omega)
      exact (ih k2 (by omega)).2.2 v1 v2 v3 v4 v5 v6 (v7 + (1 : Int32)) (upd a269 (v5 + v7).toNatClampNeg ((a269 (v5 + v7).toNatClampNeg) ||| v1)) i0 i1 i2 i3 i4 i5 i6 i7 (by omega) (by omega) (dz_rgu (hr_a269) (by omega) (by omega)) (by omega) (by omega)
theorem t142_X2_breakBar_I_g32 (fu : Nat) (hfu : 1000000000000 ≤ fu) (c248_pots : Int32) (c261_many : Int32) (c267_total : Int32) (a268 : Nat → Int32) (n269 : Nat) (a273 : Nat → Int32) (p0 : c248_pots.toInt ≤ 2) (p1 : 2 ≤ c248_pots.toInt) (p2 : c261_many.toInt ≤ 6) (p3 : 6 ≤ c261_many.toInt) (p4 : c267_total.toInt ≤ 36) (p5 : 36 ≤ c267_total.toInt) (p6 : ((n269 : Nat) : Int) ≤ 13824) (p7 : 1 ≤ ((n269 : Nat) : Int)) (p8 : c267_total.toInt ≤ ((n269 : Nat) : Int)) (p9 : 1 ≤ c248_pots.toInt) (hr_a268 : dz_pt a268 [6, 1]) (k : Nat) : p142_X2_breakBar_g32 fu c248_pots c261_many c267_total a268 n269 a273 k := by
  induction k using Nat.strongRecOn with
  | _ k ih => exact ⟨t142_X2_breakBar_h1_g32 fu hfu c248_pots c261_many c267_total a268 n269 a273 p0 p1 p2 p3 p4 p5 p6 p7 p8 p9 hr_a268 k ih, t142_X2_breakBar_h2_g32 fu hfu c248_pots c261_many c267_total a268 n269 a273 p0 p1 p2 p3 p4 p5 p6 p7 p8 p9 hr_a268 k ih, t142_X2_breakBar_h3_g32 fu hfu c248_pots c261_many c267_total a268 n269 a273 p0 p1 p2 p3 p4 p5 p6 p7 p8 p9 hr_a268 k ih⟩
set_option maxHeartbeats 1000000 in
set_option maxRecDepth 10000 in
theorem t142_X2_breakBar_E_g32 (fu : Nat) (hfu : 1000000000000 ≤ fu) (c248_pots : Int32) (c261_many : Int32) (c267_total : Int32) (a268 : Nat → Int32) (n269 : Nat) (a273 : Nat → Int32) (v1 : Int32) (v2 : Int32) (a269 : Nat → Int32) (p0 : c248_pots.toInt ≤ 2) (p1 : 2 ≤ c248_pots.toInt) (p2 : c261_many.toInt ≤ 6) (p3 : 6 ≤ c261_many.toInt) (p4 : c267_total.toInt ≤ 36) (p5 : 36 ≤ c267_total.toInt) (p6 : ((n269 : Nat) : Int) ≤ 13824) (p7 : 1 ≤ ((n269 : Nat) : Int)) (p8 : c267_total.toInt ≤ ((n269 : Nat) : Int)) (p9 : 1 ≤ c248_pots.toInt) (p10 : 0 ≤ v1.toInt) (p11 : v1.toInt ≤ 1023) (hr_a268 : dz_pt a268 [6, 1]) (hr_a269 : dz_rg a269 n269 0 1023) (kv : Nat) (hkv : 1000000000000 ≤ kv) : dz_T (s142_X2_breakBar_0 fu c248_pots c261_many c267_total a268 n269 a273 (F142_X2_breakBar fu c248_pots c261_many c267_total a268 n269 a273 kv).1  v1 v2 a269) (fun r => dz_rg r n269 0 1023) := by
  unfold s142_X2_breakBar_0
  have e1 := dz_l1
  have e2 := dz_sub (a := c248_pots) (b := (1 : Int32)) (by omega) (by omega)
  have e3 := dz_l24
  have e4 := dz_mull (a := (c248_pots - (1 : Int32))) (b := (24 : Int32)) 1 (by omega) (by omega) (by omega)
  have e5 := dz_l0
  exact (t142_X2_breakBar_I_g32 fu hfu c248_pots c261_many c267_total a268 n269 a273 p0 p1 p2 p3 p4 p5 p6 p7 p8 p9 hr_a268 kv).1 v1 v2 ((c248_pots - (1 : Int32)) * (24 : Int32)) c261_many (0 : Int32) a269 p11 p10 (by omega) (by omega) p2 p3 (by omega) (by omega) (hr_a269) (by omega) (by omega)
theorem t142_X2_breakBar_g32 (fu : Nat) (hfu : 1000000000000 ≤ fu) (c248_pots : Int32) (c261_many : Int32) (c267_total : Int32) (a268 : Nat → Int32) (n269 : Nat) (a273 : Nat → Int32) (v1 : Int32) (v2 : Int32) (a269 : Nat → Int32) (p0 : c248_pots.toInt ≤ 2) (p1 : 2 ≤ c248_pots.toInt) (p2 : c261_many.toInt ≤ 6) (p3 : 6 ≤ c261_many.toInt) (p4 : c267_total.toInt ≤ 36) (p5 : 36 ≤ c267_total.toInt) (p6 : ((n269 : Nat) : Int) ≤ 13824) (p7 : 1 ≤ ((n269 : Nat) : Int)) (p8 : c267_total.toInt ≤ ((n269 : Nat) : Int)) (p9 : 1 ≤ c248_pots.toInt) (p10 : 0 ≤ v1.toInt) (p11 : v1.toInt ≤ 1023) (hr_a268 : dz_pt a268 [6, 1]) (hr_a269 : dz_rg a269 n269 0 1023) : dz_T (f142_X2_breakBar fu c248_pots c261_many c267_total a268 n269 a273 v1 v2 a269) (fun r => dz_rg r n269 0 1023) :=
  t142_X2_breakBar_E_g32 fu hfu c248_pots c261_many c267_total a268 n269 a273 v1 v2 a269 p0 p1 p2 p3 p4 p5 p6 p7 p8 p9 p10 p11 hr_a268 hr_a269 fu hfu
abbrev p142_X2_breakBar_g33 (fu : Nat) (c248_pots : Int32) (c261_many : Int32) (c267_total : Int32) (a268 : Nat → Int32) (n269 : Nat) (a273 : Nat → Int32) (k : Nat) : Prop :=
  (∀ (v1 : Int32) (v2 : Int32) (v3 : Int32) (v4 : Int32) (v5 : Int32) (a269 : Nat → Int32), v1.toInt ≤ 1023 → 0 ≤ v1.toInt → v3.toInt ≤ 48 → 48 ≤ v3.toInt → v4.toInt ≤ 6 → 6 ≤ v4.toInt → v5.toInt ≤ 221 → 0 ≤ v5.toInt → dz_rg a269 n269 0 1023 → v5.toInt % 6 = 0 → 0 + 0 + (13824 - v5.toInt) * 208 + 8 ≤ ((k : Nat) : Int) → dz_T ((F142_X2_breakBar fu c248_pots c261_many c267_total a268 n269 a273 k).1 v1 v2 v3 v4 v5 a269) (fun r => dz_rg r n269 0 1023)) ∧ (∀ (v1 : Int32) (v2 : Int32) (v3 : Int32) (v4 : Int32) (v5 : Int32) (v6 : Int32) (v7 : Int32) (a269 : Nat → Int32), v1.toInt ≤ 1023 → 0 ≤ v1.toInt → v3.toInt ≤ 48 → 48 ≤ v3.toInt → v4.toInt ≤ 6 → 6 ≤ v4.toInt → v5.toInt ≤ 215 → 0 ≤ v5.toInt → v7.toInt ≤ 1 → (-1) ≤ v7.toInt → dz_rg a269 n269 0 1023 → v5.toInt % 6 = 0 → 0 + 0 + ((13824 - v5.toInt) - 1) * 208 + 128 + (v7.toInt - (-1)) * 16 + 16 ≤ ((k : Nat) : Int) → dz_T ((F142_X2_breakBar fu c248_pots c261_many c267_total a268 n269 a273 k).2.1 v1 v2 v3 v4 v5 v6 v7 a269) (fun r => dz_rg r n269 0 1023)) ∧ (∀ (v1 : Int32) (v2 : Int32) (v3 : Int32) (v4 : Int32) (v5 : Int32) (v6 : Int32) (v7 : Int32) (a269 : Nat → Int32), v1.toInt ≤ 1023 → 0 ≤ v1.toInt → v3.toInt ≤ 48 → 48 ≤ v3.toInt → v4.toInt ≤ 6 → 6 ≤ v4.toInt → v5.toInt ≤ 215 → 0 ≤ v5.toInt → v7.toInt ≤ 6 → 0 ≤ v7.toInt → dz_rg a269 n269 0 1023 → v5.toInt % 6 = 0 → 0 + 0 + ((13824 - v5.toInt) - 1) * 208 + 0 + (6 - v7.toInt) * 16 + 16 ≤ ((k : Nat) : Int) → dz_T ((F142_X2_breakBar fu c248_pots c261_many c267_total a268 n269 a273 k).2.2.1 v1 v2 v3 v4 v5 v6 v7 a269) (fun r => dz_rg r n269 0 1023))
set_option maxHeartbeats 1000000 in
set_option maxRecDepth 10000 in
theorem t142_X2_breakBar_h1_g33 (fu : Nat) (hfu : 1000000000000 ≤ fu) (c248_pots : Int32) (c261_many : Int32) (c267_total : Int32) (a268 : Nat → Int32) (n269 : Nat) (a273 : Nat → Int32) (p0 : c248_pots.toInt ≤ 3) (p1 : 3 ≤ c248_pots.toInt) (p2 : c261_many.toInt ≤ 6) (p3 : 6 ≤ c261_many.toInt) (p4 : c267_total.toInt ≤ 216) (p5 : 216 ≤ c267_total.toInt) (p6 : ((n269 : Nat) : Int) ≤ 13824) (p7 : 1 ≤ ((n269 : Nat) : Int)) (p8 : c267_total.toInt ≤ ((n269 : Nat) : Int)) (p9 : 1 ≤ c248_pots.toInt) (hr_a268 : dz_pt a268 [36, 6, 1]) (k : Nat) (ih : ∀ j9, j9 < k → p142_X2_breakBar_g33 fu c248_pots c261_many c267_total a268 n269 a273 j9) : ∀ (v1 : Int32) (v2 : Int32) (v3 : Int32) (v4 : Int32) (v5 : Int32) (a269 : Nat → Int32), v1.toInt ≤ 1023 → 0 ≤ v1.toInt → v3.toInt ≤ 48 → 48 ≤ v3.toInt → v4.toInt ≤ 6 → 6 ≤ v4.toInt → v5.toInt ≤ 221 → 0 ≤ v5.toInt → dz_rg a269 n269 0 1023 → v5.toInt % 6 = 0 → 0 + 0 + (13824 - v5.toInt) * 208 + 8 ≤ ((k : Nat) : Int) → dz_T ((F142_X2_breakBar fu c248_pots c261_many c267_total a268 n269 a273 k).1 v1 v2 v3 v4 v5 a269) (fun r => dz_rg r n269 0 1023) := by
  intro v1 v2 v3 v4 v5 a269 i0 i1 i2 i3 i4 i5 i6 i7 hr_a269 x0 hm
  obtain ⟨k0, rfl⟩ : ∃ x, k = x + 1 := ⟨k - 1, by omega⟩
  show dz_T (s142_X2_breakBar_1 fu c248_pots c261_many c267_total a268 n269 a273 (F142_X2_breakBar fu c248_pots c261_many c267_total a268 n269 a273 k0).2.1  v1 v2 v3 v4 v5 a269) _
  unfold s142_X2_breakBar_1
  refine dz_Tle (fun h1 => ?_) (fun h1 => ?_)
  · skip
    exact dz_Ts (hr_a269)
  · skip
    have e2 := dz_l0
    refine dz_Tle (fun h3 => ?_) (fun h3 => ?_)
    · skip
      exfalso; omega
    · skip
      have e4 := dz_l2
      have e5 := dz_sub (a := c248_pots) (b := (2 : Int32)) (by omega) (by omega)
      exact (ih k0 (by omega)).2.1 v1 v2 v3 v4 v5 v2 (c248_pots - (2 : Int32)) a269 i0 i1 i2 i3 i4 i5 (by first | assumption | omega) i7 (by omega) (by omega) (hr_a269) (by omega) (by omega)
set_option maxHeartbeats 1000000 in
set_option maxRecDepth 10000 in
theorem t142_X2_breakBar_h2_g33 (fu : Nat) (hfu : 1000000000000 ≤ fu) (c248_pots : Int32) (c261_many : Int32) (c267_total : Int32) (a268 : Nat → Int32) (n269 : Nat) (a273 : Nat → Int32) (p0 : c248_pots.toInt ≤ 3) (p1 : 3 ≤ c248_pots.toInt) (p2 : c261_many.toInt ≤ 6) (p3 : 6 ≤ c261_many.toInt) (p4 : c267_total.toInt ≤ 216) (p5 : 216 ≤ c267_total.toInt) (p6 : ((n269 : Nat) : Int) ≤ 13824) (p7 : 1 ≤ ((n269 : Nat) : Int)) (p8 : c267_total.toInt ≤ ((n269 : Nat) : Int)) (p9 : 1 ≤ c248_pots.toInt) (hr_a268 : dz_pt a268 [36, 6, 1]) (k : Nat) (ih : ∀ j9, j9 < k → p142_X2_breakBar_g33 fu c248_pots c261_many c267_total a268 n269 a273 j9) : ∀ (v1 : Int32) (v2 : Int32) (v3 : Int32) (v4 : Int32) (v5 : Int32) (v6 : Int32) (v7 : Int32) (a269 : Nat → Int32), v1.toInt ≤ 1023 → 0 ≤ v1.toInt → v3.toInt ≤ 48 → 48 ≤ v3.toInt → v4.toInt ≤ 6 → 6 ≤ v4.toInt → v5.toInt ≤ 215 → 0 ≤ v5.toInt → v7.toInt ≤ 1 → (-1) ≤ v7.toInt → dz_rg a269 n269 0 1023 → v5.toInt % 6 = 0 → 0 + 0 + ((13824 - v5.toInt) - 1) * 208 + 128 + (v7.toInt - (-1)) * 16 + 16 ≤ ((k : Nat) : Int) → dz_T ((F142_X2_breakBar fu c248_pots c261_many c267_total a268 n269 a273 k).2.1 v1 v2 v3 v4 v5 v6 v7 a269) (fun r => dz_rg r n269 0 1023) := by
  intro v1 v2 v3 v4 v5 v6 v7 a269 i0 i1 i2 i3 i4 i5 i6 i7 i8 i9 hr_a269 x0 hm
  obtain ⟨k0, rfl⟩ : ∃ x, k = x + 1 := ⟨k - 1, by omega⟩
  show dz_T (s142_X2_breakBar_2 fu c248_pots c261_many c267_total a268 n269 a273 (F142_X2_breakBar fu c248_pots c261_many c267_total a268 n269 a273 k0).2.1 (F142_X2_breakBar fu c248_pots c261_many c267_total a268 n269 a273 k0).2.2.1  v1 v2 v3 v4 v5 v6 v7 a269) _
  unfold s142_X2_breakBar_2
  have e1 := dz_l0
  refine dz_Tlt (fun h2 => ?_) (fun h2 => ?_)
  · skip
    exact (ih k0 (by omega)).2.2 v1 v2 v3 v4 v5 v6 (0 : Int32) a269 i0 i1 i2 i3 i4 i5 i6 i7 (by omega) (by omega) (hr_a269) (by omega) (by omega)
  · skip
    refine dz_Tbe (show f141_X2_rankIn fu c261_many a268 v5 v7 = (if dz_in v7 4 then (if ((a268 v7.toNatClampNeg) ≤ (0 : Int32)) then (some (0 : Int32)) else (if (c261_many ≤ (0 : Int32)) then (some (0 : Int32)) else (if (¬ ((a268 v7.toNatClampNeg) = (0 : Int32))) then (if (¬ (c261_many = (0 : Int32))) then (some (dz_rem (v5 / (a268 v7.toNatClampNeg)) c261_many)) else none) else none))) else none) from rfl) ?_
    refine dz_Tinb (by omega) (by omega) ?_
    have e3 := dz_ptrg (hr_a268) (i := v7) 1 36 (by decide) (by omega) (by show _ < ((3 : Nat) : Int); omega)
    refine dz_Tleb (fun h4 => ?_) (fun h4 => ?_)
    · skip
      exfalso; omega
    · skip
      refine dz_Tleb (fun h5 => ?_) (fun h5 => ?_)
      · skip
        exfalso; omega
      · skip
        refine dz_Tzb (by omega) ?_
        refine dz_Tzb (by omega) ?_
        refine dz_Tsb ?_
        have e6 := dz_l24
        have e7 := dz_mulr (a := v7) (b := (24 : Int32)) 24 (by omega) (by omega) (by omega)
        have e8 := dz_divq (a := v5) (b := (a268 v7.toNatClampNeg)) 1 215 (by omega) (by omega) (by omega) (by omega)
        have e9 := dz_remn (a := (v5 / (a268 v7.toNatClampNeg))) (b := c261_many) 6 (by omega) (by omega) (by omega)
        have e10 := dz_add (a := (v7 * (24 : Int32))) (b := (dz_rem (v5 / (a268 v7.toNatClampNeg)) c261_many)) (by omega) (by omega)
        refine dz_Tin (by omega) (by omega) ?_
        have e11 := dz_rng v6
        have e12 := dz_rng (a273 ((v7 * (24 : Int32)) + (dz_rem (v5 / (a268 v7.toNatClampNeg)) c261_many)).toNatClampNeg)
        have e13 := dz_lm1
        have e14 := dz_add (a := v7) (b := (-(1 : Int32))) (by omega) (by omega)
        generalize (v7 + (-(1 : Int32))) = z1 at *
        exact (ih k0 (by omega)).2.1 v1 v2 v3 v4 v5 (v6 + (a273 ((v7 * (24 : Int32)) + (dz_rem (v5 / (a268 v7.toNatClampNeg)) c261_many)).toNatClampNeg)) z1 a269 i0 i1 i2 i3 i4 i5 i6 i7 (by omega) (by omega) (hr_a269) (by omega) (by omega)
set_option maxHeartbeats 1000000 in
set_option maxRecDepth 10000 in
theorem t142_X2_breakBar_h3_g33 (fu : Nat) (hfu : 1000000000000 ≤ fu) (c248_pots : Int32) (c261_many : Int32) (c267_total : Int32) (a268 : Nat → Int32) (n269 : Nat) (a273 : Nat → Int32) (p0 : c248_pots.toInt ≤ 3) (p1 : 3 ≤ c248_pots.toInt) (p2 : c261_many.toInt ≤ 6) (p3 : 6 ≤ c261_many.toInt) (p4 : c267_total.toInt ≤ 216) (p5 : 216 ≤ c267_total.toInt) (p6 : ((n269 : Nat) : Int) ≤ 13824) (p7 : 1 ≤ ((n269 : Nat) : Int)) (p8 : c267_total.toInt ≤ ((n269 : Nat) : Int)) (p9 : 1 ≤ c248_pots.toInt) (hr_a268 : dz_pt a268 [36, 6, 1]) (k : Nat) (ih : ∀ j9, j9 < k → p142_X2_breakBar_g33 fu c248_pots c261_many c267_total a268 n269 a273 j9) : ∀ (v1 : Int32) (v2 : Int32) (v3 : Int32) (v4 : Int32) (v5 : Int32) (v6 : Int32) (v7 : Int32) (a269 : Nat → Int32), v1.toInt ≤ 1023 → 0 ≤ v1.toInt → v3.toInt ≤ 48 → 48 ≤ v3.toInt → v4.toInt ≤ 6 → 6 ≤ v4.toInt → v5.toInt ≤ 215 → 0 ≤ v5.toInt → v7.toInt ≤ 6 → 0 ≤ v7.toInt → dz_rg a269 n269 0 1023 → v5.toInt % 6 = 0 → 0 + 0 + ((13824 - v5.toInt) - 1) * 208 + 0 + (6 - v7.toInt) * 16 + 16 ≤ ((k : Nat) : Int) → dz_T ((F142_X2_breakBar fu c248_pots c261_many c267_total a268 n269 a273 k).2.2.1 v1 v2 v3 v4 v5 v6 v7 a269) (fun r => dz_rg r n269 0 1023) := by
  intro v1 v2 v3 v4 v5 v6 v7 a269 i0 i1 i2 i3 i4 i5 i6 i7 i8 i9 hr_a269 x0 hm
  obtain ⟨k0, rfl⟩ : ∃ x, k = x + 1 := ⟨k - 1, by omega⟩
  show dz_T (s142_X2_breakBar_3 fu c248_pots c261_many c267_total a268 n269 a273 (F142_X2_breakBar fu c248_pots c261_many c267_total a268 n269 a273 k0).1 (F142_X2_breakBar fu c248_pots c261_many c267_total a268 n269 a273 k0).2.2.2  v1 v2 v3 v4 v5 v6 v7 a269) _
  unfold s142_X2_breakBar_3
  refine dz_Tle (fun h1 => ?_) (fun h1 => ?_)
  · skip
    have e2 := dz_add (a := v5) (b := v4) (by omega) (by omega)
    exact (ih k0 (by omega)).1 v1 v2 v3 v4 (v5 + v4) a269 i0 i1 i2 i3 i4 i5 (by omega) (by omega) (hr_a269) (by omega) (by omega)
  · skip
    have e3 := dz_add (a := v3) (b := v7) (by omega) (by omega)
    refine dz_Tin (by omega) (by omega) ?_
    have e4 := dz_rng v6
    have e5 := dz_rng (a273 (v3 + v7).toNatClampNeg)
    have e6 := dz_l34952
    have e7 := dz_andr (a := (v6 + (a273 (v3 + v7).toNatClampNeg))) (b := (34952 : Int32)) (by omega)
    have e8 := dz_l0
    refine dz_Teq (fun h9 => ?_) (fun h9 => ?_)
    · skip
      obtain ⟨k1, rfl⟩ : ∃ x, k0 = x + 1 := ⟨k0 - 1, by omega⟩
      show dz_T (s142_X2_breakBar_4 fu c248_pots c261_many c267_total a268 n269 a273 (F142_X2_breakBar fu c248_pots c261_many c267_total a268 n269 a273 k1).2.2.1 v1 v2 v3 v4 v5 v6 v7 a269) _
      unfold s142_X2_breakBar_4
      have e10 := dz_l1
      have e11 := dz_add (a := v7) (b := (1 : Int32)) (by omega) (by omega)
      exact (ih k1 (by omega)).2.2 v1 v2 v3 v4 v5 v6 (v7 + (1 : Int32)) a269 i0 i1 i2 i3 i4 i5 i6 i7 (by omega) (by omega) (hr_a269) (by omega) (by omega)
    · skip
      have e12 := dz_add (a := v5) (b := v7) (by omega) (by omega)
      refine dz_Tin (by omega) (by omega) ?_
      refine dz_Tin (by omega) (by omega) ?_
      obtain ⟨k2, rfl⟩ : ∃ x, k0 = x + 1 := ⟨k0 - 1, by omega⟩
      show dz_T (s142_X2_breakBar_4 fu c248_pots c261_many c267_total a268 n269 a273 (F142_X2_breakBar fu c248_pots c261_many c267_total a268 n269 a273 k2).2.2.1 v1 v2 v3 v4 v5 v6 v7 (upd a269 (v5 + v7).toNatClampNeg ((a269 (v5 + v7).toNatClampNeg) ||| v1))) _
      unfold s142_X2_breakBar_4
      have e13 := dz_l1
      have e14 := dz_add (a := v7) (b := (1 : Int32)) (by omega) (by omega)
      have e15 := dz_rgat (hr_a269) (i := (v5 + v7)) (by omega) (by omega)
      have e16 := dz_orb (a := (a269 (v5 + v7).toNatClampNeg)) (b := v1) 10 (by omega) (by omega) (by omega) (by omega) (by omega)
      exact (ih k2 (by omega)).2.2 v1 v2 v3 v4 v5 v6 (v7 + (1 : Int32)) (upd a269 (v5 + v7).toNatClampNeg ((a269 (v5 + v7).toNatClampNeg) ||| v1)) i0 i1 i2 i3 i4 i5 i6 i7 (by omega) (by omega) (dz_rgu (hr_a269) (by omega) (by omega)) (by omega) (by omega)
theorem t142_X2_breakBar_I_g33 (fu : Nat) (hfu : 1000000000000 ≤ fu) (c248_pots : Int32) (c261_many : Int32) (c267_total : Int32) (a268 : Nat → Int32) (n269 : Nat) (a273 : Nat → Int32) (p0 : c248_pots.toInt ≤ 3) (p1 : 3 ≤ c248_pots.toInt) (p2 : c261_many.toInt ≤ 6) (p3 : 6 ≤ c261_many.toInt) (p4 : c267_total.toInt ≤ 216) (p5 : 216 ≤ c267_total.toInt) (p6 : ((n269 : Nat) : Int) ≤ 13824) (p7 : 1 ≤ ((n269 : Nat) : Int)) (p8 : c267_total.toInt ≤ ((n269 : Nat) : Int)) (p9 : 1 ≤ c248_pots.toInt) (hr_a268 : dz_pt a268 [36, 6, 1]) (k : Nat) : p142_X2_breakBar_g33 fu c248_pots c261_many c267_total a268 n269 a273 k := by
  induction k using Nat.strongRecOn with
  | _ k ih => exact ⟨t142_X2_breakBar_h1_g33 fu hfu c248_pots c261_many c267_total a268 n269 a273 p0 p1 p2 p3 p4 p5 p6 p7 p8 p9 hr_a268 k ih, t142_X2_breakBar_h2_g33 fu hfu c248_pots c261_many c267_total a268 n269 a273 p0 p1 p2 p3 p4 p5 p6 p7 p8 p9 hr_a268 k ih, t142_X2_breakBar_h3_g33 fu hfu c248_pots c261_many c267_total a268 n269 a273 p0 p1 p2 p3 p4 p5 p6 p7 p8 p9 hr_a268 k ih⟩
set_option maxHeartbeats 1000000 in
set_option maxRecDepth 10000 in
theorem t142_X2_breakBar_E_g33 (fu : Nat) (hfu : 1000000000000 ≤ fu) (c248_pots : Int32) (c261_many : Int32) (c267_total : Int32) (a268 : Nat → Int32) (n269 : Nat) (a273 : Nat → Int32) (v1 : Int32) (v2 : Int32) (a269 : Nat → Int32) (p0 : c248_pots.toInt ≤ 3) (p1 : 3 ≤ c248_pots.toInt) (p2 : c261_many.toInt ≤ 6) (p3 : 6 ≤ c261_many.toInt) (p4 : c267_total.toInt ≤ 216) (p5 : 216 ≤ c267_total.toInt) (p6 : ((n269 : Nat) : Int) ≤ 13824) (p7 : 1 ≤ ((n269 : Nat) : Int)) (p8 : c267_total.toInt ≤ ((n269 : Nat) : Int)) (p9 : 1 ≤ c248_pots.toInt) (p10 : 0 ≤ v1.toInt) (p11 : v1.toInt ≤ 1023) (hr_a268 : dz_pt a268 [36, 6, 1]) (hr_a269 : dz_rg a269 n269 0 1023) (kv : Nat) (hkv : 1000000000000 ≤ kv) : dz_T (s142_X2_breakBar_0 fu c248_pots c261_many c267_total a268 n269 a273 (F142_X2_breakBar fu c248_pots c261_many c267_total a268 n269 a273 kv).1  v1 v2 a269) (fun r => dz_rg r n269 0 1023) := by
  unfold s142_X2_breakBar_0
  have e1 := dz_l1
  have e2 := dz_sub (a := c248_pots) (b := (1 : Int32)) (by omega) (by omega)
  have e3 := dz_l24
  have e4 := dz_mull (a := (c248_pots - (1 : Int32))) (b := (24 : Int32)) 2 (by omega) (by omega) (by omega)
  have e5 := dz_l0
  exact (t142_X2_breakBar_I_g33 fu hfu c248_pots c261_many c267_total a268 n269 a273 p0 p1 p2 p3 p4 p5 p6 p7 p8 p9 hr_a268 kv).1 v1 v2 ((c248_pots - (1 : Int32)) * (24 : Int32)) c261_many (0 : Int32) a269 p11 p10 (by omega) (by omega) p2 p3 (by omega) (by omega) (hr_a269) (by omega) (by omega)
theorem t142_X2_breakBar_g33 (fu : Nat) (hfu : 1000000000000 ≤ fu) (c248_pots : Int32) (c261_many : Int32) (c267_total : Int32) (a268 : Nat → Int32) (n269 : Nat) (a273 : Nat → Int32) (v1 : Int32) (v2 : Int32) (a269 : Nat → Int32) (p0 : c248_pots.toInt ≤ 3) (p1 : 3 ≤ c248_pots.toInt) (p2 : c261_many.toInt ≤ 6) (p3 : 6 ≤ c261_many.toInt) (p4 : c267_total.toInt ≤ 216) (p5 : 216 ≤ c267_total.toInt) (p6 : ((n269 : Nat) : Int) ≤ 13824) (p7 : 1 ≤ ((n269 : Nat) : Int)) (p8 : c267_total.toInt ≤ ((n269 : Nat) : Int)) (p9 : 1 ≤ c248_pots.toInt) (p10 : 0 ≤ v1.toInt) (p11 : v1.toInt ≤ 1023) (hr_a268 : dz_pt a268 [36, 6, 1]) (hr_a269 : dz_rg a269 n269 0 1023) : dz_T (f142_X2_breakBar fu c248_pots c261_many c267_total a268 n269 a273 v1 v2 a269) (fun r => dz_rg r n269 0 1023) :=
  t142_X2_breakBar_E_g33 fu hfu c248_pots c261_many c267_total a268 n269 a273 v1 v2 a269 p0 p1 p2 p3 p4 p5 p6 p7 p8 p9 p10 p11 hr_a268 hr_a269 fu hfu
abbrev p142_X2_breakBar_g34 (fu : Nat) (c248_pots : Int32) (c261_many : Int32) (c267_total : Int32) (a268 : Nat → Int32) (n269 : Nat) (a273 : Nat → Int32) (k : Nat) : Prop :=
  (∀ (v1 : Int32) (v2 : Int32) (v3 : Int32) (v4 : Int32) (v5 : Int32) (a269 : Nat → Int32), v1.toInt ≤ 1023 → 0 ≤ v1.toInt → v3.toInt ≤ 72 → 72 ≤ v3.toInt → v4.toInt ≤ 6 → 6 ≤ v4.toInt → v5.toInt ≤ 1301 → 0 ≤ v5.toInt → dz_rg a269 n269 0 1023 → v5.toInt % 6 = 0 → 0 + 0 + (13824 - v5.toInt) * 224 + 8 ≤ ((k : Nat) : Int) → dz_T ((F142_X2_breakBar fu c248_pots c261_many c267_total a268 n269 a273 k).1 v1 v2 v3 v4 v5 a269) (fun r => dz_rg r n269 0 1023)) ∧ (∀ (v1 : Int32) (v2 : Int32) (v3 : Int32) (v4 : Int32) (v5 : Int32) (v6 : Int32) (v7 : Int32) (a269 : Nat → Int32), v1.toInt ≤ 1023 → 0 ≤ v1.toInt → v3.toInt ≤ 72 → 72 ≤ v3.toInt → v4.toInt ≤ 6 → 6 ≤ v4.toInt → v5.toInt ≤ 1295 → 0 ≤ v5.toInt → v7.toInt ≤ 2 → (-1) ≤ v7.toInt → dz_rg a269 n269 0 1023 → v5.toInt % 6 = 0 → 0 + 0 + ((13824 - v5.toInt) - 1) * 224 + 128 + (v7.toInt - (-1)) * 16 + 16 ≤ ((k : Nat) : Int) → dz_T ((F142_X2_breakBar fu c248_pots c261_many c267_total a268 n269 a273 k).2.1 v1 v2 v3 v4 v5 v6 v7 a269) (fun r => dz_rg r n269 0 1023)) ∧ (∀ (v1 : Int32) (v2 : Int32) (v3 : Int32) (v4 : Int32) (v5 : Int32) (v6 : Int32) (v7 : Int32) (a269 : Nat → Int32), v1.toInt ≤ 1023 → 0 ≤ v1.toInt → v3.toInt ≤ 72 → 72 ≤ v3.toInt → v4.toInt ≤ 6 → 6 ≤ v4.toInt → v5.toInt ≤ 1295 → 0 ≤ v5.toInt → v7.toInt ≤ 6 → 0 ≤ v7.toInt → dz_rg a269 n269 0 1023 → v5.toInt % 6 = 0 → 0 + 0 + ((13824 - v5.toInt) - 1) * 224 + 0 + (6 - v7.toInt) * 16 + 16 ≤ ((k : Nat) : Int) → dz_T ((F142_X2_breakBar fu c248_pots c261_many c267_total a268 n269 a273 k).2.2.1 v1 v2 v3 v4 v5 v6 v7 a269) (fun r => dz_rg r n269 0 1023))
set_option maxHeartbeats 1000000 in
set_option maxRecDepth 10000 in
theorem t142_X2_breakBar_h1_g34 (fu : Nat) (hfu : 1000000000000 ≤ fu) (c248_pots : Int32) (c261_many : Int32) (c267_total : Int32) (a268 : Nat → Int32) (n269 : Nat) (a273 : Nat → Int32) (p0 : c248_pots.toInt ≤ 4) (p1 : 4 ≤ c248_pots.toInt) (p2 : c261_many.toInt ≤ 6) (p3 : 6 ≤ c261_many.toInt) (p4 : c267_total.toInt ≤ 1296) (p5 : 1296 ≤ c267_total.toInt) (p6 : ((n269 : Nat) : Int) ≤ 13824) (p7 : 1 ≤ ((n269 : Nat) : Int)) (p8 : c267_total.toInt ≤ ((n269 : Nat) : Int)) (p9 : 1 ≤ c248_pots.toInt) (hr_a268 : dz_pt a268 [216, 36, 6, 1]) (k : Nat) (ih : ∀ j9, j9 < k → p142_X2_breakBar_g34 fu c248_pots c261_many c267_total a268 n269 a273 j9) : ∀ (v1 : Int32) (v2 : Int32) (v3 : Int32) (v4 : Int32) (v5 : Int32) (a269 : Nat → Int32), v1.toInt ≤ 1023 → 0 ≤ v1.toInt → v3.toInt ≤ 72 → 72 ≤ v3.toInt → v4.toInt ≤ 6 → 6 ≤ v4.toInt → v5.toInt ≤ 1301 → 0 ≤ v5.toInt → dz_rg a269 n269 0 1023 → v5.toInt % 6 = 0 → 0 + 0 + (13824 - v5.toInt) * 224 + 8 ≤ ((k : Nat) : Int) → dz_T ((F142_X2_breakBar fu c248_pots c261_many c267_total a268 n269 a273 k).1 v1 v2 v3 v4 v5 a269) (fun r => dz_rg r n269 0 1023) := by
  intro v1 v2 v3 v4 v5 a269 i0 i1 i2 i3 i4 i5 i6 i7 hr_a269 x0 hm
  obtain ⟨k0, rfl⟩ : ∃ x, k = x + 1 := ⟨k - 1, by omega⟩
  show dz_T (s142_X2_breakBar_1 fu c248_pots c261_many c267_total a268 n269 a273 (F142_X2_breakBar fu c248_pots c261_many c267_total a268 n269 a273 k0).2.1  v1 v2 v3 v4 v5 a269) _
  unfold s142_X2_breakBar_1
  refine dz_Tle (fun h1 => ?_) (fun h1 => ?_)
  · skip
    exact dz_Ts (hr_a269)
  · skip
    have e2 := dz_l0
    refine dz_Tle (fun h3 => ?_) (fun h3 => ?_)
    · skip
      exfalso; omega
    · skip
      have e4 := dz_l2
      have e5 := dz_sub (a := c248_pots) (b := (2 : Int32)) (by omega) (by omega)
      exact (ih k0 (by omega)).2.1 v1 v2 v3 v4 v5 v2 (c248_pots - (2 : Int32)) a269 i0 i1 i2 i3 i4 i5 (by first | assumption | omega) i7 (by omega) (by omega) (hr_a269) (by omega) (by omega)
set_option maxHeartbeats 1000000 in
set_option maxRecDepth 10000 in
theorem t142_X2_breakBar_h2_g34 (fu : Nat) (hfu : 1000000000000 ≤ fu) (c248_pots : Int32) (c261_many : Int32) (c267_total : Int32) (a268 : Nat → Int32) (n269 : Nat) (a273 : Nat → Int32) (p0 : c248_pots.toInt ≤ 4) (p1 : 4 ≤ c248_pots.toInt) (p2 : c261_many.toInt ≤ 6) (p3 : 6 ≤ c261_many.toInt) (p4 : c267_total.toInt ≤ 1296) (p5 : 1296 ≤ c267_total.toInt) (p6 : ((n269 : Nat) : Int) ≤ 13824) (p7 : 1 ≤ ((n269 : Nat) : Int)) (p8 : c267_total.toInt ≤ ((n269 : Nat) : Int)) (p9 : 1 ≤ c248_pots.toInt) (hr_a268 : dz_pt a268 [216, 36, 6, 1]) (k : Nat) (ih : ∀ j9, j9 < k → p142_X2_breakBar_g34 fu c248_pots c261_many c267_total a268 n269 a273 j9) : ∀ (v1 : Int32) (v2 : Int32) (v3 : Int32) (v4 : Int32) (v5 : Int32) (v6 : Int32) (v7 : Int32) (a269 : Nat → Int32), v1.toInt ≤ 1023 → 0 ≤ v1.toInt → v3.toInt ≤ 72 → 72 ≤ v3.toInt → v4.toInt ≤ 6 → 6 ≤ v4.toInt → v5.toInt ≤ 1295 → 0 ≤ v5.toInt → v7.toInt ≤ 2 → (-1) ≤ v7.toInt → dz_rg a269 n269 0 1023 → v5.toInt % 6 = 0 → 0 + 0 + ((13824 - v5.toInt) - 1) * 224 + 128 + (v7.toInt - (-1)) * 16 + 16 ≤ ((k : Nat) : Int) → dz_T ((F142_X2_breakBar fu c248_pots c261_many c267_total a268 n269 a273 k).2.1 v1 v2 v3 v4 v5 v6 v7 a269) (fun r => dz_rg r n269 0 1023) := by
  intro v1 v2 v3 v4 v5 v6 v7 a269 i0 i1 i2 i3 i4 i5 i6 i7 i8 i9 hr_a269 x0 hm
  obtain ⟨k0, rfl⟩ : ∃ x, k = x + 1 := ⟨k - 1, by omega⟩
  show dz_T (s142_X2_breakBar_2 fu c248_pots c261_many c267_total a268 n269 a273 (F142_X2_breakBar fu c248_pots c261_many c267_total a268 n269 a273 k0).2.1 (F142_X2_breakBar fu c248_pots c261_many c267_total a268 n269 a273 k0).2.2.1  v1 v2 v3 v4 v5 v6 v7 a269) _
  unfold s142_X2_breakBar_2
  have e1 := dz_l0
  refine dz_Tlt (fun h2 => ?_) (fun h2 => ?_)
  · skip
    exact (ih k0 (by omega)).2.2 v1 v2 v3 v4 v5 v6 (0 : Int32) a269 i0 i1 i2 i3 i4 i5 i6 i7 (by omega) (by omega) (hr_a269) (by omega) (by omega)
  · skip
    refine dz_Tbe (show f141_X2_rankIn fu c261_many a268 v5 v7 = (if dz_in v7 4 then (if ((a268 v7.toNatClampNeg) ≤ (0 : Int32)) then (some (0 : Int32)) else (if (c261_many ≤ (0 : Int32)) then (some (0 : Int32)) else (if (¬ ((a268 v7.toNatClampNeg) = (0 : Int32))) then (if (¬ (c261_many = (0 : Int32))) then (some (dz_rem (v5 / (a268 v7.toNatClampNeg)) c261_many)) else none) else none))) else none) from rfl) ?_
    refine dz_Tinb (by omega) (by omega) ?_
    have e3 := dz_ptrg (hr_a268) (i := v7) 1 216 (by decide) (by omega) (by show _ < ((4 : Nat) : Int); omega)
    refine dz_Tleb (fun h4 => ?_) (fun h4 => ?_)
    · skip
      exfalso; omega
    · skip
      refine dz_Tleb (fun h5 => ?_) (fun h5 => ?_)
      · skip
        exfalso; omega
      · skip
        refine dz_Tzb (by omega) ?_
        refine dz_Tzb (by omega) ?_
        refine dz_Tsb ?_
        have e6 := dz_l24
        have e7 := dz_mulr (a := v7) (b := (24 : Int32)) 24 (by omega) (by omega) (by omega)
        have e8 := dz_divq (a := v5) (b := (a268 v7.toNatClampNeg)) 1 1295 (by omega) (by omega) (by omega) (by omega)
        have e9 := dz_remn (a := (v5 / (a268 v7.toNatClampNeg))) (b := c261_many) 6 (by omega) (by omega) (by omega)
        have e10 := dz_add (a := (v7 * (24 : Int32))) (b := (dz_rem (v5 / (a268 v7.toNatClampNeg)) c261_many)) (by omega) (by omega)
        refine dz_Tin (by omega) (by omega) ?_
        have e11 := dz_rng v6
        have e12 := dz_rng (a273 ((v7 * (24 : Int32)) + (dz_rem (v5 / (a268 v7.toNatClampNeg)) c261_many)).toNatClampNeg)
        have e13 := dz_lm1
        have e14 := dz_add (a := v7) (b := (-(1 : Int32))) (by omega) (by omega)
        generalize (v7 + (-(1 : Int32))) = z1 at *
        exact (ih k0 (by omega)).2.1 v1 v2 v3 v4 v5 (v6 + (a273 ((v7 * (24 : Int32)) + (dz_rem (v5 / (a268 v7.toNatClampNeg)) c261_many)).toNatClampNeg)) z1 a269 i0 i1 i2 i3 i4 i5 i6 i7 (by omega) (by omega) (hr_a269) (by omega) (by omega)
set_option maxHeartbeats 1000000 in
set_option maxRecDepth 10000 in
theorem t142_X2_breakBar_h3_g34 (fu : Nat) (hfu : 1000000000000 ≤ fu) (c248_pots : Int32) (c261_many : Int32) (c267_total : Int32) (a268 : Nat → Int32) (n269 : Nat) (a273 : Nat → Int32) (p0 : c248_pots.toInt ≤ 4) (p1 : 4 ≤ c248_pots.toInt) (p2 : c261_many.toInt ≤ 6) (p3 : 6 ≤ c261_many.toInt) (p4 : c267_total.toInt ≤ 1296) (p5 : 1296 ≤ c267_total.toInt) (p6 : ((n269 : Nat) : Int) ≤ 13824) (p7 : 1 ≤ ((n269 : Nat) : Int)) (p8 : c267_total.toInt ≤ ((n269 : Nat) : Int)) (p9 : 1 ≤ c248_pots.toInt) (hr_a268 : dz_pt a268 [216, 36, 6, 1]) (k : Nat) (ih : ∀ j9, j9 < k → p142_X2_breakBar_g34 fu c248_pots c261_many c267_total a268 n269 a273 j9) : ∀ (v1 : Int32) (v2 : Int32) (v3 : Int32) (v4 : Int32) (v5 : Int32) (v6 : Int32) (v7 : Int32) (a269 : Nat → Int32), v1.toInt ≤ 1023 → 0 ≤ v1.toInt → v3.toInt ≤ 72 → 72 ≤ v3.toInt → v4.toInt ≤ 6 → 6 ≤ v4.toInt → v5.toInt ≤ 1295 → 0 ≤ v5.toInt → v7.toInt ≤ 6 → 0 ≤ v7.toInt → dz_rg a269 n269 0 1023 → v5.toInt % 6 = 0 → 0 + 0 + ((13824 - v5.toInt) - 1) * 224 + 0 + (6 - v7.toInt) * 16 + 16 ≤ ((k : Nat) : Int) → dz_T ((F142_X2_breakBar fu c248_pots c261_many c267_total a268 n269 a273 k).2.2.1 v1 v2 v3 v4 v5 v6 v7 a269) (fun r => dz_rg r n269 0 1023) := by
  intro v1 v2 v3 v4 v5 v6 v7 a269 i0 i1 i2 i3 i4 i5 i6 i7 i8 i9 hr_a269 x0 hm
  obtain ⟨k0, rfl⟩ : ∃ x, k = x + 1 := ⟨k - 1, by omega⟩
  show dz_T (s142_X2_breakBar_3 fu c248_pots c261_many c267_total a268 n269 a273 (F142_X2_breakBar fu c248_pots c261_many c267_total a268 n269 a273 k0).1 (F142_X2_breakBar fu c248_pots c261_many c267_total a268 n269 a273 k0).2.2.2  v1 v2 v3 v4 v5 v6 v7 a269) _
  unfold s142_X2_breakBar_3
  refine dz_Tle (fun h1 => ?_) (fun h1 => ?_)
  · skip
    have e2 := dz_add (a := v5) (b := v4) (by omega) (by omega)
    exact (ih k0 (by omega)).1 v1 v2 v3 v4 (v5 + v4) a269 i0 i1 i2 i3 i4 i5 (by omega) (by omega) (hr_a269) (by omega) (by omega)
  · skip
    have e3 := dz_add (a := v3) (b := v7) (by omega) (by omega)
    refine dz_Tin (by omega) (by omega) ?_
    have e4 := dz_rng v6
    have e5 := dz_rng (a273 (v3 + v7).toNatClampNeg)
    have e6 := dz_l34952
    have e7 := dz_andr (a := (v6 + (a273 (v3 + v7).toNatClampNeg))) (b := (34952 : Int32)) (by omega)
    have e8 := dz_l0
    refine dz_Teq (fun h9 => ?_) (fun h9 => ?_)
    · skip
      obtain ⟨k1, rfl⟩ : ∃ x, k0 = x + 1 := ⟨k0 - 1, by omega⟩
      show dz_T (s142_X2_breakBar_4 fu c248_pots c261_many c267_total a268 n269 a273 (F142_X2_breakBar fu c248_pots c261_many c267_total a268 n269 a273 k1).2.2.1 v1 v2 v3 v4 v5 v6 v7 a269) _
      unfold s142_X2_breakBar_4
      have e10 := dz_l1
      have e11 := dz_add (a := v7) (b := (1 : Int32)) (by omega) (by omega)
      exact (ih k1 (by omega)).2.2 v1 v2 v3 v4 v5 v6 (v7 + (1 : Int32)) a269 i0 i1 i2 i3 i4 i5 i6 i7 (by omega) (by omega) (hr_a269) (by omega) (by omega)
    · skip
      have e12 := dz_add (a := v5) (b := v7) (by omega) (by omega)
      refine dz_Tin (by omega) (by omega) ?_
      refine dz_Tin (by omega) (by omega) ?_
      obtain ⟨k2, rfl⟩ : ∃ x, k0 = x + 1 := ⟨k0 - 1, by omega⟩
      show dz_T (s142_X2_breakBar_4 fu c248_pots c261_many c267_total a268 n269 a273 (F142_X2_breakBar fu c248_pots c261_many c267_total a268 n269 a273 k2).2.2.1 v1 v2 v3 v4 v5 v6 v7 (upd a269 (v5 + v7).toNatClampNeg ((a269 (v5 + v7).toNatClampNeg) ||| v1))) _
      unfold s142_X2_breakBar_4
      have e13 := dz_l1
      have e14 := dz_add (a := v7) (b := (1 : Int32)) (by omega) (by omega)
      have e15 := dz_rgat (hr_a269) (i := (v5 + v7)) (by omega) (by omega)
      have e16 := dz_orb (a := (a269 (v5 + v7).toNatClampNeg)) (b := v1) 10 (by omega) (by omega) (by omega) (by omega) (by omega)
      exact (ih k2 (by omega)).2.2 v1 v2 v3 v4 v5 v6 (v7 + (1 : Int32)) (upd a269 (v5 + v7).toNatClampNeg ((a269 (v5 + v7).toNatClampNeg) ||| v1)) i0 i1 i2 i3 i4 i5 i6 i7 (by omega) (by omega) (dz_rgu (hr_a269) (by omega) (by omega)) (by omega) (by omega)
theorem t142_X2_breakBar_I_g34 (fu : Nat) (hfu : 1000000000000 ≤ fu) (c248_pots : Int32) (c261_many : Int32) (c267_total : Int32) (a268 : Nat → Int32) (n269 : Nat) (a273 : Nat → Int32) (p0 : c248_pots.toInt ≤ 4) (p1 : 4 ≤ c248_pots.toInt) (p2 : c261_many.toInt ≤ 6) (p3 : 6 ≤ c261_many.toInt) (p4 : c267_total.toInt ≤ 1296) (p5 : 1296 ≤ c267_total.toInt) (p6 : ((n269 : Nat) : Int) ≤ 13824) (p7 : 1 ≤ ((n269 : Nat) : Int)) (p8 : c267_total.toInt ≤ ((n269 : Nat) : Int)) (p9 : 1 ≤ c248_pots.toInt) (hr_a268 : dz_pt a268 [216, 36, 6, 1]) (k : Nat) : p142_X2_breakBar_g34 fu c248_pots c261_many c267_total a268 n269 a273 k := by
  induction k using Nat.strongRecOn with
  | _ k ih => exact ⟨t142_X2_breakBar_h1_g34 fu hfu c248_pots c261_many c267_total a268 n269 a273 p0 p1 p2 p3 p4 p5 p6 p7 p8 p9 hr_a268 k ih, t142_X2_breakBar_h2_g34 fu hfu c248_pots c261_many c267_total a268 n269 a273 p0 p1 p2 p3 p4 p5 p6 p7 p8 p9 hr_a268 k ih, t142_X2_breakBar_h3_g34 fu hfu c248_pots c261_many c267_total a268 n269 a273 p0 p1 p2 p3 p4 p5 p6 p7 p8 p9 hr_a268 k ih⟩
set_option maxHeartbeats 1000000 in
set_option maxRecDepth 10000 in
theorem t142_X2_breakBar_E_g34 (fu : Nat) (hfu : 1000000000000 ≤ fu) (c248_pots : Int32) (c261_many : Int32) (c267_total : Int32) (a268 : Nat → Int32) (n269 : Nat) (a273 : Nat → Int32) (v1 : Int32) (v2 : Int32) (a269 : Nat → Int32) (p0 : c248_pots.toInt ≤ 4) (p1 : 4 ≤ c248_pots.toInt) (p2 : c261_many.toInt ≤ 6) (p3 : 6 ≤ c261_many.toInt) (p4 : c267_total.toInt ≤ 1296) (p5 : 1296 ≤ c267_total.toInt) (p6 : ((n269 : Nat) : Int) ≤ 13824) (p7 : 1 ≤ ((n269 : Nat) : Int)) (p8 : c267_total.toInt ≤ ((n269 : Nat) : Int)) (p9 : 1 ≤ c248_pots.toInt) (p10 : 0 ≤ v1.toInt) (p11 : v1.toInt ≤ 1023) (hr_a268 : dz_pt a268 [216, 36, 6, 1]) (hr_a269 : dz_rg a269 n269 0 1023) (kv : Nat) (hkv : 1000000000000 ≤ kv) : dz_T (s142_X2_breakBar_0 fu c248_pots c261_many c267_total a268 n269 a273 (F142_X2_breakBar fu c248_pots c261_many c267_total a268 n269 a273 kv).1  v1 v2 a269) (fun r => dz_rg r n269 0 1023) := by
  unfold s142_X2_breakBar_0
  have e1 := dz_l1
  have e2 := dz_sub (a := c248_pots) (b := (1 : Int32)) (by omega) (by omega)
  have e3 := dz_l24
  have e4 := dz_mull (a := (c248_pots - (1 : Int32))) (b := (24 : Int32)) 3 (by omega) (by omega) (by omega)
  have e5 := dz_l0
  exact (t142_X2_breakBar_I_g34 fu hfu c248_pots c261_many c267_total a268 n269 a273 p0 p1 p2 p3 p4 p5 p6 p7 p8 p9 hr_a268 kv).1 v1 v2 ((c248_pots - (1 : Int32)) * (24 : Int32)) c261_many (0 : Int32) a269 p11 p10 (by omega) (by omega) p2 p3 (by omega) (by omega) (hr_a269) (by omega) (by omega)
theorem t142_X2_breakBar_g34 (fu : Nat) (hfu : 1000000000000 ≤ fu) (c248_pots : Int32) (c261_many : Int32) (c267_total : Int32) (a268 : Nat → Int32) (n269 : Nat) (a273 : Nat → Int32) (v1 : Int32) (v2 : Int32) (a269 : Nat → Int32) (p0 : c248_pots.toInt ≤ 4) (p1 : 4 ≤ c248_pots.toInt) (p2 : c261_many.toInt ≤ 6) (p3 : 6 ≤ c261_many.toInt) (p4 : c267_total.toInt ≤ 1296) (p5 : 1296 ≤ c267_total.toInt) (p6 : ((n269 : Nat) : Int) ≤ 13824) (p7 : 1 ≤ ((n269 : Nat) : Int)) (p8 : c267_total.toInt ≤ ((n269 : Nat) : Int)) (p9 : 1 ≤ c248_pots.toInt) (p10 : 0 ≤ v1.toInt) (p11 : v1.toInt ≤ 1023) (hr_a268 : dz_pt a268 [216, 36, 6, 1]) (hr_a269 : dz_rg a269 n269 0 1023) : dz_T (f142_X2_breakBar fu c248_pots c261_many c267_total a268 n269 a273 v1 v2 a269) (fun r => dz_rg r n269 0 1023) :=
  t142_X2_breakBar_E_g34 fu hfu c248_pots c261_many c267_total a268 n269 a273 v1 v2 a269 p0 p1 p2 p3 p4 p5 p6 p7 p8 p9 p10 p11 hr_a268 hr_a269 fu hfu
abbrev p142_X2_breakBar_g41 (fu : Nat) (c248_pots : Int32) (c261_many : Int32) (c267_total : Int32) (a268 : Nat → Int32) (n269 : Nat) (a273 : Nat → Int32) (k : Nat) : Prop :=
  (∀ (v1 : Int32) (v2 : Int32) (v3 : Int32) (v4 : Int32) (v5 : Int32) (a269 : Nat → Int32), v1.toInt ≤ 1023 → 0 ≤ v1.toInt → v3.toInt ≤ 0 → 0 ≤ v3.toInt → v4.toInt ≤ 24 → 24 ≤ v4.toInt → v5.toInt ≤ 47 → 0 ≤ v5.toInt → dz_rg a269 n269 0 1023 → v5.toInt % 24 = 0 → 0 + 0 + (13824 - v5.toInt) * 464 + 8 ≤ ((k : Nat) : Int) → dz_T ((F142_X2_breakBar fu c248_pots c261_many c267_total a268 n269 a273 k).1 v1 v2 v3 v4 v5 a269) (fun r => dz_rg r n269 0 1023)) ∧ (∀ (v1 : Int32) (v2 : Int32) (v3 : Int32) (v4 : Int32) (v5 : Int32) (v6 : Int32) (v7 : Int32) (a269 : Nat → Int32), v1.toInt ≤ 1023 → 0 ≤ v1.toInt → v3.toInt ≤ 0 → 0 ≤ v3.toInt → v4.toInt ≤ 24 → 24 ≤ v4.toInt → v5.toInt ≤ 23 → 0 ≤ v5.toInt → v7.toInt ≤ (-1) → (-1) ≤ v7.toInt → v2.toInt ≤ v6.toInt → v6.toInt ≤ v2.toInt → dz_rg a269 n269 0 1023 → v5.toInt % 24 = 0 → 0 + 0 + ((13824 - v5.toInt) - 1) * 464 + 416 + (v7.toInt - (-1)) * 16 + 16 ≤ ((k : Nat) : Int) → dz_T ((F142_X2_breakBar fu c248_pots c261_many c267_total a268 n269 a273 k).2.1 v1 v2 v3 v4 v5 v6 v7 a269) (fun r => dz_rg r n269 0 1023)) ∧ (∀ (v1 : Int32) (v2 : Int32) (v3 : Int32) (v4 : Int32) (v5 : Int32) (v6 : Int32) (v7 : Int32) (a269 : Nat → Int32), v1.toInt ≤ 1023 → 0 ≤ v1.toInt → v3.toInt ≤ 0 → 0 ≤ v3.toInt → v4.toInt ≤ 24 → 24 ≤ v4.toInt → v5.toInt ≤ 23 → 0 ≤ v5.toInt → v7.toInt ≤ 24 → 0 ≤ v7.toInt → v2.toInt ≤ v6.toInt → v6.toInt ≤ v2.toInt → dz_rg a269 n269 0 1023 → v5.toInt % 24 = 0 → 0 + 0 + ((13824 - v5.toInt) - 1) * 464 + 0 + (24 - v7.toInt) * 16 + 16 ≤ ((k : Nat) : Int) → dz_T ((F142_X2_breakBar fu c248_pots c261_many c267_total a268 n269 a273 k).2.2.1 v1 v2 v3 v4 v5 v6 v7 a269) (fun r => dz_rg r n269 0 1023))
set_option maxHeartbeats 1000000 in
set_option maxRecDepth 10000 in
theorem t142_X2_breakBar_h1_g41 (fu : Nat) (hfu : 1000000000000 ≤ fu) (c248_pots : Int32) (c261_many : Int32) (c267_total : Int32) (a268 : Nat → Int32) (n269 : Nat) (a273 : Nat → Int32) (p0 : c248_pots.toInt ≤ 1) (p1 : 1 ≤ c248_pots.toInt) (p2 : c261_many.toInt ≤ 24) (p3 : 24 ≤ c261_many.toInt) (p4 : c267_total.toInt ≤ 24) (p5 : 24 ≤ c267_total.toInt) (p6 : ((n269 : Nat) : Int) ≤ 13824) (p7 : 1 ≤ ((n269 : Nat) : Int)) (p8 : c267_total.toInt ≤ ((n269 : Nat) : Int)) (p9 : 1 ≤ c248_pots.toInt) (hr_a268 : dz_pt a268 [1]) (k : Nat) (ih : ∀ j9, j9 < k → p142_X2_breakBar_g41 fu c248_pots c261_many c267_total a268 n269 a273 j9) : ∀ (v1 : Int32) (v2 : Int32) (v3 : Int32) (v4 : Int32) (v5 : Int32) (a269 : Nat → Int32), v1.toInt ≤ 1023 → 0 ≤ v1.toInt → v3.toInt ≤ 0 → 0 ≤ v3.toInt → v4.toInt ≤ 24 → 24 ≤ v4.toInt → v5.toInt ≤ 47 → 0 ≤ v5.toInt → dz_rg a269 n269 0 1023 → v5.toInt % 24 = 0 → 0 + 0 + (13824 - v5.toInt) * 464 + 8 ≤ ((k : Nat) : Int) → dz_T ((F142_X2_breakBar fu c248_pots c261_many c267_total a268 n269 a273 k).1 v1 v2 v3 v4 v5 a269) (fun r => dz_rg r n269 0 1023) := by
  intro v1 v2 v3 v4 v5 a269 i0 i1 i2 i3 i4 i5 i6 i7 hr_a269 x0 hm
  obtain ⟨k0, rfl⟩ : ∃ x, k = x + 1 := ⟨k - 1, by omega⟩
  show dz_T (s142_X2_breakBar_1 fu c248_pots c261_many c267_total a268 n269 a273 (F142_X2_breakBar fu c248_pots c261_many c267_total a268 n269 a273 k0).2.1  v1 v2 v3 v4 v5 a269) _
  unfold s142_X2_breakBar_1
  refine dz_Tle (fun h1 => ?_) (fun h1 => ?_)
  · skip
    exact dz_Ts (hr_a269)
  · skip
    have e2 := dz_l0
    refine dz_Tle (fun h3 => ?_) (fun h3 => ?_)
    · skip
      exfalso; omega
    · skip
      have e4 := dz_l2
      have e5 := dz_sub (a := c248_pots) (b := (2 : Int32)) (by omega) (by omega)
      exact (ih k0 (by omega)).2.1 v1 v2 v3 v4 v5 v2 (c248_pots - (2 : Int32)) a269 i0 i1 i2 i3 i4 i5 (by first | assumption | omega) i7 (by omega) (by omega) (by first | assumption | omega) (by first | assumption | omega) (hr_a269) (by omega) (by omega)
set_option maxHeartbeats 1000000 in
set_option maxRecDepth 10000 in
theorem t142_X2_breakBar_h2_g41 (fu : Nat) (hfu : 1000000000000 ≤ fu) (c248_pots : Int32) (c261_many : Int32) (c267_total : Int32) (a268 : Nat → Int32) (n269 : Nat) (a273 : Nat → Int32) (p0 : c248_pots.toInt ≤ 1) (p1 : 1 ≤ c248_pots.toInt) (p2 : c261_many.toInt ≤ 24) (p3 : 24 ≤ c261_many.toInt) (p4 : c267_total.toInt ≤ 24) (p5 : 24 ≤ c267_total.toInt) (p6 : ((n269 : Nat) : Int) ≤ 13824) (p7 : 1 ≤ ((n269 : Nat) : Int)) (p8 : c267_total.toInt ≤ ((n269 : Nat) : Int)) (p9 : 1 ≤ c248_pots.toInt) (hr_a268 : dz_pt a268 [1]) (k : Nat) (ih : ∀ j9, j9 < k → p142_X2_breakBar_g41 fu c248_pots c261_many c267_total a268 n269 a273 j9) : ∀ (v1 : Int32) (v2 : Int32) (v3 : Int32) (v4 : Int32) (v5 : Int32) (v6 : Int32) (v7 : Int32) (a269 : Nat → Int32), v1.toInt ≤ 1023 → 0 ≤ v1.toInt → v3.toInt ≤ 0 → 0 ≤ v3.toInt → v4.toInt ≤ 24 → 24 ≤ v4.toInt → v5.toInt ≤ 23 → 0 ≤ v5.toInt → v7.toInt ≤ (-1) → (-1) ≤ v7.toInt → v2.toInt ≤ v6.toInt → v6.toInt ≤ v2.toInt → dz_rg a269 n269 0 1023 → v5.toInt % 24 = 0 → 0 + 0 + ((13824 - v5.toInt) - 1) * 464 + 416 + (v7.toInt - (-1)) * 16 + 16 ≤ ((k : Nat) : Int) → dz_T ((F142_X2_breakBar fu c248_pots c261_many c267_total a268 n269 a273 k).2.1 v1 v2 v3 v4 v5 v6 v7 a269) (fun r => dz_rg r n269 0 1023) := by
  intro v1 v2 v3 v4 v5 v6 v7 a269 i0 i1 i2 i3 i4 i5 i6 i7 i8 i9 i10 i11 hr_a269 x0 hm
  obtain ⟨k0, rfl⟩ : ∃ x, k = x + 1 := ⟨k - 1, by omega⟩
  show dz_T (s142_X2_breakBar_2 fu c248_pots c261_many c267_total a268 n269 a273 (F142_X2_breakBar fu c248_pots c261_many c267_total a268 n269 a273 k0).2.1 (F142_X2_breakBar fu c248_pots c261_many c267_total a268 n269 a273 k0).2.2.1  v1 v2 v3 v4 v5 v6 v7 a269) _
  unfold s142_X2_breakBar_2
  have e1 := dz_l0
  refine dz_Tlt (fun h2 => ?_) (fun h2 => ?_)
  · skip
    exact (ih k0 (by omega)).2.2 v1 v2 v3 v4 v5 v6 (0 : Int32) a269 i0 i1 i2 i3 i4 i5 i6 i7 (by omega) (by omega) i10 i11 (hr_a269) (by omega) (by omega)
  · skip
    exfalso; omega
set_option maxHeartbeats 1000000 in
set_option maxRecDepth 10000 in
theorem t142_X2_breakBar_h3_g41 (fu : Nat) (hfu : 1000000000000 ≤ fu) (c248_pots : Int32) (c261_many : Int32) (c267_total : Int32) (a268 : Nat → Int32) (n269 : Nat) (a273 : Nat → Int32) (p0 : c248_pots.toInt ≤ 1) (p1 : 1 ≤ c248_pots.toInt) (p2 : c261_many.toInt ≤ 24) (p3 : 24 ≤ c261_many.toInt) (p4 : c267_total.toInt ≤ 24) (p5 : 24 ≤ c267_total.toInt) (p6 : ((n269 : Nat) : Int) ≤ 13824) (p7 : 1 ≤ ((n269 : Nat) : Int)) (p8 : c267_total.toInt ≤ ((n269 : Nat) : Int)) (p9 : 1 ≤ c248_pots.toInt) (hr_a268 : dz_pt a268 [1]) (k : Nat) (ih : ∀ j9, j9 < k → p142_X2_breakBar_g41 fu c248_pots c261_many c267_total a268 n269 a273 j9) : ∀ (v1 : Int32) (v2 : Int32) (v3 : Int32) (v4 : Int32) (v5 : Int32) (v6 : Int32) (v7 : Int32) (a269 : Nat → Int32), v1.toInt ≤ 1023 → 0 ≤ v1.toInt → v3.toInt ≤ 0 → 0 ≤ v3.toInt → v4.toInt ≤ 24 → 24 ≤ v4.toInt → v5.toInt ≤ 23 → 0 ≤ v5.toInt → v7.toInt ≤ 24 → 0 ≤ v7.toInt → v2.toInt ≤ v6.toInt → v6.toInt ≤ v2.toInt → dz_rg a269 n269 0 1023 → v5.toInt % 24 = 0 → 0 + 0 + ((13824 - v5.toInt) - 1) * 464 + 0 + (24 - v7.toInt) * 16 + 16 ≤ ((k : Nat) : Int) → dz_T ((F142_X2_breakBar fu c248_pots c261_many c267_total a268 n269 a273 k).2.2.1 v1 v2 v3 v4 v5 v6 v7 a269) (fun r => dz_rg r n269 0 1023) := by
  intro v1 v2 v3 v4 v5 v6 v7 a269 i0 i1 i2 i3 i4 i5 i6 i7 i8 i9 i10 i11 hr_a269 x0 hm
  obtain ⟨k0, rfl⟩ : ∃ x, k = x + 1 := ⟨k - 1, by omega⟩
  show dz_T (s142_X2_breakBar_3 fu c248_pots c261_many c267_total a268 n269 a273 (F142_X2_breakBar fu c248_pots c261_many c267_total a268 n269 a273 k0).1 (F142_X2_breakBar fu c248_pots c261_many c267_total a268 n269 a273 k0).2.2.2  v1 v2 v3 v4 v5 v6 v7 a269) _
  unfold s142_X2_breakBar_3
  refine dz_Tle (fun h1 => ?_) (fun h1 => ?_)
  · skip
    have e2 := dz_add (a := v5) (b := v4) (by omega) (by omega)
    exact (ih k0 (by omega)).1 v1 v2 v3 v4 (v5 + v4) a269 i0 i1 i2 i3 i4 i5 (by omega) (by omega) (hr_a269) (by omega) (by omega)
  · skip
    have e3 := dz_add (a := v3) (b := v7) (by omega) (by omega)
    refine dz_Tin (by omega) (by omega) ?_
    have e4 := dz_rng v6
    have e5 := dz_rng (a273 (v3 + v7).toNatClampNeg)
    have e6 := dz_l34952
    have e7 := dz_andr (a := (v6 + (a273 (v3 + v7).toNatClampNeg))) (b := (34952 : Int32)) (by omega)
    have e8 := dz_l0
    refine dz_Teq (fun h9 => ?_) (fun h9 => ?_)
    · skip
      obtain ⟨k1, rfl⟩ : ∃ x, k0 = x + 1 := ⟨k0 - 1, by omega⟩
      show dz_T (s142_X2_breakBar_4 fu c248_pots c261_many c267_total a268 n269 a273 (F142_X2_breakBar fu c248_pots c261_many c267_total a268 n269 a273 k1).2.2.1 v1 v2 v3 v4 v5 v6 v7 a269) _
      unfold s142_X2_breakBar_4
      have e10 := dz_l1
      have e11 := dz_add (a := v7) (b := (1 : Int32)) (by omega) (by omega)
      exact (ih k1 (by omega)).2.2 v1 v2 v3 v4 v5 v6 (v7 + (1 : Int32)) a269 i0 i1 i2 i3 i4 i5 i6 i7 (by omega) (by omega) i10 i11 (hr_a269) (by omega) (by omega)
    · skip
      have e12 := dz_add (a := v5) (b := v7) (by omega) (by omega)
      refine dz_Tin (by omega) (by omega) ?_
      refine dz_Tin (by omega) (by omega) ?_
      obtain ⟨k2, rfl⟩ : ∃ x, k0 = x + 1 := ⟨k0 - 1, by omega⟩
      show dz_T (s142_X2_breakBar_4 fu c248_pots c261_many c267_total a268 n269 a273 (F142_X2_breakBar fu c248_pots c261_many c267_total a268 n269 a273 k2).2.2.1 v1 v2 v3 v4 v5 v6 v7 (upd a269 (v5 + v7).toNatClampNeg ((a269 (v5 + v7).toNatClampNeg) ||| v1))) _
      unfold s142_X2_breakBar_4
      have e13 := dz_l1
      have e14 := dz_add (a := v7) (b := (1 : Int32)) (by omega) (by omega)
      have e15 := dz_rgat (hr_a269) (i := (v5 + v7)) (by omega) (by omega)
      have e16 := dz_orb (a := (a269 (v5 + v7).toNatClampNeg)) (b := v1) 10 (by omega) (by omega) (by omega) (by omega) (by omega)
      exact (ih k2 (by omega)).2.2 v1 v2 v3 v4 v5 v6 (v7 + (1 : Int32)) (upd a269 (v5 + v7).toNatClampNeg ((a269 (v5 + v7).toNatClampNeg) ||| v1)) i0 i1 i2 i3 i4 i5 i6 i7 (by omega) (by omega) i10 i11 (dz_rgu (hr_a269) (by omega) (by omega)) (by omega) (by omega)
theorem t142_X2_breakBar_I_g41 (fu : Nat) (hfu : 1000000000000 ≤ fu) (c248_pots : Int32) (c261_many : Int32) (c267_total : Int32) (a268 : Nat → Int32) (n269 : Nat) (a273 : Nat → Int32) (p0 : c248_pots.toInt ≤ 1) (p1 : 1 ≤ c248_pots.toInt) (p2 : c261_many.toInt ≤ 24) (p3 : 24 ≤ c261_many.toInt) (p4 : c267_total.toInt ≤ 24) (p5 : 24 ≤ c267_total.toInt) (p6 : ((n269 : Nat) : Int) ≤ 13824) (p7 : 1 ≤ ((n269 : Nat) : Int)) (p8 : c267_total.toInt ≤ ((n269 : Nat) : Int)) (p9 : 1 ≤ c248_pots.toInt) (hr_a268 : dz_pt a268 [1]) (k : Nat) : p142_X2_breakBar_g41 fu c248_pots c261_many c267_total a268 n269 a273 k := by
  induction k using Nat.strongRecOn with
  | _ k ih => exact ⟨t142_X2_breakBar_h1_g41 fu hfu c248_pots c261_many c267_total a268 n269 a273 p0 p1 p2 p3 p4 p5 p6 p7 p8 p9 hr_a268 k ih, t142_X2_breakBar_h2_g41 fu hfu c248_pots c261_many c267_total a268 n269 a273 p0 p1 p2 p3 p4 p5 p6 p7 p8 p9 hr_a268 k ih, t142_X2_breakBar_h3_g41 fu hfu c248_pots c261_many c267_total a268 n269 a273 p0 p1 p2 p3 p4 p5 p6 p7 p8 p9 hr_a268 k ih⟩
set_option maxHeartbeats 1000000 in
set_option maxRecDepth 10000 in
theorem t142_X2_breakBar_E_g41 (fu : Nat) (hfu : 1000000000000 ≤ fu) (c248_pots : Int32) (c261_many : Int32) (c267_total : Int32) (a268 : Nat → Int32) (n269 : Nat) (a273 : Nat → Int32) (v1 : Int32) (v2 : Int32) (a269 : Nat → Int32) (p0 : c248_pots.toInt ≤ 1) (p1 : 1 ≤ c248_pots.toInt) (p2 : c261_many.toInt ≤ 24) (p3 : 24 ≤ c261_many.toInt) (p4 : c267_total.toInt ≤ 24) (p5 : 24 ≤ c267_total.toInt) (p6 : ((n269 : Nat) : Int) ≤ 13824) (p7 : 1 ≤ ((n269 : Nat) : Int)) (p8 : c267_total.toInt ≤ ((n269 : Nat) : Int)) (p9 : 1 ≤ c248_pots.toInt) (p10 : 0 ≤ v1.toInt) (p11 : v1.toInt ≤ 1023) (hr_a268 : dz_pt a268 [1]) (hr_a269 : dz_rg a269 n269 0 1023) (kv : Nat) (hkv : 1000000000000 ≤ kv) : dz_T (s142_X2_breakBar_0 fu c248_pots c261_many c267_total a268 n269 a273 (F142_X2_breakBar fu c248_pots c261_many c267_total a268 n269 a273 kv).1  v1 v2 a269) (fun r => dz_rg r n269 0 1023) := by
  unfold s142_X2_breakBar_0
  have e1 := dz_l1
  have e2 := dz_sub (a := c248_pots) (b := (1 : Int32)) (by omega) (by omega)
  have e3 := dz_l24
  have e4 := dz_mull (a := (c248_pots - (1 : Int32))) (b := (24 : Int32)) 0 (by omega) (by omega) (by omega)
  have e5 := dz_l0
  exact (t142_X2_breakBar_I_g41 fu hfu c248_pots c261_many c267_total a268 n269 a273 p0 p1 p2 p3 p4 p5 p6 p7 p8 p9 hr_a268 kv).1 v1 v2 ((c248_pots - (1 : Int32)) * (24 : Int32)) c261_many (0 : Int32) a269 p11 p10 (by omega) (by omega) p2 p3 (by omega) (by omega) (hr_a269) (by omega) (by omega)
theorem t142_X2_breakBar_g41 (fu : Nat) (hfu : 1000000000000 ≤ fu) (c248_pots : Int32) (c261_many : Int32) (c267_total : Int32) (a268 : Nat → Int32) (n269 : Nat) (a273 : Nat → Int32) (v1 : Int32) (v2 : Int32) (a269 : Nat → Int32) (p0 : c248_pots.toInt ≤ 1) (p1 : 1 ≤ c248_pots.toInt) (p2 : c261_many.toInt ≤ 24) (p3 : 24 ≤ c261_many.toInt) (p4 : c267_total.toInt ≤ 24) (p5 : 24 ≤ c267_total.toInt) (p6 : ((n269 : Nat) : Int) ≤ 13824) (p7 : 1 ≤ ((n269 : Nat) : Int)) (p8 : c267_total.toInt ≤ ((n269 : Nat) : Int)) (p9 : 1 ≤ c248_pots.toInt) (p10 : 0 ≤ v1.toInt) (p11 : v1.toInt ≤ 1023) (hr_a268 : dz_pt a268 [1]) (hr_a269 : dz_rg a269 n269 0 1023) : dz_T (f142_X2_breakBar fu c248_pots c261_many c267_total a268 n269 a273 v1 v2 a269) (fun r => dz_rg r n269 0 1023) :=
  t142_X2_breakBar_E_g41 fu hfu c248_pots c261_many c267_total a268 n269 a273 v1 v2 a269 p0 p1 p2 p3 p4 p5 p6 p7 p8 p9 p10 p11 hr_a268 hr_a269 fu hfu
abbrev p142_X2_breakBar_g42 (fu : Nat) (c248_pots : Int32) (c261_many : Int32) (c267_total : Int32) (a268 : Nat → Int32) (n269 : Nat) (a273 : Nat → Int32) (k : Nat) : Prop :=
  (∀ (v1 : Int32) (v2 : Int32) (v3 : Int32) (v4 : Int32) (v5 : Int32) (a269 : Nat → Int32), v1.toInt ≤ 1023 → 0 ≤ v1.toInt → v3.toInt ≤ 24 → 24 ≤ v3.toInt → v4.toInt ≤ 24 → 24 ≤ v4.toInt → v5.toInt ≤ 599 → 0 ≤ v5.toInt → dz_rg a269 n269 0 1023 → v5.toInt % 24 = 0 → 0 + 0 + (13824 - v5.toInt) * 480 + 8 ≤ ((k : Nat) : Int) → dz_T ((F142_X2_breakBar fu c248_pots c261_many c267_total a268 n269 a273 k).1 v1 v2 v3 v4 v5 a269) (fun r => dz_rg r n269 0 1023)) ∧ (∀ (v1 : Int32) (v2 : Int32) (v3 : Int32) (v4 : Int32) (v5 : Int32) (v6 : Int32) (v7 : Int32) (a269 : Nat → Int32), v1.toInt ≤ 1023 → 0 ≤ v1.toInt → v3.toInt ≤ 24 → 24 ≤ v3.toInt → v4.toInt ≤ 24 → 24 ≤ v4.toInt → v5.toInt ≤ 575 → 0 ≤ v5.toInt → v7.toInt ≤ 0 → (-1) ≤ v7.toInt → dz_rg a269 n269 0 1023 → v5.toInt % 24 = 0 → 0 + 0 + ((13824 - v5.toInt) - 1) * 480 + 416 + (v7.toInt - (-1)) * 16 + 16 ≤ ((k : Nat) : Int) → dz_T ((F142_X2_breakBar fu c248_pots c261_many c267_total a268 n269 a273 k).2.1 v1 v2 v3 v4 v5 v6 v7 a269) (fun r => dz_rg r n269 0 1023)) ∧ (∀ (v1 : Int32) (v2 : Int32) (v3 : Int32) (v4 : Int32) (v5 : Int32) (v6 : Int32) (v7 : Int32) (a269 : Nat → Int32), v1.toInt ≤ 1023 → 0 ≤ v1.toInt → v3.toInt ≤ 24 → 24 ≤ v3.toInt → v4.toInt ≤ 24 → 24 ≤ v4.toInt → v5.toInt ≤ 575 → 0 ≤ v5.toInt → v7.toInt ≤ 24 → 0 ≤ v7.toInt → dz_rg a269 n269 0 1023 → v5.toInt % 24 = 0 → 0 + 0 + ((13824 - v5.toInt) - 1) * 480 + 0 + (24 - v7.toInt) * 16 + 16 ≤ ((k : Nat) : Int) → dz_T ((F142_X2_breakBar fu c248_pots c261_many c267_total a268 n269 a273 k).2.2.1 v1 v2 v3 v4 v5 v6 v7 a269) (fun r => dz_rg r n269 0 1023))
set_option maxHeartbeats 1000000 in
set_option maxRecDepth 10000 in
theorem t142_X2_breakBar_h1_g42 (fu : Nat) (hfu : 1000000000000 ≤ fu) (c248_pots : Int32) (c261_many : Int32) (c267_total : Int32) (a268 : Nat → Int32) (n269 : Nat) (a273 : Nat → Int32) (p0 : c248_pots.toInt ≤ 2) (p1 : 2 ≤ c248_pots.toInt) (p2 : c261_many.toInt ≤ 24) (p3 : 24 ≤ c261_many.toInt) (p4 : c267_total.toInt ≤ 576) (p5 : 576 ≤ c267_total.toInt) (p6 : ((n269 : Nat) : Int) ≤ 13824) (p7 : 1 ≤ ((n269 : Nat) : Int)) (p8 : c267_total.toInt ≤ ((n269 : Nat) : Int)) (p9 : 1 ≤ c248_pots.toInt) (hr_a268 : dz_pt a268 [24, 1]) (k : Nat) (ih : ∀ j9, j9 < k → p142_X2_breakBar_g42 fu c248_pots c261_many c267_total a268 n269 a273 j9) : ∀ (v1 : Int32) (v2 : Int32) (v3 : Int32) (v4 : Int32) (v5 : Int32) (a269 : Nat → Int32), v1.toInt ≤ 1023 → 0 ≤ v1.toInt → v3.toInt ≤ 24 → 24 ≤ v3.toInt → v4.toInt ≤ 24 → 24 ≤ v4.toInt → v5.toInt ≤ 599 → 0 ≤ v5.toInt → dz_rg a269 n269 0 1023 → v5.toInt % 24 = 0 → 0 + 0 + (13824 - v5.toInt) * 480 + 8 ≤ ((k : Nat) : Int) → dz_T ((F142_X2_breakBar fu c248_pots c261_many c267_total a268 n269 a273 k).1 v1 v2 v3 v4 v5 a269) (fun r => dz_rg r n269 0 1023) := by
  intro v1 v2 v3 v4 v5 a269 i0 i1 i2 i3 i4 i5 i6 i7 hr_a269 x0 hm
  obtain ⟨k0, rfl⟩ : ∃ x, k = x + 1 := ⟨k - 1, by omega⟩
  show dz_T (s142_X2_breakBar_1 fu c248_pots c261_many c267_total a268 n269 a273 (F142_X2_breakBar fu c248_pots c261_many c267_total a268 n269 a273 k0).2.1  v1 v2 v3 v4 v5 a269) _
  unfold s142_X2_breakBar_1
  refine dz_Tle (fun h1 => ?_) (fun h1 => ?_)
  · skip
    exact dz_Ts (hr_a269)
  · skip
    have e2 := dz_l0
    refine dz_Tle (fun h3 => ?_) (fun h3 => ?_)
    · skip
      exfalso; omega
    · skip
      have e4 := dz_l2
      have e5 := dz_sub (a := c248_pots) (b := (2 : Int32)) (by omega) (by omega)
      exact (ih k0 (by omega)).2.1 v1 v2 v3 v4 v5 v2 (c248_pots - (2 : Int32)) a269 i0 i1 i2 i3 i4 i5 (by first | assumption | omega) i7 (by omega) (by omega) (hr_a269) (by omega) (by omega)
set_option maxHeartbeats 1000000 in
set_option maxRecDepth 10000 in
theorem t142_X2_breakBar_h2_g42 (fu : Nat) (hfu : 1000000000000 ≤ fu) (c248_pots : Int32) (c261_many : Int32) (c267_total : Int32) (a268 : Nat → Int32) (n269 : Nat) (a273 : Nat → Int32) (p0 : c248_pots.toInt ≤ 2) (p1 : 2 ≤ c248_pots.toInt) (p2 : c261_many.toInt ≤ 24) (p3 : 24 ≤ c261_many.toInt) (p4 : c267_total.toInt ≤ 576) (p5 : 576 ≤ c267_total.toInt) (p6 : ((n269 : Nat) : Int) ≤ 13824) (p7 : 1 ≤ ((n269 : Nat) : Int)) (p8 : c267_total.toInt ≤ ((n269 : Nat) : Int)) (p9 : 1 ≤ c248_pots.toInt) (hr_a268 : dz_pt a268 [24, 1]) (k : Nat) (ih : ∀ j9, j9 < k → p142_X2_breakBar_g42 fu c248_pots c261_many c267_total a268 n269 a273 j9) : ∀ (v1 : Int32) (v2 : Int32) (v3 : Int32) (v4 : Int32) (v5 : Int32) (v6 : Int32) (v7 : Int32) (a269 : Nat → Int32), v1.toInt ≤ 1023 → 0 ≤ v1.toInt → v3.toInt ≤ 24 → 24 ≤ v3.toInt → v4.toInt ≤ 24 → 24 ≤ v4.toInt → v5.toInt ≤ 575 → 0 ≤ v5.toInt → v7.toInt ≤ 0 → (-1) ≤ v7.toInt → dz_rg a269 n269 0 1023 → v5.toInt % 24 = 0 → 0 + 0 + ((13824 - v5.toInt) - 1) * 480 + 416 + (v7.toInt - (-1)) * 16 + 16 ≤ ((k : Nat) : Int) → dz_T ((F142_X2_breakBar fu c248_pots c261_many c267_total a268 n269 a273 k).2.1 v1 v2 v3 v4 v5 v6 v7 a269) (fun r => dz_rg r n269 0 1023) := by
  intro v1 v2 v3 v4 v5 v6 v7 a269 i0 i1 i2 i3 i4 i5 i6 i7 i8 i9 hr_a269 x0 hm
  obtain ⟨k0, rfl⟩ : ∃ x, k = x + 1 := ⟨k - 1, by omega⟩
  show dz_T (s142_X2_breakBar_2 fu c248_pots c261_many c267_total a268 n269 a273 (F142_X2_breakBar fu c248_pots c261_many c267_total a268 n269 a273 k0).2.1 (F142_X2_breakBar fu c248_pots c261_many c267_total a268 n269 a273 k0).2.2.1  v1 v2 v3 v4 v5 v6 v7 a269) _
  unfold s142_X2_breakBar_2
  have e1 := dz_l0
  refine dz_Tlt (fun h2 => ?_) (fun h2 => ?_)
  · skip
    exact (ih k0 (by omega)).2.2 v1 v2 v3 v4 v5 v6 (0 : Int32) a269 i0 i1 i2 i3 i4 i5 i6 i7 (by omega) (by omega) (hr_a269) (by omega) (by omega)
  · skip
    refine dz_Tbe (show f141_X2_rankIn fu c261_many a268 v5 v7 = (if dz_in v7 4 then (if ((a268 v7.toNatClampNeg) ≤ (0 : Int32)) then (some (0 : Int32)) else (if (c261_many ≤ (0 : Int32)) then (some (0 : Int32)) else (if (¬ ((a268 v7.toNatClampNeg) = (0 : Int32))) then (if (¬ (c261_many = (0 : Int32))) then (some (dz_rem (v5 / (a268 v7.toNatClampNeg)) c261_many)) else none) else none))) else none) from rfl) ?_
    refine dz_Tinb (by omega) (by omega) ?_
    have e3 := dz_ptat (hr_a268) (i := v7) (x := 24) 0 (by omega) (by decide)
    refine dz_Tleb (fun h4 => ?_) (fun h4 => ?_)
    · skip
      exfalso; omega
    · skip
      refine dz_Tleb (fun h5 => ?_) (fun h5 => ?_)
      · skip
        exfalso; omega
      · skip
        refine dz_Tzb (by omega) ?_
        refine dz_Tzb (by omega) ?_
        refine dz_Tsb ?_
        have e6 := dz_l24
        have e7 := dz_mull (a := v7) (b := (24 : Int32)) 0 (by omega) (by omega) (by omega)
        have e8 := dz_divn (a := v5) (b := (a268 v7.toNatClampNeg)) 24 (by omega) (by omega) (by omega)
        have e9 := dz_remn (a := (v5 / (a268 v7.toNatClampNeg))) (b := c261_many) 24 (by omega) (by omega) (by omega)
        have e10 := dz_add (a := (v7 * (24 : Int32))) (b := (dz_rem (v5 / (a268 v7.toNatClampNeg)) c261_many)) (by omega) (by omega)
        refine dz_Tin (by omega) (by omega) ?_
        have e11 := dz_rng v6
        have e12 := dz_rng (a273 ((v7 * (24 : Int32)) + (dz_rem (v5 / (a268 v7.toNatClampNeg)) c261_many)).toNatClampNeg)
        have e13 := dz_lm1
        have e14 := dz_add (a := v7) (b := (-(1 : Int32))) (by omega) (by omega)
        generalize (v7 + (-(1 : Int32))) = z1 at *
        exact (ih k0 (by omega)).2.1 v1 v2 v3 v4 v5 (v6 + (a273 ((v7 * (24 : Int32)) + (dz_rem (v5 / (a268 v7.toNatClampNeg)) c261_many)).toNatClampNeg)) z1 a269 i0 i1 i2 i3 i4 i5 i6 i7 (by omega) (by omega) (hr_a269) (by omega) (by omega)
set_option maxHeartbeats 1000000 in
set_option maxRecDepth 10000 in
theorem t142_X2_breakBar_h3_g42 (fu : Nat) (hfu : 1000000000000 ≤ fu) (c248_pots : Int32) (c261_many : Int32) (c267_total : Int32) (a268 : Nat → Int32) (n269 : Nat) (a273 : Nat → Int32) (p0 : c248_pots.toInt ≤ 2) (p1 : 2 ≤ c248_pots.toInt) (p2 : c261_many.toInt ≤ 24) (p3 : 24 ≤ c261_many.toInt) (p4 : c267_total.toInt ≤ 576) (p5 : 576 ≤ c267_total.toInt) (p6 : ((n269 : Nat) : Int) ≤ 13824) (p7 : 1 ≤ ((n269 : Nat) : Int)) (p8 : c267_total.toInt ≤ ((n269 : Nat) : Int)) (p9 : 1 ≤ c248_pots.toInt) (hr_a268 : dz_pt a268 [24, 1]) (k : Nat) (ih : ∀ j9, j9 < k → p142_X2_breakBar_g42 fu c248_pots c261_many c267_total a268 n269 a273 j9) : ∀ (v1 : Int32) (v2 : Int32) (v3 : Int32) (v4 : Int32) (v5 : Int32) (v6 : Int32) (v7 : Int32) (a269 : Nat → Int32), v1.toInt ≤ 1023 → 0 ≤ v1.toInt → v3.toInt ≤ 24 → 24 ≤ v3.toInt → v4.toInt ≤ 24 → 24 ≤ v4.toInt → v5.toInt ≤ 575 → 0 ≤ v5.toInt → v7.toInt ≤ 24 → 0 ≤ v7.toInt → dz_rg a269 n269 0 1023 → v5.toInt % 24 = 0 → 0 + 0 + ((13824 - v5.toInt) - 1) * 480 + 0 + (24 - v7.toInt) * 16 + 16 ≤ ((k : Nat) : Int) → dz_T ((F142_X2_breakBar fu c248_pots c261_many c267_total a268 n269 a273 k).2.2.1 v1 v2 v3 v4 v5 v6 v7 a269) (fun r => dz_rg r n269 0 1023) := by
  intro v1 v2 v3 v4 v5 v6 v7 a269 i0 i1 i2 i3 i4 i5 i6 i7 i8 i9 hr_a269 x0 hm
  obtain ⟨k0, rfl⟩ : ∃ x, k = x + 1 := ⟨k - 1, by omega⟩
  show dz_T (s142_X2_breakBar_3 fu c248_pots c261_many c267_total a268 n269 a273 (F142_X2_breakBar fu c248_pots c261_many c267_total a268 n269 a273 k0).1 (F142_X2_breakBar fu c248_pots c261_many c267_total a268 n269 a273 k0).2.2.2  v1 v2 v3 v4 v5 v6 v7 a269) _
  unfold s142_X2_breakBar_3
  refine dz_Tle (fun h1 => ?_) (fun h1 => ?_)
  · skip
    have e2 := dz_add (a := v5) (b := v4) (by omega) (by omega)
    exact (ih k0 (by omega)).1 v1 v2 v3 v4 (v5 + v4) a269 i0 i1 i2 i3 i4 i5 (by omega) (by omega) (hr_a269) (by omega) (by omega)
  · skip
    have e3 := dz_add (a := v3) (b := v7) (by omega) (by omega)
    refine dz_Tin (by omega) (by omega) ?_
    have e4 := dz_rng v6
    have e5 := dz_rng (a273 (v3 + v7).toNatClampNeg)
    have e6 := dz_l34952
    have e7 := dz_andr (a := (v6 + (a273 (v3 + v7).toNatClampNeg))) (b := (34952 : Int32)) (by omega)
    have e8 := dz_l0
    refine dz_Teq (fun h9 => ?_) (fun h9 => ?_)
    · skip
      obtain ⟨k1, rfl⟩ : ∃ x, k0 = x + 1 := ⟨k0 - 1, by omega⟩
      show dz_T (s142_X2_breakBar_4 fu c248_pots c261_many c267_total a268 n269 a273 (F142_X2_breakBar fu c248_pots c261_many c267_total a268 n269 a273 k1).2.2.1 v1 v2 v3 v4 v5 v6 v7 a269) _
      unfold s142_X2_breakBar_4
      have e10 := dz_l1
      have e11 := dz_add (a := v7) (b := (1 : Int32)) (by omega) (by omega)
      exact (ih k1 (by omega)).2.2 v1 v2 v3 v4 v5 v6 (v7 + (1 : Int32)) a269 i0 i1 i2 i3 i4 i5 i6 i7 (by omega) (by omega) (hr_a269) (by omega) (by omega)
    · skip
      have e12 := dz_add (a := v5) (b := v7) (by omega) (by omega)
      refine dz_Tin (by omega) (by omega) ?_
      refine dz_Tin (by omega) (by omega) ?_
      obtain ⟨k2, rfl⟩ : ∃ x, k0 = x + 1 := ⟨k0 - 1, by omega⟩
      show dz_T (s142_X2_breakBar_4 fu c248_pots c261_many c267_total a268 n269 a273 (F142_X2_breakBar fu c248_pots c261_many c267_total a268 n269 a273 k2).2.2.1 v1 v2 v3 v4 v5 v6 v7 (upd a269 (v5 + v7).toNatClampNeg ((a269 (v5 + v7).toNatClampNeg) ||| v1))) _
      unfold s142_X2_breakBar_4
      have e13 := dz_l1
      have e14 := dz_add (a := v7) (b := (1 : Int32)) (by omega) (by omega)
      have e15 := dz_rgat (hr_a269) (i := (v5 + v7)) (by omega) (by omega)
      have e16 := dz_orb (a := (a269 (v5 + v7).toNatClampNeg)) (b := v1) 10 (by omega) (by omega) (by omega) (by omega) (by omega)
      exact (ih k2 (by omega)).2.2 v1 v2 v3 v4 v5 v6 (v7 + (1 : Int32)) (upd a269 (v5 + v7).toNatClampNeg ((a269 (v5 + v7).toNatClampNeg) ||| v1)) i0 i1 i2 i3 i4 i5 i6 i7 (by omega) (by omega) (dz_rgu (hr_a269) (by omega) (by omega)) (by omega) (by omega)
theorem t142_X2_breakBar_I_g42 (fu : Nat) (hfu : 1000000000000 ≤ fu) (c248_pots : Int32) (c261_many : Int32) (c267_total : Int32) (a268 : Nat → Int32) (n269 : Nat) (a273 : Nat → Int32) (p0 : c248_pots.toInt ≤ 2) (p1 : 2 ≤ c248_pots.toInt) (p2 : c261_many.toInt ≤ 24) (p3 : 24 ≤ c261_many.toInt) (p4 : c267_total.toInt ≤ 576) (p5 : 576 ≤ c267_total.toInt) (p6 : ((n269 : Nat) : Int) ≤ 13824) (p7 : 1 ≤ ((n269 : Nat) : Int)) (p8 : c267_total.toInt ≤ ((n269 : Nat) : Int)) (p9 : 1 ≤ c248_pots.toInt) (hr_a268 : dz_pt a268 [24, 1]) (k : Nat) : p142_X2_breakBar_g42 fu c248_pots c261_many c267_total a268 n269 a273 k := by
  induction k using Nat.strongRecOn with
  | _ k ih => exact ⟨t142_X2_breakBar_h1_g42 fu hfu c248_pots c261_many c267_total a268 n269 a273 p0 p1 p2 p3 p4 p5 p6 p7 p8 p9 hr_a268 k ih, t142_X2_breakBar_h2_g42 fu hfu c248_pots c261_many c267_total a268 n269 a273 p0 p1 p2 p3 p4 p5 p6 p7 p8 p9 hr_a268 k ih, t142_X2_breakBar_h3_g42 fu hfu c248_pots c261_many c267_total a268 n269 a273 p0 p1 p2 p3 p4 p5 p6 p7 p8 p9 hr_a268 k ih⟩
set_option maxHeartbeats 1000000 in
set_option maxRecDepth 10000 in
theorem t142_X2_breakBar_E_g42 (fu : Nat) (hfu : 1000000000000 ≤ fu) (c248_pots : Int32) (c261_many : Int32) (c267_total : Int32) (a268 : Nat → Int32) (n269 : Nat) (a273 : Nat → Int32) (v1 : Int32) (v2 : Int32) (a269 : Nat → Int32) (p0 : c248_pots.toInt ≤ 2) (p1 : 2 ≤ c248_pots.toInt) (p2 : c261_many.toInt ≤ 24) (p3 : 24 ≤ c261_many.toInt) (p4 : c267_total.toInt ≤ 576) (p5 : 576 ≤ c267_total.toInt) (p6 : ((n269 : Nat) : Int) ≤ 13824) (p7 : 1 ≤ ((n269 : Nat) : Int)) (p8 : c267_total.toInt ≤ ((n269 : Nat) : Int)) (p9 : 1 ≤ c248_pots.toInt) (p10 : 0 ≤ v1.toInt) (p11 : v1.toInt ≤ 1023) (hr_a268 : dz_pt a268 [24, 1]) (hr_a269 : dz_rg a269 n269 0 1023) (kv : Nat) (hkv : 1000000000000 ≤ kv) : dz_T (s142_X2_breakBar_0 fu c248_pots c261_many c267_total a268 n269 a273 (F142_X2_breakBar fu c248_pots c261_many c267_total a268 n269 a273 kv).1  v1 v2 a269) (fun r => dz_rg r n269 0 1023) := by
  unfold s142_X2_breakBar_0
  have e1 := dz_l1
  have e2 := dz_sub (a := c248_pots) (b := (1 : Int32)) (by omega) (by omega)
  have e3 := dz_l24
  have e4 := dz_mull (a := (c248_pots - (1 : Int32))) (b := (24 : Int32)) 1 (by omega) (by omega) (by omega)
  have e5 := dz_l0
  exact (t142_X2_breakBar_I_g42 fu hfu c248_pots c261_many c267_total a268 n269 a273 p0 p1 p2 p3 p4 p5 p6 p7 p8 p9 hr_a268 kv).1 v1 v2 ((c248_pots - (1 : Int32)) * (24 : Int32)) c261_many (0 : Int32) a269 p11 p10 (by omega) (by omega) p2 p3 (by omega) (by omega) (hr_a269) (by omega) (by omega)
theorem t142_X2_breakBar_g42 (fu : Nat) (hfu : 1000000000000 ≤ fu) (c248_pots : Int32) (c261_many : Int32) (c267_total : Int32) (a268 : Nat → Int32) (n269 : Nat) (a273 : Nat → Int32) (v1 : Int32) (v2 : Int32) (a269 : Nat → Int32) (p0 : c248_pots.toInt ≤ 2) (p1 : 2 ≤ c248_pots.toInt) (p2 : c261_many.toInt ≤ 24) (p3 : 24 ≤ c261_many.toInt) (p4 : c267_total.toInt ≤ 576) (p5 : 576 ≤ c267_total.toInt) (p6 : ((n269 : Nat) : Int) ≤ 13824) (p7 : 1 ≤ ((n269 : Nat) : Int)) (p8 : c267_total.toInt ≤ ((n269 : Nat) : Int)) (p9 : 1 ≤ c248_pots.toInt) (p10 : 0 ≤ v1.toInt) (p11 : v1.toInt ≤ 1023) (hr_a268 : dz_pt a268 [24, 1]) (hr_a269 : dz_rg a269 n269 0 1023) : dz_T (f142_X2_breakBar fu c248_pots c261_many c267_total a268 n269 a273 v1 v2 a269) (fun r => dz_rg r n269 0 1023) :=
  t142_X2_breakBar_E_g42 fu hfu c248_pots c261_many c267_total a268 n269 a273 v1 v2 a269 p0 p1 p2 p3 p4 p5 p6 p7 p8 p9 p10 p11 hr_a268 hr_a269 fu hfu
abbrev p142_X2_breakBar_g43 (fu : Nat) (c248_pots : Int32) (c261_many : Int32) (c267_total : Int32) (a268 : Nat → Int32) (n269 : Nat) (a273 : Nat → Int32) (k : Nat) : Prop :=
  (∀ (v1 : Int32) (v2 : Int32) (v3 : Int32) (v4 : Int32) (v5 : Int32) (a269 : Nat → Int32), v1.toInt ≤ 1023 → 0 ≤ v1.toInt → v3.toInt ≤ 48 → 48 ≤ v3.toInt → v4.toInt ≤ 24 → 24 ≤ v4.toInt → v5.toInt ≤ 13824 → 0 ≤ v5.toInt → dz_rg a269 n269 0 1023 → v5.toInt % 24 = 0 → 0 + 0 + (13824 - v5.toInt) * 496 + 8 ≤ ((k : Nat) : Int) → dz_T ((F142_X2_breakBar fu c248_pots c261_many c267_total a268 n269 a273 k).1 v1 v2 v3 v4 v5 a269) (fun r => dz_rg r n269 0 1023)) ∧ (∀ (v1 : Int32) (v2 : Int32) (v3 : Int32) (v4 : Int32) (v5 : Int32) (v6 : Int32) (v7 : Int32) (a269 : Nat → Int32), v1.toInt ≤ 1023 → 0 ≤ v1.toInt → v3.toInt ≤ 48 → 48 ≤ v3.toInt → v4.toInt ≤ 24 → 24 ≤ v4.toInt → v5.toInt ≤ 13823 → 0 ≤ v5.toInt → v7.toInt ≤ 1 → (-1) ≤ v7.toInt → dz_rg a269 n269 0 1023 → v5.toInt % 24 = 0 → 0 + 0 + ((13824 - v5.toInt) - 1) * 496 + 416 + (v7.toInt - (-1)) * 16 + 16 ≤ ((k : Nat) : Int) → dz_T ((F142_X2_breakBar fu c248_pots c261_many c267_total a268 n269 a273 k).2.1 v1 v2 v3 v4 v5 v6 v7 a269) (fun r => dz_rg r n269 0 1023)) ∧ (∀ (v1 : Int32) (v2 : Int32) (v3 : Int32) (v4 : Int32) (v5 : Int32) (v6 : Int32) (v7 : Int32) (a269 : Nat → Int32), v1.toInt ≤ 1023 → 0 ≤ v1.toInt → v3.toInt ≤ 48 → 48 ≤ v3.toInt → v4.toInt ≤ 24 → 24 ≤ v4.toInt → v5.toInt ≤ 13823 → 0 ≤ v5.toInt → v7.toInt ≤ 24 → 0 ≤ v7.toInt → dz_rg a269 n269 0 1023 → v5.toInt % 24 = 0 → 0 + 0 + ((13824 - v5.toInt) - 1) * 496 + 0 + (24 - v7.toInt) * 16 + 16 ≤ ((k : Nat) : Int) → dz_T ((F142_X2_breakBar fu c248_pots c261_many c267_total a268 n269 a273 k).2.2.1 v1 v2 v3 v4 v5 v6 v7 a269) (fun r => dz_rg r n269 0 1023))
set_option maxHeartbeats 1000000 in
set_option maxRecDepth 10000 in
theorem t142_X2_breakBar_h1_g43 (fu : Nat) (hfu : 1000000000000 ≤ fu) (c248_pots : Int32) (c261_many : Int32) (c267_total : Int32) (a268 : Nat → Int32) (n269 : Nat) (a273 : Nat → Int32) (p0 : c248_pots.toInt ≤ 3) (p1 : 3 ≤ c248_pots.toInt) (p2 : c261_many.toInt ≤ 24) (p3 : 24 ≤ c261_many.toInt) (p4 : c267_total.toInt ≤ 13824) (p5 : 13824 ≤ c267_total.toInt) (p6 : ((n269 : Nat) : Int) ≤ 13824) (p7 : 1 ≤ ((n269 : Nat) : Int)) (p8 : c267_total.toInt ≤ ((n269 : Nat) : Int)) (p9 : 1 ≤ c248_pots.toInt) (hr_a268 : dz_pt a268 [576, 24, 1]) (k : Nat) (ih : ∀ j9, j9 < k → p142_X2_breakBar_g43 fu c248_pots c261_many c267_total a268 n269 a273 j9) : ∀ (v1 : Int32) (v2 : Int32) (v3 : Int32) (v4 : Int32) (v5 : Int32) (a269 : Nat → Int32), v1.toInt ≤ 1023 → 0 ≤ v1.toInt → v3.toInt ≤ 48 → 48 ≤ v3.toInt → v4.toInt ≤ 24 → 24 ≤ v4.toInt → v5.toInt ≤ 13824 → 0 ≤ v5.toInt → dz_rg a269 n269 0 1023 → v5.toInt % 24 = 0 → 0 + 0 + (13824 - v5.toInt) * 496 + 8 ≤ ((k : Nat) : Int) → dz_T ((F142_X2_breakBar fu c248_pots c261_many c267_total a268 n269 a273 k).1 v1 v2 v3 v4 v5 a269) (fun r => dz_rg r n269 0 1023) := by
  intro v1 v2 v3 v4 v5 a269 i0 i1 i2 i3 i4 i5 i6 i7 hr_a269 x0 hm
  obtain ⟨k0, rfl⟩ : ∃ x, k = x + 1 := ⟨k - 1, by omega⟩
  show dz_T (s142_X2_breakBar_1 fu c248_pots c261_many c267_total a268 n269 a273 (F142_X2_breakBar fu c248_pots c261_many c267_total a268 n269 a273 k0).2.1  v1 v2 v3 v4 v5 a269) _
  unfold s142_X2_breakBar_1
  refine dz_Tle (fun h1 => ?_) (fun h1 => ?_)
  · skip
    exact dz_Ts (hr_a269)
  · skip
    have e2 := dz_l0
    refine dz_Tle (fun h3 => ?_) (fun h3 => ?_)
    · skip
      exfalso; omega
    · skip
      have e4 := dz_l2
      have e5 := dz_sub (a := c248_pots) (b := (2 : Int32)) (by omega) (by omega)
      exact (ih k0 (by omega)).2.1 v1 v2 v3 v4 v5 v2 (c248_pots - (2 : Int32)) a269 i0 i1 i2 i3 i4 i5 (by first | assumption | omega) i7 (by omega) (by omega) (hr_a269) (by omega) (by omega)
set_option maxHeartbeats 1000000 in
set_option maxRecDepth 10000 in
theorem t142_X2_breakBar_h2_g43 (fu : Nat) (hfu : 1000000000000 ≤ fu) (c248_pots : Int32) (c261_many : Int32) (c267_total : Int32) (a268 : Nat → Int32) (n269 : Nat) (a273 : Nat → Int32) (p0 : c248_pots.toInt ≤ 3) (p1 : 3 ≤ c248_pots.toInt) (p2 : c261_many.toInt ≤ 24) (p3 : 24 ≤ c261_many.toInt) (p4 : c267_total.toInt ≤ 13824) (p5 : 13824 ≤ c267_total.toInt) (p6 : ((n269 : Nat) : Int) ≤ 13824) (p7 : 1 ≤ ((n269 : Nat) : Int)) (p8 : c267_total.toInt ≤ ((n269 : Nat) : Int)) (p9 : 1 ≤ c248_pots.toInt) (hr_a268 : dz_pt a268 [576, 24, 1]) (k : Nat) (ih : ∀ j9, j9 < k → p142_X2_breakBar_g43 fu c248_pots c261_many c267_total a268 n269 a273 j9) : ∀ (v1 : Int32) (v2 : Int32) (v3 : Int32) (v4 : Int32) (v5 : Int32) (v6 : Int32) (v7 : Int32) (a269 : Nat → Int32), v1.toInt ≤ 1023 → 0 ≤ v1.toInt → v3.toInt ≤ 48 → 48 ≤ v3.toInt → v4.toInt ≤ 24 → 24 ≤ v4.toInt → v5.toInt ≤ 13823 → 0 ≤ v5.toInt → v7.toInt ≤ 1 → (-1) ≤ v7.toInt → dz_rg a269 n269 0 1023 → v5.toInt % 24 = 0 → 0 + 0 + ((13824 - v5.toInt) - 1) * 496 + 416 + (v7.toInt - (-1)) * 16 + 16 ≤ ((k : Nat) : Int) → dz_T ((F142_X2_breakBar fu c248_pots c261_many c267_total a268 n269 a273 k).2.1 v1 v2 v3 v4 v5 v6 v7 a269) (fun r => dz_rg r n269 0 1023) := by
  intro v1 v2 v3 v4 v5 v6 v7 a269 i0 i1 i2 i3 i4 i5 i6 i7 i8 i9 hr_a269 x0 hm
  obtain ⟨k0, rfl⟩ : ∃ x, k = x + 1 := ⟨k - 1, by omega⟩
  show dz_T (s142_X2_breakBar_2 fu c248_pots c261_many c267_total a268 n269 a273 (F142_X2_breakBar fu c248_pots c261_many c267_total a268 n269 a273 k0).2.1 (F142_X2_breakBar fu c248_pots c261_many c267_total a268 n269 a273 k0).2.2.1  v1 v2 v3 v4 v5 v6 v7 a269) _
  unfold s142_X2_breakBar_2
  have e1 := dz_l0
  refine dz_Tlt (fun h2 => ?_) (fun h2 => ?_)
  · skip
    exact (ih k0 (by omega)).2.2 v1 v2 v3 v4 v5 v6 (0 : Int32) a269 i0 i1 i2 i3 i4 i5 i6 i7 (by omega) (by omega) (hr_a269) (by omega) (by omega)
  · skip
    refine dz_Tbe (show f141_X2_rankIn fu c261_many a268 v5 v7 = (if dz_in v7 4 then (if ((a268 v7.toNatClampNeg) ≤ (0 : Int32)) then (some (0 : Int32)) else (if (c261_many ≤ (0 : Int32)) then (some (0 : Int32)) else (if (¬ ((a268 v7.toNatClampNeg) = (0 : Int32))) then (if (¬ (c261_many = (0 : Int32))) then (some (dz_rem (v5 / (a268 v7.toNatClampNeg)) c261_many)) else none) else none))) else none) from rfl) ?_
    refine dz_Tinb (by omega) (by omega) ?_
    have e3 := dz_ptrg (hr_a268) (i := v7) 1 576 (by decide) (by omega) (by show _ < ((3 : Nat) : Int); omega)
    refine dz_Tleb (fun h4 => ?_) (fun h4 => ?_)
    · skip
      exfalso; omega
    · skip
      refine dz_Tleb (fun h5 => ?_) (fun h5 => ?_)
      · skip
        exfalso; omega
      · skip
        refine dz_Tzb (by omega) ?_
        refine dz_Tzb (by omega) ?_
        refine dz_Tsb ?_
        have e6 := dz_l24
        have e7 := dz_mulr (a := v7) (b := (24 : Int32)) 24 (by omega) (by omega) (by omega)
        have e8 := dz_divq (a := v5) (b := (a268 v7.toNatClampNeg)) 1 13823 (by omega) (by omega) (by omega) (by omega)
        have e9 := dz_remn (a := (v5 / (a268 v7.toNatClampNeg))) (b := c261_many) 24 (by omega) (by omega) (by omega)
        have e10 := dz_add (a := (v7 * (24 : Int32))) (b := (dz_rem (v5 / (a268 v7.toNatClampNeg)) c261_many)) (by omega) (by omega)
        refine dz_Tin (by omega) (by omega) ?_
        have e11 := dz_rng v6
        have e12 := dz_rng (a273 ((v7 * (24 : Int32)) + (dz_rem (v5 / (a268 v7.toNatClampNeg)) c261_many)).toNatClampNeg)
        have e13 := dz_lm1
        have e14 := dz_add (a := v7) (b := (-(1 : Int32))) (by omega) (by omega)
        generalize (v7 + (-(1 : Int32))) = z1 at *
        exact (ih k0 (by omega)).2.1 v1 v2 v3 v4 v5 (v6 + (a273 ((v7 * (24 : Int32)) + (dz_rem (v5 / (a268 v7.toNatClampNeg)) c261_many)).toNatClampNeg)) z1 a269 i0 i1 i2 i3 i4 i5 i6 i7 (by omega) (by omega) (hr_a269) (by omega) (by omega)
set_option maxHeartbeats 1000000 in
set_option maxRecDepth 10000 in
theorem t142_X2_breakBar_h3_g43 (fu : Nat) (hfu : 1000000000000 ≤ fu) (c248_pots : Int32) (c261_many : Int32) (c267_total : Int32) (a268 : Nat → Int32) (n269 : Nat) (a273 : Nat → Int32) (p0 : c248_pots.toInt ≤ 3) (p1 : 3 ≤ c248_pots.toInt) (p2 : c261_many.toInt ≤ 24) (p3 : 24 ≤ c261_many.toInt) (p4 : c267_total.toInt ≤ 13824) (p5 : 13824 ≤ c267_total.toInt) (p6 : ((n269 : Nat) : Int) ≤ 13824) (p7 : 1 ≤ ((n269 : Nat) : Int)) (p8 : c267_total.toInt ≤ ((n269 : Nat) : Int)) (p9 : 1 ≤ c248_pots.toInt) (hr_a268 : dz_pt a268 [576, 24, 1]) (k : Nat) (ih : ∀ j9, j9 < k → p142_X2_breakBar_g43 fu c248_pots c261_many c267_total a268 n269 a273 j9) : ∀ (v1 : Int32) (v2 : Int32) (v3 : Int32) (v4 : Int32) (v5 : Int32) (v6 : Int32) (v7 : Int32) (a269 : Nat → Int32), v1.toInt ≤ 1023 → 0 ≤ v1.toInt → v3.toInt ≤ 48 → 48 ≤ v3.toInt → v4.toInt ≤ 24 → 24 ≤ v4.toInt → v5.toInt ≤ 13823 → 0 ≤ v5.toInt → v7.toInt ≤ 24 → 0 ≤ v7.toInt → dz_rg a269 n269 0 1023 → v5.toInt % 24 = 0 → 0 + 0 + ((13824 - v5.toInt) - 1) * 496 + 0 + (24 - v7.toInt) * 16 + 16 ≤ ((k : Nat) : Int) → dz_T ((F142_X2_breakBar fu c248_pots c261_many c267_total a268 n269 a273 k).2.2.1 v1 v2 v3 v4 v5 v6 v7 a269) (fun r => dz_rg r n269 0 1023) := by
  intro v1 v2 v3 v4 v5 v6 v7 a269 i0 i1 i2 i3 i4 i5 i6 i7 i8 i9 hr_a269 x0 hm
  obtain ⟨k0, rfl⟩ : ∃ x, k = x + 1 := ⟨k - 1, by omega⟩
  show dz_T (s142_X2_breakBar_3 fu c248_pots c261_many c267_total a268 n269 a273 (F142_X2_breakBar fu c248_pots c261_many c267_total a268 n269 a273 k0).1 (F142_X2_breakBar fu c248_pots c261_many c267_total a268 n269 a273 k0).2.2.2  v1 v2 v3 v4 v5 v6 v7 a269) _
  unfold s142_X2_breakBar_3
  refine dz_Tle (fun h1 => ?_) (fun h1 => ?_)
  · skip
    have e2 := dz_add (a := v5) (b := v4) (by omega) (by omega)
    exact (ih k0 (by omega)).1 v1 v2 v3 v4 (v5 + v4) a269 i0 i1 i2 i3 i4 i5 (by omega) (by omega) (hr_a269) (by omega) (by omega)
  · skip
    have e3 := dz_add (a := v3) (b := v7) (by omega) (by omega)
    refine dz_Tin (by omega) (by omega) ?_
    have e4 := dz_rng v6
    have e5 := dz_rng (a273 (v3 + v7).toNatClampNeg)
    have e6 := dz_l34952
    have e7 := dz_andr (a := (v6 + (a273 (v3 + v7).toNatClampNeg))) (b := (34952 : Int32)) (by omega)
    have e8 := dz_l0
    refine dz_Teq (fun h9 => ?_) (fun h9 => ?_)
    · skip
      obtain ⟨k1, rfl⟩ : ∃ x, k0 = x + 1 := ⟨k0 - 1, by omega⟩
      show dz_T (s142_X2_breakBar_4 fu c248_pots c261_many c267_total a268 n269 a273 (F142_X2_breakBar fu c248_pots c261_many c267_total a268 n269 a273 k1).2.2.1 v1 v2 v3 v4 v5 v6 v7 a269) _
      unfold s142_X2_breakBar_4
      have e10 := dz_l1
      have e11 := dz_add (a := v7) (b := (1 : Int32)) (by omega) (by omega)
      exact (ih k1 (by omega)).2.2 v1 v2 v3 v4 v5 v6 (v7 + (1 : Int32)) a269 i0 i1 i2 i3 i4 i5 i6 i7 (by omega) (by omega) (hr_a269) (by omega) (by omega)
    · skip
      have e12 := dz_add (a := v5) (b := v7) (by omega) (by omega)
      refine dz_Tin (by omega) (by omega) ?_
      refine dz_Tin (by omega) (by omega) ?_
      obtain ⟨k2, rfl⟩ : ∃ x, k0 = x + 1 := ⟨k0 - 1, by omega⟩
      show dz_T (s142_X2_breakBar_4 fu c248_pots c261_many c267_total a268 n269 a273 (F142_X2_breakBar fu c248_pots c261_many c267_total a268 n269 a273 k2).2.2.1 v1 v2 v3 v4 v5 v6 v7 (upd a269 (v5 + v7).toNatClampNeg ((a269 (v5 + v7).toNatClampNeg) ||| v1))) _
      unfold s142_X2_breakBar_4
      have e13 := dz_l1
      have e14 := dz_add (a := v7) (b := (1 : Int32)) (by omega) (by omega)
      have e15 := dz_rgat (hr_a269) (i := (v5 + v7)) (by omega) (by omega)
      have e16 := dz_orb (a := (a269 (v5 + v7).toNatClampNeg)) (b := v1) 10 (by omega) (by omega) (by omega) (by omega) (by omega)
      exact (ih k2 (by omega)).2.2 v1 v2 v3 v4 v5 v6 (v7 + (1 : Int32)) (upd a269 (v5 + v7).toNatClampNeg ((a269 (v5 + v7).toNatClampNeg) ||| v1)) i0 i1 i2 i3 i4 i5 i6 i7 (by omega) (by omega) (dz_rgu (hr_a269) (by omega) (by omega)) (by omega) (by omega)
theorem t142_X2_breakBar_I_g43 (fu : Nat) (hfu : 1000000000000 ≤ fu) (c248_pots : Int32) (c261_many : Int32) (c267_total : Int32) (a268 : Nat → Int32) (n269 : Nat) (a273 : Nat → Int32) (p0 : c248_pots.toInt ≤ 3) (p1 : 3 ≤ c248_pots.toInt) (p2 : c261_many.toInt ≤ 24) (p3 : 24 ≤ c261_many.toInt) (p4 : c267_total.toInt ≤ 13824) (p5 : 13824 ≤ c267_total.toInt) (p6 : ((n269 : Nat) : Int) ≤ 13824) (p7 : 1 ≤ ((n269 : Nat) : Int)) (p8 : c267_total.toInt ≤ ((n269 : Nat) : Int)) (p9 : 1 ≤ c248_pots.toInt) (hr_a268 : dz_pt a268 [576, 24, 1]) (k : Nat) : p142_X2_breakBar_g43 fu c248_pots c261_many c267_total a268 n269 a273 k := by
  induction k using Nat.strongRecOn with
  | _ k ih => exact ⟨t142_X2_breakBar_h1_g43 fu hfu c248_pots c261_many c267_total a268 n269 a273 p0 p1 p2 p3 p4 p5 p6 p7 p8 p9 hr_a268 k ih, t142_X2_breakBar_h2_g43 fu hfu c248_pots c261_many c267_total a268 n269 a273 p0 p1 p2 p3 p4 p5 p6 p7 p8 p9 hr_a268 k ih, t142_X2_breakBar_h3_g43 fu hfu c248_pots c261_many c267_total a268 n269 a273 p0 p1 p2 p3 p4 p5 p6 p7 p8 p9 hr_a268 k ih⟩
set_option maxHeartbeats 1000000 in
set_option maxRecDepth 10000 in
theorem t142_X2_breakBar_E_g43 (fu : Nat) (hfu : 1000000000000 ≤ fu) (c248_pots : Int32) (c261_many : Int32) (c267_total : Int32) (a268 : Nat → Int32) (n269 : Nat) (a273 : Nat → Int32) (v1 : Int32) (v2 : Int32) (a269 : Nat → Int32) (p0 : c248_pots.toInt ≤ 3) (p1 : 3 ≤ c248_pots.toInt) (p2 : c261_many.toInt ≤ 24) (p3 : 24 ≤ c261_many.toInt) (p4 : c267_total.toInt ≤ 13824) (p5 : 13824 ≤ c267_total.toInt) (p6 : ((n269 : Nat) : Int) ≤ 13824) (p7 : 1 ≤ ((n269 : Nat) : Int)) (p8 : c267_total.toInt ≤ ((n269 : Nat) : Int)) (p9 : 1 ≤ c248_pots.toInt) (p10 : 0 ≤ v1.toInt) (p11 : v1.toInt ≤ 1023) (hr_a268 : dz_pt a268 [576, 24, 1]) (hr_a269 : dz_rg a269 n269 0 1023) (kv : Nat) (hkv : 1000000000000 ≤ kv) : dz_T (s142_X2_breakBar_0 fu c248_pots c261_many c267_total a268 n269 a273 (F142_X2_breakBar fu c248_pots c261_many c267_total a268 n269 a273 kv).1  v1 v2 a269) (fun r => dz_rg r n269 0 1023) := by
  unfold s142_X2_breakBar_0
  have e1 := dz_l1
  have e2 := dz_sub (a := c248_pots) (b := (1 : Int32)) (by omega) (by omega)
  have e3 := dz_l24
  have e4 := dz_mull (a := (c248_pots - (1 : Int32))) (b := (24 : Int32)) 2 (by omega) (by omega) (by omega)
  have e5 := dz_l0
  exact (t142_X2_breakBar_I_g43 fu hfu c248_pots c261_many c267_total a268 n269 a273 p0 p1 p2 p3 p4 p5 p6 p7 p8 p9 hr_a268 kv).1 v1 v2 ((c248_pots - (1 : Int32)) * (24 : Int32)) c261_many (0 : Int32) a269 p11 p10 (by omega) (by omega) p2 p3 (by omega) (by omega) (hr_a269) (by omega) (by omega)
theorem t142_X2_breakBar_g43 (fu : Nat) (hfu : 1000000000000 ≤ fu) (c248_pots : Int32) (c261_many : Int32) (c267_total : Int32) (a268 : Nat → Int32) (n269 : Nat) (a273 : Nat → Int32) (v1 : Int32) (v2 : Int32) (a269 : Nat → Int32) (p0 : c248_pots.toInt ≤ 3) (p1 : 3 ≤ c248_pots.toInt) (p2 : c261_many.toInt ≤ 24) (p3 : 24 ≤ c261_many.toInt) (p4 : c267_total.toInt ≤ 13824) (p5 : 13824 ≤ c267_total.toInt) (p6 : ((n269 : Nat) : Int) ≤ 13824) (p7 : 1 ≤ ((n269 : Nat) : Int)) (p8 : c267_total.toInt ≤ ((n269 : Nat) : Int)) (p9 : 1 ≤ c248_pots.toInt) (p10 : 0 ≤ v1.toInt) (p11 : v1.toInt ≤ 1023) (hr_a268 : dz_pt a268 [576, 24, 1]) (hr_a269 : dz_rg a269 n269 0 1023) : dz_T (f142_X2_breakBar fu c248_pots c261_many c267_total a268 n269 a273 v1 v2 a269) (fun r => dz_rg r n269 0 1023) :=
  t142_X2_breakBar_E_g43 fu hfu c248_pots c261_many c267_total a268 n269 a273 v1 v2 a269 p0 p1 p2 p3 p4 p5 p6 p7 p8 p9 p10 p11 hr_a268 hr_a269 fu hfu
