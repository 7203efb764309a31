abbrev p303_X11_run_s (fu : Nat) (κ : Nat) (c248_groups : Int32) (c248_pots : Int32) (c248_teams : Int32) (c261_groups : Int32) (c261_many : Int32) (a262 : Nat → Int32) (a264 : Nat → Int32) (c267_total : Int32) (c267_lawfulOnes : Int32) (a268 : Nat → Int32) (a269 : Nat → Int32) (n269 : Nat) (k : Nat) : Prop :=
  (∀ (v2 : Int32) (v3 : Int32) (v4 : Int32) (v5 : Int32) (v6 : Int32) (v7 : Int32) (c284_fresh : Int32) (a285 : Nat → Int32) (a286 : Nat → Int32) (a287 : Nat → Int32), 1 ≤ c248_teams.toInt → 1 ≤ c267_lawfulOnes.toInt → v2.toInt ≤ 11 → 0 ≤ v2.toInt → v3.toInt ≤ 3 → 0 ≤ v3.toInt → 0 ≤ v4.toInt → v5.toInt ≤ 331775 → 0 ≤ v5.toInt → v6.toInt ≤ 16777215 → 0 ≤ v6.toInt → v7.toInt ≤ 4 → 0 ≤ v7.toInt → c284_fresh.toInt ≤ 1 → 1 ≤ c284_fresh.toInt → v2.toInt + 1 ≤ c248_teams.toInt → v3.toInt + 1 ≤ c248_teams.toInt → v3.toInt ≤ v2.toInt → v7.toInt ≤ c248_teams.toInt → v7.toInt ≤ v2.toInt + 1 → v7.toInt ≤ v3.toInt + 1 → dz_rg a285 601 0 16777215 → dz_rg a286 5 0 14425 → dz_pm a287 (dz_kp κ) → ((v7.toInt = 0 ∧ v5.toInt < 1) ∨ (v7.toInt = 1 ∧ v5.toInt < 24) ∨ (v7.toInt = 2 ∧ v5.toInt < 576) ∨ (v7.toInt = 3 ∧ v5.toInt < 13824) ∨ (v7.toInt = 4 ∧ v5.toInt < 331776)) → 0 + 0 + (4 - v7.toInt) * 98 + 7 ≤ ((k : Nat) : Int) → dz_T ((F303_X11_run fu c248_groups c248_pots c248_teams c261_groups c261_many a262 a264 c267_total c267_lawfulOnes a268 a269 n269 k).2.1 v2 v3 v4 v5 v6 v7 c284_fresh a285 a286 a287) (fun r => r.1.toInt ≤ 3 ∧ (-1) ≤ r.1.toInt ∧ r.2.1.toInt ≤ 1 ∧ 0 ≤ r.2.1.toInt ∧ r.1.toInt ≤ r.2.1.toInt + 2 ∧ r.1.toInt ≤ c248_teams.toInt + 2 ∧ r.1.toInt ≤ c267_lawfulOnes.toInt + 2 ∧ dz_rg r.2.2.1 601 0 16777215 ∧ dz_rg r.2.2.2.1 5 0 14425 ∧ (r.2.1.toInt = 0 ∨ dz_pm r.2.2.2.2 (dz_kp κ)))) ∧ (∀ (v2 : Int32) (v3 : Int32) (v4 : Int32) (v5 : Int32) (v6 : Int32) (v7 : Int32) (v8 : Int32) (v9 : Int32) (c284_fresh : Int32) (a285 : Nat → Int32) (a286 : Nat → Int32) (a287 : Nat → Int32), 1 ≤ c248_teams.toInt → 1 ≤ c267_lawfulOnes.toInt → v2.toInt ≤ 11 → 0 ≤ v2.toInt → v3.toInt ≤ 3 → 0 ≤ v3.toInt → 0 ≤ v4.toInt → v5.toInt ≤ 331774 → 0 ≤ v5.toInt → v6.toInt ≤ 16777215 → 0 ≤ v6.toInt → v7.toInt ≤ 3 → 0 ≤ v7.toInt → v8.toInt ≤ 15 → 0 ≤ v8.toInt → v9.toInt ≤ 4 → 0 ≤ v9.toInt → c284_fresh.toInt ≤ 1 → 1 ≤ c284_fresh.toInt → v2.toInt + 1 ≤ c248_teams.toInt → v3.toInt + 1 ≤ c248_teams.toInt → v7.toInt + 1 ≤ c248_teams.toInt → v3.toInt ≤ v2.toInt → v7.toInt ≤ v2.toInt → v7.toInt ≤ v3.toInt → v9.toInt ≤ c248_groups.toInt → v9.toInt ≤ v8.toInt + 3 → dz_rg a285 601 0 16777215 → dz_rg a286 5 0 14425 → dz_pm a287 (dz_kp κ) → ((v7.toInt = 0 ∧ v5.toInt < 1) ∨ (v7.toInt = 1 ∧ v5.toInt < 24) ∨ (v7.toInt = 2 ∧ v5.toInt < 576) ∨ (v7.toInt = 3 ∧ v5.toInt < 13824) ∨ (v7.toInt = 4 ∧ v5.toInt < 331776)) → 0 + 0 + ((4 - v7.toInt) - 1) * 98 + 0 + (v9.toInt - 0) * 14 + 14 ≤ ((k : Nat) : Int) → dz_T ((F303_X11_run fu c248_groups c248_pots c248_teams c261_groups c261_many a262 a264 c267_total c267_lawfulOnes a268 a269 n269 k).2.2 v2 v3 v4 v5 v6 v7 v8 v9 c284_fresh a285 a286 a287) (fun r => r.1.toInt ≤ 3 ∧ (-1) ≤ r.1.toInt ∧ r.2.1.toInt ≤ 1 ∧ 0 ≤ r.2.1.toInt ∧ r.1.toInt ≤ r.2.1.toInt + 2 ∧ r.1.toInt ≤ c248_teams.toInt + 2 ∧ r.1.toInt ≤ c267_lawfulOnes.toInt + 2 ∧ dz_rg r.2.2.1 601 0 16777215 ∧ dz_rg r.2.2.2.1 5 0 14425 ∧ (r.2.1.toInt = 0 ∨ dz_pm r.2.2.2.2 (dz_kp κ))))
set_option maxHeartbeats 1000000 in
set_option maxRecDepth 10000 in
theorem t303_X11_run_h2_s (fu : Nat) (hfu : 1000000000000 ≤ fu) (κ : Nat) (hκ : κ < 14) (c248_groups : Int32) (c248_pots : Int32) (c248_teams : Int32) (c261_groups : Int32) (c261_many : Int32) (a262 : Nat → Int32) (a264 : Nat → Int32) (c267_total : Int32) (c267_lawfulOnes : Int32) (a268 : Nat → Int32) (a269 : Nat → Int32) (n269 : Nat) (p0 : c248_groups.toInt ≤ 4) (p1 : 2 ≤ c248_groups.toInt) (p2 : c248_pots.toInt ≤ 4) (p3 : 0 ≤ c248_pots.toInt) (p4 : c248_teams.toInt ≤ 12) (p5 : 0 ≤ c248_teams.toInt) (p6 : c261_groups.toInt ≤ 4) (p7 : 0 ≤ c261_groups.toInt) (p8 : c261_many.toInt ≤ 24) (p9 : 0 ≤ c261_many.toInt) (p10 : c267_total.toInt ≤ 13824) (p11 : 1 ≤ c267_total.toInt) (p12 : c267_lawfulOnes.toInt ≤ 13824) (p13 : 0 ≤ c267_lawfulOnes.toInt) (p14 : ((n269 : Nat) : Int) ≤ 13824) (p15 : 1 ≤ ((n269 : Nat) : Int)) (p16 : c267_total.toInt ≤ ((n269 : Nat) : Int)) (p17 : c267_lawfulOnes.toInt ≤ c267_total.toInt) (hr_a262 : dz_rg a262 96 0 3) (hr_a264 : dz_rg a264 16 0 16777215) (hr_a268 : dz_pt a268 (dz_kS κ)) (hr_a269 : dz_rg a269 n269 0 1023) (o0 : c248_groups.toInt = ((dz_kg κ : Nat) : Int)) (o1 : c248_pots.toInt = ((dz_kp κ : Nat) : Int)) (o2 : c248_teams.toInt = ((dz_km κ : Nat) : Int)) (o3 : c261_groups.toInt = ((dz_kg κ : Nat) : Int)) (o4 : c261_many.toInt = ((dz_kr κ : Nat) : Int)) (o5 : c267_total.toInt = ((dz_kt κ : Nat) : Int)) (k : Nat) (ih : ∀ j9, j9 < k → p303_X11_run_s fu κ c248_groups c248_pots c248_teams c261_groups c261_many a262 a264 c267_total c267_lawfulOnes a268 a269 n269 j9) : ∀ (v2 : Int32) (v3 : Int32) (v4 : Int32) (v5 : Int32) (v6 : Int32) (v7 : Int32) (c284_fresh : Int32) (a285 : Nat → Int32) (a286 : Nat → Int32) (a287 : Nat → Int32), 1 ≤ c248_teams.toInt → 1 ≤ c267_lawfulOnes.toInt → v2.toInt ≤ 11 → 0 ≤ v2.toInt → v3.toInt ≤ 3 → 0 ≤ v3.toInt → 0 ≤ v4.toInt → v5.toInt ≤ 331775 → 0 ≤ v5.toInt → v6.toInt ≤ 16777215 → 0 ≤ v6.toInt → v7.toInt ≤ 4 → 0 ≤ v7.toInt → c284_fresh.toInt ≤ 1 → 1 ≤ c284_fresh.toInt → v2.toInt + 1 ≤ c248_teams.toInt → v3.toInt + 1 ≤ c248_teams.toInt → v3.toInt ≤ v2.toInt → v7.toInt ≤ c248_teams.toInt → v7.toInt ≤ v2.toInt + 1 → v7.toInt ≤ v3.toInt + 1 → dz_rg a285 601 0 16777215 → dz_rg a286 5 0 14425 → dz_pm a287 (dz_kp κ) → ((v7.toInt = 0 ∧ v5.toInt < 1) ∨ (v7.toInt = 1 ∧ v5.toInt < 24) ∨ (v7.toInt = 2 ∧ v5.toInt < 576) ∨ (v7.toInt = 3 ∧ v5.toInt < 13824) ∨ (v7.toInt = 4 ∧ v5.toInt < 331776)) → 0 + 0 + (4 - v7.toInt) * 98 + 7 ≤ ((k : Nat) : Int) → dz_T ((F303_X11_run fu c248_groups c248_pots c248_teams c261_groups c261_many a262 a264 c267_total c267_lawfulOnes a268 a269 n269 k).2.1 v2 v3 v4 v5 v6 v7 c284_fresh a285 a286 a287) (fun r => r.1.toInt ≤ 3 ∧ (-1) ≤ r.1.toInt ∧ r.2.1.toInt ≤ 1 ∧ 0 ≤ r.2.1.toInt ∧ r.1.toInt ≤ r.2.1.toInt + 2 ∧ r.1.toInt ≤ c248_teams.toInt + 2 ∧ r.1.toInt ≤ c267_lawfulOnes.toInt + 2 ∧ dz_rg r.2.2.1 601 0 16777215 ∧ dz_rg r.2.2.2.1 5 0 14425 ∧ (r.2.1.toInt = 0 ∨ dz_pm r.2.2.2.2 (dz_kp κ))) := by
  intro v2 v3 v4 v5 v6 v7 c284_fresh a285 a286 a287 i0 i1 i2 i3 i4 i5 i6 i7 i8 i9 i10 i11 i12 i13 i14 i15 i16 i17 i18 i19 i20 hr_a285 hr_a286 hr_a287 x0 hm
  obtain ⟨k0, rfl⟩ : ∃ x, k = x + 1 := ⟨k - 1, by omega⟩
  show dz_T (s303_X11_run_2 fu c248_groups c248_pots c248_teams c261_groups c261_many a262 a264 c267_total c267_lawfulOnes a268 a269 n269 (F303_X11_run fu c248_groups c248_pots c248_teams c261_groups c261_many a262 a264 c267_total c267_lawfulOnes a268 a269 n269 k0).2.2  v2 v3 v4 v5 v6 v7 c284_fresh a285 a286 a287) _
  unfold s303_X11_run_2
  refine dz_Tlt (fun h1 => ?_) (fun h1 => ?_)
  · skip
    refine dz_Tbe (show f161_X3_placeOf fu c248_groups v2 = (if (c248_groups ≤ (0 : Int32)) then (some (0 : Int32)) else (if (¬ (c248_groups = (0 : Int32))) then (some (dz_rem v2 c248_groups)) else none)) from rfl) ?_
    have e2 := dz_l0
    refine dz_Tleb (fun h3 => ?_) (fun h3 => ?_)
    · skip
      exfalso; omega
    · skip
      refine dz_Tzb (by omega) ?_
      refine dz_Tsb ?_
      have e4 := dz_remv (a := v2) (b := c248_groups) (by omega) (by omega)
      refine dz_Tb (t182_X4_groupWith fu hfu _ _ _ (by omega) (by omega) i10 i9 (hr_a262)) (fun r2 q => ?_)
      obtain ⟨q2_0, q2_1, q2_2⟩ := q
      refine dz_Ts ?_
      dsimp only
      exact ⟨q2_0, q2_1, i13, (by first | assumption | omega), (by first | assumption | omega), (by first | assumption | omega), (by first | assumption | omega), (hr_a285), (hr_a286), (Or.inr (hr_a287))⟩
  · skip
    refine dz_Tb (t180_X10_ranksOpen fu hfu _ _ _ _ (by first | assumption | omega) (hr_a285) (hr_a286)) (fun r3 q => ?_)
    obtain ⟨q3_0, q3_1⟩ := q
    have e5 := dz_l1
    have e6 := dz_l31
    have e7 := dz_andr (a := c248_groups) (b := (31 : Int32)) (by omega)
    have e8 := dz_andl (a := c248_groups) (b := (31 : Int32)) (by omega)
    have e9 := dz_shl1 (b := c248_groups) 2 4 (by omega) (by omega) (by omega)
    have e10 := dz_sub (a := ((1 : Int32) <<< (c248_groups &&& (31 : Int32)))) (b := (1 : Int32)) (by omega) (by omega)
    exact (ih k0 (by omega)).2 v2 v3 v4 v5 r3 v7 (((1 : Int32) <<< (c248_groups &&& (31 : Int32))) - (1 : Int32)) c248_groups c284_fresh a285 a286 a287 i0 i1 i2 i3 i4 i5 i6 (by first | assumption | omega) i8 q3_0 q3_1 (by first | assumption | omega) i12 (by omega) (by omega) p0 (by first | assumption | omega) i13 i14 i15 i16 (by first | assumption | omega) i17 (by first | assumption | omega) (by first | assumption | omega) (by first | assumption | omega) (by omega) (hr_a285) (hr_a286) (hr_a287) (by omega) (by omega)
set_option maxHeartbeats 1000000 in
set_option maxRecDepth 10000 in
theorem t303_X11_run_h3_s (fu : Nat) (hfu : 1000000000000 ≤ fu) (κ : Nat) (hκ : κ < 14) (c248_groups : Int32) (c248_pots : Int32) (c248_teams : Int32) (c261_groups : Int32) (c261_many : Int32) (a262 : Nat → Int32) (a264 : Nat → Int32) (c267_total : Int32) (c267_lawfulOnes : Int32) (a268 : Nat → Int32) (a269 : Nat → Int32) (n269 : Nat) (p0 : c248_groups.toInt ≤ 4) (p1 : 2 ≤ c248_groups.toInt) (p2 : c248_pots.toInt ≤ 4) (p3 : 0 ≤ c248_pots.toInt) (p4 : c248_teams.toInt ≤ 12) (p5 : 0 ≤ c248_teams.toInt) (p6 : c261_groups.toInt ≤ 4) (p7 : 0 ≤ c261_groups.toInt) (p8 : c261_many.toInt ≤ 24) (p9 : 0 ≤ c261_many.toInt) (p10 : c267_total.toInt ≤ 13824) (p11 : 1 ≤ c267_total.toInt) (p12 : c267_lawfulOnes.toInt ≤ 13824) (p13 : 0 ≤ c267_lawfulOnes.toInt) (p14 : ((n269 : Nat) : Int) ≤ 13824) (p15 : 1 ≤ ((n269 : Nat) : Int)) (p16 : c267_total.toInt ≤ ((n269 : Nat) : Int)) (p17 : c267_lawfulOnes.toInt ≤ c267_total.toInt) (hr_a262 : dz_rg a262 96 0 3) (hr_a264 : dz_rg a264 16 0 16777215) (hr_a268 : dz_pt a268 (dz_kS κ)) (hr_a269 : dz_rg a269 n269 0 1023) (o0 : c248_groups.toInt = ((dz_kg κ : Nat) : Int)) (o1 : c248_pots.toInt = ((dz_kp κ : Nat) : Int)) (o2 : c248_teams.toInt = ((dz_km κ : Nat) : Int)) (o3 : c261_groups.toInt = ((dz_kg κ : Nat) : Int)) (o4 : c261_many.toInt = ((dz_kr κ : Nat) : Int)) (o5 : c267_total.toInt = ((dz_kt κ : Nat) : Int)) (k : Nat) (ih : ∀ j9, j9 < k → p303_X11_run_s fu κ c248_groups c248_pots c248_teams c261_groups c261_many a262 a264 c267_total c267_lawfulOnes a268 a269 n269 j9) : ∀ (v2 : Int32) (v3 : Int32) (v4 : Int32) (v5 : Int32) (v6 : Int32) (v7 : Int32) (v8 : Int32) (v9 : Int32) (c284_fresh : Int32) (a285 : Nat → Int32) (a286 : Nat → Int32) (a287 : Nat → Int32), 1 ≤ c248_teams.toInt → 1 ≤ c267_lawfulOnes.toInt → v2.toInt ≤ 11 → 0 ≤ v2.toInt → v3.toInt ≤ 3 → 0 ≤ v3.toInt → 0 ≤ v4.toInt → v5.toInt ≤ 331774 → 0 ≤ v5.toInt → v6.toInt ≤ 16777215 → 0 ≤ v6.toInt → v7.toInt ≤ 3 → 0 ≤ v7.toInt → v8.toInt ≤ 15 → 0 ≤ v8.toInt → v9.toInt ≤ 4 → 0 ≤ v9.toInt → c284_fresh.toInt ≤ 1 → 1 ≤ c284_fresh.toInt → v2.toInt + 1 ≤ c248_teams.toInt → v3.toInt + 1 ≤ c248_teams.toInt → v7.toInt + 1 ≤ c248_teams.toInt → v3.toInt ≤ v2.toInt → v7.toInt ≤ v2.toInt → v7.toInt ≤ v3.toInt → v9.toInt ≤ c248_groups.toInt → v9.toInt ≤ v8.toInt + 3 → dz_rg a285 601 0 16777215 → dz_rg a286 5 0 14425 → dz_pm a287 (dz_kp κ) → ((v7.toInt = 0 ∧ v5.toInt < 1) ∨ (v7.toInt = 1 ∧ v5.toInt < 24) ∨ (v7.toInt = 2 ∧ v5.toInt < 576) ∨ (v7.toInt = 3 ∧ v5.toInt < 13824) ∨ (v7.toInt = 4 ∧ v5.toInt < 331776)) → 0 + 0 + ((4 - v7.toInt) - 1) * 98 + 0 + (v9.toInt - 0) * 14 + 14 ≤ ((k : Nat) : Int) → dz_T ((F303_X11_run fu c248_groups c248_pots c248_teams c261_groups c261_many a262 a264 c267_total c267_lawfulOnes a268 a269 n269 k).2.2 v2 v3 v4 v5 v6 v7 v8 v9 c284_fresh a285 a286 a287) (fun r => r.1.toInt ≤ 3 ∧ (-1) ≤ r.1.toInt ∧ r.2.1.toInt ≤ 1 ∧ 0 ≤ r.2.1.toInt ∧ r.1.toInt ≤ r.2.1.toInt + 2 ∧ r.1.toInt ≤ c248_teams.toInt + 2 ∧ r.1.toInt ≤ c267_lawfulOnes.toInt + 2 ∧ dz_rg r.2.2.1 601 0 16777215 ∧ dz_rg r.2.2.2.1 5 0 14425 ∧ (r.2.1.toInt = 0 ∨ dz_pm r.2.2.2.2 (dz_kp κ))) := by
  intro v2 v3 v4 v5 v6 v7 v8 v9 c284_fresh a285 a286 a287 i0 i1 i2 i3 i4 i5 i6 i7 i8 i9 i10 i11 i12 i13 i14 i15 i16 i17 i18 i19 i20 i21 i22 i23 i24 i25 i26 hr_a285 hr_a286 hr_a287 x0 hm
  obtain ⟨k0, rfl⟩ : ∃ x, k = x + 1 := ⟨k - 1, by omega⟩
  show dz_T (s303_X11_run_3 fu c248_groups c248_pots c248_teams c261_groups c261_many a262 a264 c267_total c267_lawfulOnes a268 a269 n269 (F303_X11_run fu c248_groups c248_pots c248_teams c261_groups c261_many a262 a264 c267_total c267_lawfulOnes a268 a269 n269 k0).2.1 (F303_X11_run fu c248_groups c248_pots c248_teams c261_groups c261_many a262 a264 c267_total c267_lawfulOnes a268 a269 n269 k0).2.2  v2 v3 v4 v5 v6 v7 v8 v9 c284_fresh a285 a286 a287) _
  unfold s303_X11_run_3
  rcases (show v7.toInt = 0 ∨ v7.toInt = 1 ∨ v7.toInt = 2 ∨ v7.toInt = 3 by omega) with hs | hs | hs | hs
  · skip
    have e1 := dz_l0
    refine dz_Tle (fun h2 => ?_) (fun h2 => ?_)
    · skip
      refine dz_Tb (t129_X4_only fu hfu _ 24 (by omega) (by omega) (by decide)) (fun r1 q => ?_)
      obtain ⟨q1_0, q1_1⟩ := q
      have e3 := dz_mull (a := v5) (b := c261_many) 0 (by omega) (by omega) (by omega)
      have e4 := dz_add (a := (v5 * c261_many)) (b := r1) (by omega) (by omega)
      have e5 := dz_l1
      have e6 := dz_add (a := v7) (b := (1 : Int32)) (by omega) (by omega)
      exact (ih k0 (by omega)).1 v2 v3 v4 ((v5 * c261_many) + r1) v6 (v7 + (1 : Int32)) c284_fresh a285 a286 a287 i0 i1 i2 i3 i4 i5 i6 (by omega) (by omega) i9 i10 (by omega) (by omega) i17 i18 i19 i20 i22 (by omega) (by omega) (by omega) (hr_a285) (hr_a286) (hr_a287) (by omega) (by omega)
    · skip
      refine dz_Tb (t300_X11_numberAfter fu hfu _ ) (fun r2 q => ?_)
      have q2_0 := q
      refine dz_Tz (by omega) ?_
      have e7 := dz_l16
      have e8 := dz_ushp (a := r2) (b := (16 : Int32)) (by omega)
      have e9 := dz_ushc (a := r2) (b := (16 : Int32)) 16 (by omega) (by omega) (by omega)
      have e10 := dz_remv (a := (dz_ush r2 (16 : Int32))) (b := v9) (by omega) (by omega)
      refine dz_Tb (t301_X11_nthOf fu hfu _ _ ) (fun r3 q => ?_)
      obtain ⟨q3_0, q3_1⟩ := q
      refine dz_Tb (t302_X4_firstOpen_s fu hfu κ hκ _ _ _ _ p6 p7 q3_1 q3_0 i10 i9 (hr_a264) o3) (fun r4 q => ?_)
      obtain ⟨q4_0, q4_1⟩ := q
      have e11 := dz_l1
      have e12 := dz_l31
      have e13 := dz_andr (a := r3) (b := (31 : Int32)) (by omega)
      have e14 := dz_andl (a := r3) (b := (31 : Int32)) (by omega)
      have e15 := dz_shl1 (b := r3) 0 3 (by omega) (by omega) (by omega)
      have e16 := dz_lm1
      have e17 := dz_andl (a := v8) (b := (((1 : Int32) <<< (r3 &&& (31 : Int32))) ^^^ (-(1 : Int32)))) (by omega)
      have e18 := dz_add (a := v9) (b := (-(1 : Int32))) (by omega) (by omega)
      generalize (v9 + (-(1 : Int32))) = z1 at *
      exact (ih k0 (by omega)).2 v2 v3 r2 v5 r4 v7 (v8 &&& (((1 : Int32) <<< (r3 &&& (31 : Int32))) ^^^ (-(1 : Int32)))) z1 c284_fresh a285 a286 a287 i0 i1 i2 i3 i4 i5 q2_0 i7 i8 q4_0 q4_1 i11 i12 (by omega) (by omega) (by omega) (by omega) i17 i18 i19 i20 i21 i22 i23 i24 (by omega) (by omega) (hr_a285) (hr_a286) (hr_a287) (by omega) (by omega)
  · skip
    have e19 := dz_l0
    refine dz_Tle (fun h20 => ?_) (fun h20 => ?_)
    · skip
      refine dz_Tb (t129_X4_only fu hfu _ 24 (by omega) (by omega) (by decide)) (fun r5 q => ?_)
      obtain ⟨q5_0, q5_1⟩ := q
      have e21 := dz_mulb (a := v5) (b := c261_many) 23 24 (by omega) (by omega) (by omega) (by omega) (by omega)
      have e22 := dz_add (a := (v5 * c261_many)) (b := r5) (by omega) (by omega)
      have e23 := dz_l1
      have e24 := dz_add (a := v7) (b := (1 : Int32)) (by omega) (by omega)
      exact (ih k0 (by omega)).1 v2 v3 v4 ((v5 * c261_many) + r5) v6 (v7 + (1 : Int32)) c284_fresh a285 a286 a287 i0 i1 i2 i3 i4 i5 i6 (by omega) (by omega) i9 i10 (by omega) (by omega) i17 i18 i19 i20 i22 (by omega) (by omega) (by omega) (hr_a285) (hr_a286) (hr_a287) (by omega) (by omega)
    · skip
      refine dz_Tb (t300_X11_numberAfter fu hfu _ ) (fun r6 q => ?_)
      have q6_0 := q
      refine dz_Tz (by omega) ?_
      have e25 := dz_l16
      have e26 := dz_ushp (a := r6) (b := (16 : Int32)) (by omega)
      have e27 := dz_ushc (a := r6) (b := (16 : Int32)) 16 (by omega) (by omega) (by omega)
      have e28 := dz_remv (a := (dz_ush r6 (16 : Int32))) (b := v9) (by omega) (by omega)
      refine dz_Tb (t301_X11_nthOf fu hfu _ _ ) (fun r7 q => ?_)
      obtain ⟨q7_0, q7_1⟩ := q
      refine dz_Tb (t302_X4_firstOpen_s fu hfu κ hκ _ _ _ _ p6 p7 q7_1 q7_0 i10 i9 (hr_a264) o3) (fun r8 q => ?_)
      obtain ⟨q8_0, q8_1⟩ := q
      have e29 := dz_l1
      have e30 := dz_l31
      have e31 := dz_andr (a := r7) (b := (31 : Int32)) (by omega)
      have e32 := dz_andl (a := r7) (b := (31 : Int32)) (by omega)
      have e33 := dz_shl1 (b := r7) 0 3 (by omega) (by omega) (by omega)
      have e34 := dz_lm1
      have e35 := dz_andl (a := v8) (b := (((1 : Int32) <<< (r7 &&& (31 : Int32))) ^^^ (-(1 : Int32)))) (by omega)
      have e36 := dz_add (a := v9) (b := (-(1 : Int32))) (by omega) (by omega)
      generalize (v9 + (-(1 : Int32))) = z2 at *
      exact (ih k0 (by omega)).2 v2 v3 r6 v5 r8 v7 (v8 &&& (((1 : Int32) <<< (r7 &&& (31 : Int32))) ^^^ (-(1 : Int32)))) z2 c284_fresh a285 a286 a287 i0 i1 i2 i3 i4 i5 q6_0 i7 i8 q8_0 q8_1 i11 i12 (by omega) (by omega) (by omega) (by omega) i17 i18 i19 i20 i21 i22 i23 i24 (by omega) (by omega) (hr_a285) (hr_a286) (hr_a287) (by omega) (by omega)
  · skip
    have e37 := dz_l0
    refine dz_Tle (fun h38 => ?_) (fun h38 => ?_)
    · skip
      refine dz_Tb (t129_X4_only fu hfu _ 24 (by omega) (by omega) (by decide)) (fun r9 q => ?_)
      obtain ⟨q9_0, q9_1⟩ := q
      have e39 := dz_mulb (a := v5) (b := c261_many) 575 24 (by omega) (by omega) (by omega) (by omega) (by omega)
      have e40 := dz_add (a := (v5 * c261_many)) (b := r9) (by omega) (by omega)
      have e41 := dz_l1
      have e42 := dz_add (a := v7) (b := (1 : Int32)) (by omega) (by omega)
      exact (ih k0 (by omega)).1 v2 v3 v4 ((v5 * c261_many) + r9) v6 (v7 + (1 : Int32)) c284_fresh a285 a286 a287 i0 i1 i2 i3 i4 i5 i6 (by omega) (by omega) i9 i10 (by omega) (by omega) i17 i18 i19 i20 i22 (by omega) (by omega) (by omega) (hr_a285) (hr_a286) (hr_a287) (by omega) (by omega)
    · skip
      refine dz_Tb (t300_X11_numberAfter fu hfu _ ) (fun r10 q => ?_)
      have q10_0 := q
      refine dz_Tz (by omega) ?_
      have e43 := dz_l16
      have e44 := dz_ushp (a := r10) (b := (16 : Int32)) (by omega)
      have e45 := dz_ushc (a := r10) (b := (16 : Int32)) 16 (by omega) (by omega) (by omega)
      have e46 := dz_remv (a := (dz_ush r10 (16 : Int32))) (b := v9) (by omega) (by omega)
      refine dz_Tb (t301_X11_nthOf fu hfu _ _ ) (fun r11 q => ?_)
      obtain ⟨q11_0, q11_1⟩ := q
      refine dz_Tb (t302_X4_firstOpen_s fu hfu κ hκ _ _ _ _ p6 p7 q11_1 q11_0 i10 i9 (hr_a264) o3) (fun r12 q => ?_)
      obtain ⟨q12_0, q12_1⟩ := q
      have e47 := dz_l1
      have e48 := dz_l31
      have e49 := dz_andr (a := r11) (b := (31 : Int32)) (by omega)
      have e50 := dz_andl (a := r11) (b := (31 : Int32)) (by omega)
      have e51 := dz_shl1 (b := r11) 0 3 (by omega) (by omega) (by omega)
      have e52 := dz_lm1
      have e53 := dz_andl (a := v8) (b := (((1 : Int32) <<< (r11 &&& (31 : Int32))) ^^^ (-(1 : Int32)))) (by omega)
      have e54 := dz_add (a := v9) (b := (-(1 : Int32))) (by omega) (by omega)
      generalize (v9 + (-(1 : Int32))) = z3 at *
      exact (ih k0 (by omega)).2 v2 v3 r10 v5 r12 v7 (v8 &&& (((1 : Int32) <<< (r11 &&& (31 : Int32))) ^^^ (-(1 : Int32)))) z3 c284_fresh a285 a286 a287 i0 i1 i2 i3 i4 i5 q10_0 i7 i8 q12_0 q12_1 i11 i12 (by omega) (by omega) (by omega) (by omega) i17 i18 i19 i20 i21 i22 i23 i24 (by omega) (by omega) (hr_a285) (hr_a286) (hr_a287) (by omega) (by omega)
  · skip
    have e55 := dz_l0
    refine dz_Tle (fun h56 => ?_) (fun h56 => ?_)
    · skip
      refine dz_Tb (t129_X4_only fu hfu _ 24 (by omega) (by omega) (by decide)) (fun r13 q => ?_)
      obtain ⟨q13_0, q13_1⟩ := q
      have e57 := dz_mulb (a := v5) (b := c261_many) 13823 24 (by omega) (by omega) (by omega) (by omega) (by omega)
      have e58 := dz_add (a := (v5 * c261_many)) (b := r13) (by omega) (by omega)
      have e59 := dz_l1
      have e60 := dz_add (a := v7) (b := (1 : Int32)) (by omega) (by omega)
      exact (ih k0 (by omega)).1 v2 v3 v4 ((v5 * c261_many) + r13) v6 (v7 + (1 : Int32)) c284_fresh a285 a286 a287 i0 i1 i2 i3 i4 i5 i6 (by omega) (by omega) i9 i10 (by omega) (by omega) i17 i18 i19 i20 i22 (by omega) (by omega) (by omega) (hr_a285) (hr_a286) (hr_a287) (by omega) (by omega)
    · skip
      refine dz_Tb (t300_X11_numberAfter fu hfu _ ) (fun r14 q => ?_)
      have q14_0 := q
      refine dz_Tz (by omega) ?_
      have e61 := dz_l16
      have e62 := dz_ushp (a := r14) (b := (16 : Int32)) (by omega)
      have e63 := dz_ushc (a := r14) (b := (16 : Int32)) 16 (by omega) (by omega) (by omega)
      have e64 := dz_remv (a := (dz_ush r14 (16 : Int32))) (b := v9) (by omega) (by omega)
      refine dz_Tb (t301_X11_nthOf fu hfu _ _ ) (fun r15 q => ?_)
      obtain ⟨q15_0, q15_1⟩ := q
      refine dz_Tb (t302_X4_firstOpen_s fu hfu κ hκ _ _ _ _ p6 p7 q15_1 q15_0 i10 i9 (hr_a264) o3) (fun r16 q => ?_)
      obtain ⟨q16_0, q16_1⟩ := q
      have e65 := dz_l1
      have e66 := dz_l31
      have e67 := dz_andr (a := r15) (b := (31 : Int32)) (by omega)
      have e68 := dz_andl (a := r15) (b := (31 : Int32)) (by omega)
      have e69 := dz_shl1 (b := r15) 0 3 (by omega) (by omega) (by omega)
      have e70 := dz_lm1
      have e71 := dz_andl (a := v8) (b := (((1 : Int32) <<< (r15 &&& (31 : Int32))) ^^^ (-(1 : Int32)))) (by omega)
      have e72 := dz_add (a := v9) (b := (-(1 : Int32))) (by omega) (by omega)
      generalize (v9 + (-(1 : Int32))) = z4 at *
      exact (ih k0 (by omega)).2 v2 v3 r14 v5 r16 v7 (v8 &&& (((1 : Int32) <<< (r15 &&& (31 : Int32))) ^^^ (-(1 : Int32)))) z4 c284_fresh a285 a286 a287 i0 i1 i2 i3 i4 i5 q14_0 i7 i8 q16_0 q16_1 i11 i12 (by omega) (by omega) (by omega) (by omega) i17 i18 i19 i20 i21 i22 i23 i24 (by omega) (by omega) (hr_a285) (hr_a286) (hr_a287) (by omega) (by omega)
theorem t303_X11_run_I_s (fu : Nat) (hfu : 1000000000000 ≤ fu) (κ : Nat) (hκ : κ < 14) (c248_groups : Int32) (c248_pots : Int32) (c248_teams : Int32) (c261_groups : Int32) (c261_many : Int32) (a262 : Nat → Int32) (a264 : Nat → Int32) (c267_total : Int32) (c267_lawfulOnes : Int32) (a268 : Nat → Int32) (a269 : Nat → Int32) (n269 : Nat) (p0 : c248_groups.toInt ≤ 4) (p1 : 2 ≤ c248_groups.toInt) (p2 : c248_pots.toInt ≤ 4) (p3 : 0 ≤ c248_pots.toInt) (p4 : c248_teams.toInt ≤ 12) (p5 : 0 ≤ c248_teams.toInt) (p6 : c261_groups.toInt ≤ 4) (p7 : 0 ≤ c261_groups.toInt) (p8 : c261_many.toInt ≤ 24) (p9 : 0 ≤ c261_many.toInt) (p10 : c267_total.toInt ≤ 13824) (p11 : 1 ≤ c267_total.toInt) (p12 : c267_lawfulOnes.toInt ≤ 13824) (p13 : 0 ≤ c267_lawfulOnes.toInt) (p14 : ((n269 : Nat) : Int) ≤ 13824) (p15 : 1 ≤ ((n269 : Nat) : Int)) (p16 : c267_total.toInt ≤ ((n269 : Nat) : Int)) (p17 : c267_lawfulOnes.toInt ≤ c267_total.toInt) (hr_a262 : dz_rg a262 96 0 3) (hr_a264 : dz_rg a264 16 0 16777215) (hr_a268 : dz_pt a268 (dz_kS κ)) (hr_a269 : dz_rg a269 n269 0 1023) (o0 : c248_groups.toInt = ((dz_kg κ : Nat) : Int)) (o1 : c248_pots.toInt = ((dz_kp κ : Nat) : Int)) (o2 : c248_teams.toInt = ((dz_km κ : Nat) : Int)) (o3 : c261_groups.toInt = ((dz_kg κ : Nat) : Int)) (o4 : c261_many.toInt = ((dz_kr κ : Nat) : Int)) (o5 : c267_total.toInt = ((dz_kt κ : Nat) : Int)) (k : Nat) : p303_X11_run_s fu κ c248_groups c248_pots c248_teams c261_groups c261_many a262 a264 c267_total c267_lawfulOnes a268 a269 n269 k := by
  induction k using Nat.strongRecOn with
  | _ k ih => exact ⟨t303_X11_run_h2_s fu hfu κ hκ c248_groups c248_pots c248_teams c261_groups c261_many a262 a264 c267_total c267_lawfulOnes a268 a269 n269 p0 p1 p2 p3 p4 p5 p6 p7 p8 p9 p10 p11 p12 p13 p14 p15 p16 p17 hr_a262 hr_a264 hr_a268 hr_a269 o0 o1 o2 o3 o4 o5 k ih, t303_X11_run_h3_s fu hfu κ hκ c248_groups c248_pots c248_teams c261_groups c261_many a262 a264 c267_total c267_lawfulOnes a268 a269 n269 p0 p1 p2 p3 p4 p5 p6 p7 p8 p9 p10 p11 p12 p13 p14 p15 p16 p17 hr_a262 hr_a264 hr_a268 hr_a269 o0 o1 o2 o3 o4 o5 k ih⟩
set_option maxHeartbeats 1000000 in
set_option maxRecDepth 10000 in
theorem t303_X11_run_E_s (fu : Nat) (hfu : 1000000000000 ≤ fu) (κ : Nat) (hκ : κ < 14) (c248_groups : Int32) (c248_pots : Int32) (c248_teams : Int32) (c261_groups : Int32) (c261_many : Int32) (a262 : Nat → Int32) (a264 : Nat → Int32) (c267_total : Int32) (c267_lawfulOnes : Int32) (a268 : Nat → Int32) (a269 : Nat → Int32) (n269 : Nat) (v1 : Int32) (v2 : Int32) (c284_fresh : Int32) (a285 : Nat → Int32) (a286 : Nat → Int32) (a287 : Nat → Int32) (p0 : c248_groups.toInt ≤ 4) (p1 : 2 ≤ c248_groups.toInt) (p2 : c248_pots.toInt ≤ 4) (p3 : 0 ≤ c248_pots.toInt) (p4 : c248_teams.toInt ≤ 12) (p5 : 0 ≤ c248_teams.toInt) (p6 : c261_groups.toInt ≤ 4) (p7 : 0 ≤ c261_groups.toInt) (p8 : c261_many.toInt ≤ 24) (p9 : 0 ≤ c261_many.toInt) (p10 : c267_total.toInt ≤ 13824) (p11 : 1 ≤ c267_total.toInt) (p12 : c267_lawfulOnes.toInt ≤ 13824) (p13 : 0 ≤ c267_lawfulOnes.toInt) (p14 : ((n269 : Nat) : Int) ≤ 13824) (p15 : 1 ≤ ((n269 : Nat) : Int)) (p16 : c284_fresh.toInt ≤ 1) (p17 : 0 ≤ c284_fresh.toInt) (p18 : c267_total.toInt ≤ ((n269 : Nat) : Int)) (p19 : c267_lawfulOnes.toInt ≤ c267_total.toInt) (hr_a262 : dz_rg a262 96 0 3) (hr_a264 : dz_rg a264 16 0 16777215) (hr_a268 : dz_pt a268 (dz_kS κ)) (hr_a269 : dz_rg a269 n269 0 1023) (hr_a285 : dz_rg a285 601 0 16777215) (hr_a286 : dz_rg a286 5 0 14425) (hr_a287 : (c284_fresh.toInt = 0 ∨ dz_pm a287 (dz_kp κ))) (o0 : c248_groups.toInt = ((dz_kg κ : Nat) : Int)) (o1 : c248_pots.toInt = ((dz_kp κ : Nat) : Int)) (o2 : c248_teams.toInt = ((dz_km κ : Nat) : Int)) (o3 : c261_groups.toInt = ((dz_kg κ : Nat) : Int)) (o4 : c261_many.toInt = ((dz_kr κ : Nat) : Int)) (o5 : c267_total.toInt = ((dz_kt κ : Nat) : Int)) (kv : Nat) (hkv : 1000000000000 ≤ kv) : dz_T (s303_X11_run_0 fu c248_groups c248_pots c248_teams c261_groups c261_many a262 a264 c267_total c267_lawfulOnes a268 a269 n269 (F303_X11_run fu c248_groups c248_pots c248_teams c261_groups c261_many a262 a264 c267_total c267_lawfulOnes a268 a269 n269 kv).1  v1 v2 c284_fresh a285 a286 a287) (fun r => r.1.toInt ≤ 3 ∧ (-1) ≤ r.1.toInt ∧ r.2.1.toInt ≤ 1 ∧ 0 ≤ r.2.1.toInt ∧ r.1.toInt ≤ r.2.1.toInt + 2 ∧ r.1.toInt ≤ c248_teams.toInt + 2 ∧ r.1.toInt ≤ c267_lawfulOnes.toInt + 2 ∧ dz_rg r.2.2.1 601 0 16777215 ∧ dz_rg r.2.2.2.1 5 0 14425 ∧ (r.2.1.toInt = 0 ∨ dz_pm r.2.2.2.2 (dz_kp κ))) := by
  unfold s303_X11_run_0
  have hk4 := dz_kp4 hκ
  have hfull := fun (a : 0 ≤ v2.toInt) (b : v2.toInt < ((dz_km κ : Nat) : Int)) => (dz_kfull hκ (o := v2) (g := c248_groups) a (by omega) (by omega)).2.2 b
  have e1 := dz_l0
  refine dz_Tlt (fun h2 => ?_) (fun h2 => ?_)
  · skip
    have e3 := dz_lm1
    refine dz_Ts ?_
    dsimp only
    exact ⟨(by omega), (by omega), p16, p17, (by omega), (by omega), (by omega), (hr_a285), (hr_a286), hr_a287⟩
  · skip
    refine dz_Tbe (show f159_X11_isTeam fu c248_teams v2 = (if (v2 < (0 : Int32)) then (some (0 : Int32)) else (if (c248_teams ≤ v2) then (some (0 : Int32)) else (some (1 : Int32)))) from rfl) ?_
    refine dz_Tltb (fun h4 => ?_) (fun h4 => ?_)
    · skip
      refine dz_Tsb ?_
      refine dz_Teq (fun h5 => ?_) (fun h5 => ?_)
      · skip
        have e6 := dz_lm1
        refine dz_Ts ?_
        dsimp only
        exact ⟨(by omega), (by omega), p16, p17, (by omega), (by omega), (by omega), (hr_a285), (hr_a286), hr_a287⟩
      · skip
        exfalso; omega
    · skip
      refine dz_Tleb (fun h7 => ?_) (fun h7 => ?_)
      · skip
        refine dz_Tsb ?_
        refine dz_Teq (fun h8 => ?_) (fun h8 => ?_)
        · skip
          have e9 := dz_lm1
          refine dz_Ts ?_
          dsimp only
          exact ⟨(by omega), (by omega), p16, p17, (by omega), (by omega), (by omega), (hr_a285), (hr_a286), hr_a287⟩
        · skip
          exfalso; omega
      · skip
        refine dz_Tsb ?_
        have e10 := dz_l1
        refine dz_Teq (fun h11 => ?_) (fun h11 => ?_)
        · skip
          exfalso; omega
        · skip
          refine dz_Teq (fun h12 => ?_) (fun h12 => ?_)
          · skip
            have e13 := dz_lm1
            refine dz_Ts ?_
            dsimp only
            exact ⟨(by omega), (by omega), p16, p17, (by omega), (by omega), (by omega), (hr_a285), (hr_a286), hr_a287⟩
          · skip
            refine dz_Teq (fun h14 => ?_) (fun h14 => ?_)
            · skip
              refine dz_Tb (t299_X10_build_s fu hfu κ hκ _ _ _ _ _ _ _ _ _ _ p2 p3 p8 p9 p10 p11 p14 p15 p16 p17 p18 (hr_a268) (hr_a269) (hr_a285) (hr_a286) o1 o4 o5) (fun r2 q => ?_)
              obtain ⟨q2_0, q2_1, qa2_1, qa2_2, qa2_3⟩ := q
              obtain ⟨k1, rfl⟩ : ∃ x, kv = x + 1 := ⟨kv - 1, by omega⟩
              show dz_T (s303_X11_run_1 fu c248_groups c248_pots c248_teams c261_groups c261_many a262 a264 c267_total c267_lawfulOnes a268 a269 n269 (F303_X11_run fu c248_groups c248_pots c248_teams c261_groups c261_many a262 a264 c267_total c267_lawfulOnes a268 a269 n269 k1).2.1 v1 v2 r2.1 r2.2.1 r2.2.2.1 r2.2.2.2) _
              unfold s303_X11_run_1
              refine dz_Tbe (show f160_X3_potOf fu c248_groups v2 = (if (c248_groups ≤ (0 : Int32)) then (some (0 : Int32)) else (if (¬ (c248_groups = (0 : Int32))) then (some (v2 / c248_groups)) else none)) from rfl) ?_
              refine dz_Tleb (fun h15 => ?_) (fun h15 => ?_)
              · skip
                exfalso; omega
              · skip
                refine dz_Tzb (by omega) ?_
                refine dz_Tsb ?_
                have e16 := dz_divq (a := v2) (b := c248_groups) 2 11 (by omega) (by omega) (by omega) (by omega)
                exact (t303_X11_run_I_s fu hfu κ hκ c248_groups c248_pots c248_teams c261_groups c261_many a262 a264 c267_total c267_lawfulOnes a268 a269 n269 p0 p1 p2 p3 p4 p5 p6 p7 p8 p9 p10 p11 p12 p13 p14 p15 p18 p19 hr_a262 hr_a264 hr_a268 hr_a269 o0 o1 o2 o3 o4 o5 k1).1 v2 (v2 / c248_groups) v1 (0 : Int32) (0 : Int32) (0 : Int32) r2.1 r2.2.1 r2.2.2.1 r2.2.2.2 (by first | assumption | omega) (by first | assumption | omega) (by first | assumption | omega) (by first | assumption | omega) (by omega) (by omega) (by first | assumption | omega) (by omega) (by omega) (by omega) (by omega) (by omega) (by omega) q2_0 q2_1 (by first | assumption | omega) (by omega) (by omega) (by omega) (by omega) (by omega) (qa2_1) (qa2_2) (qa2_3) (by omega) (by omega)
            · skip
              obtain ⟨k2, rfl⟩ : ∃ x, kv = x + 1 := ⟨kv - 1, by omega⟩
              show dz_T (s303_X11_run_1 fu c248_groups c248_pots c248_teams c261_groups c261_many a262 a264 c267_total c267_lawfulOnes a268 a269 n269 (F303_X11_run fu c248_groups c248_pots c248_teams c261_groups c261_many a262 a264 c267_total c267_lawfulOnes a268 a269 n269 k2).2.1 v1 v2 c284_fresh a285 a286 a287) _
              unfold s303_X11_run_1
              refine dz_Tbe (show f160_X3_potOf fu c248_groups v2 = (if (c248_groups ≤ (0 : Int32)) then (some (0 : Int32)) else (if (¬ (c248_groups = (0 : Int32))) then (some (v2 / c248_groups)) else none)) from rfl) ?_
              refine dz_Tleb (fun h17 => ?_) (fun h17 => ?_)
              · skip
                exfalso; omega
              · skip
                refine dz_Tzb (by omega) ?_
                refine dz_Tsb ?_
                have e18 := dz_divq (a := v2) (b := c248_groups) 2 11 (by omega) (by omega) (by omega) (by omega)
                exact (t303_X11_run_I_s fu hfu κ hκ c248_groups c248_pots c248_teams c261_groups c261_many a262 a264 c267_total c267_lawfulOnes a268 a269 n269 p0 p1 p2 p3 p4 p5 p6 p7 p8 p9 p10 p11 p12 p13 p14 p15 p18 p19 hr_a262 hr_a264 hr_a268 hr_a269 o0 o1 o2 o3 o4 o5 k2).1 v2 (v2 / c248_groups) v1 (0 : Int32) (0 : Int32) (0 : Int32) c284_fresh a285 a286 a287 (by first | assumption | omega) (by first | assumption | omega) (by first | assumption | omega) (by first | assumption | omega) (by omega) (by omega) (by first | assumption | omega) (by omega) (by omega) (by omega) (by omega) (by omega) (by omega) p16 (by first | assumption | omega) (by first | assumption | omega) (by omega) (by omega) (by omega) (by omega) (by omega) (hr_a285) (hr_a286) ((dz_cnd hr_a287 (by omega))) (by omega) (by omega)
theorem t303_X11_run_s (fu : Nat) (hfu : 1000000000000 ≤ fu) (κ : Nat) (hκ : κ < 14) (c248_groups : Int32) (c248_pots : Int32) (c248_teams : Int32) (c261_groups : Int32) (c261_many : Int32) (a262 : Nat → Int32) (a264 : Nat → Int32) (c267_total : Int32) (c267_lawfulOnes : Int32) (a268 : Nat → Int32) (a269 : Nat → Int32) (n269 : Nat) (v1 : Int32) (v2 : Int32) (c284_fresh : Int32) (a285 : Nat → Int32) (a286 : Nat → Int32) (a287 : Nat → Int32) (p0 : c248_groups.toInt ≤ 4) (p1 : 2 ≤ c248_groups.toInt) (p2 : c248_pots.toInt ≤ 4) (p3 : 0 ≤ c248_pots.toInt) (p4 : c248_teams.toInt ≤ 12) (p5 : 0 ≤ c248_teams.toInt) (p6 : c261_groups.toInt ≤ 4) (p7 : 0 ≤ c261_groups.toInt) (p8 : c261_many.toInt ≤ 24) (p9 : 0 ≤ c261_many.toInt) (p10 : c267_total.toInt ≤ 13824) (p11 : 1 ≤ c267_total.toInt) (p12 : c267_lawfulOnes.toInt ≤ 13824) (p13 : 0 ≤ c267_lawfulOnes.toInt) (p14 : ((n269 : Nat) : Int) ≤ 13824) (p15 : 1 ≤ ((n269 : Nat) : Int)) (p16 : c284_fresh.toInt ≤ 1) (p17 : 0 ≤ c284_fresh.toInt) (p18 : c267_total.toInt ≤ ((n269 : Nat) : Int)) (p19 : c267_lawfulOnes.toInt ≤ c267_total.toInt) (hr_a262 : dz_rg a262 96 0 3) (hr_a264 : dz_rg a264 16 0 16777215) (hr_a268 : dz_pt a268 (dz_kS κ)) (hr_a269 : dz_rg a269 n269 0 1023) (hr_a285 : dz_rg a285 601 0 16777215) (hr_a286 : dz_rg a286 5 0 14425) (hr_a287 : (c284_fresh.toInt = 0 ∨ dz_pm a287 (dz_kp κ))) (o0 : c248_groups.toInt = ((dz_kg κ : Nat) : Int)) (o1 : c248_pots.toInt = ((dz_kp κ : Nat) : Int)) (o2 : c248_teams.toInt = ((dz_km κ : Nat) : Int)) (o3 : c261_groups.toInt = ((dz_kg κ : Nat) : Int)) (o4 : c261_many.toInt = ((dz_kr κ : Nat) : Int)) (o5 : c267_total.toInt = ((dz_kt κ : Nat) : Int)) : dz_T (f303_X11_run fu c248_groups c248_pots c248_teams c261_groups c261_many a262 a264 c267_total c267_lawfulOnes a268 a269 n269 v1 v2 c284_fresh a285 a286 a287) (fun r => r.1.toInt ≤ 3 ∧ (-1) ≤ r.1.toInt ∧ r.2.1.toInt ≤ 1 ∧ 0 ≤ r.2.1.toInt ∧ r.1.toInt ≤ r.2.1.toInt + 2 ∧ r.1.toInt ≤ c248_teams.toInt + 2 ∧ r.1.toInt ≤ c267_lawfulOnes.toInt + 2 ∧ dz_rg r.2.2.1 601 0 16777215 ∧ dz_rg r.2.2.2.1 5 0 14425 ∧ (r.2.1.toInt = 0 ∨ dz_pm r.2.2.2.2 (dz_kp κ))) :=
  t303_X11_run_E_s fu hfu κ hκ c248_groups c248_pots c248_teams c261_groups c261_many a262 a264 c267_total c267_lawfulOnes a268 a269 n269 v1 v2 c284_fresh a285 a286 a287 p0 p1 p2 p3 p4 p5 p6 p7 p8 p9 p10 p11 p12 p13 p14 p15 p16 p17 p18 p19 hr_a262 hr_a264 hr_a268 hr_a269 hr_a285 hr_a286 hr_a287 o0 o1 o2 o3 o4 o5 fu hfu
abbrev p304_X11_evenly_s (fu : Nat) (κ : Nat) (c267_lawfulOnes : Int32) (k : Nat) : Prop :=
  (∀ (v2 : Int32) (v3 : Int32) (v6 : Int64) (v8 : Int32) (v9 : Int32) (v10 : Int32), 1 ≤ c267_lawfulOnes.toInt → v2.toInt ≤ 2 → 0 ≤ v2.toInt → v3.toInt ≤ 13824 → 1 ≤ v3.toInt → 0 ≤ v8.toInt → v9.toInt ≤ 1000001 → 1 ≤ v9.toInt → v10.toInt ≤ 1000000 → 0 ≤ v10.toInt → v10.toInt + 1 ≤ v9.toInt → c267_lawfulOnes.toInt ≤ v3.toInt → v3.toInt ≤ c267_lawfulOnes.toInt → v9.toInt ≤ v10.toInt + 1 → 0 + 0 + (1000001 - v9.toInt) * 12 + 6 ≤ ((k : Nat) : Int) → dz_T ((F304_X11_evenly fu c267_lawfulOnes k).1 v2 v3 v6 v8 v9 v10) (fun r => (-1) ≤ r.toInt))
set_option maxHeartbeats 1000000 in
set_option maxRecDepth 10000 in
theorem t304_X11_evenly_h1_s (fu : Nat) (hfu : 1000000000000 ≤ fu) (κ : Nat) (hκ : κ < 14) (c267_lawfulOnes : Int32) (p0 : c267_lawfulOnes.toInt ≤ 13824) (p1 : 0 ≤ c267_lawfulOnes.toInt) (k : Nat) (ih : ∀ j9, j9 < k → p304_X11_evenly_s fu κ c267_lawfulOnes j9) : ∀ (v2 : Int32) (v3 : Int32) (v6 : Int64) (v8 : Int32) (v9 : Int32) (v10 : Int32), 1 ≤ c267_lawfulOnes.toInt → v2.toInt ≤ 2 → 0 ≤ v2.toInt → v3.toInt ≤ 13824 → 1 ≤ v3.toInt → 0 ≤ v8.toInt → v9.toInt ≤ 1000001 → 1 ≤ v9.toInt → v10.toInt ≤ 1000000 → 0 ≤ v10.toInt → v10.toInt + 1 ≤ v9.toInt → c267_lawfulOnes.toInt ≤ v3.toInt → v3.toInt ≤ c267_lawfulOnes.toInt → v9.toInt ≤ v10.toInt + 1 → 0 + 0 + (1000001 - v9.toInt) * 12 + 6 ≤ ((k : Nat) : Int) → dz_T ((F304_X11_evenly fu c267_lawfulOnes k).1 v2 v3 v6 v8 v9 v10) (fun r => (-1) ≤ r.toInt) := by
  intro v2 v3 v6 v8 v9 v10 i0 i1 i2 i3 i4 i5 i6 i7 i8 i9 i10 i11 i12 i13 hm
  obtain ⟨k0, rfl⟩ : ∃ x, k = x + 1 := ⟨k - 1, by omega⟩
  show dz_T (s304_X11_evenly_1 fu c267_lawfulOnes (F304_X11_evenly fu c267_lawfulOnes k0).1 (F304_X11_evenly fu c267_lawfulOnes k0).2  v2 v3 v6 v8 v9 v10) _
  unfold s304_X11_evenly_1
  have e1 := dz_l1000000
  refine dz_Tle (fun h2 => ?_) (fun h2 => ?_)
  · skip
    obtain ⟨k1, rfl⟩ : ∃ x, k0 = x + 1 := ⟨k0 - 1, by omega⟩
    show dz_T (s304_X11_evenly_2 fu c267_lawfulOnes v2 v3 v8 v9) _
    unfold s304_X11_evenly_2
    have e3 := dz_l0
    refine dz_Teq (fun h4 => ?_) (fun h4 => ?_)
    · skip
      refine dz_Tz (by omega) ?_
      have e5 := dz_remv (a := v8) (b := v3) (by omega) (by omega)
      exact dz_Ts (by omega)
    · skip
      have e6 := dz_l1
      refine dz_Teq (fun h7 => ?_) (fun h7 => ?_)
      · skip
        exact dz_Ts (by first | assumption | omega)
      · skip
        exact dz_Ts (by first | assumption | omega)
  · skip
    have e8 := dz_l0
    refine dz_Tlt (fun h9 => ?_) (fun h9 => ?_)
    · skip
      obtain ⟨k2, rfl⟩ : ∃ x, k0 = x + 1 := ⟨k0 - 1, by omega⟩
      show dz_T (s304_X11_evenly_2 fu c267_lawfulOnes v2 v3 v8 v9) _
      unfold s304_X11_evenly_2
      refine dz_Teq (fun h10 => ?_) (fun h10 => ?_)
      · skip
        refine dz_Tz (by omega) ?_
        have e11 := dz_remv (a := v8) (b := v3) (by omega) (by omega)
        exact dz_Ts (by omega)
      · skip
        have e12 := dz_l1
        refine dz_Teq (fun h13 => ?_) (fun h13 => ?_)
        · skip
          exact dz_Ts (by first | assumption | omega)
        · skip
          exact dz_Ts (by first | assumption | omega)
    · skip
      refine dz_Tb (t300_X11_numberAfter fu hfu _ ) (fun r1 q => ?_)
      have q1_0 := q
      have e14 := dz_l1
      have e15 := dz_add (a := v9) (b := (1 : Int32)) (by omega) (by omega)
      have e16 := dz_add (a := v10) (b := (1 : Int32)) (by omega) (by omega)
      exact (ih k0 (by omega)) v2 v3 v6 r1 (v9 + (1 : Int32)) (v10 + (1 : Int32)) i0 i1 i2 i3 i4 q1_0 (by omega) (by omega) (by omega) (by omega) (by omega) i11 i12 (by omega) (by omega)
theorem t304_X11_evenly_I_s (fu : Nat) (hfu : 1000000000000 ≤ fu) (κ : Nat) (hκ : κ < 14) (c267_lawfulOnes : Int32) (p0 : c267_lawfulOnes.toInt ≤ 13824) (p1 : 0 ≤ c267_lawfulOnes.toInt) (k : Nat) : p304_X11_evenly_s fu κ c267_lawfulOnes k := by
  induction k using Nat.strongRecOn with
  | _ k ih => exact t304_X11_evenly_h1_s fu hfu κ hκ c267_lawfulOnes p0 p1 k ih
set_option maxHeartbeats 1000000 in
set_option maxRecDepth 10000 in
theorem t304_X11_evenly_E_s (fu : Nat) (hfu : 1000000000000 ≤ fu) (κ : Nat) (hκ : κ < 14) (c267_lawfulOnes : Int32) (v1 : Int32) (v2 : Int32) (p0 : c267_lawfulOnes.toInt ≤ 13824) (p1 : 0 ≤ c267_lawfulOnes.toInt) (kv : Nat) (hkv : 1000000000000 ≤ kv) : dz_T (s304_X11_evenly_0 fu c267_lawfulOnes (F304_X11_evenly fu c267_lawfulOnes kv).1  v1 v2) (fun r => (-1) ≤ r.toInt) := by
  unfold s304_X11_evenly_0
  have e1 := dz_l0
  refine dz_Tlt (fun h2 => ?_) (fun h2 => ?_)
  · skip
    have e3 := dz_lm1
    exact dz_Ts (by omega)
  · skip
    refine dz_Tlt (fun h4 => ?_) (fun h4 => ?_)
    · skip
      have e5 := dz_lm1
      exact dz_Ts (by omega)
    · skip
      have e6 := dz_l2
      refine dz_Tlt (fun h7 => ?_) (fun h7 => ?_)
      · skip
        have e8 := dz_lm1
        exact dz_Ts (by omega)
      · skip
        refine dz_Tlt (fun h9 => ?_) (fun h9 => ?_)
        · skip
          refine dz_Tg (dz_nz64 (by omega)) ?_
          refine dz_Tb (t300_X11_numberAfter fu hfu _ ) (fun r1 q => ?_)
          have q1_0 := q
          have e10 := dz_l1
          exact (t304_X11_evenly_I_s fu hfu κ hκ c267_lawfulOnes p0 p1 kv) v2 c267_lawfulOnes (2147483648 - (dz_reml 2147483648 c267_lawfulOnes.toInt64)) r1 (1 : Int32) (0 : Int32) (by first | assumption | omega) (by first | assumption | omega) (by first | assumption | omega) p0 (by first | assumption | omega) q1_0 (by omega) (by omega) (by omega) (by omega) (by omega) (by first | assumption | omega) (by first | assumption | omega) (by omega) (by omega)
        · skip
          have e11 := dz_lm1
          exact dz_Ts (by omega)
theorem t304_X11_evenly_s (fu : Nat) (hfu : 1000000000000 ≤ fu) (κ : Nat) (hκ : κ < 14) (c267_lawfulOnes : Int32) (v1 : Int32) (v2 : Int32) (p0 : c267_lawfulOnes.toInt ≤ 13824) (p1 : 0 ≤ c267_lawfulOnes.toInt) : dz_T (f304_X11_evenly fu c267_lawfulOnes v1 v2) (fun r => (-1) ≤ r.toInt) :=
  t304_X11_evenly_E_s fu hfu κ hκ c267_lawfulOnes v1 v2 p0 p1 fu hfu
set_option maxHeartbeats 1000000 in
set_option maxRecDepth 10000 in
theorem t305_X11_count_s (fu : Nat) (hfu : 1000000000000 ≤ fu) (κ : Nat) (hκ : κ < 14) (c248_groups : Int32) (c248_pots : Int32) (c248_teams : Int32) (c248_marks : Int32) (c248_bars : Int32) (c267_total : Int32) (c274_out : Int32) (v1 : Int32) (p0 : c248_groups.toInt ≤ 4) (p1 : 2 ≤ c248_groups.toInt) (p2 : c248_pots.toInt ≤ 4) (p3 : 0 ≤ c248_pots.toInt) (p4 : c248_teams.toInt ≤ 12) (p5 : 0 ≤ c248_teams.toInt) (p6 : c248_marks.toInt ≤ 6) (p7 : 0 ≤ c248_marks.toInt) (p8 : c248_bars.toInt ≤ 10) (p9 : 0 ≤ c248_bars.toInt) (p10 : c267_total.toInt ≤ 13824) (p11 : 1 ≤ c267_total.toInt) (p12 : c274_out.toInt ≤ 12) (p13 : 0 ≤ c274_out.toInt) (p14 : c274_out.toInt ≤ c248_teams.toInt) (o0 : c248_groups.toInt = ((dz_kg κ : Nat) : Int)) (o1 : c248_pots.toInt = ((dz_kp κ : Nat) : Int)) (o2 : c248_teams.toInt = ((dz_km κ : Nat) : Int)) (o3 : c267_total.toInt = ((dz_kt κ : Nat) : Int)) (o4 : c274_out.toInt ≤ ((dz_km κ : Nat) : Int)) : dz_T (f305_X11_count fu c248_groups c248_pots c248_teams c248_marks c248_bars c267_total c274_out v1) (fun r => r.toInt ≤ 13824 ∧ (-1) ≤ r.toInt ∧ r.toInt ≤ c267_total.toInt + 11) := by
  unfold f305_X11_count s305_X11_count_0
  have e1 := dz_l0
  refine dz_Teq (fun h2 => ?_) (fun h2 => ?_)
  · skip
    exact dz_Ts ⟨(by first | assumption | omega), (by first | assumption | omega), (by first | assumption | omega)⟩
  · skip
    have e3 := dz_l1
    refine dz_Teq (fun h4 => ?_) (fun h4 => ?_)
    · skip
      exact dz_Ts ⟨(by first | assumption | omega), (by first | assumption | omega), (by first | assumption | omega)⟩
    · skip
      have e5 := dz_l2
      refine dz_Teq (fun h6 => ?_) (fun h6 => ?_)
      · skip
        exact dz_Ts ⟨(by first | assumption | omega), (by first | assumption | omega), (by first | assumption | omega)⟩
      · skip
        have e7 := dz_l3
        refine dz_Teq (fun h8 => ?_) (fun h8 => ?_)
        · skip
          exact dz_Ts ⟨(by first | assumption | omega), (by first | assumption | omega), (by first | assumption | omega)⟩
        · skip
          have e9 := dz_l4
          refine dz_Teq (fun h10 => ?_) (fun h10 => ?_)
          · skip
            exact dz_Ts ⟨(by first | assumption | omega), (by first | assumption | omega), (by first | assumption | omega)⟩
          · skip
            have e11 := dz_l5
            refine dz_Teq (fun h12 => ?_) (fun h12 => ?_)
            · skip
              exact dz_Ts ⟨(by first | assumption | omega), (by first | assumption | omega), (by first | assumption | omega)⟩
            · skip
              have e13 := dz_l6
              refine dz_Teq (fun h14 => ?_) (fun h14 => ?_)
              · skip
                exact dz_Ts ⟨p10, (by first | assumption | omega), (by first | assumption | omega)⟩
              · skip
                have e15 := dz_lm1
                exact dz_Ts ⟨(by omega), (by omega), (by omega)⟩
