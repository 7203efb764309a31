abbrev p291_X9_pass_g42 (fu : Nat) (c248_pots : Int32) (c261_many : Int32) (c261_swapsAPot : Int32) (a265 : Nat → Int32) (a268 : Nat → Int32) (a269 : Nat → Int32) (n269 : Nat) (n309 : Nat) (k : Nat) : Prop :=
  (∀ (v1 : Int32) (v2 : Int32) (v3 : Int32) (a309 : Nat → Int32), v1.toInt ≤ 575 → 0 ≤ v1.toInt → v3.toInt ≤ 2 → 0 ≤ v3.toInt → 0 + 0 + (2 - v3.toInt) * 126 + 7 ≤ ((k : Nat) : Int) → dz_T ((F291_X9_pass fu c248_pots c261_many c261_swapsAPot a265 a268 a269 n269 n309 k).1 v1 v2 v3 a309) (fun r => True)) ∧ (∀ (v1 : Int32) (v2 : Int32) (v3 : Int32) (v4 : Int32) (v5 : Int32) (v6 : Int32) (v7 : Int32) (a309 : Nat → Int32), v1.toInt ≤ 575 → 0 ≤ v1.toInt → v3.toInt ≤ 1 → 0 ≤ v3.toInt → v4.toInt ≤ 24 → 1 ≤ v4.toInt → v5.toInt ≤ 23 → 0 ≤ v5.toInt → v6.toInt ≤ 575 → (-552) ≤ v6.toInt → v7.toInt ≤ 6 → 0 ≤ v7.toInt → v5.toInt ≤ v1.toInt → v6.toInt ≤ v1.toInt → ((v3.toInt = 0 ∧ v4.toInt = 24 ∧ v5.toInt = v1.toInt / 24 % 24 ∧ v6.toInt = v1.toInt - v5.toInt * 24) ∨ (v3.toInt = 1 ∧ v4.toInt = 1 ∧ v5.toInt = v1.toInt % 24 ∧ v6.toInt = v1.toInt - v5.toInt * 1)) → 0 + 0 + ((2 - v3.toInt) - 1) * 126 + 0 + (6 - v7.toInt) * 14 + 14 ≤ ((k : Nat) : Int) → dz_T ((F291_X9_pass fu c248_pots c261_many c261_swapsAPot a265 a268 a269 n269 n309 k).2.1 v1 v2 v3 v4 v5 v6 v7 a309) (fun r => True))
set_option maxHeartbeats 1000000 in
set_option maxRecDepth 10000 in
theorem t291_X9_pass_h1_g42 (fu : Nat) (hfu : 1000000000000 ≤ fu) (c248_pots : Int32) (c261_many : Int32) (c261_swapsAPot : Int32) (a265 : Nat → Int32) (a268 : Nat → Int32) (a269 : Nat → Int32) (n269 : Nat) (n309 : Nat) (p0 : c248_pots.toInt ≤ 2) (p1 : 2 ≤ c248_pots.toInt) (p2 : c261_many.toInt ≤ 24) (p3 : 24 ≤ c261_many.toInt) (p4 : c261_swapsAPot.toInt ≤ 6) (p5 : 6 ≤ c261_swapsAPot.toInt) (p6 : ((n269 : Nat) : Int) ≤ 13824) (p7 : 1 ≤ ((n269 : Nat) : Int)) (p8 : ((n309 : Nat) : Int) ≤ 13824) (p9 : 1 ≤ ((n309 : Nat) : Int)) (p10 : 576 ≤ ((n309 : Nat) : Int)) (p11 : 576 ≤ ((n269 : Nat) : Int)) (hr_a265 : dz_rt a265 24 6 0 23) (hr_a268 : dz_pt a268 [24, 1]) (hr_a269 : dz_rg a269 n269 0 1023) (k : Nat) (ih : ∀ j9, j9 < k → p291_X9_pass_g42 fu c248_pots c261_many c261_swapsAPot a265 a268 a269 n269 n309 j9) : ∀ (v1 : Int32) (v2 : Int32) (v3 : Int32) (a309 : Nat → Int32), v1.toInt ≤ 575 → 0 ≤ v1.toInt → v3.toInt ≤ 2 → 0 ≤ v3.toInt → 0 + 0 + (2 - v3.toInt) * 126 + 7 ≤ ((k : Nat) : Int) → dz_T ((F291_X9_pass fu c248_pots c261_many c261_swapsAPot a265 a268 a269 n269 n309 k).1 v1 v2 v3 a309) (fun r => True) := by
  intro v1 v2 v3 a309 i0 i1 i2 i3 hm
  obtain ⟨k0, rfl⟩ : ∃ x, k = x + 1 := ⟨k - 1, by omega⟩
  show dz_T (s291_X9_pass_1 fu c248_pots c261_many c261_swapsAPot a265 a268 a269 n269 n309 (F291_X9_pass fu c248_pots c261_many c261_swapsAPot a265 a268 a269 n269 n309 k0).2.1  v1 v2 v3 a309) _
  unfold s291_X9_pass_1
  rcases (show v3.toInt = 0 ∨ v3.toInt = 1 ∨ v3.toInt = 2 by omega) with hs | hs | hs
  · skip
    refine dz_Tle (fun h1 => ?_) (fun h1 => ?_)
    · skip
      exfalso; omega
    · skip
      refine dz_Tin (by omega) (by omega) ?_
      refine dz_Tbe (show f141_X2_rankIn fu c261_many a268 v1 v3 = (if dz_in v3 4 then (if ((a268 v3.toNatClampNeg) ≤ (0 : Int32)) then (some (0 : Int32)) else (if (c261_many ≤ (0 : Int32)) then (some (0 : Int32)) else (if (¬ ((a268 v3.toNatClampNeg) = (0 : Int32))) then (if (¬ (c261_many = (0 : Int32))) then (some (dz_rem (v1 / (a268 v3.toNatClampNeg)) c261_many)) else none) else none))) else none) from rfl) ?_
      refine dz_Tinb (by omega) (by omega) ?_
      have e2 := dz_ptat (hr_a268) (i := v3) (x := 24) 0 (by omega) (by decide)
      have e3 := dz_l0
      refine dz_Tleb (fun h4 => ?_) (fun h4 => ?_)
      · skip
        exfalso; omega
      · skip
        refine dz_Tleb (fun h5 => ?_) (fun h5 => ?_)
        · skip
          exfalso; omega
        · skip
          refine dz_Tzb (by omega) ?_
          refine dz_Tzb (by omega) ?_
          refine dz_Tsb ?_
          have e6 := dz_divn (a := v1) (b := (a268 v3.toNatClampNeg)) 24 (by omega) (by omega) (by omega)
          have e7 := dz_remn (a := (v1 / (a268 v3.toNatClampNeg))) (b := c261_many) 24 (by omega) (by omega) (by omega)
          have e8 := dz_mulr (a := (dz_rem (v1 / (a268 v3.toNatClampNeg)) c261_many)) (b := (a268 v3.toNatClampNeg)) 24 (by omega) (by omega) (by omega)
          have e9 := dz_sub (a := v1) (b := ((dz_rem (v1 / (a268 v3.toNatClampNeg)) c261_many) * (a268 v3.toNatClampNeg))) (by omega) (by omega)
          exact (ih k0 (by omega)).2 v1 v2 v3 (a268 v3.toNatClampNeg) (dz_rem (v1 / (a268 v3.toNatClampNeg)) c261_many) (v1 - ((dz_rem (v1 / (a268 v3.toNatClampNeg)) c261_many) * (a268 v3.toNatClampNeg))) (0 : Int32) a309 i0 i1 (by first | assumption | omega) i3 (by omega) (by omega) (by omega) (by omega) (by omega) (by omega) (by omega) (by omega) (by omega) (by omega) (by omega) (by omega)
  · skip
    refine dz_Tle (fun h10 => ?_) (fun h10 => ?_)
    · skip
      exfalso; omega
    · skip
      refine dz_Tin (by omega) (by omega) ?_
      refine dz_Tbe (show f141_X2_rankIn fu c261_many a268 v1 v3 = (if dz_in v3 4 then (if ((a268 v3.toNatClampNeg) ≤ (0 : Int32)) then (some (0 : Int32)) else (if (c261_many ≤ (0 : Int32)) then (some (0 : Int32)) else (if (¬ ((a268 v3.toNatClampNeg) = (0 : Int32))) then (if (¬ (c261_many = (0 : Int32))) then (some (dz_rem (v1 / (a268 v3.toNatClampNeg)) c261_many)) else none) else none))) else none) from rfl) ?_
      refine dz_Tinb (by omega) (by omega) ?_
      have e11 := dz_ptat (hr_a268) (i := v3) (x := 1) 1 (by omega) (by decide)
      have e12 := dz_l0
      refine dz_Tleb (fun h13 => ?_) (fun h13 => ?_)
      · skip
        exfalso; omega
      · skip
        refine dz_Tleb (fun h14 => ?_) (fun h14 => ?_)
        · skip
          exfalso; omega
        · skip
          refine dz_Tzb (by omega) ?_
          refine dz_Tzb (by omega) ?_
          refine dz_Tsb ?_
          have e15 := dz_div1 (a := v1) (b := (a268 v3.toNatClampNeg)) (by omega) (by omega)
          have e16 := dz_remn (a := (v1 / (a268 v3.toNatClampNeg))) (b := c261_many) 24 (by omega) (by omega) (by omega)
          have e17 := dz_mulr (a := (dz_rem (v1 / (a268 v3.toNatClampNeg)) c261_many)) (b := (a268 v3.toNatClampNeg)) 1 (by omega) (by omega) (by omega)
          have e18 := dz_sub (a := v1) (b := ((dz_rem (v1 / (a268 v3.toNatClampNeg)) c261_many) * (a268 v3.toNatClampNeg))) (by omega) (by omega)
          exact (ih k0 (by omega)).2 v1 v2 v3 (a268 v3.toNatClampNeg) (dz_rem (v1 / (a268 v3.toNatClampNeg)) c261_many) (v1 - ((dz_rem (v1 / (a268 v3.toNatClampNeg)) c261_many) * (a268 v3.toNatClampNeg))) (0 : Int32) a309 i0 i1 (by first | assumption | omega) i3 (by omega) (by omega) (by omega) (by omega) (by omega) (by omega) (by omega) (by omega) (by omega) (by omega) (by omega) (by omega)
  · skip
    refine dz_Tle (fun h19 => ?_) (fun h19 => ?_)
    · skip
      exact dz_Ts trivial
    · skip
      exfalso; omega
set_option maxHeartbeats 1000000 in
set_option maxRecDepth 10000 in
theorem t291_X9_pass_h2_g42 (fu : Nat) (hfu : 1000000000000 ≤ fu) (c248_pots : Int32) (c261_many : Int32) (c261_swapsAPot : Int32) (a265 : Nat → Int32) (a268 : Nat → Int32) (a269 : Nat → Int32) (n269 : Nat) (n309 : Nat) (p0 : c248_pots.toInt ≤ 2) (p1 : 2 ≤ c248_pots.toInt) (p2 : c261_many.toInt ≤ 24) (p3 : 24 ≤ c261_many.toInt) (p4 : c261_swapsAPot.toInt ≤ 6) (p5 : 6 ≤ c261_swapsAPot.toInt) (p6 : ((n269 : Nat) : Int) ≤ 13824) (p7 : 1 ≤ ((n269 : Nat) : Int)) (p8 : ((n309 : Nat) : Int) ≤ 13824) (p9 : 1 ≤ ((n309 : Nat) : Int)) (p10 : 576 ≤ ((n309 : Nat) : Int)) (p11 : 576 ≤ ((n269 : Nat) : Int)) (hr_a265 : dz_rt a265 24 6 0 23) (hr_a268 : dz_pt a268 [24, 1]) (hr_a269 : dz_rg a269 n269 0 1023) (k : Nat) (ih : ∀ j9, j9 < k → p291_X9_pass_g42 fu c248_pots c261_many c261_swapsAPot a265 a268 a269 n269 n309 j9) : ∀ (v1 : Int32) (v2 : Int32) (v3 : Int32) (v4 : Int32) (v5 : Int32) (v6 : Int32) (v7 : Int32) (a309 : Nat → Int32), v1.toInt ≤ 575 → 0 ≤ v1.toInt → v3.toInt ≤ 1 → 0 ≤ v3.toInt → v4.toInt ≤ 24 → 1 ≤ v4.toInt → v5.toInt ≤ 23 → 0 ≤ v5.toInt → v6.toInt ≤ 575 → (-552) ≤ v6.toInt → v7.toInt ≤ 6 → 0 ≤ v7.toInt → v5.toInt ≤ v1.toInt → v6.toInt ≤ v1.toInt → ((v3.toInt = 0 ∧ v4.toInt = 24 ∧ v5.toInt = v1.toInt / 24 % 24 ∧ v6.toInt = v1.toInt - v5.toInt * 24) ∨ (v3.toInt = 1 ∧ v4.toInt = 1 ∧ v5.toInt = v1.toInt % 24 ∧ v6.toInt = v1.toInt - v5.toInt * 1)) → 0 + 0 + ((2 - v3.toInt) - 1) * 126 + 0 + (6 - v7.toInt) * 14 + 14 ≤ ((k : Nat) : Int) → dz_T ((F291_X9_pass fu c248_pots c261_many c261_swapsAPot a265 a268 a269 n269 n309 k).2.1 v1 v2 v3 v4 v5 v6 v7 a309) (fun r => True) := by
  intro v1 v2 v3 v4 v5 v6 v7 a309 i0 i1 i2 i3 i4 i5 i6 i7 i8 i9 i10 i11 i12 i13 x0 hm
  obtain ⟨k0, rfl⟩ : ∃ x, k = x + 1 := ⟨k - 1, by omega⟩
  show dz_T (s291_X9_pass_2 fu c248_pots c261_many c261_swapsAPot a265 a268 a269 n269 n309 (F291_X9_pass fu c248_pots c261_many c261_swapsAPot a265 a268 a269 n269 n309 k0).1 (F291_X9_pass fu c248_pots c261_many c261_swapsAPot a265 a268 a269 n269 n309 k0).2.2  v1 v2 v3 v4 v5 v6 v7 a309) _
  unfold s291_X9_pass_2
  rcases (show v3.toInt = 0 ∨ v3.toInt = 1 by omega) with hs | hs
  · skip
    refine dz_Tle (fun h1 => ?_) (fun h1 => ?_)
    · skip
      have e2 := dz_l1
      have e3 := dz_add (a := v3) (b := (1 : Int32)) (by omega) (by omega)
      exact (ih k0 (by omega)).1 v1 v2 (v3 + (1 : Int32)) a309 i0 i1 (by omega) (by omega) (by omega)
    · skip
      have e4 := dz_l6
      have e5 := dz_mulr (a := v5) (b := (6 : Int32)) 6 (by omega) (by omega) (by omega)
      have e6 := dz_add (a := (v5 * (6 : Int32))) (b := v7) (by omega) (by omega)
      refine dz_Tin (by omega) (by omega) ?_
      have e7 := dz_rtat (hr_a265) (x := v5) (y := v7) (by omega) (by omega) (by omega) (by omega) (by omega)
      have e8 := dz_mulr (a := (a265 ((v5 * (6 : Int32)) + v7).toNatClampNeg)) (b := v4) 24 (by omega) (by omega) (by omega)
      have e9 := dz_add (a := v6) (b := ((a265 ((v5 * (6 : Int32)) + v7).toNatClampNeg) * v4)) (by omega) (by omega)
      refine dz_Tin (by omega) (by omega) ?_
      have e10 := dz_rgat (hr_a269) (i := (v6 + ((a265 ((v5 * (6 : Int32)) + v7).toNatClampNeg) * v4))) (by omega) (by omega)
      have e11 := dz_l0
      refine dz_Teq (fun h12 => ?_) (fun h12 => ?_)
      · skip
        obtain ⟨k1, rfl⟩ : ∃ x, k0 = x + 1 := ⟨k0 - 1, by omega⟩
        show dz_T (s291_X9_pass_3 fu c248_pots c261_many c261_swapsAPot a265 a268 a269 n269 n309 (F291_X9_pass fu c248_pots c261_many c261_swapsAPot a265 a268 a269 n269 n309 k1).2.1 v1 v2 v3 v4 v5 v6 v7 (v6 + ((a265 ((v5 * (6 : Int32)) + v7).toNatClampNeg) * v4)) a309) _
        unfold s291_X9_pass_3
        refine dz_Tin (by omega) (by omega) ?_
        refine dz_Tin (by omega) (by omega) ?_
        have e13 := dz_l1
        have e14 := dz_add (a := v7) (b := (1 : Int32)) (by omega) (by omega)
        exact (ih k1 (by omega)).2 v1 v2 v3 v4 v5 v6 (v7 + (1 : Int32)) (upd a309 (v6 + ((a265 ((v5 * (6 : Int32)) + v7).toNatClampNeg) * v4)).toNatClampNeg ((a309 (v6 + ((a265 ((v5 * (6 : Int32)) + v7).toNatClampNeg) * v4)).toNatClampNeg) + v2)) i0 i1 i2 i3 i4 i5 i6 i7 i8 i9 (by omega) (by omega) i12 i13 (by omega) (by omega)
      · skip
        obtain ⟨k2, rfl⟩ : ∃ x, k0 = x + 1 := ⟨k0 - 1, by omega⟩
        show dz_T (s291_X9_pass_3 fu c248_pots c261_many c261_swapsAPot a265 a268 a269 n269 n309 (F291_X9_pass fu c248_pots c261_many c261_swapsAPot a265 a268 a269 n269 n309 k2).2.1 v1 v2 v3 v4 v5 v6 v7 v1 a309) _
        unfold s291_X9_pass_3
        refine dz_Tin (by omega) (by omega) ?_
        refine dz_Tin (by omega) (by omega) ?_
        have e15 := dz_l1
        have e16 := dz_add (a := v7) (b := (1 : Int32)) (by omega) (by omega)
        exact (ih k2 (by omega)).2 v1 v2 v3 v4 v5 v6 (v7 + (1 : Int32)) (upd a309 v1.toNatClampNeg ((a309 v1.toNatClampNeg) + v2)) i0 i1 i2 i3 i4 i5 i6 i7 i8 i9 (by omega) (by omega) i12 i13 (by omega) (by omega)
  · skip
    refine dz_Tle (fun h17 => ?_) (fun h17 => ?_)
    · skip
      have e18 := dz_l1
      have e19 := dz_add (a := v3) (b := (1 : Int32)) (by omega) (by omega)
      exact (ih k0 (by omega)).1 v1 v2 (v3 + (1 : Int32)) a309 i0 i1 (by omega) (by omega) (by omega)
    · skip
      have e20 := dz_l6
      have e21 := dz_mulr (a := v5) (b := (6 : Int32)) 6 (by omega) (by omega) (by omega)
      have e22 := dz_add (a := (v5 * (6 : Int32))) (b := v7) (by omega) (by omega)
      refine dz_Tin (by omega) (by omega) ?_
      have e23 := dz_rtat (hr_a265) (x := v5) (y := v7) (by omega) (by omega) (by omega) (by omega) (by omega)
      have e24 := dz_mulr (a := (a265 ((v5 * (6 : Int32)) + v7).toNatClampNeg)) (b := v4) 1 (by omega) (by omega) (by omega)
      have e25 := dz_add (a := v6) (b := ((a265 ((v5 * (6 : Int32)) + v7).toNatClampNeg) * v4)) (by omega) (by omega)
      refine dz_Tin (by omega) (by omega) ?_
      have e26 := dz_rgat (hr_a269) (i := (v6 + ((a265 ((v5 * (6 : Int32)) + v7).toNatClampNeg) * v4))) (by omega) (by omega)
      have e27 := dz_l0
      refine dz_Teq (fun h28 => ?_) (fun h28 => ?_)
      · skip
        obtain ⟨k3, rfl⟩ : ∃ x, k0 = x + 1 := ⟨k0 - 1, by omega⟩
        show dz_T (s291_X9_pass_3 fu c248_pots c261_many c261_swapsAPot a265 a268 a269 n269 n309 (F291_X9_pass fu c248_pots c261_many c261_swapsAPot a265 a268 a269 n269 n309 k3).2.1 v1 v2 v3 v4 v5 v6 v7 (v6 + ((a265 ((v5 * (6 : Int32)) + v7).toNatClampNeg) * v4)) a309) _
        unfold s291_X9_pass_3
        refine dz_Tin (by omega) (by omega) ?_
        refine dz_Tin (by omega) (by omega) ?_
        have e29 := dz_l1
        have e30 := dz_add (a := v7) (b := (1 : Int32)) (by omega) (by omega)
        exact (ih k3 (by omega)).2 v1 v2 v3 v4 v5 v6 (v7 + (1 : Int32)) (upd a309 (v6 + ((a265 ((v5 * (6 : Int32)) + v7).toNatClampNeg) * v4)).toNatClampNeg ((a309 (v6 + ((a265 ((v5 * (6 : Int32)) + v7).toNatClampNeg) * v4)).toNatClampNeg) + v2)) i0 i1 i2 i3 i4 i5 i6 i7 i8 i9 (by omega) (by omega) i12 i13 (by omega) (by omega)
      · skip
        obtain ⟨k4, rfl⟩ : ∃ x, k0 = x + 1 := ⟨k0 - 1, by omega⟩
        show dz_T (s291_X9_pass_3 fu c248_pots c261_many c261_swapsAPot a265 a268 a269 n269 n309 (F291_X9_pass fu c248_pots c261_many c261_swapsAPot a265 a268 a269 n269 n309 k4).2.1 v1 v2 v3 v4 v5 v6 v7 v1 a309) _
        unfold s291_X9_pass_3
        refine dz_Tin (by omega) (by omega) ?_
        refine dz_Tin (by omega) (by omega) ?_
        have e31 := dz_l1
        have e32 := dz_add (a := v7) (b := (1 : Int32)) (by omega) (by omega)
        exact (ih k4 (by omega)).2 v1 v2 v3 v4 v5 v6 (v7 + (1 : Int32)) (upd a309 v1.toNatClampNeg ((a309 v1.toNatClampNeg) + v2)) i0 i1 i2 i3 i4 i5 i6 i7 i8 i9 (by omega) (by omega) i12 i13 (by omega) (by omega)
theorem t291_X9_pass_I_g42 (fu : Nat) (hfu : 1000000000000 ≤ fu) (c248_pots : Int32) (c261_many : Int32) (c261_swapsAPot : Int32) (a265 : Nat → Int32) (a268 : Nat → Int32) (a269 : Nat → Int32) (n269 : Nat) (n309 : Nat) (p0 : c248_pots.toInt ≤ 2) (p1 : 2 ≤ c248_pots.toInt) (p2 : c261_many.toInt ≤ 24) (p3 : 24 ≤ c261_many.toInt) (p4 : c261_swapsAPot.toInt ≤ 6) (p5 : 6 ≤ c261_swapsAPot.toInt) (p6 : ((n269 : Nat) : Int) ≤ 13824) (p7 : 1 ≤ ((n269 : Nat) : Int)) (p8 : ((n309 : Nat) : Int) ≤ 13824) (p9 : 1 ≤ ((n309 : Nat) : Int)) (p10 : 576 ≤ ((n309 : Nat) : Int)) (p11 : 576 ≤ ((n269 : Nat) : Int)) (hr_a265 : dz_rt a265 24 6 0 23) (hr_a268 : dz_pt a268 [24, 1]) (hr_a269 : dz_rg a269 n269 0 1023) (k : Nat) : p291_X9_pass_g42 fu c248_pots c261_many c261_swapsAPot a265 a268 a269 n269 n309 k := by
  induction k using Nat.strongRecOn with
  | _ k ih => exact ⟨t291_X9_pass_h1_g42 fu hfu c248_pots c261_many c261_swapsAPot a265 a268 a269 n269 n309 p0 p1 p2 p3 p4 p5 p6 p7 p8 p9 p10 p11 hr_a265 hr_a268 hr_a269 k ih, t291_X9_pass_h2_g42 fu hfu c248_pots c261_many c261_swapsAPot a265 a268 a269 n269 n309 p0 p1 p2 p3 p4 p5 p6 p7 p8 p9 p10 p11 hr_a265 hr_a268 hr_a269 k ih⟩
set_option maxHeartbeats 1000000 in
set_option maxRecDepth 10000 in
theorem t291_X9_pass_E_g42 (fu : Nat) (hfu : 1000000000000 ≤ fu) (c248_pots : Int32) (c261_many : Int32) (c261_swapsAPot : Int32) (a265 : Nat → Int32) (a268 : Nat → Int32) (a269 : Nat → Int32) (n269 : Nat) (n309 : Nat) (v1 : Int32) (v2 : Int32) (a309 : Nat → Int32) (p0 : c248_pots.toInt ≤ 2) (p1 : 2 ≤ c248_pots.toInt) (p2 : c261_many.toInt ≤ 24) (p3 : 24 ≤ c261_many.toInt) (p4 : c261_swapsAPot.toInt ≤ 6) (p5 : 6 ≤ c261_swapsAPot.toInt) (p6 : ((n269 : Nat) : Int) ≤ 13824) (p7 : 1 ≤ ((n269 : Nat) : Int)) (p8 : ((n309 : Nat) : Int) ≤ 13824) (p9 : 1 ≤ ((n309 : Nat) : Int)) (p10 : 0 ≤ v1.toInt) (p11 : v1.toInt ≤ 575) (p12 : 576 ≤ ((n309 : Nat) : Int)) (p13 : 576 ≤ ((n269 : Nat) : Int)) (hr_a265 : dz_rt a265 24 6 0 23) (hr_a268 : dz_pt a268 [24, 1]) (hr_a269 : dz_rg a269 n269 0 1023) (kv : Nat) (hkv : 1000000000000 ≤ kv) : dz_T (s291_X9_pass_0 fu c248_pots c261_many c261_swapsAPot a265 a268 a269 n269 n309 (F291_X9_pass fu c248_pots c261_many c261_swapsAPot a265 a268 a269 n269 n309 kv).1  v1 v2 a309) (fun r => True) := by
  unfold s291_X9_pass_0
  have e1 := dz_l0
  exact (t291_X9_pass_I_g42 fu hfu c248_pots c261_many c261_swapsAPot a265 a268 a269 n269 n309 p0 p1 p2 p3 p4 p5 p6 p7 p8 p9 p12 p13 hr_a265 hr_a268 hr_a269 kv).1 v1 v2 (0 : Int32) a309 p11 p10 (by omega) (by omega) (by omega)
theorem t291_X9_pass_g42 (fu : Nat) (hfu : 1000000000000 ≤ fu) (c248_pots : Int32) (c261_many : Int32) (c261_swapsAPot : Int32) (a265 : Nat → Int32) (a268 : Nat → Int32) (a269 : Nat → Int32) (n269 : Nat) (n309 : Nat) (v1 : Int32) (v2 : Int32) (a309 : Nat → Int32) (p0 : c248_pots.toInt ≤ 2) (p1 : 2 ≤ c248_pots.toInt) (p2 : c261_many.toInt ≤ 24) (p3 : 24 ≤ c261_many.toInt) (p4 : c261_swapsAPot.toInt ≤ 6) (p5 : 6 ≤ c261_swapsAPot.toInt) (p6 : ((n269 : Nat) : Int) ≤ 13824) (p7 : 1 ≤ ((n269 : Nat) : Int)) (p8 : ((n309 : Nat) : Int) ≤ 13824) (p9 : 1 ≤ ((n309 : Nat) : Int)) (p10 : 0 ≤ v1.toInt) (p11 : v1.toInt ≤ 575) (p12 : 576 ≤ ((n309 : Nat) : Int)) (p13 : 576 ≤ ((n269 : Nat) : Int)) (hr_a265 : dz_rt a265 24 6 0 23) (hr_a268 : dz_pt a268 [24, 1]) (hr_a269 : dz_rg a269 n269 0 1023) : dz_T (f291_X9_pass fu c248_pots c261_many c261_swapsAPot a265 a268 a269 n269 n309 v1 v2 a309) (fun r => True) :=
  t291_X9_pass_E_g42 fu hfu c248_pots c261_many c261_swapsAPot a265 a268 a269 n269 n309 v1 v2 a309 p0 p1 p2 p3 p4 p5 p6 p7 p8 p9 p10 p11 p12 p13 hr_a265 hr_a268 hr_a269 fu hfu
abbrev p291_X9_pass_g43 (fu : Nat) (c248_pots : Int32) (c261_many : Int32) (c261_swapsAPot : Int32) (a265 : Nat → Int32) (a268 : Nat → Int32) (a269 : Nat → Int32) (n269 : Nat) (n309 : Nat) (k : Nat) : Prop :=
  (∀ (v1 : Int32) (v2 : Int32) (v3 : Int32) (a309 : Nat → Int32), v1.toInt ≤ 13823 → 0 ≤ v1.toInt → v3.toInt ≤ 3 → 0 ≤ v3.toInt → 0 + 0 + (3 - v3.toInt) * 126 + 7 ≤ ((k : Nat) : Int) → dz_T ((F291_X9_pass fu c248_pots c261_many c261_swapsAPot a265 a268 a269 n269 n309 k).1 v1 v2 v3 a309) (fun r => True)) ∧ (∀ (v1 : Int32) (v2 : Int32) (v3 : Int32) (v4 : Int32) (v5 : Int32) (v6 : Int32) (v7 : Int32) (a309 : Nat → Int32), v1.toInt ≤ 13823 → 0 ≤ v1.toInt → v3.toInt ≤ 2 → 0 ≤ v3.toInt → v4.toInt ≤ 576 → 1 ≤ v4.toInt → v5.toInt ≤ 23 → 0 ≤ v5.toInt → v6.toInt ≤ 13823 → (-13248) ≤ v6.toInt → v7.toInt ≤ 6 → 0 ≤ v7.toInt → v5.toInt ≤ v1.toInt → v6.toInt ≤ v1.toInt → ((v3.toInt = 0 ∧ v4.toInt = 576 ∧ v5.toInt = v1.toInt / 576 % 24 ∧ v6.toInt = v1.toInt - v5.toInt * 576) ∨ (v3.toInt = 1 ∧ v4.toInt = 24 ∧ v5.toInt = v1.toInt / 24 % 24 ∧ v6.toInt = v1.toInt - v5.toInt * 24) ∨ (v3.toInt = 2 ∧ v4.toInt = 1 ∧ v5.toInt = v1.toInt % 24 ∧ v6.toInt = v1.toInt - v5.toInt * 1)) → 0 + 0 + ((3 - v3.toInt) - 1) * 126 + 0 + (6 - v7.toInt) * 14 + 14 ≤ ((k : Nat) : Int) → dz_T ((F291_X9_pass fu c248_pots c261_many c261_swapsAPot a265 a268 a269 n269 n309 k).2.1 v1 v2 v3 v4 v5 v6 v7 a309) (fun r => True))
set_option maxHeartbeats 1000000 in
set_option maxRecDepth 10000 in
theorem t291_X9_pass_h1_g43 (fu : Nat) (hfu : 1000000000000 ≤ fu) (c248_pots : Int32) (c261_many : Int32) (c261_swapsAPot : Int32) (a265 : Nat → Int32) (a268 : Nat → Int32) (a269 : Nat → Int32) (n269 : Nat) (n309 : Nat) (p0 : c248_pots.toInt ≤ 3) (p1 : 3 ≤ c248_pots.toInt) (p2 : c261_many.toInt ≤ 24) (p3 : 24 ≤ c261_many.toInt) (p4 : c261_swapsAPot.toInt ≤ 6) (p5 : 6 ≤ c261_swapsAPot.toInt) (p6 : ((n269 : Nat) : Int) ≤ 13824) (p7 : 1 ≤ ((n269 : Nat) : Int)) (p8 : ((n309 : Nat) : Int) ≤ 13824) (p9 : 1 ≤ ((n309 : Nat) : Int)) (p10 : 13824 ≤ ((n309 : Nat) : Int)) (p11 : 13824 ≤ ((n269 : Nat) : Int)) (hr_a265 : dz_rt a265 24 6 0 23) (hr_a268 : dz_pt a268 [576, 24, 1]) (hr_a269 : dz_rg a269 n269 0 1023) (k : Nat) (ih : ∀ j9, j9 < k → p291_X9_pass_g43 fu c248_pots c261_many c261_swapsAPot a265 a268 a269 n269 n309 j9) : ∀ (v1 : Int32) (v2 : Int32) (v3 : Int32) (a309 : Nat → Int32), v1.toInt ≤ 13823 → 0 ≤ v1.toInt → v3.toInt ≤ 3 → 0 ≤ v3.toInt → 0 + 0 + (3 - v3.toInt) * 126 + 7 ≤ ((k : Nat) : Int) → dz_T ((F291_X9_pass fu c248_pots c261_many c261_swapsAPot a265 a268 a269 n269 n309 k).1 v1 v2 v3 a309) (fun r => True) := by
  intro v1 v2 v3 a309 i0 i1 i2 i3 hm
  obtain ⟨k0, rfl⟩ : ∃ x, k = x + 1 := ⟨k - 1, by omega⟩
  show dz_T (s291_X9_pass_1 fu c248_pots c261_many c261_swapsAPot a265 a268 a269 n269 n309 (F291_X9_pass fu c248_pots c261_many c261_swapsAPot a265 a268 a269 n269 n309 k0).2.1  v1 v2 v3 a309) _
  unfold s291_X9_pass_1
  rcases (show v3.toInt = 0 ∨ v3.toInt = 1 ∨ v3.toInt = 2 ∨ v3.toInt = 3 by omega) with hs | hs | hs | hs
  · skip
    refine dz_Tle (fun h1 => ?_) (fun h1 => ?_)
    · skip
      exfalso; omega
    · skip
      refine dz_Tin (by omega) (by omega) ?_
      refine dz_Tbe (show f141_X2_rankIn fu c261_many a268 v1 v3 = (if dz_in v3 4 then (if ((a268 v3.toNatClampNeg) ≤ (0 : Int32)) then (some (0 : Int32)) else (if (c261_many ≤ (0 : Int32)) then (some (0 : Int32)) else (if (¬ ((a268 v3.toNatClampNeg) = (0 : Int32))) then (if (¬ (c261_many = (0 : Int32))) then (some (dz_rem (v1 / (a268 v3.toNatClampNeg)) c261_many)) else none) else none))) else none) from rfl) ?_
      refine dz_Tinb (by omega) (by omega) ?_
      have e2 := dz_ptat (hr_a268) (i := v3) (x := 576) 0 (by omega) (by decide)
      have e3 := dz_l0
      refine dz_Tleb (fun h4 => ?_) (fun h4 => ?_)
      · skip
        exfalso; omega
      · skip
        refine dz_Tleb (fun h5 => ?_) (fun h5 => ?_)
        · skip
          exfalso; omega
        · skip
          refine dz_Tzb (by omega) ?_
          refine dz_Tzb (by omega) ?_
          refine dz_Tsb ?_
          have e6 := dz_divn (a := v1) (b := (a268 v3.toNatClampNeg)) 576 (by omega) (by omega) (by omega)
          have e7 := dz_remn (a := (v1 / (a268 v3.toNatClampNeg))) (b := c261_many) 24 (by omega) (by omega) (by omega)
          have e8 := dz_mulr (a := (dz_rem (v1 / (a268 v3.toNatClampNeg)) c261_many)) (b := (a268 v3.toNatClampNeg)) 576 (by omega) (by omega) (by omega)
          have e9 := dz_sub (a := v1) (b := ((dz_rem (v1 / (a268 v3.toNatClampNeg)) c261_many) * (a268 v3.toNatClampNeg))) (by omega) (by omega)
          exact (ih k0 (by omega)).2 v1 v2 v3 (a268 v3.toNatClampNeg) (dz_rem (v1 / (a268 v3.toNatClampNeg)) c261_many) (v1 - ((dz_rem (v1 / (a268 v3.toNatClampNeg)) c261_many) * (a268 v3.toNatClampNeg))) (0 : Int32) a309 i0 i1 (by first | assumption | omega) i3 (by omega) (by omega) (by omega) (by omega) (by omega) (by omega) (by omega) (by omega) (by omega) (by omega) (by omega) (by omega)
  · skip
    refine dz_Tle (fun h10 => ?_) (fun h10 => ?_)
    · skip
      exfalso; omega
    · skip
      refine dz_Tin (by omega) (by omega) ?_
      refine dz_Tbe (show f141_X2_rankIn fu c261_many a268 v1 v3 = (if dz_in v3 4 then (if ((a268 v3.toNatClampNeg) ≤ (0 : Int32)) then (some (0 : Int32)) else (if (c261_many ≤ (0 : Int32)) then (some (0 : Int32)) else (if (¬ ((a268 v3.toNatClampNeg) = (0 : Int32))) then (if (¬ (c261_many = (0 : Int32))) then (some (dz_rem (v1 / (a268 v3.toNatClampNeg)) c261_many)) else none) else none))) else none) from rfl) ?_
      refine dz_Tinb (by omega) (by omega) ?_
      have e11 := dz_ptat (hr_a268) (i := v3) (x := 24) 1 (by omega) (by decide)
      have e12 := dz_l0
      refine dz_Tleb (fun h13 => ?_) (fun h13 => ?_)
      · skip
        exfalso; omega
      · skip
        refine dz_Tleb (fun h14 => ?_) (fun h14 => ?_)
        · skip
          exfalso; omega
        · skip
          refine dz_Tzb (by omega) ?_
          refine dz_Tzb (by omega) ?_
          refine dz_Tsb ?_
          have e15 := dz_divn (a := v1) (b := (a268 v3.toNatClampNeg)) 24 (by omega) (by omega) (by omega)
          have e16 := dz_remn (a := (v1 / (a268 v3.toNatClampNeg))) (b := c261_many) 24 (by omega) (by omega) (by omega)
          have e17 := dz_mulr (a := (dz_rem (v1 / (a268 v3.toNatClampNeg)) c261_many)) (b := (a268 v3.toNatClampNeg)) 24 (by omega) (by omega) (by omega)
          have e18 := dz_sub (a := v1) (b := ((dz_rem (v1 / (a268 v3.toNatClampNeg)) c261_many) * (a268 v3.toNatClampNeg))) (by omega) (by omega)
          exact (ih k0 (by omega)).2 v1 v2 v3 (a268 v3.toNatClampNeg) (dz_rem (v1 / (a268 v3.toNatClampNeg)) c261_many) (v1 - ((dz_rem (v1 / (a268 v3.toNatClampNeg)) c261_many) * (a268 v3.toNatClampNeg))) (0 : Int32) a309 i0 i1 (by first | assumption | omega) i3 (by omega) (by omega) (by omega) (by omega) (by omega) (by omega) (by omega) (by omega) (by omega) (by omega) (by omega) (by omega)
  · skip
    refine dz_Tle (fun h19 => ?_) (fun h19 => ?_)
    · skip
      exfalso; omega
    · skip
      refine dz_Tin (by omega) (by omega) ?_
      refine dz_Tbe (show f141_X2_rankIn fu c261_many a268 v1 v3 = (if dz_in v3 4 then (if ((a268 v3.toNatClampNeg) ≤ (0 : Int32)) then (some (0 : Int32)) else (if (c261_many ≤ (0 : Int32)) then (some (0 : Int32)) else (if (¬ ((a268 v3.toNatClampNeg) = (0 : Int32))) then (if (¬ (c261_many = (0 : Int32))) then (some (dz_rem (v1 / (a268 v3.toNatClampNeg)) c261_many)) else none) else none))) else none) from rfl) ?_
      refine dz_Tinb (by omega) (by omega) ?_
      have e20 := dz_ptat (hr_a268) (i := v3) (x := 1) 2 (by omega) (by decide)
      have e21 := dz_l0
      refine dz_Tleb (fun h22 => ?_) (fun h22 => ?_)
      · skip
        exfalso; omega
      · skip
        refine dz_Tleb (fun h23 => ?_) (fun h23 => ?_)
        · skip
          exfalso; omega
        · skip
          refine dz_Tzb (by omega) ?_
          refine dz_Tzb (by omega) ?_
          refine dz_Tsb ?_
          have e24 := dz_div1 (a := v1) (b := (a268 v3.toNatClampNeg)) (by omega) (by omega)
          have e25 := dz_remn (a := (v1 / (a268 v3.toNatClampNeg))) (b := c261_many) 24 (by omega) (by omega) (by omega)
          have e26 := dz_mulr (a := (dz_rem (v1 / (a268 v3.toNatClampNeg)) c261_many)) (b := (a268 v3.toNatClampNeg)) 1 (by omega) (by omega) (by omega)
          have e27 := dz_sub (a := v1) (b := ((dz_rem (v1 / (a268 v3.toNatClampNeg)) c261_many) * (a268 v3.toNatClampNeg))) (by omega) (by omega)
          exact (ih k0 (by omega)).2 v1 v2 v3 (a268 v3.toNatClampNeg) (dz_rem (v1 / (a268 v3.toNatClampNeg)) c261_many) (v1 - ((dz_rem (v1 / (a268 v3.toNatClampNeg)) c261_many) * (a268 v3.toNatClampNeg))) (0 : Int32) a309 i0 i1 (by first | assumption | omega) i3 (by omega) (by omega) (by omega) (by omega) (by omega) (by omega) (by omega) (by omega) (by omega) (by omega) (by omega) (by omega)
  · skip
    refine dz_Tle (fun h28 => ?_) (fun h28 => ?_)
    · skip
      exact dz_Ts trivial
    · skip
      exfalso; omega
set_option maxHeartbeats 1000000 in
set_option maxRecDepth 10000 in
theorem t291_X9_pass_h2_g43 (fu : Nat) (hfu : 1000000000000 ≤ fu) (c248_pots : Int32) (c261_many : Int32) (c261_swapsAPot : Int32) (a265 : Nat → Int32) (a268 : Nat → Int32) (a269 : Nat → Int32) (n269 : Nat) (n309 : Nat) (p0 : c248_pots.toInt ≤ 3) (p1 : 3 ≤ c248_pots.toInt) (p2 : c261_many.toInt ≤ 24) (p3 : 24 ≤ c261_many.toInt) (p4 : c261_swapsAPot.toInt ≤ 6) (p5 : 6 ≤ c261_swapsAPot.toInt) (p6 : ((n269 : Nat) : Int) ≤ 13824) (p7 : 1 ≤ ((n269 : Nat) : Int)) (p8 : ((n309 : Nat) : Int) ≤ 13824) (p9 : 1 ≤ ((n309 : Nat) : Int)) (p10 : 13824 ≤ ((n309 : Nat) : Int)) (p11 : 13824 ≤ ((n269 : Nat) : Int)) (hr_a265 : dz_rt a265 24 6 0 23) (hr_a268 : dz_pt a268 [576, 24, 1]) (hr_a269 : dz_rg a269 n269 0 1023) (k : Nat) (ih : ∀ j9, j9 < k → p291_X9_pass_g43 fu c248_pots c261_many c261_swapsAPot a265 a268 a269 n269 n309 j9) : ∀ (v1 : Int32) (v2 : Int32) (v3 : Int32) (v4 : Int32) (v5 : Int32) (v6 : Int32) (v7 : Int32) (a309 : Nat → Int32), v1.toInt ≤ 13823 → 0 ≤ v1.toInt → v3.toInt ≤ 2 → 0 ≤ v3.toInt → v4.toInt ≤ 576 → 1 ≤ v4.toInt → v5.toInt ≤ 23 → 0 ≤ v5.toInt → v6.toInt ≤ 13823 → (-13248) ≤ v6.toInt → v7.toInt ≤ 6 → 0 ≤ v7.toInt → v5.toInt ≤ v1.toInt → v6.toInt ≤ v1.toInt → ((v3.toInt = 0 ∧ v4.toInt = 576 ∧ v5.toInt = v1.toInt / 576 % 24 ∧ v6.toInt = v1.toInt - v5.toInt * 576) ∨ (v3.toInt = 1 ∧ v4.toInt = 24 ∧ v5.toInt = v1.toInt / 24 % 24 ∧ v6.toInt = v1.toInt - v5.toInt * 24) ∨ (v3.toInt = 2 ∧ v4.toInt = 1 ∧ v5.toInt = v1.toInt % 24 ∧ v6.toInt = v1.toInt - v5.toInt * 1)) → 0 + 0 + ((3 - v3.toInt) - 1) * 126 + 0 + (6 - v7.toInt) * 14 + 14 ≤ ((k : Nat) : Int) → dz_T ((F291_X9_pass fu c248_pots c261_many c261_swapsAPot a265 a268 a269 n269 n309 k).2.1 v1 v2 v3 v4 v5 v6 v7 a309) (fun r => True) := by
  intro v1 v2 v3 v4 v5 v6 v7 a309 i0 i1 i2 i3 i4 i5 i6 i7 i8 i9 i10 i11 i12 i13 x0 hm
  obtain ⟨k0, rfl⟩ : ∃ x, k = x + 1 := ⟨k - 1, by omega⟩
  show dz_T (s291_X9_pass_2 fu c248_pots c261_many c261_swapsAPot a265 a268 a269 n269 n309 (F291_X9_pass fu c248_pots c261_many c261_swapsAPot a265 a268 a269 n269 n309 k0).1 (F291_X9_pass fu c248_pots c261_many c261_swapsAPot a265 a268 a269 n269 n309 k0).2.2  v1 v2 v3 v4 v5 v6 v7 a309) _
  unfold s291_X9_pass_2
  rcases (show v3.toInt = 0 ∨ v3.toInt = 1 ∨ v3.toInt = 2 by omega) with hs | hs | hs
  · skip
    refine dz_Tle (fun h1 => ?_) (fun h1 => ?_)
    · skip
      have e2 := dz_l1
      have e3 := dz_add (a := v3) (b := (1 : Int32)) (by omega) (by omega)
      exact (ih k0 (by omega)).1 v1 v2 (v3 + (1 : Int32)) a309 i0 i1 (by omega) (by omega) (by omega)
    · skip
      have e4 := dz_l6
      have e5 := dz_mulr (a := v5) (b := (6 : Int32)) 6 (by omega) (by omega) (by omega)
      have e6 := dz_add (a := (v5 * (6 : Int32))) (b := v7) (by omega) (by omega)
      refine dz_Tin (by omega) (by omega) ?_
      have e7 := dz_rtat (hr_a265) (x := v5) (y := v7) (by omega) (by omega) (by omega) (by omega) (by omega)
      have e8 := dz_mulr (a := (a265 ((v5 * (6 : Int32)) + v7).toNatClampNeg)) (b := v4) 576 (by omega) (by omega) (by omega)
      have e9 := dz_add (a := v6) (b := ((a265 ((v5 * (6 : Int32)) + v7).toNatClampNeg) * v4)) (by omega) (by omega)
      refine dz_Tin (by omega) (by omega) ?_
      have e10 := dz_rgat (hr_a269) (i := (v6 + ((a265 ((v5 * (6 : Int32)) + v7).toNatClampNeg) * v4))) (by omega) (by omega)
      have e11 := dz_l0
      refine dz_Teq (fun h12 => ?_) (fun h12 => ?_)
      · skip
        obtain ⟨k1, rfl⟩ : ∃ x, k0 = x + 1 := ⟨k0 - 1, by omega⟩
        show dz_T (s291_X9_pass_3 fu c248_pots c261_many c261_swapsAPot a265 a268 a269 n269 n309 (F291_X9_pass fu c248_pots c261_many c261_swapsAPot a265 a268 a269 n269 n309 k1).2.1 v1 v2 v3 v4 v5 v6 v7 (v6 + ((a265 ((v5 * (6 : Int32)) + v7).toNatClampNeg) * v4)) a309) _
        unfold s291_X9_pass_3
        refine dz_Tin (by omega) (by omega) ?_
        refine dz_Tin (by omega) (by omega) ?_
        have e13 := dz_l1
        have e14 := dz_add (a := v7) (b := (1 : Int32)) (by omega) (by omega)
        exact (ih k1 (by omega)).2 v1 v2 v3 v4 v5 v6 (v7 + (1 : Int32)) (upd a309 (v6 + ((a265 ((v5 * (6 : Int32)) + v7).toNatClampNeg) * v4)).toNatClampNeg ((a309 (v6 + ((a265 ((v5 * (6 : Int32)) + v7).toNatClampNeg) * v4)).toNatClampNeg) + v2)) i0 i1 i2 i3 i4 i5 i6 i7 i8 i9 (by omega) (by omega) i12 i13 (by omega) (by omega)
      · skip
        obtain ⟨k2, rfl⟩ : ∃ x, k0 = x + 1 := ⟨k0 - 1, by omega⟩
        show dz_T (s291_X9_pass_3 fu c248_pots c261_many c261_swapsAPot a265 a268 a269 n269 n309 (F291_X9_pass fu c248_pots c261_many c261_swapsAPot a265 a268 a269 n269 n309 k2).2.1 v1 v2 v3 v4 v5 v6 v7 v1 a309) _
        unfold s291_X9_pass_3
        refine dz_Tin (by omega) (by omega) ?_
        refine dz_Tin (by omega) (by omega) ?_
        have e15 := dz_l1
        have e16 := dz_add (a := v7) (b := (1 : Int32)) (by omega) (by omega)
        exact (ih k2 (by omega)).2 v1 v2 v3 v4 v5 v6 (v7 + (1 : Int32)) (upd a309 v1.toNatClampNeg ((a309 v1.toNatClampNeg) + v2)) i0 i1 i2 i3 i4 i5 i6 i7 i8 i9 (by omega) (by omega) i12 i13 (by omega) (by omega)
  · skip
    refine dz_Tle (fun h17 => ?_) (fun h17 => ?_)
    · skip
      have e18 := dz_l1
      have e19 := dz_add (a := v3) (b := (1 : Int32)) (by omega) (by omega)
      exact (ih k0 (by omega)).1 v1 v2 (v3 + (1 : Int32)) a309 i0 i1 (by omega) (by omega) (by omega)
    · skip
      have e20 := dz_l6
      have e21 := dz_mulr (a := v5) (b := (6 : Int32)) 6 (by omega) (by omega) (by omega)
      have e22 := dz_add (a := (v5 * (6 : Int32))) (b := v7) (by omega) (by omega)
      refine dz_Tin (by omega) (by omega) ?_
      have e23 := dz_rtat (hr_a265) (x := v5) (y := v7) (by omega) (by omega) (by omega) (by omega) (by omega)
      have e24 := dz_mulr (a := (a265 ((v5 * (6 : Int32)) + v7).toNatClampNeg)) (b := v4) 24 (by omega) (by omega) (by omega)
      have e25 := dz_add (a := v6) (b := ((a265 ((v5 * (6 : Int32)) + v7).toNatClampNeg) * v4)) (by omega) (by omega)
      refine dz_Tin (by omega) (by omega) ?_
      have e26 := dz_rgat (hr_a269) (i := (v6 + ((a265 ((v5 * (6 : Int32)) + v7).toNatClampNeg) * v4))) (by omega) (by omega)
      have e27 := dz_l0
      refine dz_Teq (fun h28 => ?_) (fun h28 => ?_)
      · skip
        obtain ⟨k3, rfl⟩ : ∃ x, k0 = x + 1 := ⟨k0 - 1, by omega⟩
        show dz_T (s291_X9_pass_3 fu c248_pots c261_many c261_swapsAPot a265 a268 a269 n269 n309 (F291_X9_pass fu c248_pots c261_many c261_swapsAPot a265 a268 a269 n269 n309 k3).2.1 v1 v2 v3 v4 v5 v6 v7 (v6 + ((a265 ((v5 * (6 : Int32)) + v7).toNatClampNeg) * v4)) a309) _
        unfold s291_X9_pass_3
        refine dz_Tin (by omega) (by omega) ?_
        refine dz_Tin (by omega) (by omega) ?_
        have e29 := dz_l1
        have e30 := dz_add (a := v7) (b := (1 : Int32)) (by omega) (by omega)
        exact (ih k3 (by omega)).2 v1 v2 v3 v4 v5 v6 (v7 + (1 : Int32)) (upd a309 (v6 + ((a265 ((v5 * (6 : Int32)) + v7).toNatClampNeg) * v4)).toNatClampNeg ((a309 (v6 + ((a265 ((v5 * (6 : Int32)) + v7).toNatClampNeg) * v4)).toNatClampNeg) + v2)) i0 i1 i2 i3 i4 i5 i6 i7 i8 i9 (by omega) (by omega) i12 i13 (by omega) (by omega)
      · skip
        obtain ⟨k4, rfl⟩ : ∃ x, k0 = x + 1 := ⟨k0 - 1, by omega⟩
        show dz_T (s291_X9_pass_3 fu c248_pots c261_many c261_swapsAPot a265 a268 a269 n269 n309 (F291_X9_pass fu c248_pots c261_many c261_swapsAPot a265 a268 a269 n269 n309 k4).2.1 v1 v2 v3 v4 v5 v6 v7 v1 a309) _
        unfold s291_X9_pass_3
        refine dz_Tin (by omega) (by omega) ?_
        refine dz_Tin (by omega) (by omega) ?_
        have e31 := dz_l1
        have e32 := dz_add (a := v7) (b := (1 : Int32)) (by omega) (by omega)
        exact (ih k4 (by omega)).2 v1 v2 v3 v4 v5 v6 (v7 + (1 : Int32)) (upd a309 v1.toNatClampNeg ((a309 v1.toNatClampNeg) + v2)) i0 i1 i2 i3 i4 i5 i6 i7 i8 i9 (by omega) (by omega) i12 i13 (by omega) (by omega)
  · skip
    refine dz_Tle (fun h33 => ?_) (fun h33 => ?_)
    · skip
      have e34 := dz_l1
      have e35 := dz_add (a := v3) (b := (1 : Int32)) (by omega) (by omega)
      exact (ih k0 (by omega)).1 v1 v2 (v3 + (1 : Int32)) a309 i0 i1 (by omega) (by omega) (by omega)
    · skip
      have e36 := dz_l6
      have e37 := dz_mulr (a := v5) (b := (6 : Int32)) 6 (by omega) (by omega) (by omega)
      have e38 := dz_add (a := (v5 * (6 : Int32))) (b := v7) (by omega) (by omega)
      refine dz_Tin (by omega) (by omega) ?_
      have e39 := dz_rtat (hr_a265) (x := v5) (y := v7) (by omega) (by omega) (by omega) (by omega) (by omega)
      have e40 := dz_mulr (a := (a265 ((v5 * (6 : Int32)) + v7).toNatClampNeg)) (b := v4) 1 (by omega) (by omega) (by omega)
      have e41 := dz_add (a := v6) (b := ((a265 ((v5 * (6 : Int32)) + v7).toNatClampNeg) * v4)) (by omega) (by omega)
      refine dz_Tin (by omega) (by omega) ?_
      have e42 := dz_rgat (hr_a269) (i := (v6 + ((a265 ((v5 * (6 : Int32)) + v7).toNatClampNeg) * v4))) (by omega) (by omega)
      have e43 := dz_l0
      refine dz_Teq (fun h44 => ?_) (fun h44 => ?_)
      · skip
        obtain ⟨k5, rfl⟩ : ∃ x, k0 = x + 1 := ⟨k0 - 1, by omega⟩
        show dz_T (s291_X9_pass_3 fu c248_pots c261_many c261_swapsAPot a265 a268 a269 n269 n309 (F291_X9_pass fu c248_pots c261_many c261_swapsAPot a265 a268 a269 n269 n309 k5).2.1 v1 v2 v3 v4 v5 v6 v7 (v6 + ((a265 ((v5 * (6 : Int32)) + v7).toNatClampNeg) * v4)) a309) _
        unfold s291_X9_pass_3
        refine dz_Tin (by omega) (by omega) ?_
        refine dz_Tin (by omega) (by omega) ?_
        have e45 := dz_l1
        have e46 := dz_add (a := v7) (b := (1 : Int32)) (by omega) (by omega)
        exact (ih k5 (by omega)).2 v1 v2 v3 v4 v5 v6 (v7 + (1 : Int32)) (upd a309 (v6 + ((a265 ((v5 * (6 : Int32)) + v7).toNatClampNeg) * v4)).toNatClampNeg ((a309 (v6 + ((a265 ((v5 * (6 : Int32)) + v7).toNatClampNeg) * v4)).toNatClampNeg) + v2)) i0 i1 i2 i3 i4 i5 i6 i7 i8 i9 (by omega) (by omega) i12 i13 (by omega) (by omega)
      · skip
        obtain ⟨k6, rfl⟩ : ∃ x, k0 = x + 1 := ⟨k0 - 1, by omega⟩
        show dz_T (s291_X9_pass_3 fu c248_pots c261_many c261_swapsAPot a265 a268 a269 n269 n309 (F291_X9_pass fu c248_pots c261_many c261_swapsAPot a265 a268 a269 n269 n309 k6).2.1 v1 v2 v3 v4 v5 v6 v7 v1 a309) _
        unfold s291_X9_pass_3
        refine dz_Tin (by omega) (by omega) ?_
        refine dz_Tin (by omega) (by omega) ?_
        have e47 := dz_l1
        have e48 := dz_add (a := v7) (b := (1 : Int32)) (by omega) (by omega)
        exact (ih k6 (by omega)).2 v1 v2 v3 v4 v5 v6 (v7 + (1 : Int32)) (upd a309 v1.toNatClampNeg ((a309 v1.toNatClampNeg) + v2)) i0 i1 i2 i3 i4 i5 i6 i7 i8 i9 (by omega) (by omega) i12 i13 (by omega) (by omega)
theorem t291_X9_pass_I_g43 (fu : Nat) (hfu : 1000000000000 ≤ fu) (c248_pots : Int32) (c261_many : Int32) (c261_swapsAPot : Int32) (a265 : Nat → Int32) (a268 : Nat → Int32) (a269 : Nat → Int32) (n269 : Nat) (n309 : Nat) (p0 : c248_pots.toInt ≤ 3) (p1 : 3 ≤ c248_pots.toInt) (p2 : c261_many.toInt ≤ 24) (p3 : 24 ≤ c261_many.toInt) (p4 : c261_swapsAPot.toInt ≤ 6) (p5 : 6 ≤ c261_swapsAPot.toInt) (p6 : ((n269 : Nat) : Int) ≤ 13824) (p7 : 1 ≤ ((n269 : Nat) : Int)) (p8 : ((n309 : Nat) : Int) ≤ 13824) (p9 : 1 ≤ ((n309 : Nat) : Int)) (p10 : 13824 ≤ ((n309 : Nat) : Int)) (p11 : 13824 ≤ ((n269 : Nat) : Int)) (hr_a265 : dz_rt a265 24 6 0 23) (hr_a268 : dz_pt a268 [576, 24, 1]) (hr_a269 : dz_rg a269 n269 0 1023) (k : Nat) : p291_X9_pass_g43 fu c248_pots c261_many c261_swapsAPot a265 a268 a269 n269 n309 k := by
  induction k using Nat.strongRecOn with
  | _ k ih => exact ⟨t291_X9_pass_h1_g43 fu hfu c248_pots c261_many c261_swapsAPot a265 a268 a269 n269 n309 p0 p1 p2 p3 p4 p5 p6 p7 p8 p9 p10 p11 hr_a265 hr_a268 hr_a269 k ih, t291_X9_pass_h2_g43 fu hfu c248_pots c261_many c261_swapsAPot a265 a268 a269 n269 n309 p0 p1 p2 p3 p4 p5 p6 p7 p8 p9 p10 p11 hr_a265 hr_a268 hr_a269 k ih⟩
set_option maxHeartbeats 1000000 in
set_option maxRecDepth 10000 in
theorem t291_X9_pass_E_g43 (fu : Nat) (hfu : 1000000000000 ≤ fu) (c248_pots : Int32) (c261_many : Int32) (c261_swapsAPot : Int32) (a265 : Nat → Int32) (a268 : Nat → Int32) (a269 : Nat → Int32) (n269 : Nat) (n309 : Nat) (v1 : Int32) (v2 : Int32) (a309 : Nat → Int32) (p0 : c248_pots.toInt ≤ 3) (p1 : 3 ≤ c248_pots.toInt) (p2 : c261_many.toInt ≤ 24) (p3 : 24 ≤ c261_many.toInt) (p4 : c261_swapsAPot.toInt ≤ 6) (p5 : 6 ≤ c261_swapsAPot.toInt) (p6 : ((n269 : Nat) : Int) ≤ 13824) (p7 : 1 ≤ ((n269 : Nat) : Int)) (p8 : ((n309 : Nat) : Int) ≤ 13824) (p9 : 1 ≤ ((n309 : Nat) : Int)) (p10 : 0 ≤ v1.toInt) (p11 : v1.toInt ≤ 13823) (p12 : 13824 ≤ ((n309 : Nat) : Int)) (p13 : 13824 ≤ ((n269 : Nat) : Int)) (hr_a265 : dz_rt a265 24 6 0 23) (hr_a268 : dz_pt a268 [576, 24, 1]) (hr_a269 : dz_rg a269 n269 0 1023) (kv : Nat) (hkv : 1000000000000 ≤ kv) : dz_T (s291_X9_pass_0 fu c248_pots c261_many c261_swapsAPot a265 a268 a269 n269 n309 (F291_X9_pass fu c248_pots c261_many c261_swapsAPot a265 a268 a269 n269 n309 kv).1  v1 v2 a309) (fun r => True) := by
  unfold s291_X9_pass_0
  have e1 := dz_l0
  exact (t291_X9_pass_I_g43 fu hfu c248_pots c261_many c261_swapsAPot a265 a268 a269 n269 n309 p0 p1 p2 p3 p4 p5 p6 p7 p8 p9 p12 p13 hr_a265 hr_a268 hr_a269 kv).1 v1 v2 (0 : Int32) a309 p11 p10 (by omega) (by omega) (by omega)
theorem t291_X9_pass_g43 (fu : Nat) (hfu : 1000000000000 ≤ fu) (c248_pots : Int32) (c261_many : Int32) (c261_swapsAPot : Int32) (a265 : Nat → Int32) (a268 : Nat → Int32) (a269 : Nat → Int32) (n269 : Nat) (n309 : Nat) (v1 : Int32) (v2 : Int32) (a309 : Nat → Int32) (p0 : c248_pots.toInt ≤ 3) (p1 : 3 ≤ c248_pots.toInt) (p2 : c261_many.toInt ≤ 24) (p3 : 24 ≤ c261_many.toInt) (p4 : c261_swapsAPot.toInt ≤ 6) (p5 : 6 ≤ c261_swapsAPot.toInt) (p6 : ((n269 : Nat) : Int) ≤ 13824) (p7 : 1 ≤ ((n269 : Nat) : Int)) (p8 : ((n309 : Nat) : Int) ≤ 13824) (p9 : 1 ≤ ((n309 : Nat) : Int)) (p10 : 0 ≤ v1.toInt) (p11 : v1.toInt ≤ 13823) (p12 : 13824 ≤ ((n309 : Nat) : Int)) (p13 : 13824 ≤ ((n269 : Nat) : Int)) (hr_a265 : dz_rt a265 24 6 0 23) (hr_a268 : dz_pt a268 [576, 24, 1]) (hr_a269 : dz_rg a269 n269 0 1023) : dz_T (f291_X9_pass fu c248_pots c261_many c261_swapsAPot a265 a268 a269 n269 n309 v1 v2 a309) (fun r => True) :=
  t291_X9_pass_E_g43 fu hfu c248_pots c261_many c261_swapsAPot a265 a268 a269 n269 n309 v1 v2 a309 p0 p1 p2 p3 p4 p5 p6 p7 p8 p9 p10 p11 p12 p13 hr_a265 hr_a268 hr_a269 fu hfu
set_option maxHeartbeats 1000000 in
theorem t291_X9_pass_s (fu : Nat) (hfu : 1000000000000 ≤ fu) (κ : Nat) (hκ : κ < 14) (c248_pots : Int32) (c261_many : Int32) (c261_swapsAPot : Int32) (a265 : Nat → Int32) (a268 : Nat → Int32) (a269 : Nat → Int32) (n269 : Nat) (n309 : Nat) (v1 : Int32) (v2 : Int32) (a309 : Nat → Int32) (p0 : c248_pots.toInt ≤ 4) (p1 : 0 ≤ c248_pots.toInt) (p2 : c261_many.toInt ≤ 24) (p3 : 0 ≤ c261_many.toInt) (p4 : c261_swapsAPot.toInt ≤ 6) (p5 : 0 ≤ c261_swapsAPot.toInt) (p6 : ((n269 : Nat) : Int) ≤ 13824) (p7 : 1 ≤ ((n269 : Nat) : Int)) (p8 : ((n309 : Nat) : Int) ≤ 13824) (p9 : 1 ≤ ((n309 : Nat) : Int)) (p10 : 0 ≤ v1.toInt) (p11 : v1.toInt ≤ 13823) (hr_a265 : dz_rt a265 (dz_kr κ) (dz_kw κ) 0 (((dz_kr κ : Nat) : Int) - 1)) (hr_a268 : dz_pt a268 (dz_kS κ)) (hr_a269 : dz_rg a269 n269 0 1023) (o0 : v1.toInt ≤ ((dz_kt κ : Nat) : Int) - 1) (o1 : ((n309 : Nat) : Int) ≥ ((dz_kt κ : Nat) : Int)) (o2 : ((n269 : Nat) : Int) ≥ ((dz_kt κ : Nat) : Int)) (o3 : c248_pots.toInt = ((dz_kp κ : Nat) : Int)) (o4 : c261_many.toInt = ((dz_kr κ : Nat) : Int)) (o5 : c261_swapsAPot.toInt = ((dz_kw κ : Nat) : Int)) : dz_T (f291_X9_pass fu c248_pots c261_many c261_swapsAPot a265 a268 a269 n269 n309 v1 v2 a309) (fun r => True) := by
  rcases (show κ = 0 ∨ κ = 1 ∨ κ = 2 ∨ κ = 3 ∨ κ = 4 ∨ κ = 5 ∨ κ = 6 ∨ κ = 7 ∨ κ = 8 ∨ κ = 9 ∨ κ = 10 ∨ κ = 11 ∨ κ = 12 ∨ κ = 13 by omega) with rfl | rfl | rfl | rfl | rfl | rfl | rfl | rfl | rfl | rfl | rfl | rfl | rfl | rfl
  · skip
    have o0 : v1.toInt ≤ (1 : Int) - 1 := o0
    have o1 : ((n309 : Nat) : Int) ≥ (1 : Int) := o1
    have o2 : ((n269 : Nat) : Int) ≥ (1 : Int) := o2
    have o3 : c248_pots.toInt = (0 : Int) := o3
    have o4 : c261_many.toInt = (2 : Int) := o4
    have o5 : c261_swapsAPot.toInt = (1 : Int) := o5
    refine dz_Tw (t291_X9_pass_g20 fu hfu c248_pots c261_many c261_swapsAPot a265 a268 a269 n269 n309 v1 v2 a309 (by first | assumption | omega) (by first | assumption | omega) (by first | assumption | omega) (by first | assumption | omega) (by first | assumption | omega) (by first | assumption | omega) (by first | assumption | omega) (by first | assumption | omega) (by first | assumption | omega) (by first | assumption | omega) (by first | assumption | omega) (by first | assumption | omega) (by first | assumption | omega) (by first | assumption | omega) (by first | exact hr_a265 | exact dz_rgm hr_a265 (by omega) (by omega) | exact dz_pmr hr_a265 (by decide) (by omega) (by omega) (by omega) | exact dz_ptr hr_a265 (by decide) (by decide) (by omega) | exact dz_ptr hr_a265 (by decide) (by decide) (by show _ ≤ 0; omega) | exact dz_rgs hr_a265 (by omega)) (by first | exact hr_a269 | exact dz_rgm hr_a269 (by omega) (by omega) | exact dz_pmr hr_a269 (by decide) (by omega) (by omega) (by omega) | exact dz_ptr hr_a269 (by decide) (by decide) (by omega) | exact dz_ptr hr_a269 (by decide) (by decide) (by show _ ≤ 0; omega) | exact dz_rgs hr_a269 (by omega))) (fun r h => ?_)
    exact trivial
  · skip
    have o0 : v1.toInt ≤ (2 : Int) - 1 := o0
    have o1 : ((n309 : Nat) : Int) ≥ (2 : Int) := o1
    have o2 : ((n269 : Nat) : Int) ≥ (2 : Int) := o2
    have o3 : c248_pots.toInt = (1 : Int) := o3
    have o4 : c261_many.toInt = (2 : Int) := o4
    have o5 : c261_swapsAPot.toInt = (1 : Int) := o5
    refine dz_Tw (t291_X9_pass_g21 fu hfu c248_pots c261_many c261_swapsAPot a265 a268 a269 n269 n309 v1 v2 a309 (by first | assumption | omega) (by first | assumption | omega) (by first | assumption | omega) (by first | assumption | omega) (by first | assumption | omega) (by first | assumption | omega) (by first | assumption | omega) (by first | assumption | omega) (by first | assumption | omega) (by first | assumption | omega) (by first | assumption | omega) (by first | assumption | omega) (by first | assumption | omega) (by first | assumption | omega) (by first | exact hr_a265 | exact dz_rgm hr_a265 (by omega) (by omega) | exact dz_pmr hr_a265 (by decide) (by omega) (by omega) (by omega) | exact dz_ptr hr_a265 (by decide) (by decide) (by omega) | exact dz_ptr hr_a265 (by decide) (by decide) (by show _ ≤ 1; omega) | exact dz_rgs hr_a265 (by omega)) (by first | exact hr_a268 | exact dz_rgm hr_a268 (by omega) (by omega) | exact dz_pmr hr_a268 (by decide) (by omega) (by omega) (by omega) | exact dz_ptr hr_a268 (by decide) (by decide) (by omega) | exact dz_ptr hr_a268 (by decide) (by decide) (by show _ ≤ 1; omega) | exact dz_rgs hr_a268 (by omega)) (by first | exact hr_a269 | exact dz_rgm hr_a269 (by omega) (by omega) | exact dz_pmr hr_a269 (by decide) (by omega) (by omega) (by omega) | exact dz_ptr hr_a269 (by decide) (by decide) (by omega) | exact dz_ptr hr_a269 (by decide) (by decide) (by show _ ≤ 1; omega) | exact dz_rgs hr_a269 (by omega))) (fun r h => ?_)
    exact trivial
  · skip
    have o0 : v1.toInt ≤ (4 : Int) - 1 := o0
    have o1 : ((n309 : Nat) : Int) ≥ (4 : Int) := o1
    have o2 : ((n269 : Nat) : Int) ≥ (4 : Int) := o2
    have o3 : c248_pots.toInt = (2 : Int) := o3
    have o4 : c261_many.toInt = (2 : Int) := o4
    have o5 : c261_swapsAPot.toInt = (1 : Int) := o5
    refine dz_Tw (t291_X9_pass_g22 fu hfu c248_pots c261_many c261_swapsAPot a265 a268 a269 n269 n309 v1 v2 a309 (by first | assumption | omega) (by first | assumption | omega) (by first | assumption | omega) (by first | assumption | omega) (by first | assumption | omega) (by first | assumption | omega) (by first | assumption | omega) (by first | assumption | omega) (by first | assumption | omega) (by first | assumption | omega) (by first | assumption | omega) (by first | assumption | omega) (by first | assumption | omega) (by first | assumption | omega) (by first | exact hr_a265 | exact dz_rgm hr_a265 (by omega) (by omega) | exact dz_pmr hr_a265 (by decide) (by omega) (by omega) (by omega) | exact dz_ptr hr_a265 (by decide) (by decide) (by omega) | exact dz_ptr hr_a265 (by decide) (by decide) (by show _ ≤ 2; omega) | exact dz_rgs hr_a265 (by omega)) (by first | exact hr_a268 | exact dz_rgm hr_a268 (by omega) (by omega) | exact dz_pmr hr_a268 (by decide) (by omega) (by omega) (by omega) | exact dz_ptr hr_a268 (by decide) (by decide) (by omega) | exact dz_ptr hr_a268 (by decide) (by decide) (by show _ ≤ 2; omega) | exact dz_rgs hr_a268 (by omega)) (by first | exact hr_a269 | exact dz_rgm hr_a269 (by omega) (by omega) | exact dz_pmr hr_a269 (by decide) (by omega) (by omega) (by omega) | exact dz_ptr hr_a269 (by decide) (by decide) (by omega) | exact dz_ptr hr_a269 (by decide) (by decide) (by show _ ≤ 2; omega) | exact dz_rgs hr_a269 (by omega))) (fun r h => ?_)
    exact trivial
  · skip
    have o0 : v1.toInt ≤ (8 : Int) - 1 := o0
    have o1 : ((n309 : Nat) : Int) ≥ (8 : Int) := o1
    have o2 : ((n269 : Nat) : Int) ≥ (8 : Int) := o2
    have o3 : c248_pots.toInt = (3 : Int) := o3
    have o4 : c261_many.toInt = (2 : Int) := o4
    have o5 : c261_swapsAPot.toInt = (1 : Int) := o5
    refine dz_Tw (t291_X9_pass_g23 fu hfu c248_pots c261_many c261_swapsAPot a265 a268 a269 n269 n309 v1 v2 a309 (by first | assumption | omega) (by first | assumption | omega) (by first | assumption | omega) (by first | assumption | omega) (by first | assumption | omega) (by first | assumption | omega) (by first | assumption | omega) (by first | assumption | omega) (by first | assumption | omega) (by first | assumption | omega) (by first | assumption | omega) (by first | assumption | omega) (by first | assumption | omega) (by first | assumption | omega) (by first | exact hr_a265 | exact dz_rgm hr_a265 (by omega) (by omega) | exact dz_pmr hr_a265 (by decide) (by omega) (by omega) (by omega) | exact dz_ptr hr_a265 (by decide) (by decide) (by omega) | exact dz_ptr hr_a265 (by decide) (by decide) (by show _ ≤ 3; omega) | exact dz_rgs hr_a265 (by omega)) (by first | exact hr_a268 | exact dz_rgm hr_a268 (by omega) (by omega) | exact dz_pmr hr_a268 (by decide) (by omega) (by omega) (by omega) | exact dz_ptr hr_a268 (by decide) (by decide) (by omega) | exact dz_ptr hr_a268 (by decide) (by decide) (by show _ ≤ 3; omega) | exact dz_rgs hr_a268 (by omega)) (by first | exact hr_a269 | exact dz_rgm hr_a269 (by omega) (by omega) | exact dz_pmr hr_a269 (by decide) (by omega) (by omega) (by omega) | exact dz_ptr hr_a269 (by decide) (by decide) (by omega) | exact dz_ptr hr_a269 (by decide) (by decide) (by show _ ≤ 3; omega) | exact dz_rgs hr_a269 (by omega))) (fun r h => ?_)
    exact trivial
  · skip
    have o0 : v1.toInt ≤ (16 : Int) - 1 := o0
    have o1 : ((n309 : Nat) : Int) ≥ (16 : Int) := o1
    have o2 : ((n269 : Nat) : Int) ≥ (16 : Int) := o2
    have o3 : c248_pots.toInt = (4 : Int) := o3
    have o4 : c261_many.toInt = (2 : Int) := o4
    have o5 : c261_swapsAPot.toInt = (1 : Int) := o5
    refine dz_Tw (t291_X9_pass_g24 fu hfu c248_pots c261_many c261_swapsAPot a265 a268 a269 n269 n309 v1 v2 a309 (by first | assumption | omega) (by first | assumption | omega) (by first | assumption | omega) (by first | assumption | omega) (by first | assumption | omega) (by first | assumption | omega) (by first | assumption | omega) (by first | assumption | omega) (by first | assumption | omega) (by first | assumption | omega) (by first | assumption | omega) (by first | assumption | omega) (by first | assumption | omega) (by first | assumption | omega) (by first | exact hr_a265 | exact dz_rgm hr_a265 (by omega) (by omega) | exact dz_pmr hr_a265 (by decide) (by omega) (by omega) (by omega) | exact dz_ptr hr_a265 (by decide) (by decide) (by omega) | exact dz_ptr hr_a265 (by decide) (by decide) (by show _ ≤ 4; omega) | exact dz_rgs hr_a265 (by omega)) (by first | exact hr_a268 | exact dz_rgm hr_a268 (by omega) (by omega) | exact dz_pmr hr_a268 (by decide) (by omega) (by omega) (by omega) | exact dz_ptr hr_a268 (by decide) (by decide) (by omega) | exact dz_ptr hr_a268 (by decide) (by decide) (by show _ ≤ 4; omega) | exact dz_rgs hr_a268 (by omega)) (by first | exact hr_a269 | exact dz_rgm hr_a269 (by omega) (by omega) | exact dz_pmr hr_a269 (by decide) (by omega) (by omega) (by omega) | exact dz_ptr hr_a269 (by decide) (by decide) (by omega) | exact dz_ptr hr_a269 (by decide) (by decide) (by show _ ≤ 4; omega) | exact dz_rgs hr_a269 (by omega))) (fun r h => ?_)
    exact trivial
  · skip
    have o0 : v1.toInt ≤ (1 : Int) - 1 := o0
    have o1 : ((n309 : Nat) : Int) ≥ (1 : Int) := o1
    have o2 : ((n269 : Nat) : Int) ≥ (1 : Int) := o2
    have o3 : c248_pots.toInt = (0 : Int) := o3
    have o4 : c261_many.toInt = (6 : Int) := o4
    have o5 : c261_swapsAPot.toInt = (3 : Int) := o5
    refine dz_Tw (t291_X9_pass_g30 fu hfu c248_pots c261_many c261_swapsAPot a265 a268 a269 n269 n309 v1 v2 a309 (by first | assumption | omega) (by first | assumption | omega) (by first | assumption | omega) (by first | assumption | omega) (by first | assumption | omega) (by first | assumption | omega) (by first | assumption | omega) (by first | assumption | omega) (by first | assumption | omega) (by first | assumption | omega) (by first | assumption | omega) (by first | assumption | omega) (by first | assumption | omega) (by first | assumption | omega) (by first | exact hr_a265 | exact dz_rgm hr_a265 (by omega) (by omega) | exact dz_pmr hr_a265 (by decide) (by omega) (by omega) (by omega) | exact dz_ptr hr_a265 (by decide) (by decide) (by omega) | exact dz_ptr hr_a265 (by decide) (by decide) (by show _ ≤ 0; omega) | exact dz_rgs hr_a265 (by omega)) (by first | exact hr_a269 | exact dz_rgm hr_a269 (by omega) (by omega) | exact dz_pmr hr_a269 (by decide) (by omega) (by omega) (by omega) | exact dz_ptr hr_a269 (by decide) (by decide) (by omega) | exact dz_ptr hr_a269 (by decide) (by decide) (by show _ ≤ 0; omega) | exact dz_rgs hr_a269 (by omega))) (fun r h => ?_)
    exact trivial
  · skip
    have o0 : v1.toInt ≤ (6 : Int) - 1 := o0
    have o1 : ((n309 : Nat) : Int) ≥ (6 : Int) := o1
    have o2 : ((n269 : Nat) : Int) ≥ (6 : Int) := o2
    have o3 : c248_pots.toInt = (1 : Int) := o3
    have o4 : c261_many.toInt = (6 : Int) := o4
    have o5 : c261_swapsAPot.toInt = (3 : Int) := o5
    refine dz_Tw (t291_X9_pass_g31 fu hfu c248_pots c261_many c261_swapsAPot a265 a268 a269 n269 n309 v1 v2 a309 (by first | assumption | omega) (by first | assumption | omega) (by first | assumption | omega) (by first | assumption | omega) (by first | assumption | omega) (by first | assumption | omega) (by first | assumption | omega) (by first | assumption | omega) (by first | assumption | omega) (by first | assumption | omega) (by first | assumption | omega) (by first | assumption | omega) (by first | assumption | omega) (by first | assumption | omega) (by first | exact hr_a265 | exact dz_rgm hr_a265 (by omega) (by omega) | exact dz_pmr hr_a265 (by decide) (by omega) (by omega) (by omega) | exact dz_ptr hr_a265 (by decide) (by decide) (by omega) | exact dz_ptr hr_a265 (by decide) (by decide) (by show _ ≤ 1; omega) | exact dz_rgs hr_a265 (by omega)) (by first | exact hr_a268 | exact dz_rgm hr_a268 (by omega) (by omega) | exact dz_pmr hr_a268 (by decide) (by omega) (by omega) (by omega) | exact dz_ptr hr_a268 (by decide) (by decide) (by omega) | exact dz_ptr hr_a268 (by decide) (by decide) (by show _ ≤ 1; omega) | exact dz_rgs hr_a268 (by omega)) (by first | exact hr_a269 | exact dz_rgm hr_a269 (by omega) (by omega) | exact dz_pmr hr_a269 (by decide) (by omega) (by omega) (by omega) | exact dz_ptr hr_a269 (by decide) (by decide) (by omega) | exact dz_ptr hr_a269 (by decide) (by decide) (by show _ ≤ 1; omega) | exact dz_rgs hr_a269 (by omega))) (fun r h => ?_)
    exact trivial
  · skip
    have o0 : v1.toInt ≤ (36 : Int) - 1 := o0
    have o1 : ((n309 : Nat) : Int) ≥ (36 : Int) := o1
    have o2 : ((n269 : Nat) : Int) ≥ (36 : Int) := o2
    have o3 : c248_pots.toInt = (2 : Int) := o3
    have o4 : c261_many.toInt = (6 : Int) := o4
    have o5 : c261_swapsAPot.toInt = (3 : Int) := o5
    refine dz_Tw (t291_X9_pass_g32 fu hfu c248_pots c261_many c261_swapsAPot a265 a268 a269 n269 n309 v1 v2 a309 (by first | assumption | omega) (by first | assumption | omega) (by first | assumption | omega) (by first | assumption | omega) (by first | assumption | omega) (by first | assumption | omega) (by first | assumption | omega) (by first | assumption | omega) (by first | assumption | omega) (by first | assumption | omega) (by first | assumption | omega) (by first | assumption | omega) (by first | assumption | omega) (by first | assumption | omega) (by first | exact hr_a265 | exact dz_rgm hr_a265 (by omega) (by omega) | exact dz_pmr hr_a265 (by decide) (by omega) (by omega) (by omega) | exact dz_ptr hr_a265 (by decide) (by decide) (by omega) | exact dz_ptr hr_a265 (by decide) (by decide) (by show _ ≤ 2; omega) | exact dz_rgs hr_a265 (by omega)) (by first | exact hr_a268 | exact dz_rgm hr_a268 (by omega) (by omega) | exact dz_pmr hr_a268 (by decide) (by omega) (by omega) (by omega) | exact dz_ptr hr_a268 (by decide) (by decide) (by omega) | exact dz_ptr hr_a268 (by decide) (by decide) (by show _ ≤ 2; omega) | exact dz_rgs hr_a268 (by omega)) (by first | exact hr_a269 | exact dz_rgm hr_a269 (by omega) (by omega) | exact dz_pmr hr_a269 (by decide) (by omega) (by omega) (by omega) | exact dz_ptr hr_a269 (by decide) (by decide) (by omega) | exact dz_ptr hr_a269 (by decide) (by decide) (by show _ ≤ 2; omega) | exact dz_rgs hr_a269 (by omega))) (fun r h => ?_)
    exact trivial
  · skip
    have o0 : v1.toInt ≤ (216 : Int) - 1 := o0
    have o1 : ((n309 : Nat) : Int) ≥ (216 : Int) := o1
    have o2 : ((n269 : Nat) : Int) ≥ (216 : Int) := o2
    have o3 : c248_pots.toInt = (3 : Int) := o3
    have o4 : c261_many.toInt = (6 : Int) := o4
    have o5 : c261_swapsAPot.toInt = (3 : Int) := o5
    refine dz_Tw (t291_X9_pass_g33 fu hfu c248_pots c261_many c261_swapsAPot a265 a268 a269 n269 n309 v1 v2 a309 (by first | assumption | omega) (by first | assumption | omega) (by first | assumption | omega) (by first | assumption | omega) (by first | assumption | omega) (by first | assumption | omega) (by first | assumption | omega) (by first | assumption | omega) (by first | assumption | omega) (by first | assumption | omega) (by first | assumption | omega) (by first | assumption | omega) (by first | assumption | omega) (by first | assumption | omega) (by first | exact hr_a265 | exact dz_rgm hr_a265 (by omega) (by omega) | exact dz_pmr hr_a265 (by decide) (by omega) (by omega) (by omega) | exact dz_ptr hr_a265 (by decide) (by decide) (by omega) | exact dz_ptr hr_a265 (by decide) (by decide) (by show _ ≤ 3; omega) | exact dz_rgs hr_a265 (by omega)) (by first | exact hr_a268 | exact dz_rgm hr_a268 (by omega) (by omega) | exact dz_pmr hr_a268 (by decide) (by omega) (by omega) (by omega) | exact dz_ptr hr_a268 (by decide) (by decide) (by omega) | exact dz_ptr hr_a268 (by decide) (by decide) (by show _ ≤ 3; omega) | exact dz_rgs hr_a268 (by omega)) (by first | exact hr_a269 | exact dz_rgm hr_a269 (by omega) (by omega) | exact dz_pmr hr_a269 (by decide) (by omega) (by omega) (by omega) | exact dz_ptr hr_a269 (by decide) (by decide) (by omega) | exact dz_ptr hr_a269 (by decide) (by decide) (by show _ ≤ 3; omega) | exact dz_rgs hr_a269 (by omega))) (fun r h => ?_)
    exact trivial
  · skip
    have o0 : v1.toInt ≤ (1296 : Int) - 1 := o0
    have o1 : ((n309 : Nat) : Int) ≥ (1296 : Int) := o1
    have o2 : ((n269 : Nat) : Int) ≥ (1296 : Int) := o2
    have o3 : c248_pots.toInt = (4 : Int) := o3
    have o4 : c261_many.toInt = (6 : Int) := o4
    have o5 : c261_swapsAPot.toInt = (3 : Int) := o5
    refine dz_Tw (t291_X9_pass_g34 fu hfu c248_pots c261_many c261_swapsAPot a265 a268 a269 n269 n309 v1 v2 a309 (by first | assumption | omega) (by first | assumption | omega) (by first | assumption | omega) (by first | assumption | omega) (by first | assumption | omega) (by first | assumption | omega) (by first | assumption | omega) (by first | assumption | omega) (by first | assumption | omega) (by first | assumption | omega) (by first | assumption | omega) (by first | assumption | omega) (by first | assumption | omega) (by first | assumption | omega) (by first | exact hr_a265 | exact dz_rgm hr_a265 (by omega) (by omega) | exact dz_pmr hr_a265 (by decide) (by omega) (by omega) (by omega) | exact dz_ptr hr_a265 (by decide) (by decide) (by omega) | exact dz_ptr hr_a265 (by decide) (by decide) (by show _ ≤ 4; omega) | exact dz_rgs hr_a265 (by omega)) (by first | exact hr_a268 | exact dz_rgm hr_a268 (by omega) (by omega) | exact dz_pmr hr_a268 (by decide) (by omega) (by omega) (by omega) | exact dz_ptr hr_a268 (by decide) (by decide) (by omega) | exact dz_ptr hr_a268 (by decide) (by decide) (by show _ ≤ 4; omega) | exact dz_rgs hr_a268 (by omega)) (by first | exact hr_a269 | exact dz_rgm hr_a269 (by omega) (by omega) | exact dz_pmr hr_a269 (by decide) (by omega) (by omega) (by omega) | exact dz_ptr hr_a269 (by decide) (by decide) (by omega) | exact dz_ptr hr_a269 (by decide) (by decide) (by show _ ≤ 4; omega) | exact dz_rgs hr_a269 (by omega))) (fun r h => ?_)
    exact trivial
  · skip
    have o0 : v1.toInt ≤ (1 : Int) - 1 := o0
    have o1 : ((n309 : Nat) : Int) ≥ (1 : Int) := o1
    have o2 : ((n269 : Nat) : Int) ≥ (1 : Int) := o2
    have o3 : c248_pots.toInt = (0 : Int) := o3
    have o4 : c261_many.toInt = (24 : Int) := o4
    have o5 : c261_swapsAPot.toInt = (6 : Int) := o5
    refine dz_Tw (t291_X9_pass_g40 fu hfu c248_pots c261_many c261_swapsAPot a265 a268 a269 n269 n309 v1 v2 a309 (by first | assumption | omega) (by first | assumption | omega) (by first | assumption | omega) (by first | assumption | omega) (by first | assumption | omega) (by first | assumption | omega) (by first | assumption | omega) (by first | assumption | omega) (by first | assumption | omega) (by first | assumption | omega) (by first | assumption | omega) (by first | assumption | omega) (by first | assumption | omega) (by first | assumption | omega) (by first | exact hr_a265 | exact dz_rgm hr_a265 (by omega) (by omega) | exact dz_pmr hr_a265 (by decide) (by omega) (by omega) (by omega) | exact dz_ptr hr_a265 (by decide) (by decide) (by omega) | exact dz_ptr hr_a265 (by decide) (by decide) (by show _ ≤ 0; omega) | exact dz_rgs hr_a265 (by omega)) (by first | exact hr_a269 | exact dz_rgm hr_a269 (by omega) (by omega) | exact dz_pmr hr_a269 (by decide) (by omega) (by omega) (by omega) | exact dz_ptr hr_a269 (by decide) (by decide) (by omega) | exact dz_ptr hr_a269 (by decide) (by decide) (by show _ ≤ 0; omega) | exact dz_rgs hr_a269 (by omega))) (fun r h => ?_)
    exact trivial
  · skip
    have o0 : v1.toInt ≤ (24 : Int) - 1 := o0
    have o1 : ((n309 : Nat) : Int) ≥ (24 : Int) := o1
    have o2 : ((n269 : Nat) : Int) ≥ (24 : Int) := o2
    have o3 : c248_pots.toInt = (1 : Int) := o3
    have o4 : c261_many.toInt = (24 : Int) := o4
    have o5 : c261_swapsAPot.toInt = (6 : Int) := o5
    refine dz_Tw (t291_X9_pass_g41 fu hfu c248_pots c261_many c261_swapsAPot a265 a268 a269 n269 n309 v1 v2 a309 (by first | assumption | omega) (by first | assumption | omega) (by first | assumption | omega) (by first | assumption | omega) (by first | assumption | omega) (by first | assumption | omega) (by first | assumption | omega) (by first | assumption | omega) (by first | assumption | omega) (by first | assumption | omega) (by first | assumption | omega) (by first | assumption | omega) (by first | assumption | omega) (by first | assumption | omega) (by first | exact hr_a265 | exact dz_rgm hr_a265 (by omega) (by omega) | exact dz_pmr hr_a265 (by decide) (by omega) (by omega) (by omega) | exact dz_ptr hr_a265 (by decide) (by decide) (by omega) | exact dz_ptr hr_a265 (by decide) (by decide) (by show _ ≤ 1; omega) | exact dz_rgs hr_a265 (by omega)) (by first | exact hr_a268 | exact dz_rgm hr_a268 (by omega) (by omega) | exact dz_pmr hr_a268 (by decide) (by omega) (by omega) (by omega) | exact dz_ptr hr_a268 (by decide) (by decide) (by omega) | exact dz_ptr hr_a268 (by decide) (by decide) (by show _ ≤ 1; omega) | exact dz_rgs hr_a268 (by omega)) (by first | exact hr_a269 | exact dz_rgm hr_a269 (by omega) (by omega) | exact dz_pmr hr_a269 (by decide) (by omega) (by omega) (by omega) | exact dz_ptr hr_a269 (by decide) (by decide) (by omega) | exact dz_ptr hr_a269 (by decide) (by decide) (by show _ ≤ 1; omega) | exact dz_rgs hr_a269 (by omega))) (fun r h => ?_)
    exact trivial
  · skip
    have o0 : v1.toInt ≤ (576 : Int) - 1 := o0
    have o1 : ((n309 : Nat) : Int) ≥ (576 : Int) := o1
    have o2 : ((n269 : Nat) : Int) ≥ (576 : Int) := o2
    have o3 : c248_pots.toInt = (2 : Int) := o3
    have o4 : c261_many.toInt = (24 : Int) := o4
    have o5 : c261_swapsAPot.toInt = (6 : Int) := o5
    refine dz_Tw (t291_X9_pass_g42 fu hfu c248_pots c261_many c261_swapsAPot a265 a268 a269 n269 n309 v1 v2 a309 (by first | assumption | omega) (by first | assumption | omega) (by first | assumption | omega) (by first | assumption | omega) (by first | assumption | omega) (by first | assumption | omega) (by first | assumption | omega) (by first | assumption | omega) (by first | assumption | omega) (by first | assumption | omega) (by first | assumption | omega) (by first | assumption | omega) (by first | assumption | omega) (by first | assumption | omega) (by first | exact hr_a265 | exact dz_rgm hr_a265 (by omega) (by omega) | exact dz_pmr hr_a265 (by decide) (by omega) (by omega) (by omega) | exact dz_ptr hr_a265 (by decide) (by decide) (by omega) | exact dz_ptr hr_a265 (by decide) (by decide) (by show _ ≤ 2; omega) | exact dz_rgs hr_a265 (by omega)) (by first | exact hr_a268 | exact dz_rgm hr_a268 (by omega) (by omega) | exact dz_pmr hr_a268 (by decide) (by omega) (by omega) (by omega) | exact dz_ptr hr_a268 (by decide) (by decide) (by omega) | exact dz_ptr hr_a268 (by decide) (by decide) (by show _ ≤ 2; omega) | exact dz_rgs hr_a268 (by omega)) (by first | exact hr_a269 | exact dz_rgm hr_a269 (by omega) (by omega) | exact dz_pmr hr_a269 (by decide) (by omega) (by omega) (by omega) | exact dz_ptr hr_a269 (by decide) (by decide) (by omega) | exact dz_ptr hr_a269 (by decide) (by decide) (by show _ ≤ 2; omega) | exact dz_rgs hr_a269 (by omega))) (fun r h => ?_)
    exact trivial
  · skip
    have o0 : v1.toInt ≤ (13824 : Int) - 1 := o0
    have o1 : ((n309 : Nat) : Int) ≥ (13824 : Int) := o1
    have o2 : ((n269 : Nat) : Int) ≥ (13824 : Int) := o2
    have o3 : c248_pots.toInt = (3 : Int) := o3
    have o4 : c261_many.toInt = (24 : Int) := o4
    have o5 : c261_swapsAPot.toInt = (6 : Int) := o5
    refine dz_Tw (t291_X9_pass_g43 fu hfu c248_pots c261_many c261_swapsAPot a265 a268 a269 n269 n309 v1 v2 a309 (by first | assumption | omega) (by first | assumption | omega) (by first | assumption | omega) (by first | assumption | omega) (by first | assumption | omega) (by first | assumption | omega) (by first | assumption | omega) (by first | assumption | omega) (by first | assumption | omega) (by first | assumption | omega) (by first | assumption | omega) (by first | assumption | omega) (by first | assumption | omega) (by first | assumption | omega) (by first | exact hr_a265 | exact dz_rgm hr_a265 (by omega) (by omega) | exact dz_pmr hr_a265 (by decide) (by omega) (by omega) (by omega) | exact dz_ptr hr_a265 (by decide) (by decide) (by omega) | exact dz_ptr hr_a265 (by decide) (by decide) (by show _ ≤ 3; omega) | exact dz_rgs hr_a265 (by omega)) (by first | exact hr_a268 | exact dz_rgm hr_a268 (by omega) (by omega) | exact dz_pmr hr_a268 (by decide) (by omega) (by omega) (by omega) | exact dz_ptr hr_a268 (by decide) (by decide) (by omega) | exact dz_ptr hr_a268 (by decide) (by decide) (by show _ ≤ 3; omega) | exact dz_rgs hr_a268 (by omega)) (by first | exact hr_a269 | exact dz_rgm hr_a269 (by omega) (by omega) | exact dz_pmr hr_a269 (by decide) (by omega) (by omega) (by omega) | exact dz_ptr hr_a269 (by decide) (by decide) (by omega) | exact dz_ptr hr_a269 (by decide) (by decide) (by show _ ≤ 3; omega) | exact dz_rgs hr_a269 (by omega))) (fun r h => ?_)
    exact trivial
abbrev p292_X9_swapOnce_s (fu : Nat) (κ : Nat) (c248_pots : Int32) (c261_many : Int32) (c261_swapsAPot : Int32) (a265 : Nat → Int32) (c267_total : Int32) (c267_lawfulOnes : Int32) (a268 : Nat → Int32) (a269 : Nat → Int32) (n269 : Nat) (a270 : Nat → Int32) (n270 : Nat) (gh_n308 : Nat) (k : Nat) : Prop :=
  (∀ (v1 : Int32) (a308 : Nat → Int32) (n308 : Nat) (a309 : Nat → Int32) (n309 : Nat), v1.toInt ≤ 13824 → 0 ≤ v1.toInt → ((n308 : Nat) : Int) ≤ 13824 → 1 ≤ ((n308 : Nat) : Int) → ((n309 : Nat) : Int) ≤ 13824 → 1 ≤ ((n309 : Nat) : Int) → ((n308 : Nat) : Int) ≤ ((n309 : Nat) : Int) → ((n309 : Nat) : Int) ≤ ((n308 : Nat) : Int) → c267_lawfulOnes.toInt ≤ ((n308 : Nat) : Int) → c267_total.toInt ≤ ((n308 : Nat) : Int) → v1.toInt ≤ ((n269 : Nat) : Int) → v1.toInt ≤ ((n308 : Nat) : Int) → v1.toInt ≤ c267_lawfulOnes.toInt → ((n308 : Nat) : Int) = ((gh_n308 : Nat) : Int) ∧ ((n309 : Nat) : Int) = ((gh_n308 : Nat) : Int) → 0 + 0 + (13824 - v1.toInt) * 12 + 6 ≤ ((k : Nat) : Int) → dz_T ((F292_X9_swapOnce fu c248_pots c261_many c261_swapsAPot a265 c267_total c267_lawfulOnes a268 a269 n269 a270 n270 k).1 v1 a308 n308 a309 n309) (fun r => ((r.2.1 : Nat) : Int) ≤ 13824 ∧ 1 ≤ ((r.2.1 : Nat) : Int) ∧ ((r.2.2.2 : Nat) : Int) ≤ 13824 ∧ 1 ≤ ((r.2.2.2 : Nat) : Int) ∧ ((r.2.1 : Nat) : Int) ≤ ((r.2.2.2 : Nat) : Int) ∧ ((r.2.2.2 : Nat) : Int) ≤ ((r.2.1 : Nat) : Int) ∧ c267_lawfulOnes.toInt ≤ ((r.2.1 : Nat) : Int) ∧ c267_total.toInt ≤ ((r.2.1 : Nat) : Int) ∧ (((gh_n308 : Nat) : Int) ≤ ((r.2.1 : Nat) : Int))))
set_option maxHeartbeats 1000000 in
set_option maxRecDepth 10000 in
theorem t292_X9_swapOnce_h1_s (fu : Nat) (hfu : 1000000000000 ≤ fu) (κ : Nat) (hκ : κ < 14) (c248_pots : Int32) (c261_many : Int32) (c261_swapsAPot : Int32) (a265 : Nat → Int32) (c267_total : Int32) (c267_lawfulOnes : Int32) (a268 : Nat → Int32) (a269 : Nat → Int32) (n269 : Nat) (a270 : Nat → Int32) (n270 : Nat) (gh_n308 : Nat) (p0 : c248_pots.toInt ≤ 4) (p1 : 0 ≤ c248_pots.toInt) (p2 : c261_many.toInt ≤ 24) (p3 : 0 ≤ c261_many.toInt) (p4 : c261_swapsAPot.toInt ≤ 6) (p5 : 0 ≤ c261_swapsAPot.toInt) (p6 : c267_total.toInt ≤ 13824) (p7 : 1 ≤ c267_total.toInt) (p8 : c267_lawfulOnes.toInt ≤ 13824) (p9 : 0 ≤ c267_lawfulOnes.toInt) (p10 : ((n269 : Nat) : Int) ≤ 13824) (p11 : 1 ≤ ((n269 : Nat) : Int)) (p12 : ((n270 : Nat) : Int) ≤ 13824) (p13 : 1 ≤ ((n270 : Nat) : Int)) (p14 : c267_total.toInt ≤ ((n269 : Nat) : Int)) (p15 : c267_total.toInt ≤ ((n270 : Nat) : Int)) (p16 : c267_lawfulOnes.toInt ≤ c267_total.toInt) (p17 : c267_lawfulOnes.toInt ≤ ((n270 : Nat) : Int)) (p18 : ((n269 : Nat) : Int) ≤ ((n270 : Nat) : Int)) (p19 : ((n270 : Nat) : Int) ≤ ((n269 : Nat) : Int)) (hr_a265 : dz_rt a265 (dz_kr κ) (dz_kw κ) 0 (((dz_kr κ : Nat) : Int) - 1)) (hr_a268 : dz_pt a268 (dz_kS κ)) (hr_a269 : dz_rg a269 n269 0 1023) (hr_a270 : dz_rg a270 c267_lawfulOnes.toInt.toNat 0 (((dz_kt κ : Nat) : Int) - 1)) (o0 : c248_pots.toInt = ((dz_kp κ : Nat) : Int)) (o1 : c261_many.toInt = ((dz_kr κ : Nat) : Int)) (o2 : c261_swapsAPot.toInt = ((dz_kw κ : Nat) : Int)) (o3 : c267_total.toInt = ((dz_kt κ : Nat) : Int)) (k : Nat) (ih : ∀ j9, j9 < k → p292_X9_swapOnce_s fu κ c248_pots c261_many c261_swapsAPot a265 c267_total c267_lawfulOnes a268 a269 n269 a270 n270 gh_n308 j9) : ∀ (v1 : Int32) (a308 : Nat → Int32) (n308 : Nat) (a309 : Nat → Int32) (n309 : Nat), v1.toInt ≤ 13824 → 0 ≤ v1.toInt → ((n308 : Nat) : Int) ≤ 13824 → 1 ≤ ((n308 : Nat) : Int) → ((n309 : Nat) : Int) ≤ 13824 → 1 ≤ ((n309 : Nat) : Int) → ((n308 : Nat) : Int) ≤ ((n309 : Nat) : Int) → ((n309 : Nat) : Int) ≤ ((n308 : Nat) : Int) → c267_lawfulOnes.toInt ≤ ((n308 : Nat) : Int) → c267_total.toInt ≤ ((n308 : Nat) : Int) → v1.toInt ≤ ((n269 : Nat) : Int) → v1.toInt ≤ ((n308 : Nat) : Int) → v1.toInt ≤ c267_lawfulOnes.toInt → ((n308 : Nat) : Int) = ((gh_n308 : Nat) : Int) ∧ ((n309 : Nat) : Int) = ((gh_n308 : Nat) : Int) → 0 + 0 + (13824 - v1.toInt) * 12 + 6 ≤ ((k : Nat) : Int) → dz_T ((F292_X9_swapOnce fu c248_pots c261_many c261_swapsAPot a265 c267_total c267_lawfulOnes a268 a269 n269 a270 n270 k).1 v1 a308 n308 a309 n309) (fun r => ((r.2.1 : Nat) : Int) ≤ 13824 ∧ 1 ≤ ((r.2.1 : Nat) : Int) ∧ ((r.2.2.2 : Nat) : Int) ≤ 13824 ∧ 1 ≤ ((r.2.2.2 : Nat) : Int) ∧ ((r.2.1 : Nat) : Int) ≤ ((r.2.2.2 : Nat) : Int) ∧ ((r.2.2.2 : Nat) : Int) ≤ ((r.2.1 : Nat) : Int) ∧ c267_lawfulOnes.toInt ≤ ((r.2.1 : Nat) : Int) ∧ c267_total.toInt ≤ ((r.2.1 : Nat) : Int) ∧ (((gh_n308 : Nat) : Int) ≤ ((r.2.1 : Nat) : Int))) := by
  intro v1 a308 n308 a309 n309 i0 i1 i2 i3 i4 i5 i6 i7 i8 i9 i10 i11 i12 x0 hm
  obtain ⟨k0, rfl⟩ : ∃ x, k = x + 1 := ⟨k - 1, by omega⟩
  show dz_T (s292_X9_swapOnce_1 fu c248_pots c261_many c261_swapsAPot a265 c267_total c267_lawfulOnes a268 a269 n269 a270 n270 (F292_X9_swapOnce fu c248_pots c261_many c261_swapsAPot a265 c267_total c267_lawfulOnes a268 a269 n269 a270 n270 k0).2  v1 a308 n308 a309 n309) _
  unfold s292_X9_swapOnce_1
  refine dz_Tle (fun h1 => ?_) (fun h1 => ?_)
  · skip
    refine dz_Ts ?_
    dsimp only
    exact ⟨i4, i5, i2, i3, i7, i6, (by first | assumption | omega), (by first | assumption | omega), (by omega)⟩
  · skip
    refine dz_Tin (by omega) (by omega) ?_
    have e2 := dz_rgat (hr_a270) (i := v1) (by omega) (by omega)
    have e3 := dz_kt4 hκ
    refine dz_Tin (by omega) (by omega) ?_
    have e4 := dz_l0
    refine dz_Teq (fun h5 => ?_) (fun h5 => ?_)
    · skip
      obtain ⟨k1, rfl⟩ : ∃ x, k0 = x + 1 := ⟨k0 - 1, by omega⟩
      show dz_T (s292_X9_swapOnce_2 fu c248_pots c261_many c261_swapsAPot a265 c267_total c267_lawfulOnes a268 a269 n269 a270 n270 (F292_X9_swapOnce fu c248_pots c261_many c261_swapsAPot a265 c267_total c267_lawfulOnes a268 a269 n269 a270 n270 k1).1 v1 a308 n308 a309 n309) _
      unfold s292_X9_swapOnce_2
      have e6 := dz_l1
      have e7 := dz_add (a := v1) (b := (1 : Int32)) (by omega) (by omega)
      exact (ih k1 (by omega)) (v1 + (1 : Int32)) a308 n308 a309 n309 (by omega) (by omega) i2 i3 i4 i5 i6 i7 i8 i9 (by omega) (by omega) (by omega) (by omega) (by omega)
    · skip
      refine dz_Tin (by omega) (by omega) ?_
      refine dz_Tb (t291_X9_pass_s fu hfu κ hκ _ _ _ _ _ _ _ _ _ _ _ p0 p1 p2 p3 p4 p5 p10 p11 i4 i5 (by omega) (by omega) (hr_a265) (hr_a268) (hr_a269) (by first | assumption | omega) (by first | assumption | omega) (by first | assumption | omega) o0 o1 o2) (fun r1 _ => ?_)
      obtain ⟨k2, rfl⟩ : ∃ x, k0 = x + 1 := ⟨k0 - 1, by omega⟩
      show dz_T (s292_X9_swapOnce_2 fu c248_pots c261_many c261_swapsAPot a265 c267_total c267_lawfulOnes a268 a269 n269 a270 n270 (F292_X9_swapOnce fu c248_pots c261_many c261_swapsAPot a265 c267_total c267_lawfulOnes a268 a269 n269 a270 n270 k2).1 v1 a308 n308 r1 n309) _
      unfold s292_X9_swapOnce_2
      have e8 := dz_l1
      have e9 := dz_add (a := v1) (b := (1 : Int32)) (by omega) (by omega)
      exact (ih k2 (by omega)) (v1 + (1 : Int32)) a308 n308 r1 n309 (by omega) (by omega) i2 i3 i4 i5 i6 i7 i8 i9 (by omega) (by omega) (by omega) (by omega) (by omega)
theorem t292_X9_swapOnce_I_s (fu : Nat) (hfu : 1000000000000 ≤ fu) (κ : Nat) (hκ : κ < 14) (c248_pots : Int32) (c261_many : Int32) (c261_swapsAPot : Int32) (a265 : Nat → Int32) (c267_total : Int32) (c267_lawfulOnes : Int32) (a268 : Nat → Int32) (a269 : Nat → Int32) (n269 : Nat) (a270 : Nat → Int32) (n270 : Nat) (gh_n308 : Nat) (p0 : c248_pots.toInt ≤ 4) (p1 : 0 ≤ c248_pots.toInt) (p2 : c261_many.toInt ≤ 24) (p3 : 0 ≤ c261_many.toInt) (p4 : c261_swapsAPot.toInt ≤ 6) (p5 : 0 ≤ c261_swapsAPot.toInt) (p6 : c267_total.toInt ≤ 13824) (p7 : 1 ≤ c267_total.toInt) (p8 : c267_lawfulOnes.toInt ≤ 13824) (p9 : 0 ≤ c267_lawfulOnes.toInt) (p10 : ((n269 : Nat) : Int) ≤ 13824) (p11 : 1 ≤ ((n269 : Nat) : Int)) (p12 : ((n270 : Nat) : Int) ≤ 13824) (p13 : 1 ≤ ((n270 : Nat) : Int)) (p14 : c267_total.toInt ≤ ((n269 : Nat) : Int)) (p15 : c267_total.toInt ≤ ((n270 : Nat) : Int)) (p16 : c267_lawfulOnes.toInt ≤ c267_total.toInt) (p17 : c267_lawfulOnes.toInt ≤ ((n270 : Nat) : Int)) (p18 : ((n269 : Nat) : Int) ≤ ((n270 : Nat) : Int)) (p19 : ((n270 : Nat) : Int) ≤ ((n269 : Nat) : Int)) (hr_a265 : dz_rt a265 (dz_kr κ) (dz_kw κ) 0 (((dz_kr κ : Nat) : Int) - 1)) (hr_a268 : dz_pt a268 (dz_kS κ)) (hr_a269 : dz_rg a269 n269 0 1023) (hr_a270 : dz_rg a270 c267_lawfulOnes.toInt.toNat 0 (((dz_kt κ : Nat) : Int) - 1)) (o0 : c248_pots.toInt = ((dz_kp κ : Nat) : Int)) (o1 : c261_many.toInt = ((dz_kr κ : Nat) : Int)) (o2 : c261_swapsAPot.toInt = ((dz_kw κ : Nat) : Int)) (o3 : c267_total.toInt = ((dz_kt κ : Nat) : Int)) (k : Nat) : p292_X9_swapOnce_s fu κ c248_pots c261_many c261_swapsAPot a265 c267_total c267_lawfulOnes a268 a269 n269 a270 n270 gh_n308 k := by
  induction k using Nat.strongRecOn with
  | _ k ih => exact t292_X9_swapOnce_h1_s fu hfu κ hκ c248_pots c261_many c261_swapsAPot a265 c267_total c267_lawfulOnes a268 a269 n269 a270 n270 gh_n308 p0 p1 p2 p3 p4 p5 p6 p7 p8 p9 p10 p11 p12 p13 p14 p15 p16 p17 p18 p19 hr_a265 hr_a268 hr_a269 hr_a270 o0 o1 o2 o3 k ih
set_option maxHeartbeats 1000000 in
set_option maxRecDepth 10000 in
theorem t292_X9_swapOnce_E_s (fu : Nat) (hfu : 1000000000000 ≤ fu) (κ : Nat) (hκ : κ < 14) (c248_pots : Int32) (c261_many : Int32) (c261_swapsAPot : Int32) (a265 : Nat → Int32) (c267_total : Int32) (c267_lawfulOnes : Int32) (a268 : Nat → Int32) (a269 : Nat → Int32) (n269 : Nat) (a270 : Nat → Int32) (n270 : Nat) (a308 : Nat → Int32) (n308 : Nat) (a309 : Nat → Int32) (n309 : Nat) (p0 : c248_pots.toInt ≤ 4) (p1 : 0 ≤ c248_pots.toInt) (p2 : c261_many.toInt ≤ 24) (p3 : 0 ≤ c261_many.toInt) (p4 : c261_swapsAPot.toInt ≤ 6) (p5 : 0 ≤ c261_swapsAPot.toInt) (p6 : c267_total.toInt ≤ 13824) (p7 : 1 ≤ c267_total.toInt) (p8 : c267_lawfulOnes.toInt ≤ 13824) (p9 : 0 ≤ c267_lawfulOnes.toInt) (p10 : ((n269 : Nat) : Int) ≤ 13824) (p11 : 1 ≤ ((n269 : Nat) : Int)) (p12 : ((n270 : Nat) : Int) ≤ 13824) (p13 : 1 ≤ ((n270 : Nat) : Int)) (p14 : ((n308 : Nat) : Int) ≤ 13824) (p15 : 1 ≤ ((n308 : Nat) : Int)) (p16 : ((n309 : Nat) : Int) ≤ 13824) (p17 : 1 ≤ ((n309 : Nat) : Int)) (p18 : c267_total.toInt ≤ ((n269 : Nat) : Int)) (p19 : c267_total.toInt ≤ ((n270 : Nat) : Int)) (p20 : c267_lawfulOnes.toInt ≤ c267_total.toInt) (p21 : c267_lawfulOnes.toInt ≤ ((n270 : Nat) : Int)) (p22 : ((n308 : Nat) : Int) ≤ ((n309 : Nat) : Int)) (p23 : ((n309 : Nat) : Int) ≤ ((n308 : Nat) : Int)) (p24 : ((n269 : Nat) : Int) ≤ ((n270 : Nat) : Int)) (p25 : ((n270 : Nat) : Int) ≤ ((n269 : Nat) : Int)) (p26 : c267_total.toInt ≤ ((n308 : Nat) : Int)) (hr_a265 : dz_rt a265 (dz_kr κ) (dz_kw κ) 0 (((dz_kr κ : Nat) : Int) - 1)) (hr_a268 : dz_pt a268 (dz_kS κ)) (hr_a269 : dz_rg a269 n269 0 1023) (hr_a270 : dz_rg a270 c267_lawfulOnes.toInt.toNat 0 (((dz_kt κ : Nat) : Int) - 1)) (o0 : c248_pots.toInt = ((dz_kp κ : Nat) : Int)) (o1 : c261_many.toInt = ((dz_kr κ : Nat) : Int)) (o2 : c261_swapsAPot.toInt = ((dz_kw κ : Nat) : Int)) (o3 : c267_total.toInt = ((dz_kt κ : Nat) : Int)) (kv : Nat) (hkv : 1000000000000 ≤ kv) : dz_T (s292_X9_swapOnce_0 fu c248_pots c261_many c261_swapsAPot a265 c267_total c267_lawfulOnes a268 a269 n269 a270 n270 (F292_X9_swapOnce fu c248_pots c261_many c261_swapsAPot a265 c267_total c267_lawfulOnes a268 a269 n269 a270 n270 kv).1  a308 n308 a309 n309) (fun r => ((r.2.1 : Nat) : Int) ≤ 13824 ∧ 1 ≤ ((r.2.1 : Nat) : Int) ∧ ((r.2.2.2 : Nat) : Int) ≤ 13824 ∧ 1 ≤ ((r.2.2.2 : Nat) : Int) ∧ ((r.2.1 : Nat) : Int) ≤ ((r.2.2.2 : Nat) : Int) ∧ ((r.2.2.2 : Nat) : Int) ≤ ((r.2.1 : Nat) : Int) ∧ c267_lawfulOnes.toInt ≤ ((r.2.1 : Nat) : Int) ∧ c267_total.toInt ≤ ((r.2.1 : Nat) : Int) ∧ (((n308 : Nat) : Int) ≤ ((r.2.1 : Nat) : Int))) := by
  unfold s292_X9_swapOnce_0
  have e1 := dz_l0
  refine dz_Tb (t135_J7_fill_fda19_o fu hfu _ _ _ _ _ (by first | assumption | omega) (by omega) (by omega) (by first | assumption | omega)) (fun r1 _ => ?_)
  exact (t292_X9_swapOnce_I_s fu hfu κ hκ c248_pots c261_many c261_swapsAPot a265 c267_total c267_lawfulOnes a268 a269 n269 a270 n270 n308 p0 p1 p2 p3 p4 p5 p6 p7 p8 p9 p10 p11 p12 p13 p18 p19 p20 p21 p24 p25 hr_a265 hr_a268 hr_a269 hr_a270 o0 o1 o2 o3 kv) (0 : Int32) a308 n308 r1 n309 (by omega) (by omega) p14 p15 p16 p17 p22 p23 (by first | assumption | omega) p26 (by omega) (by omega) (by omega) (by omega) (by omega)
theorem t292_X9_swapOnce_s (fu : Nat) (hfu : 1000000000000 ≤ fu) (κ : Nat) (hκ : κ < 14) (c248_pots : Int32) (c261_many : Int32) (c261_swapsAPot : Int32) (a265 : Nat → Int32) (c267_total : Int32) (c267_lawfulOnes : Int32) (a268 : Nat → Int32) (a269 : Nat → Int32) (n269 : Nat) (a270 : Nat → Int32) (n270 : Nat) (a308 : Nat → Int32) (n308 : Nat) (a309 : Nat → Int32) (n309 : Nat) (p0 : c248_pots.toInt ≤ 4) (p1 : 0 ≤ c248_pots.toInt) (p2 : c261_many.toInt ≤ 24) (p3 : 0 ≤ c261_many.toInt) (p4 : c261_swapsAPot.toInt ≤ 6) (p5 : 0 ≤ c261_swapsAPot.toInt) (p6 : c267_total.toInt ≤ 13824) (p7 : 1 ≤ c267_total.toInt) (p8 : c267_lawfulOnes.toInt ≤ 13824) (p9 : 0 ≤ c267_lawfulOnes.toInt) (p10 : ((n269 : Nat) : Int) ≤ 13824) (p11 : 1 ≤ ((n269 : Nat) : Int)) (p12 : ((n270 : Nat) : Int) ≤ 13824) (p13 : 1 ≤ ((n270 : Nat) : Int)) (p14 : ((n308 : Nat) : Int) ≤ 13824) (p15 : 1 ≤ ((n308 : Nat) : Int)) (p16 : ((n309 : Nat) : Int) ≤ 13824) (p17 : 1 ≤ ((n309 : Nat) : Int)) (p18 : c267_total.toInt ≤ ((n269 : Nat) : Int)) (p19 : c267_total.toInt ≤ ((n270 : Nat) : Int)) (p20 : c267_lawfulOnes.toInt ≤ c267_total.toInt) (p21 : c267_lawfulOnes.toInt ≤ ((n270 : Nat) : Int)) (p22 : ((n308 : Nat) : Int) ≤ ((n309 : Nat) : Int)) (p23 : ((n309 : Nat) : Int) ≤ ((n308 : Nat) : Int)) (p24 : ((n269 : Nat) : Int) ≤ ((n270 : Nat) : Int)) (p25 : ((n270 : Nat) : Int) ≤ ((n269 : Nat) : Int)) (p26 : c267_total.toInt ≤ ((n308 : Nat) : Int)) (hr_a265 : dz_rt a265 (dz_kr κ) (dz_kw κ) 0 (((dz_kr κ : Nat) : Int) - 1)) (hr_a268 : dz_pt a268 (dz_kS κ)) (hr_a269 : dz_rg a269 n269 0 1023) (hr_a270 : dz_rg a270 c267_lawfulOnes.toInt.toNat 0 (((dz_kt κ : Nat) : Int) - 1)) (o0 : c248_pots.toInt = ((dz_kp κ : Nat) : Int)) (o1 : c261_many.toInt = ((dz_kr κ : Nat) : Int)) (o2 : c261_swapsAPot.toInt = ((dz_kw κ : Nat) : Int)) (o3 : c267_total.toInt = ((dz_kt κ : Nat) : Int)) : dz_T (f292_X9_swapOnce fu c248_pots c261_many c261_swapsAPot a265 c267_total c267_lawfulOnes a268 a269 n269 a270 n270 a308 n308 a309 n309) (fun r => ((r.2.1 : Nat) : Int) ≤ 13824 ∧ 1 ≤ ((r.2.1 : Nat) : Int) ∧ ((r.2.2.2 : Nat) : Int) ≤ 13824 ∧ 1 ≤ ((r.2.2.2 : Nat) : Int) ∧ ((r.2.1 : Nat) : Int) ≤ ((r.2.2.2 : Nat) : Int) ∧ ((r.2.2.2 : Nat) : Int) ≤ ((r.2.1 : Nat) : Int) ∧ c267_lawfulOnes.toInt ≤ ((r.2.1 : Nat) : Int) ∧ c267_total.toInt ≤ ((r.2.1 : Nat) : Int) ∧ (((n308 : Nat) : Int) ≤ ((r.2.1 : Nat) : Int))) :=
  t292_X9_swapOnce_E_s fu hfu κ hκ c248_pots c261_many c261_swapsAPot a265 c267_total c267_lawfulOnes a268 a269 n269 a270 n270 a308 n308 a309 n309 p0 p1 p2 p3 p4 p5 p6 p7 p8 p9 p10 p11 p12 p13 p14 p15 p16 p17 p18 p19 p20 p21 p22 p23 p24 p25 p26 hr_a265 hr_a268 hr_a269 hr_a270 o0 o1 o2 o3 fu hfu
abbrev p293_X9_swapTimes_s (fu : Nat) (κ : Nat) (U : Nat) (c248_pots : Int32) (c261_many : Int32) (c261_swapsAPot : Int32) (a265 : Nat → Int32) (c267_total : Int32) (c267_lawfulOnes : Int32) (a268 : Nat → Int32) (a269 : Nat → Int32) (n269 : Nat) (a270 : Nat → Int32) (n270 : Nat) (gh_n308 : Nat) (k : Nat) : Prop :=
  (∀ (v1 : Int32) (v2 : Int32) (sl : Nat) (c307_done : Int32) (a308 : Nat → Int32) (n308 : Nat) (a309 : Nat → Int32) (n309 : Nat), v1.toInt ≤ 5 → 0 ≤ v1.toInt → v2.toInt ≤ 5 → 0 ≤ v2.toInt → ((sl : Nat) : Int) ≤ 27648 → c307_done.toInt ≤ 5 → 0 ≤ c307_done.toInt → ((n308 : Nat) : Int) ≤ 13824 → 1 ≤ ((n308 : Nat) : Int) → ((n309 : Nat) : Int) ≤ 13824 → 1 ≤ ((n309 : Nat) : Int) → ((n308 : Nat) : Int) ≤ ((n309 : Nat) : Int) → ((n309 : Nat) : Int) ≤ ((n308 : Nat) : Int) → ((sl : Nat) : Int) ≤ ((U : Nat) : Int) → c267_lawfulOnes.toInt ≤ ((n308 : Nat) : Int) → c267_total.toInt ≤ ((n308 : Nat) : Int) → c307_done.toInt ≤ v1.toInt → c307_done.toInt ≤ v2.toInt → v2.toInt ≤ v1.toInt → c307_done.toInt ≤ ((n308 : Nat) : Int) + 4 → ((gh_n308 : Nat) : Int) ≤ ((n308 : Nat) : Int) → 0 + 0 + (5 - v2.toInt) * 14 + 7 ≤ ((k : Nat) : Int) → dz_T ((F293_X9_swapTimes fu U c248_pots c261_many c261_swapsAPot a265 c267_total c267_lawfulOnes a268 a269 n269 a270 n270 k).2.2 v1 v2 sl c307_done a308 n308 a309 n309) (fun r => r.1.toInt ≤ 5 ∧ 0 ≤ r.1.toInt ∧ ((r.2.2.1 : Nat) : Int) ≤ 13824 ∧ 1 ≤ ((r.2.2.1 : Nat) : Int) ∧ ((r.2.2.2.2 : Nat) : Int) ≤ 13824 ∧ 1 ≤ ((r.2.2.2.2 : Nat) : Int) ∧ ((r.2.2.1 : Nat) : Int) ≤ ((r.2.2.2.2 : Nat) : Int) ∧ ((r.2.2.2.2 : Nat) : Int) ≤ ((r.2.2.1 : Nat) : Int) ∧ c267_lawfulOnes.toInt ≤ ((r.2.2.1 : Nat) : Int) ∧ c267_total.toInt ≤ ((r.2.2.1 : Nat) : Int) ∧ (((dz_kt κ : Nat) : Int) ≤ ((r.2.2.1 : Nat) : Int)) ∧ (((gh_n308 : Nat) : Int) ≤ ((r.2.2.1 : Nat) : Int))))
set_option maxHeartbeats 1000000 in
set_option maxRecDepth 10000 in
theorem t293_X9_swapTimes_h3_s (fu : Nat) (hfu : 1000000000000 ≤ fu) (κ : Nat) (hκ : κ < 14) (U : Nat) (c248_pots : Int32) (c261_many : Int32) (c261_swapsAPot : Int32) (a265 : Nat → Int32) (c267_total : Int32) (c267_lawfulOnes : Int32) (a268 : Nat → Int32) (a269 : Nat → Int32) (n269 : Nat) (a270 : Nat → Int32) (n270 : Nat) (gh_n308 : Nat) (p0 : c248_pots.toInt ≤ 4) (p1 : 0 ≤ c248_pots.toInt) (p2 : c261_many.toInt ≤ 24) (p3 : 0 ≤ c261_many.toInt) (p4 : c261_swapsAPot.toInt ≤ 6) (p5 : 0 ≤ c261_swapsAPot.toInt) (p6 : c267_total.toInt ≤ 13824) (p7 : 1 ≤ c267_total.toInt) (p8 : c267_lawfulOnes.toInt ≤ 13824) (p9 : 0 ≤ c267_lawfulOnes.toInt) (p10 : ((n269 : Nat) : Int) ≤ 13824) (p11 : 1 ≤ ((n269 : Nat) : Int)) (p12 : ((n270 : Nat) : Int) ≤ 13824) (p13 : 1 ≤ ((n270 : Nat) : Int)) (p14 : c267_total.toInt ≤ ((n269 : Nat) : Int)) (p15 : c267_total.toInt ≤ ((n270 : Nat) : Int)) (p16 : c267_lawfulOnes.toInt ≤ c267_total.toInt) (p17 : c267_lawfulOnes.toInt ≤ ((n270 : Nat) : Int)) (p18 : ((n269 : Nat) : Int) ≤ ((n270 : Nat) : Int)) (p19 : ((n270 : Nat) : Int) ≤ ((n269 : Nat) : Int)) (p20 : 1 ≤ c267_lawfulOnes.toInt) (hr_a265 : dz_rt a265 (dz_kr κ) (dz_kw κ) 0 (((dz_kr κ : Nat) : Int) - 1)) (hr_a268 : dz_pt a268 (dz_kS κ)) (hr_a269 : dz_rg a269 n269 0 1023) (hr_a270 : dz_rg a270 c267_lawfulOnes.toInt.toNat 0 (((dz_kt κ : Nat) : Int) - 1)) (o2 : c248_pots.toInt = ((dz_kp κ : Nat) : Int)) (o3 : c261_many.toInt = ((dz_kr κ : Nat) : Int)) (o4 : c261_swapsAPot.toInt = ((dz_kw κ : Nat) : Int)) (o5 : c267_total.toInt = ((dz_kt κ : Nat) : Int)) (k : Nat) (ih : ∀ j9, j9 < k → p293_X9_swapTimes_s fu κ U c248_pots c261_many c261_swapsAPot a265 c267_total c267_lawfulOnes a268 a269 n269 a270 n270 gh_n308 j9) : ∀ (v1 : Int32) (v2 : Int32) (sl : Nat) (c307_done : Int32) (a308 : Nat → Int32) (n308 : Nat) (a309 : Nat → Int32) (n309 : Nat), v1.toInt ≤ 5 → 0 ≤ v1.toInt → v2.toInt ≤ 5 → 0 ≤ v2.toInt → ((sl : Nat) : Int) ≤ 27648 → c307_done.toInt ≤ 5 → 0 ≤ c307_done.toInt → ((n308 : Nat) : Int) ≤ 13824 → 1 ≤ ((n308 : Nat) : Int) → ((n309 : Nat) : Int) ≤ 13824 → 1 ≤ ((n309 : Nat) : Int) → ((n308 : Nat) : Int) ≤ ((n309 : Nat) : Int) → ((n309 : Nat) : Int) ≤ ((n308 : Nat) : Int) → ((sl : Nat) : Int) ≤ ((U : Nat) : Int) → c267_lawfulOnes.toInt ≤ ((n308 : Nat) : Int) → c267_total.toInt ≤ ((n308 : Nat) : Int) → c307_done.toInt ≤ v1.toInt → c307_done.toInt ≤ v2.toInt → v2.toInt ≤ v1.toInt → c307_done.toInt ≤ ((n308 : Nat) : Int) + 4 → ((gh_n308 : Nat) : Int) ≤ ((n308 : Nat) : Int) → 0 + 0 + (5 - v2.toInt) * 14 + 7 ≤ ((k : Nat) : Int) → dz_T ((F293_X9_swapTimes fu U c248_pots c261_many c261_swapsAPot a265 c267_total c267_lawfulOnes a268 a269 n269 a270 n270 k).2.2 v1 v2 sl c307_done a308 n308 a309 n309) (fun r => r.1.toInt ≤ 5 ∧ 0 ≤ r.1.toInt ∧ ((r.2.2.1 : Nat) : Int) ≤ 13824 ∧ 1 ≤ ((r.2.2.1 : Nat) : Int) ∧ ((r.2.2.2.2 : Nat) : Int) ≤ 13824 ∧ 1 ≤ ((r.2.2.2.2 : Nat) : Int) ∧ ((r.2.2.1 : Nat) : Int) ≤ ((r.2.2.2.2 : Nat) : Int) ∧ ((r.2.2.2.2 : Nat) : Int) ≤ ((r.2.2.1 : Nat) : Int) ∧ c267_lawfulOnes.toInt ≤ ((r.2.2.1 : Nat) : Int) ∧ c267_total.toInt ≤ ((r.2.2.1 : Nat) : Int) ∧ (((dz_kt κ : Nat) : Int) ≤ ((r.2.2.1 : Nat) : Int)) ∧ (((gh_n308 : Nat) : Int) ≤ ((r.2.2.1 : Nat) : Int))) := by
  intro v1 v2 sl c307_done a308 n308 a309 n309 i0 i1 i2 i3 i4 i5 i6 i7 i8 i9 i10 i11 i12 i13 i14 i15 i16 i17 i18 i19 x0 hm
  obtain ⟨k0, rfl⟩ : ∃ x, k = x + 1 := ⟨k - 1, by omega⟩
  show dz_T (s293_X9_swapTimes_3 fu U c248_pots c261_many c261_swapsAPot a265 c267_total c267_lawfulOnes a268 a269 n269 a270 n270 (F293_X9_swapTimes fu U c248_pots c261_many c261_swapsAPot a265 c267_total c267_lawfulOnes a268 a269 n269 a270 n270 k0).2.2  v1 v2 sl c307_done a308 n308 a309 n309) _
  unfold s293_X9_swapTimes_3
  refine dz_Tg (by omega) ?_
  refine dz_Tle (fun h1 => ?_) (fun h1 => ?_)
  · skip
    refine dz_Ts ?_
    dsimp only
    exact ⟨i0, i1, i7, i8, i9, i10, i11, i12, i14, i15, (by omega), (by omega)⟩
  · skip
    refine dz_Tb (t292_X9_swapOnce_s fu hfu κ hκ _ _ _ _ _ _ _ _ _ _ _ _ _ _ _ p0 p1 p2 p3 p4 p5 p6 p7 p8 (by first | assumption | omega) p10 p11 p12 p13 i7 i8 i9 i10 p14 p15 p16 p17 i11 i12 p18 p19 i15 (hr_a265) (hr_a268) (hr_a269) (hr_a270) o2 o3 o4 o5) (fun r1 q => ?_)
    obtain ⟨q1_0, q1_1, q1_2, q1_3, q1_4, q1_5, q1_6, q1_7, qo1_0⟩ := q
    have e2 := dz_l1
    have e3 := dz_add (a := v2) (b := (1 : Int32)) (by omega) (by omega)
    exact (ih k0 (by omega)) v1 (v2 + (1 : Int32)) sl c307_done r1.1 r1.2.1 r1.2.2.1 r1.2.2.2 i0 i1 (by omega) (by omega) i4 i5 i6 q1_0 q1_1 q1_2 q1_3 q1_4 q1_5 i13 q1_6 q1_7 i16 (by omega) (by omega) (by first | assumption | omega) (by omega) (by omega)
theorem t293_X9_swapTimes_I_s (fu : Nat) (hfu : 1000000000000 ≤ fu) (κ : Nat) (hκ : κ < 14) (U : Nat) (c248_pots : Int32) (c261_many : Int32) (c261_swapsAPot : Int32) (a265 : Nat → Int32) (c267_total : Int32) (c267_lawfulOnes : Int32) (a268 : Nat → Int32) (a269 : Nat → Int32) (n269 : Nat) (a270 : Nat → Int32) (n270 : Nat) (gh_n308 : Nat) (p0 : c248_pots.toInt ≤ 4) (p1 : 0 ≤ c248_pots.toInt) (p2 : c261_many.toInt ≤ 24) (p3 : 0 ≤ c261_many.toInt) (p4 : c261_swapsAPot.toInt ≤ 6) (p5 : 0 ≤ c261_swapsAPot.toInt) (p6 : c267_total.toInt ≤ 13824) (p7 : 1 ≤ c267_total.toInt) (p8 : c267_lawfulOnes.toInt ≤ 13824) (p9 : 0 ≤ c267_lawfulOnes.toInt) (p10 : ((n269 : Nat) : Int) ≤ 13824) (p11 : 1 ≤ ((n269 : Nat) : Int)) (p12 : ((n270 : Nat) : Int) ≤ 13824) (p13 : 1 ≤ ((n270 : Nat) : Int)) (p14 : c267_total.toInt ≤ ((n269 : Nat) : Int)) (p15 : c267_total.toInt ≤ ((n270 : Nat) : Int)) (p16 : c267_lawfulOnes.toInt ≤ c267_total.toInt) (p17 : c267_lawfulOnes.toInt ≤ ((n270 : Nat) : Int)) (p18 : ((n269 : Nat) : Int) ≤ ((n270 : Nat) : Int)) (p19 : ((n270 : Nat) : Int) ≤ ((n269 : Nat) : Int)) (p20 : 1 ≤ c267_lawfulOnes.toInt) (hr_a265 : dz_rt a265 (dz_kr κ) (dz_kw κ) 0 (((dz_kr κ : Nat) : Int) - 1)) (hr_a268 : dz_pt a268 (dz_kS κ)) (hr_a269 : dz_rg a269 n269 0 1023) (hr_a270 : dz_rg a270 c267_lawfulOnes.toInt.toNat 0 (((dz_kt κ : Nat) : Int) - 1)) (o2 : c248_pots.toInt = ((dz_kp κ : Nat) : Int)) (o3 : c261_many.toInt = ((dz_kr κ : Nat) : Int)) (o4 : c261_swapsAPot.toInt = ((dz_kw κ : Nat) : Int)) (o5 : c267_total.toInt = ((dz_kt κ : Nat) : Int)) (k : Nat) : p293_X9_swapTimes_s fu κ U c248_pots c261_many c261_swapsAPot a265 c267_total c267_lawfulOnes a268 a269 n269 a270 n270 gh_n308 k := by
  induction k using Nat.strongRecOn with
  | _ k ih => exact t293_X9_swapTimes_h3_s fu hfu κ hκ U c248_pots c261_many c261_swapsAPot a265 c267_total c267_lawfulOnes a268 a269 n269 a270 n270 gh_n308 p0 p1 p2 p3 p4 p5 p6 p7 p8 p9 p10 p11 p12 p13 p14 p15 p16 p17 p18 p19 p20 hr_a265 hr_a268 hr_a269 hr_a270 o2 o3 o4 o5 k ih
set_option maxHeartbeats 1000000 in
set_option maxRecDepth 10000 in
theorem t293_X9_swapTimes_E_s (fu : Nat) (hfu : 1000000000000 ≤ fu) (κ : Nat) (hκ : κ < 14) (U : Nat) (c248_pots : Int32) (c261_many : Int32) (c261_swapsAPot : Int32) (a265 : Nat → Int32) (c267_total : Int32) (c267_lawfulOnes : Int32) (a268 : Nat → Int32) (a269 : Nat → Int32) (n269 : Nat) (a270 : Nat → Int32) (n270 : Nat) (v1 : Int32) (c307_done : Int32) (a308 : Nat → Int32) (n308 : Nat) (a309 : Nat → Int32) (n309 : Nat) (p0 : c248_pots.toInt ≤ 4) (p1 : 0 ≤ c248_pots.toInt) (p2 : c261_many.toInt ≤ 24) (p3 : 0 ≤ c261_many.toInt) (p4 : c261_swapsAPot.toInt ≤ 6) (p5 : 0 ≤ c261_swapsAPot.toInt) (p6 : c267_total.toInt ≤ 13824) (p7 : 1 ≤ c267_total.toInt) (p8 : c267_lawfulOnes.toInt ≤ 13824) (p9 : 0 ≤ c267_lawfulOnes.toInt) (p10 : ((n269 : Nat) : Int) ≤ 13824) (p11 : 1 ≤ ((n269 : Nat) : Int)) (p12 : ((n270 : Nat) : Int) ≤ 13824) (p13 : 1 ≤ ((n270 : Nat) : Int)) (p14 : c307_done.toInt ≤ 5) (p15 : (-1) ≤ c307_done.toInt) (p16 : ((n308 : Nat) : Int) ≤ 13824) (p17 : 1 ≤ ((n308 : Nat) : Int)) (p18 : ((n309 : Nat) : Int) ≤ 13824) (p19 : 1 ≤ ((n309 : Nat) : Int)) (p20 : c267_total.toInt ≤ ((n269 : Nat) : Int)) (p21 : c267_total.toInt ≤ ((n270 : Nat) : Int)) (p22 : c267_lawfulOnes.toInt ≤ c267_total.toInt) (p23 : c267_lawfulOnes.toInt ≤ ((n270 : Nat) : Int)) (p24 : ((n308 : Nat) : Int) ≤ ((n309 : Nat) : Int)) (p25 : ((n309 : Nat) : Int) ≤ ((n308 : Nat) : Int)) (p26 : ((n269 : Nat) : Int) ≤ ((n270 : Nat) : Int)) (p27 : ((n270 : Nat) : Int) ≤ ((n269 : Nat) : Int)) (p28 : 0 ≤ v1.toInt) (p29 : v1.toInt ≤ 5) (p30 : 1 ≤ c267_lawfulOnes.toInt) (hr_a265 : dz_rt a265 (dz_kr κ) (dz_kw κ) 0 (((dz_kr κ : Nat) : Int) - 1)) (hr_a268 : dz_pt a268 (dz_kS κ)) (hr_a269 : dz_rg a269 n269 0 1023) (hr_a270 : dz_rg a270 c267_lawfulOnes.toInt.toNat 0 (((dz_kt κ : Nat) : Int) - 1)) (o0 : dz_needC c267_total n308 ≤ U) (o1 : c307_done.toInt = -1 ∨ ((dz_kt κ : Nat) : Int) ≤ n308) (o2 : c248_pots.toInt = ((dz_kp κ : Nat) : Int)) (o3 : c261_many.toInt = ((dz_kr κ : Nat) : Int)) (o4 : c261_swapsAPot.toInt = ((dz_kw κ : Nat) : Int)) (o5 : c267_total.toInt = ((dz_kt κ : Nat) : Int)) (kv : Nat) (hkv : 1000000000000 ≤ kv) : dz_T (s293_X9_swapTimes_0 fu U c248_pots c261_many c261_swapsAPot a265 c267_total c267_lawfulOnes a268 a269 n269 a270 n270 (F293_X9_swapTimes fu U c248_pots c261_many c261_swapsAPot a265 c267_total c267_lawfulOnes a268 a269 n269 a270 n270 kv).1 (F293_X9_swapTimes fu U c248_pots c261_many c261_swapsAPot a265 c267_total c267_lawfulOnes a268 a269 n269 a270 n270 kv).2.1  v1 c307_done a308 n308 a309 n309) (fun r => r.1.toInt ≤ 5 ∧ 0 ≤ r.1.toInt ∧ ((r.2.2.1 : Nat) : Int) ≤ 13824 ∧ 1 ≤ ((r.2.2.1 : Nat) : Int) ∧ ((r.2.2.2.2 : Nat) : Int) ≤ 13824 ∧ 1 ≤ ((r.2.2.2.2 : Nat) : Int) ∧ ((r.2.2.1 : Nat) : Int) ≤ ((r.2.2.2.2 : Nat) : Int) ∧ ((r.2.2.2.2 : Nat) : Int) ≤ ((r.2.2.1 : Nat) : Int) ∧ c267_lawfulOnes.toInt ≤ ((r.2.2.1 : Nat) : Int) ∧ c267_total.toInt ≤ ((r.2.2.1 : Nat) : Int) ∧ (((dz_kt κ : Nat) : Int) ≤ ((r.2.2.1 : Nat) : Int)) ∧ (((n308 : Nat) : Int) ≤ ((r.2.2.1 : Nat) : Int))) := by
  unfold s293_X9_swapTimes_0
  have e1 := dz_lm1
  refine dz_Teq (fun h2 => ?_) (fun h2 => ?_)
  · skip
    obtain ⟨k1, rfl⟩ : ∃ x, kv = x + 1 := ⟨kv - 1, by omega⟩
    show dz_T (s293_X9_swapTimes_1 fu U c248_pots c261_many c261_swapsAPot a265 c267_total c267_lawfulOnes a268 a269 n269 a270 n270 (F293_X9_swapTimes fu U c248_pots c261_many c261_swapsAPot a265 c267_total c267_lawfulOnes a268 a269 n269 a270 n270 k1).2.1 v1 0 c307_done a308 n308 a309 n309) _
    unfold s293_X9_swapTimes_1
    refine dz_Tg (by omega) ?_
    have e3 := dz_needCb (total := c267_total) (n := n308) (by omega) (by omega)
    refine dz_Tg (by omega) ?_
    refine dz_Tb (t282_X9_clearRows_s fu hfu κ hκ _ _ _ _ _ _ _ p6 p7 p14 p15 p16 p17 p18 p19 p24 p25 ((by first | exact Nat.le_refl _ | assumption)) o5) (fun r1 q => ?_)
    obtain ⟨q1_0, q1_1, q1_2, q1_3, q1_4, q1_5, q1_6, q1_7, q1_8, q1_9, q1_10, qo1_0⟩ := q
    have e4 := dz_l0
    refine dz_Tin (by omega) (by omega) ?_
    have e5 := dz_rgat (hr_a270) (i := (0 : Int32)) (by omega) (by omega)
    have e6 := dz_kt4 hκ
    refine dz_Tin (by omega) (by omega) ?_
    obtain ⟨k2, rfl⟩ : ∃ x, k1 = x + 1 := ⟨k1 - 1, by omega⟩
    show dz_T (s293_X9_swapTimes_2 fu U c248_pots c261_many c261_swapsAPot a265 c267_total c267_lawfulOnes a268 a269 n269 a270 n270 (F293_X9_swapTimes fu U c248_pots c261_many c261_swapsAPot a265 c267_total c267_lawfulOnes a268 a269 n269 a270 n270 k2).2.2 v1 (0 + (dz_needC c267_total n308)) (0 : Int32) (upd r1.2.1 (a270 (0 : Int32).toNatClampNeg).toNatClampNeg (1 : Int32)) r1.2.2.1 r1.2.2.2.1 r1.2.2.2.2) _
    unfold s293_X9_swapTimes_2
    refine dz_Tg (by omega) ?_
    exact (t293_X9_swapTimes_I_s fu hfu κ hκ U c248_pots c261_many c261_swapsAPot a265 c267_total c267_lawfulOnes a268 a269 n269 a270 n270 n308 p0 p1 p2 p3 p4 p5 p6 p7 p8 p9 p10 p11 p12 p13 p20 p21 p22 p23 p26 p27 p30 hr_a265 hr_a268 hr_a269 hr_a270 o2 o3 o4 o5 k2) v1 (0 : Int32) (0 + (dz_needC c267_total n308)) (0 : Int32) (upd r1.2.1 (a270 (0 : Int32).toNatClampNeg).toNatClampNeg (1 : Int32)) r1.2.2.1 r1.2.2.2.1 r1.2.2.2.2 p29 p28 (by omega) (by omega) (by omega) (by omega) (by omega) q1_2 q1_3 q1_4 q1_5 q1_8 q1_9 (by omega) (by first | assumption | omega) q1_10 (by omega) (by omega) (by omega) (by omega) (by omega) (by omega)
  · skip
    refine dz_Tle (fun h7 => ?_) (fun h7 => ?_)
    · skip
      obtain ⟨k3, rfl⟩ : ∃ x, kv = x + 1 := ⟨kv - 1, by omega⟩
      show dz_T (s293_X9_swapTimes_2 fu U c248_pots c261_many c261_swapsAPot a265 c267_total c267_lawfulOnes a268 a269 n269 a270 n270 (F293_X9_swapTimes fu U c248_pots c261_many c261_swapsAPot a265 c267_total c267_lawfulOnes a268 a269 n269 a270 n270 k3).2.2 v1 0 c307_done a308 n308 a309 n309) _
      unfold s293_X9_swapTimes_2
      refine dz_Tg (by omega) ?_
      exact (t293_X9_swapTimes_I_s fu hfu κ hκ U c248_pots c261_many c261_swapsAPot a265 c267_total c267_lawfulOnes a268 a269 n269 a270 n270 n308 p0 p1 p2 p3 p4 p5 p6 p7 p8 p9 p10 p11 p12 p13 p20 p21 p22 p23 p26 p27 p30 hr_a265 hr_a268 hr_a269 hr_a270 o2 o3 o4 o5 k3) v1 c307_done 0 c307_done a308 n308 a309 n309 p29 p28 p14 (by first | assumption | omega) (by first | assumption | omega) p14 (by first | assumption | omega) p16 p17 p18 p19 p24 p25 (by first | assumption | omega) (by first | assumption | omega) (by first | assumption | omega) (by first | assumption | omega) (by first | assumption | omega) (by first | assumption | omega) (by first | assumption | omega) (by omega) (by omega)
    · skip
      obtain ⟨k4, rfl⟩ : ∃ x, kv = x + 1 := ⟨kv - 1, by omega⟩
      show dz_T (s293_X9_swapTimes_1 fu U c248_pots c261_many c261_swapsAPot a265 c267_total c267_lawfulOnes a268 a269 n269 a270 n270 (F293_X9_swapTimes fu U c248_pots c261_many c261_swapsAPot a265 c267_total c267_lawfulOnes a268 a269 n269 a270 n270 k4).2.1 v1 0 c307_done a308 n308 a309 n309) _
      unfold s293_X9_swapTimes_1
      refine dz_Tg (by omega) ?_
      have e8 := dz_needCb (total := c267_total) (n := n308) (by omega) (by omega)
      refine dz_Tg (by omega) ?_
      refine dz_Tb (t282_X9_clearRows_s fu hfu κ hκ _ _ _ _ _ _ _ p6 p7 p14 p15 p16 p17 p18 p19 p24 p25 ((by first | exact Nat.le_refl _ | assumption)) o5) (fun r2 q => ?_)
      obtain ⟨q2_0, q2_1, q2_2, q2_3, q2_4, q2_5, q2_6, q2_7, q2_8, q2_9, q2_10, qo2_0⟩ := q
      have e9 := dz_l0
      refine dz_Tin (by omega) (by omega) ?_
      have e10 := dz_rgat (hr_a270) (i := (0 : Int32)) (by omega) (by omega)
      have e11 := dz_kt4 hκ
      refine dz_Tin (by omega) (by omega) ?_
      obtain ⟨k5, rfl⟩ : ∃ x, k4 = x + 1 := ⟨k4 - 1, by omega⟩
      show dz_T (s293_X9_swapTimes_2 fu U c248_pots c261_many c261_swapsAPot a265 c267_total c267_lawfulOnes a268 a269 n269 a270 n270 (F293_X9_swapTimes fu U c248_pots c261_many c261_swapsAPot a265 c267_total c267_lawfulOnes a268 a269 n269 a270 n270 k5).2.2 v1 (0 + (dz_needC c267_total n308)) (0 : Int32) (upd r2.2.1 (a270 (0 : Int32).toNatClampNeg).toNatClampNeg (1 : Int32)) r2.2.2.1 r2.2.2.2.1 r2.2.2.2.2) _
      unfold s293_X9_swapTimes_2
      refine dz_Tg (by omega) ?_
      exact (t293_X9_swapTimes_I_s fu hfu κ hκ U c248_pots c261_many c261_swapsAPot a265 c267_total c267_lawfulOnes a268 a269 n269 a270 n270 n308 p0 p1 p2 p3 p4 p5 p6 p7 p8 p9 p10 p11 p12 p13 p20 p21 p22 p23 p26 p27 p30 hr_a265 hr_a268 hr_a269 hr_a270 o2 o3 o4 o5 k5) v1 (0 : Int32) (0 + (dz_needC c267_total n308)) (0 : Int32) (upd r2.2.1 (a270 (0 : Int32).toNatClampNeg).toNatClampNeg (1 : Int32)) r2.2.2.1 r2.2.2.2.1 r2.2.2.2.2 p29 p28 (by omega) (by omega) (by omega) (by omega) (by omega) q2_2 q2_3 q2_4 q2_5 q2_8 q2_9 (by omega) (by first | assumption | omega) q2_10 (by omega) (by omega) (by omega) (by omega) (by omega) (by omega)
theorem t293_X9_swapTimes_s (fu : Nat) (hfu : 1000000000000 ≤ fu) (κ : Nat) (hκ : κ < 14) (U : Nat) (c248_pots : Int32) (c261_many : Int32) (c261_swapsAPot : Int32) (a265 : Nat → Int32) (c267_total : Int32) (c267_lawfulOnes : Int32) (a268 : Nat → Int32) (a269 : Nat → Int32) (n269 : Nat) (a270 : Nat → Int32) (n270 : Nat) (v1 : Int32) (c307_done : Int32) (a308 : Nat → Int32) (n308 : Nat) (a309 : Nat → Int32) (n309 : Nat) (p0 : c248_pots.toInt ≤ 4) (p1 : 0 ≤ c248_pots.toInt) (p2 : c261_many.toInt ≤ 24) (p3 : 0 ≤ c261_many.toInt) (p4 : c261_swapsAPot.toInt ≤ 6) (p5 : 0 ≤ c261_swapsAPot.toInt) (p6 : c267_total.toInt ≤ 13824) (p7 : 1 ≤ c267_total.toInt) (p8 : c267_lawfulOnes.toInt ≤ 13824) (p9 : 0 ≤ c267_lawfulOnes.toInt) (p10 : ((n269 : Nat) : Int) ≤ 13824) (p11 : 1 ≤ ((n269 : Nat) : Int)) (p12 : ((n270 : Nat) : Int) ≤ 13824) (p13 : 1 ≤ ((n270 : Nat) : Int)) (p14 : c307_done.toInt ≤ 5) (p15 : (-1) ≤ c307_done.toInt) (p16 : ((n308 : Nat) : Int) ≤ 13824) (p17 : 1 ≤ ((n308 : Nat) : Int)) (p18 : ((n309 : Nat) : Int) ≤ 13824) (p19 : 1 ≤ ((n309 : Nat) : Int)) (p20 : c267_total.toInt ≤ ((n269 : Nat) : Int)) (p21 : c267_total.toInt ≤ ((n270 : Nat) : Int)) (p22 : c267_lawfulOnes.toInt ≤ c267_total.toInt) (p23 : c267_lawfulOnes.toInt ≤ ((n270 : Nat) : Int)) (p24 : ((n308 : Nat) : Int) ≤ ((n309 : Nat) : Int)) (p25 : ((n309 : Nat) : Int) ≤ ((n308 : Nat) : Int)) (p26 : ((n269 : Nat) : Int) ≤ ((n270 : Nat) : Int)) (p27 : ((n270 : Nat) : Int) ≤ ((n269 : Nat) : Int)) (p28 : 0 ≤ v1.toInt) (p29 : v1.toInt ≤ 5) (p30 : 1 ≤ c267_lawfulOnes.toInt) (hr_a265 : dz_rt a265 (dz_kr κ) (dz_kw κ) 0 (((dz_kr κ : Nat) : Int) - 1)) (hr_a268 : dz_pt a268 (dz_kS κ)) (hr_a269 : dz_rg a269 n269 0 1023) (hr_a270 : dz_rg a270 c267_lawfulOnes.toInt.toNat 0 (((dz_kt κ : Nat) : Int) - 1)) (o0 : dz_needC c267_total n308 ≤ U) (o1 : c307_done.toInt = -1 ∨ ((dz_kt κ : Nat) : Int) ≤ n308) (o2 : c248_pots.toInt = ((dz_kp κ : Nat) : Int)) (o3 : c261_many.toInt = ((dz_kr κ : Nat) : Int)) (o4 : c261_swapsAPot.toInt = ((dz_kw κ : Nat) : Int)) (o5 : c267_total.toInt = ((dz_kt κ : Nat) : Int)) : dz_T (f293_X9_swapTimes fu U c248_pots c261_many c261_swapsAPot a265 c267_total c267_lawfulOnes a268 a269 n269 a270 n270 v1 c307_done a308 n308 a309 n309) (fun r => r.1.toInt ≤ 5 ∧ 0 ≤ r.1.toInt ∧ ((r.2.2.1 : Nat) : Int) ≤ 13824 ∧ 1 ≤ ((r.2.2.1 : Nat) : Int) ∧ ((r.2.2.2.2 : Nat) : Int) ≤ 13824 ∧ 1 ≤ ((r.2.2.2.2 : Nat) : Int) ∧ ((r.2.2.1 : Nat) : Int) ≤ ((r.2.2.2.2 : Nat) : Int) ∧ ((r.2.2.2.2 : Nat) : Int) ≤ ((r.2.2.1 : Nat) : Int) ∧ c267_lawfulOnes.toInt ≤ ((r.2.2.1 : Nat) : Int) ∧ c267_total.toInt ≤ ((r.2.2.1 : Nat) : Int) ∧ (((dz_kt κ : Nat) : Int) ≤ ((r.2.2.1 : Nat) : Int)) ∧ (((n308 : Nat) : Int) ≤ ((r.2.2.1 : Nat) : Int))) :=
  t293_X9_swapTimes_E_s fu hfu κ hκ U c248_pots c261_many c261_swapsAPot a265 c267_total c267_lawfulOnes a268 a269 n269 a270 n270 v1 c307_done a308 n308 a309 n309 p0 p1 p2 p3 p4 p5 p6 p7 p8 p9 p10 p11 p12 p13 p14 p15 p16 p17 p18 p19 p20 p21 p22 p23 p24 p25 p26 p27 p28 p29 p30 hr_a265 hr_a268 hr_a269 hr_a270 o0 o1 o2 o3 o4 o5 fu hfu
set_option maxHeartbeats 1000000 in
set_option maxRecDepth 10000 in
theorem t294_X9_rowsTo_s (fu : Nat) (hfu : 1000000000000 ≤ fu) (κ : Nat) (hκ : κ < 14) (U : Nat) (c248_pots : Int32) (c261_many : Int32) (c261_swapsAPot : Int32) (a265 : Nat → Int32) (c267_total : Int32) (c267_lawfulOnes : Int32) (a268 : Nat → Int32) (a269 : Nat → Int32) (n269 : Nat) (a270 : Nat → Int32) (n270 : Nat) (v1 : Int32) (v2 : Int32) (c307_done : Int32) (a308 : Nat → Int32) (n308 : Nat) (a309 : Nat → Int32) (n309 : Nat) (p0 : c248_pots.toInt ≤ 4) (p1 : 0 ≤ c248_pots.toInt) (p2 : c261_many.toInt ≤ 24) (p3 : 0 ≤ c261_many.toInt) (p4 : c261_swapsAPot.toInt ≤ 6) (p5 : 0 ≤ c261_swapsAPot.toInt) (p6 : c267_total.toInt ≤ 13824) (p7 : 1 ≤ c267_total.toInt) (p8 : c267_lawfulOnes.toInt ≤ 13824) (p9 : 0 ≤ c267_lawfulOnes.toInt) (p10 : ((n269 : Nat) : Int) ≤ 13824) (p11 : 1 ≤ ((n269 : Nat) : Int)) (p12 : ((n270 : Nat) : Int) ≤ 13824) (p13 : 1 ≤ ((n270 : Nat) : Int)) (p14 : c307_done.toInt ≤ 5) (p15 : (-1) ≤ c307_done.toInt) (p16 : ((n308 : Nat) : Int) ≤ 13824) (p17 : 1 ≤ ((n308 : Nat) : Int)) (p18 : ((n309 : Nat) : Int) ≤ 13824) (p19 : 1 ≤ ((n309 : Nat) : Int)) (p20 : c267_total.toInt ≤ ((n269 : Nat) : Int)) (p21 : c267_total.toInt ≤ ((n270 : Nat) : Int)) (p22 : c267_lawfulOnes.toInt ≤ c267_total.toInt) (p23 : c267_lawfulOnes.toInt ≤ ((n270 : Nat) : Int)) (p24 : ((n308 : Nat) : Int) ≤ ((n309 : Nat) : Int)) (p25 : ((n309 : Nat) : Int) ≤ ((n308 : Nat) : Int)) (p26 : ((n269 : Nat) : Int) ≤ ((n270 : Nat) : Int)) (p27 : ((n270 : Nat) : Int) ≤ ((n269 : Nat) : Int)) (p28 : 0 ≤ v1.toInt) (p29 : v1.toInt ≤ 5) (p30 : 1 ≤ c267_lawfulOnes.toInt) (p31 : 0 ≤ v2.toInt) (p32 : v2.toInt + 1 ≤ c267_total.toInt) (p33 : v2.toInt ≤ 13823) (hr_a265 : dz_rt a265 (dz_kr κ) (dz_kw κ) 0 (((dz_kr κ : Nat) : Int) - 1)) (hr_a268 : dz_pt a268 (dz_kS κ)) (hr_a269 : dz_rg a269 n269 0 1023) (hr_a270 : dz_rg a270 c267_lawfulOnes.toInt.toNat 0 (((dz_kt κ : Nat) : Int) - 1)) (o0 : dz_needC c267_total n308 ≤ U) (o1 : c307_done.toInt = -1 ∨ ((dz_kt κ : Nat) : Int) ≤ n308) (o2 : c248_pots.toInt = ((dz_kp κ : Nat) : Int)) (o3 : c261_many.toInt = ((dz_kr κ : Nat) : Int)) (o4 : c261_swapsAPot.toInt = ((dz_kw κ : Nat) : Int)) (o5 : c267_total.toInt = ((dz_kt κ : Nat) : Int)) : dz_T (f294_X9_rowsTo fu U c248_pots c261_many c261_swapsAPot a265 c267_total c267_lawfulOnes a268 a269 n269 a270 n270 v1 v2 c307_done a308 n308 a309 n309) (fun r => r.2.1.toInt ≤ 5 ∧ 0 ≤ r.2.1.toInt ∧ ((r.2.2.2.1 : Nat) : Int) ≤ 13824 ∧ 1 ≤ ((r.2.2.2.1 : Nat) : Int) ∧ ((r.2.2.2.2.2 : Nat) : Int) ≤ 13824 ∧ 1 ≤ ((r.2.2.2.2.2 : Nat) : Int) ∧ ((r.2.2.2.1 : Nat) : Int) ≤ ((r.2.2.2.2.2 : Nat) : Int) ∧ ((r.2.2.2.2.2 : Nat) : Int) ≤ ((r.2.2.2.1 : Nat) : Int) ∧ c267_lawfulOnes.toInt ≤ ((r.2.2.2.1 : Nat) : Int) ∧ c267_total.toInt ≤ ((r.2.2.2.1 : Nat) : Int) ∧ (((dz_kt κ : Nat) : Int) ≤ ((r.2.2.2.1 : Nat) : Int)) ∧ (((n308 : Nat) : Int) ≤ ((r.2.2.2.1 : Nat) : Int))) := by
  unfold f294_X9_rowsTo s294_X9_rowsTo_0
  have e1 := dz_needCb (total := c267_total) (n := n308) (by omega) (by omega)
  refine dz_Tg (by omega) ?_
  refine dz_Tb (t293_X9_swapTimes_s fu hfu κ hκ _ _ _ _ _ _ _ _ _ _ _ _ _ _ _ _ _ _ p0 p1 p2 p3 p4 p5 p6 p7 p8 (by first | assumption | omega) p10 p11 p12 p13 p14 p15 p16 p17 p18 p19 p20 p21 p22 p23 p24 p25 p26 p27 p28 p29 p30 (hr_a265) (hr_a268) (hr_a269) (hr_a270) ((by first | exact Nat.le_refl _ | assumption)) o1 o2 o3 o4 o5) (fun r1 q => ?_)
  obtain ⟨q1_0, q1_1, q1_2, q1_3, q1_4, q1_5, q1_6, q1_7, q1_8, q1_9, qo1_0, qo1_1⟩ := q
  refine dz_Tin (by omega) (by omega) ?_
  refine dz_Ts ?_
  dsimp only
  exact ⟨q1_0, q1_1, q1_2, q1_3, q1_4, q1_5, q1_6, q1_7, q1_8, q1_9, (by omega), (by omega)⟩
set_option maxHeartbeats 1000000 in
set_option maxRecDepth 10000 in
theorem t295_X11_mix_s (fu : Nat) (hfu : 1000000000000 ≤ fu) (κ : Nat) (hκ : κ < 14) (U : Nat) (c248_pots : Int32) (c261_many : Int32) (c261_swapsAPot : Int32) (a265 : Nat → Int32) (c267_total : Int32) (c267_lawfulOnes : Int32) (a268 : Nat → Int32) (a269 : Nat → Int32) (n269 : Nat) (a270 : Nat → Int32) (n270 : Nat) (v1 : Int32) (v2 : Int32) (c307_done : Int32) (a308 : Nat → Int32) (n308 : Nat) (a309 : Nat → Int32) (n309 : Nat) (p0 : c248_pots.toInt ≤ 4) (p1 : 0 ≤ c248_pots.toInt) (p2 : c261_many.toInt ≤ 24) (p3 : 0 ≤ c261_many.toInt) (p4 : c261_swapsAPot.toInt ≤ 6) (p5 : 0 ≤ c261_swapsAPot.toInt) (p6 : c267_total.toInt ≤ 13824) (p7 : 1 ≤ c267_total.toInt) (p8 : c267_lawfulOnes.toInt ≤ 13824) (p9 : 0 ≤ c267_lawfulOnes.toInt) (p10 : ((n269 : Nat) : Int) ≤ 13824) (p11 : 1 ≤ ((n269 : Nat) : Int)) (p12 : ((n270 : Nat) : Int) ≤ 13824) (p13 : 1 ≤ ((n270 : Nat) : Int)) (p14 : c307_done.toInt ≤ 5) (p15 : (-1) ≤ c307_done.toInt) (p16 : ((n308 : Nat) : Int) ≤ 13824) (p17 : 1 ≤ ((n308 : Nat) : Int)) (p18 : ((n309 : Nat) : Int) ≤ 13824) (p19 : 1 ≤ ((n309 : Nat) : Int)) (p20 : c267_total.toInt ≤ ((n269 : Nat) : Int)) (p21 : c267_total.toInt ≤ ((n270 : Nat) : Int)) (p22 : c267_lawfulOnes.toInt ≤ c267_total.toInt) (p23 : c267_lawfulOnes.toInt ≤ ((n270 : Nat) : Int)) (p24 : ((n308 : Nat) : Int) ≤ ((n309 : Nat) : Int)) (p25 : ((n309 : Nat) : Int) ≤ ((n308 : Nat) : Int)) (p26 : ((n269 : Nat) : Int) ≤ ((n270 : Nat) : Int)) (p27 : ((n270 : Nat) : Int) ≤ ((n269 : Nat) : Int)) (hr_a265 : dz_rt a265 (dz_kr κ) (dz_kw κ) 0 (((dz_kr κ : Nat) : Int) - 1)) (hr_a268 : dz_pt a268 (dz_kS κ)) (hr_a269 : dz_rg a269 n269 0 1023) (hr_a270 : dz_rg a270 c267_lawfulOnes.toInt.toNat 0 (((dz_kt κ : Nat) : Int) - 1)) (o0 : dz_needC c267_total n308 ≤ U) (o1 : c307_done.toInt = -1 ∨ ((dz_kt κ : Nat) : Int) ≤ n308) (o2 : c248_pots.toInt = ((dz_kp κ : Nat) : Int)) (o3 : c261_many.toInt = ((dz_kr κ : Nat) : Int)) (o4 : c261_swapsAPot.toInt = ((dz_kw κ : Nat) : Int)) (o5 : c267_total.toInt = ((dz_kt κ : Nat) : Int)) : dz_T (f295_X11_mix fu U c248_pots c261_many c261_swapsAPot a265 c267_total c267_lawfulOnes a268 a269 n269 a270 n270 v1 v2 c307_done a308 n308 a309 n309) (fun r => r.2.1.toInt ≤ 5 ∧ (-1) ≤ r.2.1.toInt ∧ ((r.2.2.2.1 : Nat) : Int) ≤ 13824 ∧ 1 ≤ ((r.2.2.2.1 : Nat) : Int) ∧ ((r.2.2.2.2.2 : Nat) : Int) ≤ 13824 ∧ 1 ≤ ((r.2.2.2.2.2 : Nat) : Int) ∧ ((r.2.2.2.1 : Nat) : Int) ≤ ((r.2.2.2.2.2 : Nat) : Int) ∧ ((r.2.2.2.2.2 : Nat) : Int) ≤ ((r.2.2.2.1 : Nat) : Int) ∧ (((r.2.2.2.1 : Nat) : Int) = ((n308 : Nat) : Int) ∨ ((dz_kt κ : Nat) : Int) ≤ ((r.2.2.2.1 : Nat) : Int)) ∧ (r.2.1.toInt = -1 ∨ ((dz_kt κ : Nat) : Int) ≤ ((r.2.2.2.1 : Nat) : Int)) ∧ (((n308 : Nat) : Int) ≤ ((r.2.2.2.1 : Nat) : Int))) := by
  unfold f295_X11_mix s295_X11_mix_0
  have e1 := dz_l0
  refine dz_Tlt (fun h2 => ?_) (fun h2 => ?_)
  · skip
    have e3 := dz_lm1
    refine dz_Ts ?_
    dsimp only
    exact ⟨p14, p15, p16, p17, p18, p19, p24, p25, (by omega), (by omega), (by omega)⟩
  · skip
    have e4 := dz_l5
    refine dz_Tlt (fun h5 => ?_) (fun h5 => ?_)
    · skip
      have e6 := dz_lm1
      refine dz_Ts ?_
      dsimp only
      exact ⟨p14, p15, p16, p17, p18, p19, p24, p25, (by omega), (by omega), (by omega)⟩
    · skip
      refine dz_Tbe (show f164_X11_isCode fu c267_total v2 = (if (v2 < (0 : Int32)) then (some (0 : Int32)) else (if (c267_total ≤ v2) then (some (0 : Int32)) else (some (1 : Int32)))) from rfl) ?_
      refine dz_Tltb (fun h7 => ?_) (fun h7 => ?_)
      · skip
        refine dz_Tsb ?_
        refine dz_Teq (fun h8 => ?_) (fun h8 => ?_)
        · skip
          have e9 := dz_lm1
          refine dz_Ts ?_
          dsimp only
          exact ⟨p14, p15, p16, p17, p18, p19, p24, p25, (by omega), (by omega), (by omega)⟩
        · skip
          exfalso; omega
      · skip
        refine dz_Tleb (fun h10 => ?_) (fun h10 => ?_)
        · skip
          refine dz_Tsb ?_
          refine dz_Teq (fun h11 => ?_) (fun h11 => ?_)
          · skip
            have e12 := dz_lm1
            refine dz_Ts ?_
            dsimp only
            exact ⟨p14, p15, p16, p17, p18, p19, p24, p25, (by omega), (by omega), (by omega)⟩
          · skip
            exfalso; omega
        · skip
          refine dz_Tsb ?_
          have e13 := dz_l1
          refine dz_Teq (fun h14 => ?_) (fun h14 => ?_)
          · skip
            exfalso; omega
          · skip
            refine dz_Teq (fun h15 => ?_) (fun h15 => ?_)
            · skip
              have e16 := dz_lm1
              refine dz_Ts ?_
              dsimp only
              exact ⟨p14, p15, p16, p17, p18, p19, p24, p25, (by omega), (by omega), (by omega)⟩
            · skip
              have e17 := dz_needCb (total := c267_total) (n := n308) (by omega) (by omega)
              refine dz_Tg (by omega) ?_
              refine dz_Tb (t294_X9_rowsTo_s fu hfu κ hκ _ _ _ _ _ _ _ _ _ _ _ _ _ _ _ _ _ _ _ p0 p1 p2 p3 p4 p5 p6 p7 p8 p9 p10 p11 p12 p13 p14 p15 p16 p17 p18 p19 p20 p21 p22 p23 p24 p25 p26 p27 (by first | assumption | omega) (by first | assumption | omega) (by first | assumption | omega) (by first | assumption | omega) (by first | assumption | omega) (by first | assumption | omega) (hr_a265) (hr_a268) (hr_a269) (hr_a270) ((by first | exact Nat.le_refl _ | assumption)) o1 o2 o3 o4 o5) (fun r2 q => ?_)
              obtain ⟨q2_0, q2_1, q2_2, q2_3, q2_4, q2_5, q2_6, q2_7, q2_8, q2_9, qo2_0, qo2_1⟩ := q
              refine dz_Ts ?_
              dsimp only
              exact ⟨q2_0, (by first | assumption | omega), q2_2, q2_3, q2_4, q2_5, q2_6, q2_7, (by omega), (by omega), (by omega)⟩
abbrev p296_X9_allRows_s (fu : Nat) (κ : Nat) (c248_pots : Int32) (c261_swapsAPot : Int32) (k : Nat) : Prop :=
  (∀ (v1 : Int32) (v2 : Int64) (v4 : Int64) (v6 : Int32), v1.toInt ≤ 5 → 0 ≤ v1.toInt → v6.toInt ≤ 5 → 0 ≤ v6.toInt → v6.toInt ≤ v1.toInt → 0 + 0 + (5 - v6.toInt) * 10 + 5 ≤ ((k : Nat) : Int) → dz_T ((F296_X9_allRows fu c248_pots c261_swapsAPot k) v1 v2 v4 v6) (fun r => True))
set_option maxHeartbeats 1000000 in
set_option maxRecDepth 10000 in
theorem t296_X9_allRows_h1_s (fu : Nat) (hfu : 1000000000000 ≤ fu) (κ : Nat) (hκ : κ < 14) (c248_pots : Int32) (c261_swapsAPot : Int32) (p0 : c248_pots.toInt ≤ 4) (p1 : 0 ≤ c248_pots.toInt) (p2 : c261_swapsAPot.toInt ≤ 6) (p3 : 0 ≤ c261_swapsAPot.toInt) (o0 : c248_pots.toInt = ((dz_kp κ : Nat) : Int)) (o1 : c261_swapsAPot.toInt = ((dz_kw κ : Nat) : Int)) (k : Nat) (ih : ∀ j9, j9 < k → p296_X9_allRows_s fu κ c248_pots c261_swapsAPot j9) : ∀ (v1 : Int32) (v2 : Int64) (v4 : Int64) (v6 : Int32), v1.toInt ≤ 5 → 0 ≤ v1.toInt → v6.toInt ≤ 5 → 0 ≤ v6.toInt → v6.toInt ≤ v1.toInt → 0 + 0 + (5 - v6.toInt) * 10 + 5 ≤ ((k : Nat) : Int) → dz_T ((F296_X9_allRows fu c248_pots c261_swapsAPot k) v1 v2 v4 v6) (fun r => True) := by
  intro v1 v2 v4 v6 i0 i1 i2 i3 i4 hm
  obtain ⟨k0, rfl⟩ : ∃ x, k = x + 1 := ⟨k - 1, by omega⟩
  show dz_T (s296_X9_allRows_1 fu c248_pots c261_swapsAPot (F296_X9_allRows fu c248_pots c261_swapsAPot k0)  v1 v2 v4 v6) _
  unfold s296_X9_allRows_1
  refine dz_Tle (fun h1 => ?_) (fun h1 => ?_)
  · skip
    exact dz_Ts trivial
  · skip
    have e2 := dz_l1
    have e3 := dz_add (a := v6) (b := (1 : Int32)) (by omega) (by omega)
    exact (ih k0 (by omega)) v1 v2 (v4 * v2) (v6 + (1 : Int32)) i0 i1 (by omega) (by omega) (by omega) (by omega)
theorem t296_X9_allRows_I_s (fu : Nat) (hfu : 1000000000000 ≤ fu) (κ : Nat) (hκ : κ < 14) (c248_pots : Int32) (c261_swapsAPot : Int32) (p0 : c248_pots.toInt ≤ 4) (p1 : 0 ≤ c248_pots.toInt) (p2 : c261_swapsAPot.toInt ≤ 6) (p3 : 0 ≤ c261_swapsAPot.toInt) (o0 : c248_pots.toInt = ((dz_kp κ : Nat) : Int)) (o1 : c261_swapsAPot.toInt = ((dz_kw κ : Nat) : Int)) (k : Nat) : p296_X9_allRows_s fu κ c248_pots c261_swapsAPot k := by
  induction k using Nat.strongRecOn with
  | _ k ih => exact t296_X9_allRows_h1_s fu hfu κ hκ c248_pots c261_swapsAPot p0 p1 p2 p3 o0 o1 k ih
set_option maxHeartbeats 1000000 in
set_option maxRecDepth 10000 in
theorem t296_X9_allRows_E_s (fu : Nat) (hfu : 1000000000000 ≤ fu) (κ : Nat) (hκ : κ < 14) (c248_pots : Int32) (c261_swapsAPot : Int32) (v1 : Int32) (p0 : c248_pots.toInt ≤ 4) (p1 : 0 ≤ c248_pots.toInt) (p2 : c261_swapsAPot.toInt ≤ 6) (p3 : 0 ≤ c261_swapsAPot.toInt) (p4 : 0 ≤ v1.toInt) (p5 : v1.toInt ≤ 5) (o0 : c248_pots.toInt = ((dz_kp κ : Nat) : Int)) (o1 : c261_swapsAPot.toInt = ((dz_kw κ : Nat) : Int)) (kv : Nat) (hkv : 1000000000000 ≤ kv) : dz_T (s296_X9_allRows_0 fu c248_pots c261_swapsAPot (F296_X9_allRows fu c248_pots c261_swapsAPot kv)  v1) (fun r => True) := by
  unfold s296_X9_allRows_0
  have e1 := dz_l0
  exact (t296_X9_allRows_I_s fu hfu κ hκ c248_pots c261_swapsAPot p0 p1 p2 p3 o0 o1 kv) v1 (c248_pots * c261_swapsAPot).toInt64 (1 : Int64) (0 : Int32) p5 p4 (by omega) (by omega) (by omega) (by omega)
theorem t296_X9_allRows_s (fu : Nat) (hfu : 1000000000000 ≤ fu) (κ : Nat) (hκ : κ < 14) (c248_pots : Int32) (c261_swapsAPot : Int32) (v1 : Int32) (p0 : c248_pots.toInt ≤ 4) (p1 : 0 ≤ c248_pots.toInt) (p2 : c261_swapsAPot.toInt ≤ 6) (p3 : 0 ≤ c261_swapsAPot.toInt) (p4 : 0 ≤ v1.toInt) (p5 : v1.toInt ≤ 5) (o0 : c248_pots.toInt = ((dz_kp κ : Nat) : Int)) (o1 : c261_swapsAPot.toInt = ((dz_kw κ : Nat) : Int)) : dz_T (f296_X9_allRows fu c248_pots c261_swapsAPot v1) (fun r => True) :=
  t296_X9_allRows_E_s fu hfu κ hκ c248_pots c261_swapsAPot v1 p0 p1 p2 p3 p4 p5 o0 o1 fu hfu
abbrev p297_X9_uneven_s (fu : Nat) (κ : Nat) (U : Nat) (c248_pots : Int32) (c261_many : Int32) (c261_swapsAPot : Int32) (a265 : Nat → Int32) (c267_total : Int32) (c267_lawfulOnes : Int32) (a268 : Nat → Int32) (a269 : Nat → Int32) (n269 : Nat) (a270 : Nat → Int32) (n270 : Nat) (gh_n308 : Nat) (k : Nat) : Prop :=
  (∀ (v2 : Int64) (v4 : Int64) (v6 : Int64) (v8 : Int32) (sl : Nat) (c307_done : Int32) (a308 : Nat → Int32) (n308 : Nat) (a309 : Nat → Int32) (n309 : Nat), v8.toInt ≤ 13824 → 0 ≤ v8.toInt → ((sl : Nat) : Int) ≤ 27648 → c307_done.toInt ≤ 5 → 0 ≤ c307_done.toInt → ((n308 : Nat) : Int) ≤ 13824 → 1 ≤ ((n308 : Nat) : Int) → ((n309 : Nat) : Int) ≤ 13824 → 1 ≤ ((n309 : Nat) : Int) → ((n308 : Nat) : Int) ≤ ((n309 : Nat) : Int) → ((n309 : Nat) : Int) ≤ ((n308 : Nat) : Int) → ((sl : Nat) : Int) ≤ ((U : Nat) : Int) → c267_lawfulOnes.toInt ≤ ((n308 : Nat) : Int) → c267_total.toInt ≤ ((n308 : Nat) : Int) → v8.toInt ≤ ((n269 : Nat) : Int) → v8.toInt ≤ ((n308 : Nat) : Int) → v8.toInt ≤ c267_lawfulOnes.toInt → ((gh_n308 : Nat) : Int) ≤ ((n308 : Nat) : Int) → 0 + 0 + (13824 - v8.toInt) * 10 + 5 ≤ ((k : Nat) : Int) → dz_T ((F297_X9_uneven fu U c248_pots c261_many c261_swapsAPot a265 c267_total c267_lawfulOnes a268 a269 n269 a270 n270 k) v2 v4 v6 v8 sl c307_done a308 n308 a309 n309) (fun r => r.2.1.toInt ≤ 5 ∧ 0 ≤ r.2.1.toInt ∧ ((r.2.2.2.1 : Nat) : Int) ≤ 13824 ∧ 1 ≤ ((r.2.2.2.1 : Nat) : Int) ∧ ((r.2.2.2.2.2 : Nat) : Int) ≤ 13824 ∧ 1 ≤ ((r.2.2.2.2.2 : Nat) : Int) ∧ ((r.2.2.2.1 : Nat) : Int) ≤ ((r.2.2.2.2.2 : Nat) : Int) ∧ ((r.2.2.2.2.2 : Nat) : Int) ≤ ((r.2.2.2.1 : Nat) : Int) ∧ c267_lawfulOnes.toInt ≤ ((r.2.2.2.1 : Nat) : Int) ∧ c267_total.toInt ≤ ((r.2.2.2.1 : Nat) : Int) ∧ (((dz_kt κ : Nat) : Int) ≤ ((r.2.2.2.1 : Nat) : Int)) ∧ (((gh_n308 : Nat) : Int) ≤ ((r.2.2.2.1 : Nat) : Int))))
set_option maxHeartbeats 1000000 in
set_option maxRecDepth 10000 in
theorem t297_X9_uneven_h1_s (fu : Nat) (hfu : 1000000000000 ≤ fu) (κ : Nat) (hκ : κ < 14) (U : Nat) (c248_pots : Int32) (c261_many : Int32) (c261_swapsAPot : Int32) (a265 : Nat → Int32) (c267_total : Int32) (c267_lawfulOnes : Int32) (a268 : Nat → Int32) (a269 : Nat → Int32) (n269 : Nat) (a270 : Nat → Int32) (n270 : Nat) (gh_n308 : Nat) (p0 : c248_pots.toInt ≤ 4) (p1 : 0 ≤ c248_pots.toInt) (p2 : c261_many.toInt ≤ 24) (p3 : 0 ≤ c261_many.toInt) (p4 : c261_swapsAPot.toInt ≤ 6) (p5 : 0 ≤ c261_swapsAPot.toInt) (p6 : c267_total.toInt ≤ 13824) (p7 : 1 ≤ c267_total.toInt) (p8 : c267_lawfulOnes.toInt ≤ 13824) (p9 : 0 ≤ c267_lawfulOnes.toInt) (p10 : ((n269 : Nat) : Int) ≤ 13824) (p11 : 1 ≤ ((n269 : Nat) : Int)) (p12 : ((n270 : Nat) : Int) ≤ 13824) (p13 : 1 ≤ ((n270 : Nat) : Int)) (p14 : c267_total.toInt ≤ ((n269 : Nat) : Int)) (p15 : c267_total.toInt ≤ ((n270 : Nat) : Int)) (p16 : c267_lawfulOnes.toInt ≤ c267_total.toInt) (p17 : c267_lawfulOnes.toInt ≤ ((n270 : Nat) : Int)) (p18 : ((n269 : Nat) : Int) ≤ ((n270 : Nat) : Int)) (p19 : ((n270 : Nat) : Int) ≤ ((n269 : Nat) : Int)) (p20 : 1 ≤ c267_lawfulOnes.toInt) (hr_a265 : dz_rt a265 (dz_kr κ) (dz_kw κ) 0 (((dz_kr κ : Nat) : Int) - 1)) (hr_a268 : dz_pt a268 (dz_kS κ)) (hr_a269 : dz_rg a269 n269 0 1023) (hr_a270 : dz_rg a270 c267_lawfulOnes.toInt.toNat 0 (((dz_kt κ : Nat) : Int) - 1)) (o2 : c248_pots.toInt = ((dz_kp κ : Nat) : Int)) (o3 : c261_many.toInt = ((dz_kr κ : Nat) : Int)) (o4 : c261_swapsAPot.toInt = ((dz_kw κ : Nat) : Int)) (o5 : c267_total.toInt = ((dz_kt κ : Nat) : Int)) (k : Nat) (ih : ∀ j9, j9 < k → p297_X9_uneven_s fu κ U c248_pots c261_many c261_swapsAPot a265 c267_total c267_lawfulOnes a268 a269 n269 a270 n270 gh_n308 j9) : ∀ (v2 : Int64) (v4 : Int64) (v6 : Int64) (v8 : Int32) (sl : Nat) (c307_done : Int32) (a308 : Nat → Int32) (n308 : Nat) (a309 : Nat → Int32) (n309 : Nat), v8.toInt ≤ 13824 → 0 ≤ v8.toInt → ((sl : Nat) : Int) ≤ 27648 → c307_done.toInt ≤ 5 → 0 ≤ c307_done.toInt → ((n308 : Nat) : Int) ≤ 13824 → 1 ≤ ((n308 : Nat) : Int) → ((n309 : Nat) : Int) ≤ 13824 → 1 ≤ ((n309 : Nat) : Int) → ((n308 : Nat) : Int) ≤ ((n309 : Nat) : Int) → ((n309 : Nat) : Int) ≤ ((n308 : Nat) : Int) → ((sl : Nat) : Int) ≤ ((U : Nat) : Int) → c267_lawfulOnes.toInt ≤ ((n308 : Nat) : Int) → c267_total.toInt ≤ ((n308 : Nat) : Int) → v8.toInt ≤ ((n269 : Nat) : Int) → v8.toInt ≤ ((n308 : Nat) : Int) → v8.toInt ≤ c267_lawfulOnes.toInt → ((gh_n308 : Nat) : Int) ≤ ((n308 : Nat) : Int) → 0 + 0 + (13824 - v8.toInt) * 10 + 5 ≤ ((k : Nat) : Int) → dz_T ((F297_X9_uneven fu U c248_pots c261_many c261_swapsAPot a265 c267_total c267_lawfulOnes a268 a269 n269 a270 n270 k) v2 v4 v6 v8 sl c307_done a308 n308 a309 n309) (fun r => r.2.1.toInt ≤ 5 ∧ 0 ≤ r.2.1.toInt ∧ ((r.2.2.2.1 : Nat) : Int) ≤ 13824 ∧ 1 ≤ ((r.2.2.2.1 : Nat) : Int) ∧ ((r.2.2.2.2.2 : Nat) : Int) ≤ 13824 ∧ 1 ≤ ((r.2.2.2.2.2 : Nat) : Int) ∧ ((r.2.2.2.1 : Nat) : Int) ≤ ((r.2.2.2.2.2 : Nat) : Int) ∧ ((r.2.2.2.2.2 : Nat) : Int) ≤ ((r.2.2.2.1 : Nat) : Int) ∧ c267_lawfulOnes.toInt ≤ ((r.2.2.2.1 : Nat) : Int) ∧ c267_total.toInt ≤ ((r.2.2.2.1 : Nat) : Int) ∧ (((dz_kt κ : Nat) : Int) ≤ ((r.2.2.2.1 : Nat) : Int)) ∧ (((gh_n308 : Nat) : Int) ≤ ((r.2.2.2.1 : Nat) : Int))) := by
  intro v2 v4 v6 v8 sl c307_done a308 n308 a309 n309 i0 i1 i2 i3 i4 i5 i6 i7 i8 i9 i10 i11 i12 i13 i14 i15 i16 x0 hm
  obtain ⟨k0, rfl⟩ : ∃ x, k = x + 1 := ⟨k - 1, by omega⟩
  show dz_T (s297_X9_uneven_1 fu U c248_pots c261_many c261_swapsAPot a265 c267_total c267_lawfulOnes a268 a269 n269 a270 n270 (F297_X9_uneven fu U c248_pots c261_many c261_swapsAPot a265 c267_total c267_lawfulOnes a268 a269 n269 a270 n270 k0)  v2 v4 v6 v8 sl c307_done a308 n308 a309 n309) _
  unfold s297_X9_uneven_1
  refine dz_Tg (by omega) ?_
  refine dz_Tle (fun h1 => ?_) (fun h1 => ?_)
  · skip
    refine dz_Ts ?_
    dsimp only
    exact ⟨i3, i4, i5, i6, i7, i8, i9, i10, i12, i13, (by omega), (by omega)⟩
  · skip
    refine dz_Tin (by omega) (by omega) ?_
    have e2 := dz_rgat (hr_a270) (i := v8) (by omega) (by omega)
    have e3 := dz_kt4 hκ
    refine dz_Tin (by omega) (by omega) ?_
    have e4 := dz_l1
    have e5 := dz_add (a := v8) (b := (1 : Int32)) (by omega) (by omega)
    exact (ih k0 (by omega)) v2 v4 (v6 + (if (0 < (((a308 (a270 v8.toNatClampNeg).toNatClampNeg).toInt64 * v2) - v4)) then (((a308 (a270 v8.toNatClampNeg).toNatClampNeg).toInt64 * v2) - v4) else (-(((a308 (a270 v8.toNatClampNeg).toNatClampNeg).toInt64 * v2) - v4)))) (v8 + (1 : Int32)) sl c307_done a308 n308 a309 n309 (by omega) (by omega) i2 i3 i4 i5 i6 i7 i8 i9 i10 i11 i12 i13 (by omega) (by omega) (by omega) (by omega) (by omega)
theorem t297_X9_uneven_I_s (fu : Nat) (hfu : 1000000000000 ≤ fu) (κ : Nat) (hκ : κ < 14) (U : Nat) (c248_pots : Int32) (c261_many : Int32) (c261_swapsAPot : Int32) (a265 : Nat → Int32) (c267_total : Int32) (c267_lawfulOnes : Int32) (a268 : Nat → Int32) (a269 : Nat → Int32) (n269 : Nat) (a270 : Nat → Int32) (n270 : Nat) (gh_n308 : Nat) (p0 : c248_pots.toInt ≤ 4) (p1 : 0 ≤ c248_pots.toInt) (p2 : c261_many.toInt ≤ 24) (p3 : 0 ≤ c261_many.toInt) (p4 : c261_swapsAPot.toInt ≤ 6) (p5 : 0 ≤ c261_swapsAPot.toInt) (p6 : c267_total.toInt ≤ 13824) (p7 : 1 ≤ c267_total.toInt) (p8 : c267_lawfulOnes.toInt ≤ 13824) (p9 : 0 ≤ c267_lawfulOnes.toInt) (p10 : ((n269 : Nat) : Int) ≤ 13824) (p11 : 1 ≤ ((n269 : Nat) : Int)) (p12 : ((n270 : Nat) : Int) ≤ 13824) (p13 : 1 ≤ ((n270 : Nat) : Int)) (p14 : c267_total.toInt ≤ ((n269 : Nat) : Int)) (p15 : c267_total.toInt ≤ ((n270 : Nat) : Int)) (p16 : c267_lawfulOnes.toInt ≤ c267_total.toInt) (p17 : c267_lawfulOnes.toInt ≤ ((n270 : Nat) : Int)) (p18 : ((n269 : Nat) : Int) ≤ ((n270 : Nat) : Int)) (p19 : ((n270 : Nat) : Int) ≤ ((n269 : Nat) : Int)) (p20 : 1 ≤ c267_lawfulOnes.toInt) (hr_a265 : dz_rt a265 (dz_kr κ) (dz_kw κ) 0 (((dz_kr κ : Nat) : Int) - 1)) (hr_a268 : dz_pt a268 (dz_kS κ)) (hr_a269 : dz_rg a269 n269 0 1023) (hr_a270 : dz_rg a270 c267_lawfulOnes.toInt.toNat 0 (((dz_kt κ : Nat) : Int) - 1)) (o2 : c248_pots.toInt = ((dz_kp κ : Nat) : Int)) (o3 : c261_many.toInt = ((dz_kr κ : Nat) : Int)) (o4 : c261_swapsAPot.toInt = ((dz_kw κ : Nat) : Int)) (o5 : c267_total.toInt = ((dz_kt κ : Nat) : Int)) (k : Nat) : p297_X9_uneven_s fu κ U c248_pots c261_many c261_swapsAPot a265 c267_total c267_lawfulOnes a268 a269 n269 a270 n270 gh_n308 k := by
  induction k using Nat.strongRecOn with
  | _ k ih => exact t297_X9_uneven_h1_s fu hfu κ hκ U c248_pots c261_many c261_swapsAPot a265 c267_total c267_lawfulOnes a268 a269 n269 a270 n270 gh_n308 p0 p1 p2 p3 p4 p5 p6 p7 p8 p9 p10 p11 p12 p13 p14 p15 p16 p17 p18 p19 p20 hr_a265 hr_a268 hr_a269 hr_a270 o2 o3 o4 o5 k ih
set_option maxHeartbeats 1000000 in
set_option maxRecDepth 10000 in
theorem t297_X9_uneven_E_s (fu : Nat) (hfu : 1000000000000 ≤ fu) (κ : Nat) (hκ : κ < 14) (U : Nat) (c248_pots : Int32) (c261_many : Int32) (c261_swapsAPot : Int32) (a265 : Nat → Int32) (c267_total : Int32) (c267_lawfulOnes : Int32) (a268 : Nat → Int32) (a269 : Nat → Int32) (n269 : Nat) (a270 : Nat → Int32) (n270 : Nat) (v1 : Int32) (c307_done : Int32) (a308 : Nat → Int32) (n308 : Nat) (a309 : Nat → Int32) (n309 : Nat) (p0 : c248_pots.toInt ≤ 4) (p1 : 0 ≤ c248_pots.toInt) (p2 : c261_many.toInt ≤ 24) (p3 : 0 ≤ c261_many.toInt) (p4 : c261_swapsAPot.toInt ≤ 6) (p5 : 0 ≤ c261_swapsAPot.toInt) (p6 : c267_total.toInt ≤ 13824) (p7 : 1 ≤ c267_total.toInt) (p8 : c267_lawfulOnes.toInt ≤ 13824) (p9 : 0 ≤ c267_lawfulOnes.toInt) (p10 : ((n269 : Nat) : Int) ≤ 13824) (p11 : 1 ≤ ((n269 : Nat) : Int)) (p12 : ((n270 : Nat) : Int) ≤ 13824) (p13 : 1 ≤ ((n270 : Nat) : Int)) (p14 : c307_done.toInt ≤ 5) (p15 : (-1) ≤ c307_done.toInt) (p16 : ((n308 : Nat) : Int) ≤ 13824) (p17 : 1 ≤ ((n308 : Nat) : Int)) (p18 : ((n309 : Nat) : Int) ≤ 13824) (p19 : 1 ≤ ((n309 : Nat) : Int)) (p20 : c267_total.toInt ≤ ((n269 : Nat) : Int)) (p21 : c267_total.toInt ≤ ((n270 : Nat) : Int)) (p22 : c267_lawfulOnes.toInt ≤ c267_total.toInt) (p23 : c267_lawfulOnes.toInt ≤ ((n270 : Nat) : Int)) (p24 : ((n308 : Nat) : Int) ≤ ((n309 : Nat) : Int)) (p25 : ((n309 : Nat) : Int) ≤ ((n308 : Nat) : Int)) (p26 : ((n269 : Nat) : Int) ≤ ((n270 : Nat) : Int)) (p27 : ((n270 : Nat) : Int) ≤ ((n269 : Nat) : Int)) (p28 : 0 ≤ v1.toInt) (p29 : v1.toInt ≤ 5) (p30 : 1 ≤ c267_lawfulOnes.toInt) (hr_a265 : dz_rt a265 (dz_kr κ) (dz_kw κ) 0 (((dz_kr κ : Nat) : Int) - 1)) (hr_a268 : dz_pt a268 (dz_kS κ)) (hr_a269 : dz_rg a269 n269 0 1023) (hr_a270 : dz_rg a270 c267_lawfulOnes.toInt.toNat 0 (((dz_kt κ : Nat) : Int) - 1)) (o0 : dz_needC c267_total n308 ≤ U) (o1 : c307_done.toInt = -1 ∨ ((dz_kt κ : Nat) : Int) ≤ n308) (o2 : c248_pots.toInt = ((dz_kp κ : Nat) : Int)) (o3 : c261_many.toInt = ((dz_kr κ : Nat) : Int)) (o4 : c261_swapsAPot.toInt = ((dz_kw κ : Nat) : Int)) (o5 : c267_total.toInt = ((dz_kt κ : Nat) : Int)) (kv : Nat) (hkv : 1000000000000 ≤ kv) : dz_T (s297_X9_uneven_0 fu U c248_pots c261_many c261_swapsAPot a265 c267_total c267_lawfulOnes a268 a269 n269 a270 n270 (F297_X9_uneven fu U c248_pots c261_many c261_swapsAPot a265 c267_total c267_lawfulOnes a268 a269 n269 a270 n270 kv)  v1 c307_done a308 n308 a309 n309) (fun r => r.2.1.toInt ≤ 5 ∧ 0 ≤ r.2.1.toInt ∧ ((r.2.2.2.1 : Nat) : Int) ≤ 13824 ∧ 1 ≤ ((r.2.2.2.1 : Nat) : Int) ∧ ((r.2.2.2.2.2 : Nat) : Int) ≤ 13824 ∧ 1 ≤ ((r.2.2.2.2.2 : Nat) : Int) ∧ ((r.2.2.2.1 : Nat) : Int) ≤ ((r.2.2.2.2.2 : Nat) : Int) ∧ ((r.2.2.2.2.2 : Nat) : Int) ≤ ((r.2.2.2.1 : Nat) : Int) ∧ c267_lawfulOnes.toInt ≤ ((r.2.2.2.1 : Nat) : Int) ∧ c267_total.toInt ≤ ((r.2.2.2.1 : Nat) : Int) ∧ (((dz_kt κ : Nat) : Int) ≤ ((r.2.2.2.1 : Nat) : Int)) ∧ (((n308 : Nat) : Int) ≤ ((r.2.2.2.1 : Nat) : Int))) := by
  unfold s297_X9_uneven_0
  have e1 := dz_needCb (total := c267_total) (n := n308) (by omega) (by omega)
  refine dz_Tg (by omega) ?_
  refine dz_Tb (t293_X9_swapTimes_s fu hfu κ hκ _ _ _ _ _ _ _ _ _ _ _ _ _ _ _ _ _ _ p0 p1 p2 p3 p4 p5 p6 p7 p8 (by first | assumption | omega) p10 p11 p12 p13 p14 p15 p16 p17 p18 p19 p20 p21 p22 p23 p24 p25 p26 p27 p28 p29 p30 (hr_a265) (hr_a268) (hr_a269) (hr_a270) ((by first | exact Nat.le_refl _ | assumption)) o1 o2 o3 o4 o5) (fun r1 q => ?_)
  obtain ⟨q1_0, q1_1, q1_2, q1_3, q1_4, q1_5, q1_6, q1_7, q1_8, q1_9, qo1_0, qo1_1⟩ := q
  refine dz_Tb (t296_X9_allRows_s fu hfu κ hκ _ _ _ p0 p1 p4 p5 p28 p29 o2 o4) (fun r2 _ => ?_)
  have e2 := dz_l0
  exact (t297_X9_uneven_I_s fu hfu κ hκ U c248_pots c261_many c261_swapsAPot a265 c267_total c267_lawfulOnes a268 a269 n269 a270 n270 n308 p0 p1 p2 p3 p4 p5 p6 p7 p8 p9 p10 p11 p12 p13 p20 p21 p22 p23 p26 p27 p30 hr_a265 hr_a268 hr_a269 hr_a270 o2 o3 o4 o5 kv) c267_lawfulOnes.toInt64 r2 (0 : Int64) (0 : Int32) (0 + (dz_needC c267_total n308)) r1.1 r1.2.1 r1.2.2.1 r1.2.2.2.1 r1.2.2.2.2 (by omega) (by omega) (by omega) q1_0 q1_1 q1_2 q1_3 q1_4 q1_5 q1_6 q1_7 (by omega) q1_8 q1_9 (by omega) (by omega) (by omega) (by omega) (by omega)
theorem t297_X9_uneven_s (fu : Nat) (hfu : 1000000000000 ≤ fu) (κ : Nat) (hκ : κ < 14) (U : Nat) (c248_pots : Int32) (c261_many : Int32) (c261_swapsAPot : Int32) (a265 : Nat → Int32) (c267_total : Int32) (c267_lawfulOnes : Int32) (a268 : Nat → Int32) (a269 : Nat → Int32) (n269 : Nat) (a270 : Nat → Int32) (n270 : Nat) (v1 : Int32) (c307_done : Int32) (a308 : Nat → Int32) (n308 : Nat) (a309 : Nat → Int32) (n309 : Nat) (p0 : c248_pots.toInt ≤ 4) (p1 : 0 ≤ c248_pots.toInt) (p2 : c261_many.toInt ≤ 24) (p3 : 0 ≤ c261_many.toInt) (p4 : c261_swapsAPot.toInt ≤ 6) (p5 : 0 ≤ c261_swapsAPot.toInt) (p6 : c267_total.toInt ≤ 13824) (p7 : 1 ≤ c267_total.toInt) (p8 : c267_lawfulOnes.toInt ≤ 13824) (p9 : 0 ≤ c267_lawfulOnes.toInt) (p10 : ((n269 : Nat) : Int) ≤ 13824) (p11 : 1 ≤ ((n269 : Nat) : Int)) (p12 : ((n270 : Nat) : Int) ≤ 13824) (p13 : 1 ≤ ((n270 : Nat) : Int)) (p14 : c307_done.toInt ≤ 5) (p15 : (-1) ≤ c307_done.toInt) (p16 : ((n308 : Nat) : Int) ≤ 13824) (p17 : 1 ≤ ((n308 : Nat) : Int)) (p18 : ((n309 : Nat) : Int) ≤ 13824) (p19 : 1 ≤ ((n309 : Nat) : Int)) (p20 : c267_total.toInt ≤ ((n269 : Nat) : Int)) (p21 : c267_total.toInt ≤ ((n270 : Nat) : Int)) (p22 : c267_lawfulOnes.toInt ≤ c267_total.toInt) (p23 : c267_lawfulOnes.toInt ≤ ((n270 : Nat) : Int)) (p24 : ((n308 : Nat) : Int) ≤ ((n309 : Nat) : Int)) (p25 : ((n309 : Nat) : Int) ≤ ((n308 : Nat) : Int)) (p26 : ((n269 : Nat) : Int) ≤ ((n270 : Nat) : Int)) (p27 : ((n270 : Nat) : Int) ≤ ((n269 : Nat) : Int)) (p28 : 0 ≤ v1.toInt) (p29 : v1.toInt ≤ 5) (p30 : 1 ≤ c267_lawfulOnes.toInt) (hr_a265 : dz_rt a265 (dz_kr κ) (dz_kw κ) 0 (((dz_kr κ : Nat) : Int) - 1)) (hr_a268 : dz_pt a268 (dz_kS κ)) (hr_a269 : dz_rg a269 n269 0 1023) (hr_a270 : dz_rg a270 c267_lawfulOnes.toInt.toNat 0 (((dz_kt κ : Nat) : Int) - 1)) (o0 : dz_needC c267_total n308 ≤ U) (o1 : c307_done.toInt = -1 ∨ ((dz_kt κ : Nat) : Int) ≤ n308) (o2 : c248_pots.toInt = ((dz_kp κ : Nat) : Int)) (o3 : c261_many.toInt = ((dz_kr κ : Nat) : Int)) (o4 : c261_swapsAPot.toInt = ((dz_kw κ : Nat) : Int)) (o5 : c267_total.toInt = ((dz_kt κ : Nat) : Int)) : dz_T (f297_X9_uneven fu U c248_pots c261_many c261_swapsAPot a265 c267_total c267_lawfulOnes a268 a269 n269 a270 n270 v1 c307_done a308 n308 a309 n309) (fun r => r.2.1.toInt ≤ 5 ∧ 0 ≤ r.2.1.toInt ∧ ((r.2.2.2.1 : Nat) : Int) ≤ 13824 ∧ 1 ≤ ((r.2.2.2.1 : Nat) : Int) ∧ ((r.2.2.2.2.2 : Nat) : Int) ≤ 13824 ∧ 1 ≤ ((r.2.2.2.2.2 : Nat) : Int) ∧ ((r.2.2.2.1 : Nat) : Int) ≤ ((r.2.2.2.2.2 : Nat) : Int) ∧ ((r.2.2.2.2.2 : Nat) : Int) ≤ ((r.2.2.2.1 : Nat) : Int) ∧ c267_lawfulOnes.toInt ≤ ((r.2.2.2.1 : Nat) : Int) ∧ c267_total.toInt ≤ ((r.2.2.2.1 : Nat) : Int) ∧ (((dz_kt κ : Nat) : Int) ≤ ((r.2.2.2.1 : Nat) : Int)) ∧ (((n308 : Nat) : Int) ≤ ((r.2.2.2.1 : Nat) : Int))) :=
  t297_X9_uneven_E_s fu hfu κ hκ U c248_pots c261_many c261_swapsAPot a265 c267_total c267_lawfulOnes a268 a269 n269 a270 n270 v1 c307_done a308 n308 a309 n309 p0 p1 p2 p3 p4 p5 p6 p7 p8 p9 p10 p11 p12 p13 p14 p15 p16 p17 p18 p19 p20 p21 p22 p23 p24 p25 p26 p27 p28 p29 p30 hr_a265 hr_a268 hr_a269 hr_a270 o0 o1 o2 o3 o4 o5 fu hfu
set_option maxHeartbeats 1000000 in
set_option maxRecDepth 10000 in
theorem t298_X11_mixed_s (fu : Nat) (hfu : 1000000000000 ≤ fu) (κ : Nat) (hκ : κ < 14) (U : Nat) (c248_pots : Int32) (c261_many : Int32) (c261_swapsAPot : Int32) (a265 : Nat → Int32) (c267_total : Int32) (c267_lawfulOnes : Int32) (a268 : Nat → Int32) (a269 : Nat → Int32) (n269 : Nat) (a270 : Nat → Int32) (n270 : Nat) (v1 : Int32) (v2 : Int32) (c307_done : Int32) (a308 : Nat → Int32) (n308 : Nat) (a309 : Nat → Int32) (n309 : Nat) (p0 : c248_pots.toInt ≤ 4) (p1 : 0 ≤ c248_pots.toInt) (p2 : c261_many.toInt ≤ 24) (p3 : 0 ≤ c261_many.toInt) (p4 : c261_swapsAPot.toInt ≤ 6) (p5 : 0 ≤ c261_swapsAPot.toInt) (p6 : c267_total.toInt ≤ 13824) (p7 : 1 ≤ c267_total.toInt) (p8 : c267_lawfulOnes.toInt ≤ 13824) (p9 : 0 ≤ c267_lawfulOnes.toInt) (p10 : ((n269 : Nat) : Int) ≤ 13824) (p11 : 1 ≤ ((n269 : Nat) : Int)) (p12 : ((n270 : Nat) : Int) ≤ 13824) (p13 : 1 ≤ ((n270 : Nat) : Int)) (p14 : c307_done.toInt ≤ 5) (p15 : (-1) ≤ c307_done.toInt) (p16 : ((n308 : Nat) : Int) ≤ 13824) (p17 : 1 ≤ ((n308 : Nat) : Int)) (p18 : ((n309 : Nat) : Int) ≤ 13824) (p19 : 1 ≤ ((n309 : Nat) : Int)) (p20 : c267_total.toInt ≤ ((n269 : Nat) : Int)) (p21 : c267_total.toInt ≤ ((n270 : Nat) : Int)) (p22 : c267_lawfulOnes.toInt ≤ c267_total.toInt) (p23 : c267_lawfulOnes.toInt ≤ ((n270 : Nat) : Int)) (p24 : ((n308 : Nat) : Int) ≤ ((n309 : Nat) : Int)) (p25 : ((n309 : Nat) : Int) ≤ ((n308 : Nat) : Int)) (p26 : ((n269 : Nat) : Int) ≤ ((n270 : Nat) : Int)) (p27 : ((n270 : Nat) : Int) ≤ ((n269 : Nat) : Int)) (hr_a265 : dz_rt a265 (dz_kr κ) (dz_kw κ) 0 (((dz_kr κ : Nat) : Int) - 1)) (hr_a268 : dz_pt a268 (dz_kS κ)) (hr_a269 : dz_rg a269 n269 0 1023) (hr_a270 : dz_rg a270 c267_lawfulOnes.toInt.toNat 0 (((dz_kt κ : Nat) : Int) - 1)) (o0 : dz_needC c267_total n308 ≤ U) (o1 : c307_done.toInt = -1 ∨ ((dz_kt κ : Nat) : Int) ≤ n308) (o2 : c248_pots.toInt = ((dz_kp κ : Nat) : Int)) (o3 : c261_many.toInt = ((dz_kr κ : Nat) : Int)) (o4 : c261_swapsAPot.toInt = ((dz_kw κ : Nat) : Int)) (o5 : c267_total.toInt = ((dz_kt κ : Nat) : Int)) : dz_T (f298_X11_mixed fu U c248_pots c261_many c261_swapsAPot a265 c267_total c267_lawfulOnes a268 a269 n269 a270 n270 v1 v2 c307_done a308 n308 a309 n309) (fun r => r.2.1.toInt ≤ 5 ∧ (-1) ≤ r.2.1.toInt ∧ ((r.2.2.2.1 : Nat) : Int) ≤ 13824 ∧ 1 ≤ ((r.2.2.2.1 : Nat) : Int) ∧ ((r.2.2.2.2.2 : Nat) : Int) ≤ 13824 ∧ 1 ≤ ((r.2.2.2.2.2 : Nat) : Int) ∧ ((r.2.2.2.1 : Nat) : Int) ≤ ((r.2.2.2.2.2 : Nat) : Int) ∧ ((r.2.2.2.2.2 : Nat) : Int) ≤ ((r.2.2.2.1 : Nat) : Int) ∧ (((r.2.2.2.1 : Nat) : Int) = ((n308 : Nat) : Int) ∨ ((dz_kt κ : Nat) : Int) ≤ ((r.2.2.2.1 : Nat) : Int)) ∧ (r.2.1.toInt = -1 ∨ ((dz_kt κ : Nat) : Int) ≤ ((r.2.2.2.1 : Nat) : Int)) ∧ (((n308 : Nat) : Int) ≤ ((r.2.2.2.1 : Nat) : Int))) := by
  unfold f298_X11_mixed s298_X11_mixed_0
  have e1 := dz_l0
  refine dz_Tlt (fun h2 => ?_) (fun h2 => ?_)
  · skip
    refine dz_Ts ?_
    dsimp only
    exact ⟨p14, p15, p16, p17, p18, p19, p24, p25, (by omega), (by omega), (by omega)⟩
  · skip
    have e3 := dz_l5
    refine dz_Tlt (fun h4 => ?_) (fun h4 => ?_)
    · skip
      refine dz_Ts ?_
      dsimp only
      exact ⟨p14, p15, p16, p17, p18, p19, p24, p25, (by omega), (by omega), (by omega)⟩
    · skip
      refine dz_Teq (fun h5 => ?_) (fun h5 => ?_)
      · skip
        refine dz_Ts ?_
        dsimp only
        exact ⟨p14, p15, p16, p17, p18, p19, p24, p25, (by omega), (by omega), (by omega)⟩
      · skip
        refine dz_Teq (fun h6 => ?_) (fun h6 => ?_)
        · skip
          have e7 := dz_needCb (total := c267_total) (n := n308) (by omega) (by omega)
          refine dz_Tg (by omega) ?_
          refine dz_Tb (t297_X9_uneven_s fu hfu κ hκ _ _ _ _ _ _ _ _ _ _ _ _ _ _ _ _ _ _ p0 p1 p2 p3 p4 p5 p6 p7 p8 p9 p10 p11 p12 p13 p14 p15 p16 p17 p18 p19 p20 p21 p22 p23 p24 p25 p26 p27 (by first | assumption | omega) (by first | assumption | omega) (by first | assumption | omega) (hr_a265) (hr_a268) (hr_a269) (hr_a270) ((by first | exact Nat.le_refl _ | assumption)) o1 o2 o3 o4 o5) (fun r1 q => ?_)
          obtain ⟨q1_0, q1_1, q1_2, q1_3, q1_4, q1_5, q1_6, q1_7, q1_8, q1_9, qo1_0, qo1_1⟩ := q
          refine dz_Ts ?_
          dsimp only
          exact ⟨q1_0, (by first | assumption | omega), q1_2, q1_3, q1_4, q1_5, q1_6, q1_7, (by omega), (by omega), (by omega)⟩
        · skip
          have e8 := dz_l1
          refine dz_Teq (fun h9 => ?_) (fun h9 => ?_)
          · skip
            refine dz_Tb (t296_X9_allRows_s fu hfu κ hκ _ _ _ p0 p1 p4 p5 (by first | assumption | omega) (by first | assumption | omega) o2 o4) (fun r2 _ => ?_)
            refine dz_Ts ?_
            dsimp only
            exact ⟨p14, p15, p16, p17, p18, p19, p24, p25, (by omega), (by omega), (by omega)⟩
          · skip
            refine dz_Ts ?_
            dsimp only
            exact ⟨p14, p15, p16, p17, p18, p19, p24, p25, (by omega), (by omega), (by omega)⟩
set_option maxHeartbeats 1000000 in
set_option maxRecDepth 10000 in
theorem t299_X10_build_E_g20 (fu : Nat) (hfu : 1000000000000 ≤ fu) (c248_pots : Int32) (c261_many : Int32) (c267_total : Int32) (a268 : Nat → Int32) (a269 : Nat → Int32) (n269 : Nat) (c284_fresh : Int32) (a285 : Nat → Int32) (a286 : Nat → Int32) (a287 : Nat → Int32) (p0 : c248_pots.toInt ≤ 0) (p1 : 0 ≤ c248_pots.toInt) (p2 : c261_many.toInt ≤ 2) (p3 : 2 ≤ c261_many.toInt) (p4 : c267_total.toInt ≤ 1) (p5 : 1 ≤ c267_total.toInt) (p6 : ((n269 : Nat) : Int) ≤ 13824) (p7 : 1 ≤ ((n269 : Nat) : Int)) (p8 : c284_fresh.toInt ≤ 1) (p9 : 0 ≤ c284_fresh.toInt) (p10 : c267_total.toInt ≤ ((n269 : Nat) : Int)) (hr_a269 : dz_rg a269 n269 0 1023) (hr_a285 : dz_rg a285 601 0 16777215) (hr_a286 : dz_rg a286 5 0 14425) (kv : Nat) (hkv : 1000000000000 ≤ kv) : dz_T (s299_X10_build_0 fu c248_pots c261_many c267_total a268 a269 n269 (F299_X10_build fu c248_pots c261_many c267_total a268 a269 n269 kv).1  c284_fresh a285 a286 a287) (fun r => r.1.toInt ≤ 1 ∧ 1 ≤ r.1.toInt ∧ dz_rg r.2.1 601 0 16777215 ∧ dz_rg r.2.2.1 5 0 14425 ∧ dz_pm r.2.2.2 0) := by
  unfold s299_X10_build_0
  have e1 := dz_l0
  refine dz_Tng (by omega) ?_
  refine dz_Tng (by omega) ?_
  have e2 := dz_l4
  refine dz_Tng (by omega) ?_
  have e3 := dz_tn (0 : Int32)
  have e4 := dz_tn (4 : Int32)
  refine dz_Tg (by omega) ?_
  refine dz_Tg (by omega) ?_
  refine dz_Tin (by omega) (by omega) ?_
  obtain ⟨k1, rfl⟩ : ∃ x, kv = x + 1 := ⟨kv - 1, by omega⟩
  show dz_T (s299_X10_build_1 fu c248_pots c261_many c267_total a268 a269 n269 (F299_X10_build fu c248_pots c261_many c267_total a268 a269 n269 k1).1 (F299_X10_build fu c248_pots c261_many c267_total a268 a269 n269 k1).2.1 c248_pots (1 : Int32) (0 : Int32) c284_fresh a285 (upd a286 (0 : Int32).toNatClampNeg (0 : Int32)) (va_cpy jw_s0 a287 (0 : Int32).toNatClampNeg (0 : Int32).toNatClampNeg (4 : Int32).toNatClampNeg)) _
  unfold s299_X10_build_1
  refine dz_Tle (fun h5 => ?_) (fun h5 => ?_)
  · skip
    refine dz_Tle (fun h6 => ?_) (fun h6 => ?_)
    · skip
      obtain ⟨k2, rfl⟩ : ∃ x, k1 = x + 1 := ⟨k1 - 1, by omega⟩
      show dz_T (s299_X10_build_2 fu c248_pots c261_many c267_total a268 a269 n269 (F299_X10_build fu c248_pots c261_many c267_total a268 a269 n269 k2).2.2 c248_pots c284_fresh a285 (upd a286 (0 : Int32).toNatClampNeg (0 : Int32)) (va_cpy jw_s0 a287 (0 : Int32).toNatClampNeg (0 : Int32).toNatClampNeg (4 : Int32).toNatClampNeg)) _
      unfold s299_X10_build_2
      have e7 := dz_l2
      have e8 := dz_sub (a := c248_pots) (b := (2 : Int32)) (by omega) (by omega)
      generalize (c248_pots - (2 : Int32)) = zz4 at *
      obtain ⟨k3, rfl⟩ : ∃ x, k2 = x + 1 := ⟨k2 - 1, by omega⟩
      show dz_T (s299_X10_build_3 fu c248_pots c261_many c267_total a268 a269 n269 (F299_X10_build fu c248_pots c261_many c267_total a268 a269 n269 k3).2.2 zz4 c284_fresh a285 (upd a286 (0 : Int32).toNatClampNeg (0 : Int32)) (va_cpy jw_s0 a287 (0 : Int32).toNatClampNeg (0 : Int32).toNatClampNeg (4 : Int32).toNatClampNeg)) _
      unfold s299_X10_build_3
      refine dz_Tlt (fun h9 => ?_) (fun h9 => ?_)
      · skip
        have e10 := dz_l1
        refine dz_Ts ?_
        dsimp only
        exact ⟨(by omega), (by omega), (hr_a285), (dz_rgu (hr_a286) (by omega) (by omega)), (dz_pms0)⟩
      · skip
        exfalso; omega
    · skip
      exfalso; omega
  · skip
    exfalso; omega
theorem t299_X10_build_g20 (fu : Nat) (hfu : 1000000000000 ≤ fu) (c248_pots : Int32) (c261_many : Int32) (c267_total : Int32) (a268 : Nat → Int32) (a269 : Nat → Int32) (n269 : Nat) (c284_fresh : Int32) (a285 : Nat → Int32) (a286 : Nat → Int32) (a287 : Nat → Int32) (p0 : c248_pots.toInt ≤ 0) (p1 : 0 ≤ c248_pots.toInt) (p2 : c261_many.toInt ≤ 2) (p3 : 2 ≤ c261_many.toInt) (p4 : c267_total.toInt ≤ 1) (p5 : 1 ≤ c267_total.toInt) (p6 : ((n269 : Nat) : Int) ≤ 13824) (p7 : 1 ≤ ((n269 : Nat) : Int)) (p8 : c284_fresh.toInt ≤ 1) (p9 : 0 ≤ c284_fresh.toInt) (p10 : c267_total.toInt ≤ ((n269 : Nat) : Int)) (hr_a269 : dz_rg a269 n269 0 1023) (hr_a285 : dz_rg a285 601 0 16777215) (hr_a286 : dz_rg a286 5 0 14425) : dz_T (f299_X10_build fu c248_pots c261_many c267_total a268 a269 n269 c284_fresh a285 a286 a287) (fun r => r.1.toInt ≤ 1 ∧ 1 ≤ r.1.toInt ∧ dz_rg r.2.1 601 0 16777215 ∧ dz_rg r.2.2.1 5 0 14425 ∧ dz_pm r.2.2.2 0) :=
  t299_X10_build_E_g20 fu hfu c248_pots c261_many c267_total a268 a269 n269 c284_fresh a285 a286 a287 p0 p1 p2 p3 p4 p5 p6 p7 p8 p9 p10 hr_a269 hr_a285 hr_a286 fu hfu
set_option maxHeartbeats 1000000 in
set_option maxRecDepth 10000 in
theorem t299_X10_build_E_g21 (fu : Nat) (hfu : 1000000000000 ≤ fu) (c248_pots : Int32) (c261_many : Int32) (c267_total : Int32) (a268 : Nat → Int32) (a269 : Nat → Int32) (n269 : Nat) (c284_fresh : Int32) (a285 : Nat → Int32) (a286 : Nat → Int32) (a287 : Nat → Int32) (p0 : c248_pots.toInt ≤ 1) (p1 : 1 ≤ c248_pots.toInt) (p2 : c261_many.toInt ≤ 2) (p3 : 2 ≤ c261_many.toInt) (p4 : c267_total.toInt ≤ 2) (p5 : 2 ≤ c267_total.toInt) (p6 : ((n269 : Nat) : Int) ≤ 13824) (p7 : 1 ≤ ((n269 : Nat) : Int)) (p8 : c284_fresh.toInt ≤ 1) (p9 : 0 ≤ c284_fresh.toInt) (p10 : c267_total.toInt ≤ ((n269 : Nat) : Int)) (hr_a268 : dz_pt a268 [1]) (hr_a269 : dz_rg a269 n269 0 1023) (hr_a285 : dz_rg a285 601 0 16777215) (hr_a286 : dz_rg a286 5 0 14425) (kv : Nat) (hkv : 1000000000000 ≤ kv) : dz_T (s299_X10_build_0 fu c248_pots c261_many c267_total a268 a269 n269 (F299_X10_build fu c248_pots c261_many c267_total a268 a269 n269 kv).1  c284_fresh a285 a286 a287) (fun r => r.1.toInt ≤ 1 ∧ 1 ≤ r.1.toInt ∧ dz_rg r.2.1 601 0 16777215 ∧ dz_rg r.2.2.1 5 0 14425 ∧ dz_pm r.2.2.2 1) := by
  unfold s299_X10_build_0
  have e1 := dz_l0
  refine dz_Tng (by omega) ?_
  refine dz_Tng (by omega) ?_
  have e2 := dz_l4
  refine dz_Tng (by omega) ?_
  have e3 := dz_tn (0 : Int32)
  have e4 := dz_tn (4 : Int32)
  refine dz_Tg (by omega) ?_
  refine dz_Tg (by omega) ?_
  refine dz_Tin (by omega) (by omega) ?_
  obtain ⟨k1, rfl⟩ : ∃ x, kv = x + 1 := ⟨kv - 1, by omega⟩
  show dz_T (s299_X10_build_1 fu c248_pots c261_many c267_total a268 a269 n269 (F299_X10_build fu c248_pots c261_many c267_total a268 a269 n269 k1).1 (F299_X10_build fu c248_pots c261_many c267_total a268 a269 n269 k1).2.1 c248_pots (1 : Int32) (0 : Int32) c284_fresh a285 (upd a286 (0 : Int32).toNatClampNeg (0 : Int32)) (va_cpy jw_s0 a287 (0 : Int32).toNatClampNeg (0 : Int32).toNatClampNeg (4 : Int32).toNatClampNeg)) _
  unfold s299_X10_build_1
  refine dz_Tle (fun h5 => ?_) (fun h5 => ?_)
  · skip
    exfalso; omega
  · skip
    refine dz_Tin (by omega) (by omega) ?_
    have e6 := dz_l1
    have e7 := dz_add (a := (0 : Int32)) (b := (1 : Int32)) (by omega) (by omega)
    refine dz_Tin (by omega) (by omega) ?_
    obtain ⟨k2, rfl⟩ : ∃ x, k1 = x + 1 := ⟨k1 - 1, by omega⟩
    show dz_T (s299_X10_build_1 fu c248_pots c261_many c267_total a268 a269 n269 (F299_X10_build fu c248_pots c261_many c267_total a268 a269 n269 k2).1 (F299_X10_build fu c248_pots c261_many c267_total a268 a269 n269 k2).2.1 c248_pots ((1 : Int32) * c261_many) ((0 : Int32) + (1 : Int32)) c284_fresh a285 (upd (upd a286 (0 : Int32).toNatClampNeg (0 : Int32)) ((0 : Int32) + (1 : Int32)).toNatClampNeg (((upd a286 (0 : Int32).toNatClampNeg (0 : Int32)) (0 : Int32).toNatClampNeg) + (1 : Int32))) (va_cpy jw_s0 a287 (0 : Int32).toNatClampNeg (0 : Int32).toNatClampNeg (4 : Int32).toNatClampNeg)) _
    unfold s299_X10_build_1
    refine dz_Tle (fun h8 => ?_) (fun h8 => ?_)
    · skip
      refine dz_Tle (fun h9 => ?_) (fun h9 => ?_)
      · skip
        exfalso; omega
      · skip
        have e10 := dz_ups (a := a286) (v := (0 : Int32)) (i := (0 : Int32)) (j := (0 : Int32)) (by omega)
        have e11 := dz_add (a := ((upd a286 (0 : Int32).toNatClampNeg (0 : Int32)) (0 : Int32).toNatClampNeg)) (b := (1 : Int32)) (by omega) (by omega)
        refine dz_Tb (t172_X10_fillLast_g21 fu hfu _ _ _ _ _ _ _ _ _ p0 p1 p2 p3 p4 p5 p6 p7 p10 (hr_a268) (hr_a269) (dz_ptmk2 ((dz_upo (j := ((0 : Int32) + (1 : Int32))) 0 (by omega)).trans ((dz_upk (j := (0 : Int32)) 0 (by omega)).trans (by omega))) ((dz_upk (j := ((0 : Int32) + (1 : Int32))) 1 (by omega)).trans (by omega))) (dz_pms1) (hr_a285) (by first | assumption | omega)) (fun r1 q => ?_)
        have qa1_0 := q
        obtain ⟨k3, rfl⟩ : ∃ x, k2 = x + 1 := ⟨k2 - 1, by omega⟩
        show dz_T (s299_X10_build_2 fu c248_pots c261_many c267_total a268 a269 n269 (F299_X10_build fu c248_pots c261_many c267_total a268 a269 n269 k3).2.2 c248_pots c284_fresh r1 (upd (upd a286 (0 : Int32).toNatClampNeg (0 : Int32)) ((0 : Int32) + (1 : Int32)).toNatClampNeg (((upd a286 (0 : Int32).toNatClampNeg (0 : Int32)) (0 : Int32).toNatClampNeg) + (1 : Int32))) (va_cpy jw_s0 a287 (0 : Int32).toNatClampNeg (0 : Int32).toNatClampNeg (4 : Int32).toNatClampNeg)) _
        unfold s299_X10_build_2
        have e12 := dz_l2
        have e13 := dz_sub (a := c248_pots) (b := (2 : Int32)) (by omega) (by omega)
        generalize (c248_pots - (2 : Int32)) = zz4 at *
        obtain ⟨k4, rfl⟩ : ∃ x, k3 = x + 1 := ⟨k3 - 1, by omega⟩
        show dz_T (s299_X10_build_3 fu c248_pots c261_many c267_total a268 a269 n269 (F299_X10_build fu c248_pots c261_many c267_total a268 a269 n269 k4).2.2 zz4 c284_fresh r1 (upd (upd a286 (0 : Int32).toNatClampNeg (0 : Int32)) ((0 : Int32) + (1 : Int32)).toNatClampNeg (((upd a286 (0 : Int32).toNatClampNeg (0 : Int32)) (0 : Int32).toNatClampNeg) + (1 : Int32))) (va_cpy jw_s0 a287 (0 : Int32).toNatClampNeg (0 : Int32).toNatClampNeg (4 : Int32).toNatClampNeg)) _
        unfold s299_X10_build_3
        refine dz_Tlt (fun h14 => ?_) (fun h14 => ?_)
        · skip
          refine dz_Ts ?_
          dsimp only
          exact ⟨(by omega), (by omega), (qa1_0), (dz_rgu (dz_rgu (hr_a286) (by omega) (by omega)) (by omega) (by omega)), (dz_pms1)⟩
        · skip
          exfalso; omega
    · skip
      exfalso; omega
theorem t299_X10_build_g21 (fu : Nat) (hfu : 1000000000000 ≤ fu) (c248_pots : Int32) (c261_many : Int32) (c267_total : Int32) (a268 : Nat → Int32) (a269 : Nat → Int32) (n269 : Nat) (c284_fresh : Int32) (a285 : Nat → Int32) (a286 : Nat → Int32) (a287 : Nat → Int32) (p0 : c248_pots.toInt ≤ 1) (p1 : 1 ≤ c248_pots.toInt) (p2 : c261_many.toInt ≤ 2) (p3 : 2 ≤ c261_many.toInt) (p4 : c267_total.toInt ≤ 2) (p5 : 2 ≤ c267_total.toInt) (p6 : ((n269 : Nat) : Int) ≤ 13824) (p7 : 1 ≤ ((n269 : Nat) : Int)) (p8 : c284_fresh.toInt ≤ 1) (p9 : 0 ≤ c284_fresh.toInt) (p10 : c267_total.toInt ≤ ((n269 : Nat) : Int)) (hr_a268 : dz_pt a268 [1]) (hr_a269 : dz_rg a269 n269 0 1023) (hr_a285 : dz_rg a285 601 0 16777215) (hr_a286 : dz_rg a286 5 0 14425) : dz_T (f299_X10_build fu c248_pots c261_many c267_total a268 a269 n269 c284_fresh a285 a286 a287) (fun r => r.1.toInt ≤ 1 ∧ 1 ≤ r.1.toInt ∧ dz_rg r.2.1 601 0 16777215 ∧ dz_rg r.2.2.1 5 0 14425 ∧ dz_pm r.2.2.2 1) :=
  t299_X10_build_E_g21 fu hfu c248_pots c261_many c267_total a268 a269 n269 c284_fresh a285 a286 a287 p0 p1 p2 p3 p4 p5 p6 p7 p8 p9 p10 hr_a268 hr_a269 hr_a285 hr_a286 fu hfu
