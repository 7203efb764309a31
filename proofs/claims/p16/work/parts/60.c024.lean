abbrev p291_X9_pass_g24 (fu : Nat) (c248_pots : Int32) (c261_many : Int32) (c261_swapsAPot : Int32) (a265 : Nat → Int32) (a268 : Nat → Int32) (a269 : Nat → Int32) (n269 : Nat) (n309 : Nat) (k : Nat) : Prop :=
  (∀ (v1 : Int32) (v2 : Int32) (v3 : Int32) (a309 : Nat → Int32), v1.toInt ≤ 15 → 0 ≤ v1.toInt → v3.toInt ≤ 4 → 0 ≤ v3.toInt → 0 + 0 + (4 - v3.toInt) * 56 + 7 ≤ ((k : Nat) : Int) → dz_T ((F291_X9_pass fu c248_pots c261_many c261_swapsAPot a265 a268 a269 n269 n309 k).1 v1 v2 v3 a309) (fun r => True)) ∧ (∀ (v1 : Int32) (v2 : Int32) (v3 : Int32) (v4 : Int32) (v5 : Int32) (v6 : Int32) (v7 : Int32) (a309 : Nat → Int32), v1.toInt ≤ 15 → 0 ≤ v1.toInt → v3.toInt ≤ 3 → 0 ≤ v3.toInt → v4.toInt ≤ 8 → 1 ≤ v4.toInt → v5.toInt ≤ 1 → 0 ≤ v5.toInt → v6.toInt ≤ 15 → (-8) ≤ v6.toInt → v7.toInt ≤ 1 → 0 ≤ v7.toInt → v5.toInt ≤ v1.toInt → v6.toInt ≤ v1.toInt → v1.toInt ≤ v6.toInt + 8 → v3.toInt ≤ v6.toInt + 8 → ((v3.toInt = 0 ∧ v4.toInt = 8 ∧ v5.toInt = v1.toInt / 8 % 2 ∧ v6.toInt = v1.toInt - v5.toInt * 8) ∨ (v3.toInt = 1 ∧ v4.toInt = 4 ∧ v5.toInt = v1.toInt / 4 % 2 ∧ v6.toInt = v1.toInt - v5.toInt * 4) ∨ (v3.toInt = 2 ∧ v4.toInt = 2 ∧ v5.toInt = v1.toInt / 2 % 2 ∧ v6.toInt = v1.toInt - v5.toInt * 2) ∨ (v3.toInt = 3 ∧ v4.toInt = 1 ∧ v5.toInt = v1.toInt % 2 ∧ v6.toInt = v1.toInt - v5.toInt * 1)) → 0 + 0 + ((4 - v3.toInt) - 1) * 56 + 0 + (1 - v7.toInt) * 14 + 14 ≤ ((k : Nat) : Int) → dz_T ((F291_X9_pass fu c248_pots c261_many c261_swapsAPot a265 a268 a269 n269 n309 k).2.1 v1 v2 v3 v4 v5 v6 v7 a309) (fun r => True))
set_option maxHeartbeats 1000000 in
set_option maxRecDepth 10000 in
theorem t291_X9_pass_h1_g24 (fu : Nat) (hfu : 1000000000000 ≤ fu) (c248_pots : Int32) (c261_many : Int32) (c261_swapsAPot : Int32) (a265 : Nat → Int32) (a268 : Nat → Int32) (a269 : Nat → Int32) (n269 : Nat) (n309 : Nat) (p0 : c248_pots.toInt ≤ 4) (p1 : 4 ≤ c248_pots.toInt) (p2 : c261_many.toInt ≤ 2) (p3 : 2 ≤ c261_many.toInt) (p4 : c261_swapsAPot.toInt ≤ 1) (p5 : 1 ≤ c261_swapsAPot.toInt) (p6 : ((n269 : Nat) : Int) ≤ 13824) (p7 : 1 ≤ ((n269 : Nat) : Int)) (p8 : ((n309 : Nat) : Int) ≤ 13824) (p9 : 1 ≤ ((n309 : Nat) : Int)) (p10 : 16 ≤ ((n309 : Nat) : Int)) (p11 : 16 ≤ ((n269 : Nat) : Int)) (hr_a265 : dz_rt a265 2 1 0 1) (hr_a268 : dz_pt a268 [8, 4, 2, 1]) (hr_a269 : dz_rg a269 n269 0 1023) (k : Nat) (ih : ∀ j9, j9 < k → p291_X9_pass_g24 fu c248_pots c261_many c261_swapsAPot a265 a268 a269 n269 n309 j9) : ∀ (v1 : Int32) (v2 : Int32) (v3 : Int32) (a309 : Nat → Int32), v1.toInt ≤ 15 → 0 ≤ v1.toInt → v3.toInt ≤ 4 → 0 ≤ v3.toInt → 0 + 0 + (4 - v3.toInt) * 56 + 7 ≤ ((k : Nat) : Int) → dz_T ((F291_X9_pass fu c248_pots c261_many c261_swapsAPot a265 a268 a269 n269 n309 k).1 v1 v2 v3 a309) (fun r => True) := by
  intro v1 v2 v3 a309 i0 i1 i2 i3 hm
  obtain ⟨k0, rfl⟩ : ∃ x, k = x + 1 := ⟨k - 1, by omega⟩
  show dz_T (s291_X9_pass_1 fu c248_pots c261_many c261_swapsAPot a265 a268 a269 n269 n309 (F291_X9_pass fu c248_pots c261_many c261_swapsAPot a265 a268 a269 n269 n309 k0).2.1  v1 v2 v3 a309) _
  unfold s291_X9_pass_1
  rcases (show v3.toInt = 0 ∨ v3.toInt = 1 ∨ v3.toInt = 2 ∨ v3.toInt = 3 ∨ v3.toInt = 4 by omega) with hs | hs | hs | hs | hs
  · skip
    refine dz_Tle (fun h1 => ?_) (fun h1 => ?_)
    · skip
      exfalso; omega
    · skip
      refine dz_Tin (by omega) (by omega) ?_
      refine dz_Tbe (show f141_X2_rankIn fu c261_many a268 v1 v3 = (if dz_in v3 4 then (if ((a268 v3.toNatClampNeg) ≤ (0 : Int32)) then (some (0 : Int32)) else (if (c261_many ≤ (0 : Int32)) then (some (0 : Int32)) else (if (¬ ((a268 v3.toNatClampNeg) = (0 : Int32))) then (if (¬ (c261_many = (0 : Int32))) then (some (dz_rem (v1 / (a268 v3.toNatClampNeg)) c261_many)) else none) else none))) else none) from rfl) ?_
      refine dz_Tinb (by omega) (by omega) ?_
      have e2 := dz_ptat (hr_a268) (i := v3) (x := 8) 0 (by omega) (by decide)
      have e3 := dz_l0
      refine dz_Tleb (fun h4 => ?_) (fun h4 => ?_)
      · skip
        exfalso; omega
      · skip
        refine dz_Tleb (fun h5 => ?_) (fun h5 => ?_)
        · skip
          exfalso; omega
        · skip
          refine dz_Tzb (by omega) ?_
          refine dz_Tzb (by omega) ?_
          refine dz_Tsb ?_
          have e6 := dz_divn (a := v1) (b := (a268 v3.toNatClampNeg)) 8 (by omega) (by omega) (by omega)
          have e7 := dz_remn (a := (v1 / (a268 v3.toNatClampNeg))) (b := c261_many) 2 (by omega) (by omega) (by omega)
          have e8 := dz_mulr (a := (dz_rem (v1 / (a268 v3.toNatClampNeg)) c261_many)) (b := (a268 v3.toNatClampNeg)) 8 (by omega) (by omega) (by omega)
          have e9 := dz_sub (a := v1) (b := ((dz_rem (v1 / (a268 v3.toNatClampNeg)) c261_many) * (a268 v3.toNatClampNeg))) (by omega) (by omega)
          exact (ih k0 (by omega)).2 v1 v2 v3 (a268 v3.toNatClampNeg) (dz_rem (v1 / (a268 v3.toNatClampNeg)) c261_many) (v1 - ((dz_rem (v1 / (a268 v3.toNatClampNeg)) c261_many) * (a268 v3.toNatClampNeg))) (0 : Int32) a309 i0 i1 (by first | assumption | omega) i3 (by omega) (by omega) (by omega) (by omega) (by omega) (by omega) (by omega) (by omega) (by omega) (by omega) (by omega) (by omega) (by omega) (by omega)
  · skip
    refine dz_Tle (fun h10 => ?_) (fun h10 => ?_)
    · skip
      exfalso; omega
    · skip
      refine dz_Tin (by omega) (by omega) ?_
      refine dz_Tbe (show f141_X2_rankIn fu c261_many a268 v1 v3 = (if dz_in v3 4 then (if ((a268 v3.toNatClampNeg) ≤ (0 : Int32)) then (some (0 : Int32)) else (if (c261_many ≤ (0 : Int32)) then (some (0 : Int32)) else (if (¬ ((a268 v3.toNatClampNeg) = (0 : Int32))) then (if (¬ (c261_many = (0 : Int32))) then (some (dz_rem (v1 / (a268 v3.toNatClampNeg)) c261_many)) else none) else none))) else none) from rfl) ?_
      refine dz_Tinb (by omega) (by omega) ?_
      have e11 := dz_ptat (hr_a268) (i := v3) (x := 4) 1 (by omega) (by decide)
      have e12 := dz_l0
      refine dz_Tleb (fun h13 => ?_) (fun h13 => ?_)
      · skip
        exfalso; omega
      · skip
        refine dz_Tleb (fun h14 => ?_) (fun h14 => ?_)
        · skip
          exfalso; omega
        · skip
          refine dz_Tzb (by omega) ?_
          refine dz_Tzb (by omega) ?_
          refine dz_Tsb ?_
          have e15 := dz_divn (a := v1) (b := (a268 v3.toNatClampNeg)) 4 (by omega) (by omega) (by omega)
          have e16 := dz_remn (a := (v1 / (a268 v3.toNatClampNeg))) (b := c261_many) 2 (by omega) (by omega) (by omega)
          have e17 := dz_mulr (a := (dz_rem (v1 / (a268 v3.toNatClampNeg)) c261_many)) (b := (a268 v3.toNatClampNeg)) 4 (by omega) (by omega) (by omega)
          have e18 := dz_sub (a := v1) (b := ((dz_rem (v1 / (a268 v3.toNatClampNeg)) c261_many) * (a268 v3.toNatClampNeg))) (by omega) (by omega)
          exact (ih k0 (by omega)).2 v1 v2 v3 (a268 v3.toNatClampNeg) (dz_rem (v1 / (a268 v3.toNatClampNeg)) c261_many) (v1 - ((dz_rem (v1 / (a268 v3.toNatClampNeg)) c261_many) * (a268 v3.toNatClampNeg))) (0 : Int32) a309 i0 i1 (by first | assumption | omega) i3 (by omega) (by omega) (by omega) (by omega) (by omega) (by omega) (by omega) (by omega) (by omega) (by omega) (by omega) (by omega) (by omega) (by omega)
  · skip
    refine dz_Tle (fun h19 => ?_) (fun h19 => ?_)
    · skip
      exfalso; omega
    · skip
      refine dz_Tin (by omega) (by omega) ?_
      refine dz_Tbe (show f141_X2_rankIn fu c261_many a268 v1 v3 = (if dz_in v3 4 then (if ((a268 v3.toNatClampNeg) ≤ (0 : Int32)) then (some (0 : Int32)) else (if (c261_many ≤ (0 : Int32)) then (some (0 : Int32)) else (if (¬ ((a268 v3.toNatClampNeg) = (0 : Int32))) then (if (¬ (c261_many = (0 : Int32))) then (some (dz_rem (v1 / (a268 v3.toNatClampNeg)) c261_many)) else none) else none))) else none) from rfl) ?_
      refine dz_Tinb (by omega) (by omega) ?_
      have e20 := dz_ptat (hr_a268) (i := v3) (x := 2) 2 (by omega) (by decide)
      have e21 := dz_l0
      refine dz_Tleb (fun h22 => ?_) (fun h22 => ?_)
      · skip
        exfalso; omega
      · skip
        refine dz_Tleb (fun h23 => ?_) (fun h23 => ?_)
        · skip
          exfalso; omega
        · skip
          refine dz_Tzb (by omega) ?_
          refine dz_Tzb (by omega) ?_
          refine dz_Tsb ?_
          have e24 := dz_divn (a := v1) (b := (a268 v3.toNatClampNeg)) 2 (by omega) (by omega) (by omega)
          have e25 := dz_remn (a := (v1 / (a268 v3.toNatClampNeg))) (b := c261_many) 2 (by omega) (by omega) (by omega)
          have e26 := dz_mulr (a := (dz_rem (v1 / (a268 v3.toNatClampNeg)) c261_many)) (b := (a268 v3.toNatClampNeg)) 2 (by omega) (by omega) (by omega)
          have e27 := dz_sub (a := v1) (b := ((dz_rem (v1 / (a268 v3.toNatClampNeg)) c261_many) * (a268 v3.toNatClampNeg))) (by omega) (by omega)
          exact (ih k0 (by omega)).2 v1 v2 v3 (a268 v3.toNatClampNeg) (dz_rem (v1 / (a268 v3.toNatClampNeg)) c261_many) (v1 - ((dz_rem (v1 / (a268 v3.toNatClampNeg)) c261_many) * (a268 v3.toNatClampNeg))) (0 : Int32) a309 i0 i1 (by first | assumption | omega) i3 (by omega) (by omega) (by omega) (by omega) (by omega) (by omega) (by omega) (by omega) (by omega) (by omega) (by omega) (by omega) (by omega) (by omega)
  · skip
    refine dz_Tle (fun h28 => ?_) (fun h28 => ?_)
    · skip
      exfalso; omega
    · skip
      refine dz_Tin (by omega) (by omega) ?_
      refine dz_Tbe (show f141_X2_rankIn fu c261_many a268 v1 v3 = (if dz_in v3 4 then (if ((a268 v3.toNatClampNeg) ≤ (0 : Int32)) then (some (0 : Int32)) else (if (c261_many ≤ (0 : Int32)) then (some (0 : Int32)) else (if (¬ ((a268 v3.toNatClampNeg) = (0 : Int32))) then (if (¬ (c261_many = (0 : Int32))) then (some (dz_rem (v1 / (a268 v3.toNatClampNeg)) c261_many)) else none) else none))) else none) from rfl) ?_
      refine dz_Tinb (by omega) (by omega) ?_
      have e29 := dz_ptat (hr_a268) (i := v3) (x := 1) 3 (by omega) (by decide)
      have e30 := dz_l0
      refine dz_Tleb (fun h31 => ?_) (fun h31 => ?_)
      · skip
        exfalso; omega
      · skip
        refine dz_Tleb (fun h32 => ?_) (fun h32 => ?_)
        · skip
          exfalso; omega
        · skip
          refine dz_Tzb (by omega) ?_
          refine dz_Tzb (by omega) ?_
          refine dz_Tsb ?_
          have e33 := dz_div1 (a := v1) (b := (a268 v3.toNatClampNeg)) (by omega) (by omega)
          have e34 := dz_remn (a := (v1 / (a268 v3.toNatClampNeg))) (b := c261_many) 2 (by omega) (by omega) (by omega)
          have e35 := dz_mulr (a := (dz_rem (v1 / (a268 v3.toNatClampNeg)) c261_many)) (b := (a268 v3.toNatClampNeg)) 1 (by omega) (by omega) (by omega)
          have e36 := dz_sub (a := v1) (b := ((dz_rem (v1 / (a268 v3.toNatClampNeg)) c261_many) * (a268 v3.toNatClampNeg))) (by omega) (by omega)
          exact (ih k0 (by omega)).2 v1 v2 v3 (a268 v3.toNatClampNeg) (dz_rem (v1 / (a268 v3.toNatClampNeg)) c261_many) (v1 - ((dz_rem (v1 / (a268 v3.toNatClampNeg)) c261_many) * (a268 v3.toNatClampNeg))) (0 : Int32) a309 i0 i1 (by first | assumption | omega) i3 (by omega) (by omega) (by omega) (by omega) (by omega) (by omega) (by omega) (by omega) (by omega) (by omega) (by omega) (by omega) (by omega) (by omega)
  · skip
    refine dz_Tle (fun h37 => ?_) (fun h37 => ?_)
    · skip
      exact dz_Ts trivial
    · skip
      exfalso; omega
set_option maxHeartbeats 1000000 in
set_option maxRecDepth 10000 in
theorem t291_X9_pass_h2_g24 (fu : Nat) (hfu : 1000000000000 ≤ fu) (c248_pots : Int32) (c261_many : Int32) (c261_swapsAPot : Int32) (a265 : Nat → Int32) (a268 : Nat → Int32) (a269 : Nat → Int32) (n269 : Nat) (n309 : Nat) (p0 : c248_pots.toInt ≤ 4) (p1 : 4 ≤ c248_pots.toInt) (p2 : c261_many.toInt ≤ 2) (p3 : 2 ≤ c261_many.toInt) (p4 : c261_swapsAPot.toInt ≤ 1) (p5 : 1 ≤ c261_swapsAPot.toInt) (p6 : ((n269 : Nat) : Int) ≤ 13824) (p7 : 1 ≤ ((n269 : Nat) : Int)) (p8 : ((n309 : Nat) : Int) ≤ 13824) (p9 : 1 ≤ ((n309 : Nat) : Int)) (p10 : 16 ≤ ((n309 : Nat) : Int)) (p11 : 16 ≤ ((n269 : Nat) : Int)) (hr_a265 : dz_rt a265 2 1 0 1) (hr_a268 : dz_pt a268 [8, 4, 2, 1]) (hr_a269 : dz_rg a269 n269 0 1023) (k : Nat) (ih : ∀ j9, j9 < k → p291_X9_pass_g24 fu c248_pots c261_many c261_swapsAPot a265 a268 a269 n269 n309 j9) : ∀ (v1 : Int32) (v2 : Int32) (v3 : Int32) (v4 : Int32) (v5 : Int32) (v6 : Int32) (v7 : Int32) (a309 : Nat → Int32), v1.toInt ≤ 15 → 0 ≤ v1.toInt → v3.toInt ≤ 3 → 0 ≤ v3.toInt → v4.toInt ≤ 8 → 1 ≤ v4.toInt → v5.toInt ≤ 1 → 0 ≤ v5.toInt → v6.toInt ≤ 15 → (-8) ≤ v6.toInt → v7.toInt ≤ 1 → 0 ≤ v7.toInt → v5.toInt ≤ v1.toInt → v6.toInt ≤ v1.toInt → v1.toInt ≤ v6.toInt + 8 → v3.toInt ≤ v6.toInt + 8 → ((v3.toInt = 0 ∧ v4.toInt = 8 ∧ v5.toInt = v1.toInt / 8 % 2 ∧ v6.toInt = v1.toInt - v5.toInt * 8) ∨ (v3.toInt = 1 ∧ v4.toInt = 4 ∧ v5.toInt = v1.toInt / 4 % 2 ∧ v6.toInt = v1.toInt - v5.toInt * 4) ∨ (v3.toInt = 2 ∧ v4.toInt = 2 ∧ v5.toInt = v1.toInt / 2 % 2 ∧ v6.toInt = v1.toInt - v5.toInt * 2) ∨ (v3.toInt = 3 ∧ v4.toInt = 1 ∧ v5.toInt = v1.toInt % 2 ∧ v6.toInt = v1.toInt - v5.toInt * 1)) → 0 + 0 + ((4 - v3.toInt) - 1) * 56 + 0 + (1 - v7.toInt) * 14 + 14 ≤ ((k : Nat) : Int) → dz_T ((F291_X9_pass fu c248_pots c261_many c261_swapsAPot a265 a268 a269 n269 n309 k).2.1 v1 v2 v3 v4 v5 v6 v7 a309) (fun r => True) := by
  intro v1 v2 v3 v4 v5 v6 v7 a309 i0 i1 i2 i3 i4 i5 i6 i7 i8 i9 i10 i11 i12 i13 i14 i15 x0 hm
  obtain ⟨k0, rfl⟩ : ∃ x, k = x + 1 := ⟨k - 1, by omega⟩
  show dz_T (s291_X9_pass_2 fu c248_pots c261_many c261_swapsAPot a265 a268 a269 n269 n309 (F291_X9_pass fu c248_pots c261_many c261_swapsAPot a265 a268 a269 n269 n309 k0).1 (F291_X9_pass fu c248_pots c261_many c261_swapsAPot a265 a268 a269 n269 n309 k0).2.2  v1 v2 v3 v4 v5 v6 v7 a309) _
  unfold s291_X9_pass_2
  rcases (show v3.toInt = 0 ∨ v3.toInt = 1 ∨ v3.toInt = 2 ∨ v3.toInt = 3 by omega) with hs | hs | hs | hs
  · skip
    refine dz_Tle (fun h1 => ?_) (fun h1 => ?_)
    · skip
      have e2 := dz_l1
      have e3 := dz_add (a := v3) (b := (1 : Int32)) (by omega) (by omega)
      exact (ih k0 (by omega)).1 v1 v2 (v3 + (1 : Int32)) a309 i0 i1 (by omega) (by omega) (by omega)
    · skip
      have e4 := dz_l6
      have e5 := dz_mulr (a := v5) (b := (6 : Int32)) 6 (by omega) (by omega) (by omega)
      have e6 := dz_add (a := (v5 * (6 : Int32))) (b := v7) (by omega) (by omega)
      refine dz_Tin (by omega) (by omega) ?_
      have e7 := dz_rtat (hr_a265) (x := v5) (y := v7) (by omega) (by omega) (by omega) (by omega) (by omega)
      have e8 := dz_mulr (a := (a265 ((v5 * (6 : Int32)) + v7).toNatClampNeg)) (b := v4) 8 (by omega) (by omega) (by omega)
      have e9 := dz_add (a := v6) (b := ((a265 ((v5 * (6 : Int32)) + v7).toNatClampNeg) * v4)) (by omega) (by omega)
      refine dz_Tin (by omega) (by omega) ?_
      have e10 := dz_rgat (hr_a269) (i := (v6 + ((a265 ((v5 * (6 : Int32)) + v7).toNatClampNeg) * v4))) (by omega) (by omega)
      have e11 := dz_l0
      refine dz_Teq (fun h12 => ?_) (fun h12 => ?_)
      · skip
        obtain ⟨k1, rfl⟩ : ∃ x, k0 = x + 1 := ⟨k0 - 1, by omega⟩
        show dz_T (s291_X9_pass_3 fu c248_pots c261_many c261_swapsAPot a265 a268 a269 n269 n309 (F291_X9_pass fu c248_pots c261_many c261_swapsAPot a265 a268 a269 n269 n309 k1).2.1 v1 v2 v3 v4 v5 v6 v7 (v6 + ((a265 ((v5 * (6 : Int32)) + v7).toNatClampNeg) * v4)) a309) _
        unfold s291_X9_pass_3
        refine dz_Tin (by omega) (by omega) ?_
        refine dz_Tin (by omega) (by omega) ?_
        have e13 := dz_l1
        have e14 := dz_add (a := v7) (b := (1 : Int32)) (by omega) (by omega)
        exact (ih k1 (by omega)).2 v1 v2 v3 v4 v5 v6 (v7 + (1 : Int32)) (upd a309 (v6 + ((a265 ((v5 * (6 : Int32)) + v7).toNatClampNeg) * v4)).toNatClampNeg ((a309 (v6 + ((a265 ((v5 * (6 : Int32)) + v7).toNatClampNeg) * v4)).toNatClampNeg) + v2)) i0 i1 i2 i3 i4 i5 i6 i7 i8 i9 (by omega) (by omega) i12 i13 i14 i15 (by omega) (by omega)
      · skip
        obtain ⟨k2, rfl⟩ : ∃ x, k0 = x + 1 := ⟨k0 - 1, by omega⟩
        show dz_T (s291_X9_pass_3 fu c248_pots c261_many c261_swapsAPot a265 a268 a269 n269 n309 (F291_X9_pass fu c248_pots c261_many c261_swapsAPot a265 a268 a269 n269 n309 k2).2.1 v1 v2 v3 v4 v5 v6 v7 v1 a309) _
        unfold s291_X9_pass_3
        refine dz_Tin (by omega) (by omega) ?_
        refine dz_Tin (by omega) (by omega) ?_
        have e15 := dz_l1
        have e16 := dz_add (a := v7) (b := (1 : Int32)) (by omega) (by omega)
        exact (ih k2 (by omega)).2 v1 v2 v3 v4 v5 v6 (v7 + (1 : Int32)) (upd a309 v1.toNatClampNeg ((a309 v1.toNatClampNeg) + v2)) i0 i1 i2 i3 i4 i5 i6 i7 i8 i9 (by omega) (by omega) i12 i13 i14 i15 (by omega) (by omega)
  · skip
    refine dz_Tle (fun h17 => ?_) (fun h17 => ?_)
    · skip
      have e18 := dz_l1
      have e19 := dz_add (a := v3) (b := (1 : Int32)) (by omega) (by omega)
      exact (ih k0 (by omega)).1 v1 v2 (v3 + (1 : Int32)) a309 i0 i1 (by omega) (by omega) (by omega)
    · skip
      have e20 := dz_l6
      have e21 := dz_mulr (a := v5) (b := (6 : Int32)) 6 (by omega) (by omega) (by omega)
      have e22 := dz_add (a := (v5 * (6 : Int32))) (b := v7) (by omega) (by omega)
      refine dz_Tin (by omega) (by omega) ?_
      have e23 := dz_rtat (hr_a265) (x := v5) (y := v7) (by omega) (by omega) (by omega) (by omega) (by omega)
      have e24 := dz_mulr (a := (a265 ((v5 * (6 : Int32)) + v7).toNatClampNeg)) (b := v4) 4 (by omega) (by omega) (by omega)
      have e25 := dz_add (a := v6) (b := ((a265 ((v5 * (6 : Int32)) + v7).toNatClampNeg) * v4)) (by omega) (by omega)
      refine dz_Tin (by omega) (by omega) ?_
      have e26 := dz_rgat (hr_a269) (i := (v6 + ((a265 ((v5 * (6 : Int32)) + v7).toNatClampNeg) * v4))) (by omega) (by omega)
      have e27 := dz_l0
      refine dz_Teq (fun h28 => ?_) (fun h28 => ?_)
      · skip
        obtain ⟨k3, rfl⟩ : ∃ x, k0 = x + 1 := ⟨k0 - 1, by omega⟩
        show dz_T (s291_X9_pass_3 fu c248_pots c261_many c261_swapsAPot a265 a268 a269 n269 n309 (F291_X9_pass fu c248_pots c261_many c261_swapsAPot a265 a268 a269 n269 n309 k3).2.1 v1 v2 v3 v4 v5 v6 v7 (v6 + ((a265 ((v5 * (6 : Int32)) + v7).toNatClampNeg) * v4)) a309) _
        unfold s291_X9_pass_3
        refine dz_Tin (by omega) (by omega) ?_
        refine dz_Tin (by omega) (by omega) ?_
        have e29 := dz_l1
        have e30 := dz_add (a := v7) (b := (1 : Int32)) (by omega) (by omega)
        exact (ih k3 (by omega)).2 v1 v2 v3 v4 v5 v6 (v7 + (1 : Int32)) (upd a309 (v6 + ((a265 ((v5 * (6 : Int32)) + v7).toNatClampNeg) * v4)).toNatClampNeg ((a309 (v6 + ((a265 ((v5 * (6 : Int32)) + v7).toNatClampNeg) * v4)).toNatClampNeg) + v2)) i0 i1 i2 i3 i4 i5 i6 i7 i8 i9 (by omega) (by omega) i12 i13 i14 i15 (by omega) (by omega)
      · skip
        obtain ⟨k4, rfl⟩ : ∃ x, k0 = x + 1 := ⟨k0 - 1, by omega⟩
        show dz_T (s291_X9_pass_3 fu c248_pots c261_many c261_swapsAPot a265 a268 a269 n269 n309 (F291_X9_pass fu c248_pots c261_many c261_swapsAPot a265 a268 a269 n269 n309 k4).2.1 v1 v2 v3 v4 v5 v6 v7 v1 a309) _
        unfold s291_X9_pass_3
        refine dz_Tin (by omega) (by omega) ?_
        refine dz_Tin (by omega) (by omega) ?_
        have e31 := dz_l1
        have e32 := dz_add (a := v7) (b := (1 : Int32)) (by omega) (by omega)
        exact (ih k4 (by omega)).2 v1 v2 v3 v4 v5 v6 (v7 + (1 : Int32)) (upd a309 v1.toNatClampNeg ((a309 v1.toNatClampNeg) + v2)) i0 i1 i2 i3 i4 i5 i6 i7 i8 i9 (by omega) (by omega) i12 i13 i14 i15 (by omega) (by omega)
  · skip
    refine dz_Tle (fun h33 => ?_) (fun h33 => ?_)
    · skip
      have e34 := dz_l1
      have e35 := dz_add (a := v3) (b := (1 : Int32)) (by omega) (by omega)
      exact (ih k0 (by omega)).1 v1 v2 (v3 + (1 : Int32)) a309 i0 i1 (by omega) (by omega) (by omega)
    · skip
      have e36 := dz_l6
      have e37 := dz_mulr (a := v5) (b := (6 : Int32)) 6 (by omega) (by omega) (by omega)
      have e38 := dz_add (a := (v5 * (6 : Int32))) (b := v7) (by omega) (by omega)
      refine dz_Tin (by omega) (by omega) ?_
      have e39 := dz_rtat (hr_a265) (x := v5) (y := v7) (by omega) (by omega) (by omega) (by omega) (by omega)
      have e40 := dz_mulr (a := (a265 ((v5 * (6 : Int32)) + v7).toNatClampNeg)) (b := v4) 2 (by omega) (by omega) (by omega)
      have e41 := dz_add (a := v6) (b := ((a265 ((v5 * (6 : Int32)) + v7).toNatClampNeg) * v4)) (by omega) (by omega)
      refine dz_Tin (by omega) (by omega) ?_
      have e42 := dz_rgat (hr_a269) (i := (v6 + ((a265 ((v5 * (6 : Int32)) + v7).toNatClampNeg) * v4))) (by omega) (by omega)
      have e43 := dz_l0
      refine dz_Teq (fun h44 => ?_) (fun h44 => ?_)
      · skip
        obtain ⟨k5, rfl⟩ : ∃ x, k0 = x + 1 := ⟨k0 - 1, by omega⟩
        show dz_T (s291_X9_pass_3 fu c248_pots c261_many c261_swapsAPot a265 a268 a269 n269 n309 (F291_X9_pass fu c248_pots c261_many c261_swapsAPot a265 a268 a269 n269 n309 k5).2.1 v1 v2 v3 v4 v5 v6 v7 (v6 + ((a265 ((v5 * (6 : Int32)) + v7).toNatClampNeg) * v4)) a309) _
        unfold s291_X9_pass_3
        refine dz_Tin (by omega) (by omega) ?_
        refine dz_Tin (by omega) (by omega) ?_
        have e45 := dz_l1
        have e46 := dz_add (a := v7) (b := (1 : Int32)) (by omega) (by omega)
        exact (ih k5 (by omega)).2 v1 v2 v3 v4 v5 v6 (v7 + (1 : Int32)) (upd a309 (v6 + ((a265 ((v5 * (6 : Int32)) + v7).toNatClampNeg) * v4)).toNatClampNeg ((a309 (v6 + ((a265 ((v5 * (6 : Int32)) + v7).toNatClampNeg) * v4)).toNatClampNeg) + v2)) i0 i1 i2 i3 i4 i5 i6 i7 i8 i9 (by omega) (by omega) i12 i13 i14 i15 (by omega) (by omega)
      · skip
        obtain ⟨k6, rfl⟩ : ∃ x, k0 = x + 1 := ⟨k0 - 1, by omega⟩
        show dz_T (s291_X9_pass_3 fu c248_pots c261_many c261_swapsAPot a265 a268 a269 n269 n309 (F291_X9_pass fu c248_pots c261_many c261_swapsAPot a265 a268 a269 n269 n309 k6).2.1 v1 v2 v3 v4 v5 v6 v7 v1 a309) _
        unfold s291_X9_pass_3
        refine dz_Tin (by omega) (by omega) ?_
        refine dz_Tin (by omega) (by omega) ?_
        have e47 := dz_l1
        have e48 := dz_add (a := v7) (b := (1 : Int32)) (by omega) (by omega)
        exact (ih k6 (by omega)).2 v1 v2 v3 v4 v5 v6 (v7 + (1 : Int32)) (upd a309 v1.toNatClampNeg ((a309 v1.toNatClampNeg) + v2)) i0 i1 i2 i3 i4 i5 i6 i7 i8 i9 (by omega) (by omega) i12 i13 i14 i15 (by omega) (by omega)
  · skip
    refine dz_Tle (fun h49 => ?_) (fun h49 => ?_)
    · skip
      have e50 := dz_l1
      have e51 := dz_add (a := v3) (b := (1 : Int32)) (by omega) (by omega)
      exact (ih k0 (by omega)).1 v1 v2 (v3 + (1 : Int32)) a309 i0 i1 (by omega) (by omega) (by omega)
    · skip
      have e52 := dz_l6
      have e53 := dz_mulr (a := v5) (b := (6 : Int32)) 6 (by omega) (by omega) (by omega)
      have e54 := dz_add (a := (v5 * (6 : Int32))) (b := v7) (by omega) (by omega)
      refine dz_Tin (by omega) (by omega) ?_
      have e55 := dz_rtat (hr_a265) (x := v5) (y := v7) (by omega) (by omega) (by omega) (by omega) (by omega)
      have e56 := dz_mulr (a := (a265 ((v5 * (6 : Int32)) + v7).toNatClampNeg)) (b := v4) 1 (by omega) (by omega) (by omega)
      have e57 := dz_add (a := v6) (b := ((a265 ((v5 * (6 : Int32)) + v7).toNatClampNeg) * v4)) (by omega) (by omega)
      refine dz_Tin (by omega) (by omega) ?_
      have e58 := dz_rgat (hr_a269) (i := (v6 + ((a265 ((v5 * (6 : Int32)) + v7).toNatClampNeg) * v4))) (by omega) (by omega)
      have e59 := dz_l0
      refine dz_Teq (fun h60 => ?_) (fun h60 => ?_)
      · skip
        obtain ⟨k7, rfl⟩ : ∃ x, k0 = x + 1 := ⟨k0 - 1, by omega⟩
        show dz_T (s291_X9_pass_3 fu c248_pots c261_many c261_swapsAPot a265 a268 a269 n269 n309 (F291_X9_pass fu c248_pots c261_many c261_swapsAPot a265 a268 a269 n269 n309 k7).2.1 v1 v2 v3 v4 v5 v6 v7 (v6 + ((a265 ((v5 * (6 : Int32)) + v7).toNatClampNeg) * v4)) a309) _
        unfold s291_X9_pass_3
        refine dz_Tin (by omega) (by omega) ?_
        refine dz_Tin (by omega) (by omega) ?_
        have e61 := dz_l1
        have e62 := dz_add (a := v7) (b := (1 : Int32)) (by omega) (by omega)
        exact (ih k7 (by omega)).2 v1 v2 v3 v4 v5 v6 (v7 + (1 : Int32)) (upd a309 (v6 + ((a265 ((v5 * (6 : Int32)) + v7).toNatClampNeg) * v4)).toNatClampNeg ((a309 (v6 + ((a265 ((v5 * (6 : Int32)) + v7).toNatClampNeg) * v4)).toNatClampNeg) + v2)) i0 i1 i2 i3 i4 i5 i6 i7 i8 i9 (by omega) (by omega) i12 i13 i14 i15 (by omega) (by omega)
      · skip
        obtain ⟨k8, rfl⟩ : ∃ x, k0 = x + 1 := ⟨k0 - 1, by omega⟩
        show dz_T (s291_X9_pass_3 fu c248_pots c261_many c261_swapsAPot a265 a268 a269 n269 n309 (F291_X9_pass fu c248_pots c261_many c261_swapsAPot a265 a268 a269 n269 n309 k8).2.1 v1 v2 v3 v4 v5 v6 v7 v1 a309) _
        unfold s291_X9_pass_3
        refine dz_Tin (by omega) (by omega) ?_
        refine dz_Tin (by omega) (by omega) ?_
        have e63 := dz_l1
        have e64 := dz_add (a := v7) (b := (1 : Int32)) (by omega) (by omega)
        exact (ih k8 (by omega)).2 v1 v2 v3 v4 v5 v6 (v7 + (1 : Int32)) (upd a309 v1.toNatClampNeg ((a309 v1.toNatClampNeg) + v2)) i0 i1 i2 i3 i4 i5 i6 i7 i8 i9 (by omega) (by omega) i12 i13 i14 i15 (by omega) (by omega)
theorem t291_X9_pass_I_g24 (fu : Nat) (hfu : 1000000000000 ≤ fu) (c248_pots : Int32) (c261_many : Int32) (c261_swapsAPot : Int32) (a265 : Nat → Int32) (a268 : Nat → Int32) (a269 : Nat → Int32) (n269 : Nat) (n309 : Nat) (p0 : c248_pots.toInt ≤ 4) (p1 : 4 ≤ c248_pots.toInt) (p2 : c261_many.toInt ≤ 2) (p3 : 2 ≤ c261_many.toInt) (p4 : c261_swapsAPot.toInt ≤ 1) (p5 : 1 ≤ c261_swapsAPot.toInt) (p6 : ((n269 : Nat) : Int) ≤ 13824) (p7 : 1 ≤ ((n269 : Nat) : Int)) (p8 : ((n309 : Nat) : Int) ≤ 13824) (p9 : 1 ≤ ((n309 : Nat) : Int)) (p10 : 16 ≤ ((n309 : Nat) : Int)) (p11 : 16 ≤ ((n269 : Nat) : Int)) (hr_a265 : dz_rt a265 2 1 0 1) (hr_a268 : dz_pt a268 [8, 4, 2, 1]) (hr_a269 : dz_rg a269 n269 0 1023) (k : Nat) : p291_X9_pass_g24 fu c248_pots c261_many c261_swapsAPot a265 a268 a269 n269 n309 k := by
  induction k using Nat.strongRecOn with
  | _ k ih => exact ⟨t291_X9_pass_h1_g24 fu hfu c248_pots c261_many c261_swapsAPot a265 a268 a269 n269 n309 p0 p1 p2 p3 p4 p5 p6 p7 p8 p9 p10 p11 hr_a265 hr_a268 hr_a269 k ih, t291_X9_pass_h2_g24 fu hfu c248_pots c261_many c261_swapsAPot a265 a268 a269 n269 n309 p0 p1 p2 p3 p4 p5 p6 p7 p8 p9 p10 p11 hr_a265 hr_a268 hr_a269 k ih⟩
set_option maxHeartbeats 1000000 in
set_option maxRecDepth 10000 in
theorem t291_X9_pass_E_g24 (fu : Nat) (hfu : 1000000000000 ≤ fu) (c248_pots : Int32) (c261_many : Int32) (c261_swapsAPot : Int32) (a265 : Nat → Int32) (a268 : Nat → Int32) (a269 : Nat → Int32) (n269 : Nat) (n309 : Nat) (v1 : Int32) (v2 : Int32) (a309 : Nat → Int32) (p0 : c248_pots.toInt ≤ 4) (p1 : 4 ≤ c248_pots.toInt) (p2 : c261_many.toInt ≤ 2) (p3 : 2 ≤ c261_many.toInt) (p4 : c261_swapsAPot.toInt ≤ 1) (p5 : 1 ≤ c261_swapsAPot.toInt) (p6 : ((n269 : Nat) : Int) ≤ 13824) (p7 : 1 ≤ ((n269 : Nat) : Int)) (p8 : ((n309 : Nat) : Int) ≤ 13824) (p9 : 1 ≤ ((n309 : Nat) : Int)) (p10 : 0 ≤ v1.toInt) (p11 : v1.toInt ≤ 15) (p12 : 16 ≤ ((n309 : Nat) : Int)) (p13 : 16 ≤ ((n269 : Nat) : Int)) (hr_a265 : dz_rt a265 2 1 0 1) (hr_a268 : dz_pt a268 [8, 4, 2, 1]) (hr_a269 : dz_rg a269 n269 0 1023) (kv : Nat) (hkv : 1000000000000 ≤ kv) : dz_T (s291_X9_pass_0 fu c248_pots c261_many c261_swapsAPot a265 a268 a269 n269 n309 (F291_X9_pass fu c248_pots c261_many c261_swapsAPot a265 a268 a269 n269 n309 kv).1  v1 v2 a309) (fun r => True) := by
  unfold s291_X9_pass_0
  have e1 := dz_l0
  exact (t291_X9_pass_I_g24 fu hfu c248_pots c261_many c261_swapsAPot a265 a268 a269 n269 n309 p0 p1 p2 p3 p4 p5 p6 p7 p8 p9 p12 p13 hr_a265 hr_a268 hr_a269 kv).1 v1 v2 (0 : Int32) a309 p11 p10 (by omega) (by omega) (by omega)
theorem t291_X9_pass_g24 (fu : Nat) (hfu : 1000000000000 ≤ fu) (c248_pots : Int32) (c261_many : Int32) (c261_swapsAPot : Int32) (a265 : Nat → Int32) (a268 : Nat → Int32) (a269 : Nat → Int32) (n269 : Nat) (n309 : Nat) (v1 : Int32) (v2 : Int32) (a309 : Nat → Int32) (p0 : c248_pots.toInt ≤ 4) (p1 : 4 ≤ c248_pots.toInt) (p2 : c261_many.toInt ≤ 2) (p3 : 2 ≤ c261_many.toInt) (p4 : c261_swapsAPot.toInt ≤ 1) (p5 : 1 ≤ c261_swapsAPot.toInt) (p6 : ((n269 : Nat) : Int) ≤ 13824) (p7 : 1 ≤ ((n269 : Nat) : Int)) (p8 : ((n309 : Nat) : Int) ≤ 13824) (p9 : 1 ≤ ((n309 : Nat) : Int)) (p10 : 0 ≤ v1.toInt) (p11 : v1.toInt ≤ 15) (p12 : 16 ≤ ((n309 : Nat) : Int)) (p13 : 16 ≤ ((n269 : Nat) : Int)) (hr_a265 : dz_rt a265 2 1 0 1) (hr_a268 : dz_pt a268 [8, 4, 2, 1]) (hr_a269 : dz_rg a269 n269 0 1023) : dz_T (f291_X9_pass fu c248_pots c261_many c261_swapsAPot a265 a268 a269 n269 n309 v1 v2 a309) (fun r => True) :=
  t291_X9_pass_E_g24 fu hfu c248_pots c261_many c261_swapsAPot a265 a268 a269 n269 n309 v1 v2 a309 p0 p1 p2 p3 p4 p5 p6 p7 p8 p9 p10 p11 p12 p13 hr_a265 hr_a268 hr_a269 fu hfu
abbrev p291_X9_pass_g30 (fu : Nat) (c248_pots : Int32) (c261_many : Int32) (c261_swapsAPot : Int32) (a265 : Nat → Int32) (a268 : Nat → Int32) (a269 : Nat → Int32) (n269 : Nat) (n309 : Nat) (k : Nat) : Prop :=
  (∀ (v1 : Int32) (v2 : Int32) (v3 : Int32) (a309 : Nat → Int32), v1.toInt ≤ 0 → 0 ≤ v1.toInt → v3.toInt ≤ 0 → 0 ≤ v3.toInt → 0 + 0 + (0 - v3.toInt) * 42 + 7 ≤ ((k : Nat) : Int) → dz_T ((F291_X9_pass fu c248_pots c261_many c261_swapsAPot a265 a268 a269 n269 n309 k).1 v1 v2 v3 a309) (fun r => True))
set_option maxHeartbeats 1000000 in
set_option maxRecDepth 10000 in
theorem t291_X9_pass_h1_g30 (fu : Nat) (hfu : 1000000000000 ≤ fu) (c248_pots : Int32) (c261_many : Int32) (c261_swapsAPot : Int32) (a265 : Nat → Int32) (a268 : Nat → Int32) (a269 : Nat → Int32) (n269 : Nat) (n309 : Nat) (p0 : c248_pots.toInt ≤ 0) (p1 : 0 ≤ c248_pots.toInt) (p2 : c261_many.toInt ≤ 6) (p3 : 6 ≤ c261_many.toInt) (p4 : c261_swapsAPot.toInt ≤ 3) (p5 : 3 ≤ c261_swapsAPot.toInt) (p6 : ((n269 : Nat) : Int) ≤ 13824) (p7 : 1 ≤ ((n269 : Nat) : Int)) (p8 : ((n309 : Nat) : Int) ≤ 13824) (p9 : 1 ≤ ((n309 : Nat) : Int)) (p10 : 1 ≤ ((n309 : Nat) : Int)) (p11 : 1 ≤ ((n269 : Nat) : Int)) (hr_a265 : dz_rt a265 6 3 0 5) (hr_a269 : dz_rg a269 n269 0 1023) (k : Nat) (ih : ∀ j9, j9 < k → p291_X9_pass_g30 fu c248_pots c261_many c261_swapsAPot a265 a268 a269 n269 n309 j9) : ∀ (v1 : Int32) (v2 : Int32) (v3 : Int32) (a309 : Nat → Int32), v1.toInt ≤ 0 → 0 ≤ v1.toInt → v3.toInt ≤ 0 → 0 ≤ v3.toInt → 0 + 0 + (0 - v3.toInt) * 42 + 7 ≤ ((k : Nat) : Int) → dz_T ((F291_X9_pass fu c248_pots c261_many c261_swapsAPot a265 a268 a269 n269 n309 k).1 v1 v2 v3 a309) (fun r => True) := by
  intro v1 v2 v3 a309 i0 i1 i2 i3 hm
  obtain ⟨k0, rfl⟩ : ∃ x, k = x + 1 := ⟨k - 1, by omega⟩
  show dz_T (s291_X9_pass_1 fu c248_pots c261_many c261_swapsAPot a265 a268 a269 n269 n309 (F291_X9_pass fu c248_pots c261_many c261_swapsAPot a265 a268 a269 n269 n309 k0).2.1  v1 v2 v3 a309) _
  unfold s291_X9_pass_1
  refine dz_Tle (fun h1 => ?_) (fun h1 => ?_)
  · skip
    exact dz_Ts trivial
  · skip
    exfalso; omega
theorem t291_X9_pass_I_g30 (fu : Nat) (hfu : 1000000000000 ≤ fu) (c248_pots : Int32) (c261_many : Int32) (c261_swapsAPot : Int32) (a265 : Nat → Int32) (a268 : Nat → Int32) (a269 : Nat → Int32) (n269 : Nat) (n309 : Nat) (p0 : c248_pots.toInt ≤ 0) (p1 : 0 ≤ c248_pots.toInt) (p2 : c261_many.toInt ≤ 6) (p3 : 6 ≤ c261_many.toInt) (p4 : c261_swapsAPot.toInt ≤ 3) (p5 : 3 ≤ c261_swapsAPot.toInt) (p6 : ((n269 : Nat) : Int) ≤ 13824) (p7 : 1 ≤ ((n269 : Nat) : Int)) (p8 : ((n309 : Nat) : Int) ≤ 13824) (p9 : 1 ≤ ((n309 : Nat) : Int)) (p10 : 1 ≤ ((n309 : Nat) : Int)) (p11 : 1 ≤ ((n269 : Nat) : Int)) (hr_a265 : dz_rt a265 6 3 0 5) (hr_a269 : dz_rg a269 n269 0 1023) (k : Nat) : p291_X9_pass_g30 fu c248_pots c261_many c261_swapsAPot a265 a268 a269 n269 n309 k := by
  induction k using Nat.strongRecOn with
  | _ k ih => exact t291_X9_pass_h1_g30 fu hfu c248_pots c261_many c261_swapsAPot a265 a268 a269 n269 n309 p0 p1 p2 p3 p4 p5 p6 p7 p8 p9 p10 p11 hr_a265 hr_a269 k ih
set_option maxHeartbeats 1000000 in
set_option maxRecDepth 10000 in
theorem t291_X9_pass_E_g30 (fu : Nat) (hfu : 1000000000000 ≤ fu) (c248_pots : Int32) (c261_many : Int32) (c261_swapsAPot : Int32) (a265 : Nat → Int32) (a268 : Nat → Int32) (a269 : Nat → Int32) (n269 : Nat) (n309 : Nat) (v1 : Int32) (v2 : Int32) (a309 : Nat → Int32) (p0 : c248_pots.toInt ≤ 0) (p1 : 0 ≤ c248_pots.toInt) (p2 : c261_many.toInt ≤ 6) (p3 : 6 ≤ c261_many.toInt) (p4 : c261_swapsAPot.toInt ≤ 3) (p5 : 3 ≤ c261_swapsAPot.toInt) (p6 : ((n269 : Nat) : Int) ≤ 13824) (p7 : 1 ≤ ((n269 : Nat) : Int)) (p8 : ((n309 : Nat) : Int) ≤ 13824) (p9 : 1 ≤ ((n309 : Nat) : Int)) (p10 : 0 ≤ v1.toInt) (p11 : v1.toInt ≤ 0) (p12 : 1 ≤ ((n309 : Nat) : Int)) (p13 : 1 ≤ ((n269 : Nat) : Int)) (hr_a265 : dz_rt a265 6 3 0 5) (hr_a269 : dz_rg a269 n269 0 1023) (kv : Nat) (hkv : 1000000000000 ≤ kv) : dz_T (s291_X9_pass_0 fu c248_pots c261_many c261_swapsAPot a265 a268 a269 n269 n309 (F291_X9_pass fu c248_pots c261_many c261_swapsAPot a265 a268 a269 n269 n309 kv).1  v1 v2 a309) (fun r => True) := by
  unfold s291_X9_pass_0
  have e1 := dz_l0
  exact (t291_X9_pass_I_g30 fu hfu c248_pots c261_many c261_swapsAPot a265 a268 a269 n269 n309 p0 p1 p2 p3 p4 p5 p6 p7 p8 p9 p12 p13 hr_a265 hr_a269 kv) v1 v2 (0 : Int32) a309 p11 p10 (by omega) (by omega) (by omega)
theorem t291_X9_pass_g30 (fu : Nat) (hfu : 1000000000000 ≤ fu) (c248_pots : Int32) (c261_many : Int32) (c261_swapsAPot : Int32) (a265 : Nat → Int32) (a268 : Nat → Int32) (a269 : Nat → Int32) (n269 : Nat) (n309 : Nat) (v1 : Int32) (v2 : Int32) (a309 : Nat → Int32) (p0 : c248_pots.toInt ≤ 0) (p1 : 0 ≤ c248_pots.toInt) (p2 : c261_many.toInt ≤ 6) (p3 : 6 ≤ c261_many.toInt) (p4 : c261_swapsAPot.toInt ≤ 3) (p5 : 3 ≤ c261_swapsAPot.toInt) (p6 : ((n269 : Nat) : Int) ≤ 13824) (p7 : 1 ≤ ((n269 : Nat) : Int)) (p8 : ((n309 : Nat) : Int) ≤ 13824) (p9 : 1 ≤ ((n309 : Nat) : Int)) (p10 : 0 ≤ v1.toInt) (p11 : v1.toInt ≤ 0) (p12 : 1 ≤ ((n309 : Nat) : Int)) (p13 : 1 ≤ ((n269 : Nat) : Int)) (hr_a265 : dz_rt a265 6 3 0 5) (hr_a269 : dz_rg a269 n269 0 1023) : dz_T (f291_X9_pass fu c248_pots c261_many c261_swapsAPot a265 a268 a269 n269 n309 v1 v2 a309) (fun r => True) :=
  t291_X9_pass_E_g30 fu hfu c248_pots c261_many c261_swapsAPot a265 a268 a269 n269 n309 v1 v2 a309 p0 p1 p2 p3 p4 p5 p6 p7 p8 p9 p10 p11 p12 p13 hr_a265 hr_a269 fu hfu
abbrev p291_X9_pass_g31 (fu : Nat) (c248_pots : Int32) (c261_many : Int32) (c261_swapsAPot : Int32) (a265 : Nat → Int32) (a268 : Nat → Int32) (a269 : Nat → Int32) (n269 : Nat) (n309 : Nat) (k : Nat) : Prop :=
  (∀ (v1 : Int32) (v2 : Int32) (v3 : Int32) (a309 : Nat → Int32), v1.toInt ≤ 5 → 0 ≤ v1.toInt → v3.toInt ≤ 1 → 0 ≤ v3.toInt → 0 + 0 + (1 - v3.toInt) * 84 + 7 ≤ ((k : Nat) : Int) → dz_T ((F291_X9_pass fu c248_pots c261_many c261_swapsAPot a265 a268 a269 n269 n309 k).1 v1 v2 v3 a309) (fun r => True)) ∧ (∀ (v1 : Int32) (v2 : Int32) (v3 : Int32) (v4 : Int32) (v5 : Int32) (v6 : Int32) (v7 : Int32) (a309 : Nat → Int32), v1.toInt ≤ 5 → 0 ≤ v1.toInt → v3.toInt ≤ 0 → 0 ≤ v3.toInt → v4.toInt ≤ 1 → 1 ≤ v4.toInt → v5.toInt ≤ 5 → 0 ≤ v5.toInt → v6.toInt ≤ 5 → 0 ≤ v6.toInt → v7.toInt ≤ 3 → 0 ≤ v7.toInt → v5.toInt ≤ v1.toInt → v6.toInt ≤ v1.toInt → ((v3.toInt = 0 ∧ v4.toInt = 1 ∧ v5.toInt = v1.toInt % 6 ∧ v6.toInt = v1.toInt - v5.toInt * 1)) → 0 + 0 + ((1 - v3.toInt) - 1) * 84 + 0 + (3 - v7.toInt) * 14 + 14 ≤ ((k : Nat) : Int) → dz_T ((F291_X9_pass fu c248_pots c261_many c261_swapsAPot a265 a268 a269 n269 n309 k).2.1 v1 v2 v3 v4 v5 v6 v7 a309) (fun r => True))
set_option maxHeartbeats 1000000 in
set_option maxRecDepth 10000 in
theorem t291_X9_pass_h1_g31 (fu : Nat) (hfu : 1000000000000 ≤ fu) (c248_pots : Int32) (c261_many : Int32) (c261_swapsAPot : Int32) (a265 : Nat → Int32) (a268 : Nat → Int32) (a269 : Nat → Int32) (n269 : Nat) (n309 : Nat) (p0 : c248_pots.toInt ≤ 1) (p1 : 1 ≤ c248_pots.toInt) (p2 : c261_many.toInt ≤ 6) (p3 : 6 ≤ c261_many.toInt) (p4 : c261_swapsAPot.toInt ≤ 3) (p5 : 3 ≤ c261_swapsAPot.toInt) (p6 : ((n269 : Nat) : Int) ≤ 13824) (p7 : 1 ≤ ((n269 : Nat) : Int)) (p8 : ((n309 : Nat) : Int) ≤ 13824) (p9 : 1 ≤ ((n309 : Nat) : Int)) (p10 : 6 ≤ ((n309 : Nat) : Int)) (p11 : 6 ≤ ((n269 : Nat) : Int)) (hr_a265 : dz_rt a265 6 3 0 5) (hr_a268 : dz_pt a268 [1]) (hr_a269 : dz_rg a269 n269 0 1023) (k : Nat) (ih : ∀ j9, j9 < k → p291_X9_pass_g31 fu c248_pots c261_many c261_swapsAPot a265 a268 a269 n269 n309 j9) : ∀ (v1 : Int32) (v2 : Int32) (v3 : Int32) (a309 : Nat → Int32), v1.toInt ≤ 5 → 0 ≤ v1.toInt → v3.toInt ≤ 1 → 0 ≤ v3.toInt → 0 + 0 + (1 - v3.toInt) * 84 + 7 ≤ ((k : Nat) : Int) → dz_T ((F291_X9_pass fu c248_pots c261_many c261_swapsAPot a265 a268 a269 n269 n309 k).1 v1 v2 v3 a309) (fun r => True) := by
  intro v1 v2 v3 a309 i0 i1 i2 i3 hm
  obtain ⟨k0, rfl⟩ : ∃ x, k = x + 1 := ⟨k - 1, by omega⟩
  show dz_T (s291_X9_pass_1 fu c248_pots c261_many c261_swapsAPot a265 a268 a269 n269 n309 (F291_X9_pass fu c248_pots c261_many c261_swapsAPot a265 a268 a269 n269 n309 k0).2.1  v1 v2 v3 a309) _
  unfold s291_X9_pass_1
  rcases (show v3.toInt = 0 ∨ v3.toInt = 1 by omega) with hs | hs
  · skip
    refine dz_Tle (fun h1 => ?_) (fun h1 => ?_)
    · skip
      exfalso; omega
    · skip
      refine dz_Tin (by omega) (by omega) ?_
      refine dz_Tbe (show f141_X2_rankIn fu c261_many a268 v1 v3 = (if dz_in v3 4 then (if ((a268 v3.toNatClampNeg) ≤ (0 : Int32)) then (some (0 : Int32)) else (if (c261_many ≤ (0 : Int32)) then (some (0 : Int32)) else (if (¬ ((a268 v3.toNatClampNeg) = (0 : Int32))) then (if (¬ (c261_many = (0 : Int32))) then (some (dz_rem (v1 / (a268 v3.toNatClampNeg)) c261_many)) else none) else none))) else none) from rfl) ?_
      refine dz_Tinb (by omega) (by omega) ?_
      have e2 := dz_ptat (hr_a268) (i := v3) (x := 1) 0 (by omega) (by decide)
      have e3 := dz_l0
      refine dz_Tleb (fun h4 => ?_) (fun h4 => ?_)
      · skip
        exfalso; omega
      · skip
        refine dz_Tleb (fun h5 => ?_) (fun h5 => ?_)
        · skip
          exfalso; omega
        · skip
          refine dz_Tzb (by omega) ?_
          refine dz_Tzb (by omega) ?_
          refine dz_Tsb ?_
          have e6 := dz_div1 (a := v1) (b := (a268 v3.toNatClampNeg)) (by omega) (by omega)
          have e7 := dz_remn (a := (v1 / (a268 v3.toNatClampNeg))) (b := c261_many) 6 (by omega) (by omega) (by omega)
          have e8 := dz_mulr (a := (dz_rem (v1 / (a268 v3.toNatClampNeg)) c261_many)) (b := (a268 v3.toNatClampNeg)) 1 (by omega) (by omega) (by omega)
          have e9 := dz_sub (a := v1) (b := ((dz_rem (v1 / (a268 v3.toNatClampNeg)) c261_many) * (a268 v3.toNatClampNeg))) (by omega) (by omega)
          exact (ih k0 (by omega)).2 v1 v2 v3 (a268 v3.toNatClampNeg) (dz_rem (v1 / (a268 v3.toNatClampNeg)) c261_many) (v1 - ((dz_rem (v1 / (a268 v3.toNatClampNeg)) c261_many) * (a268 v3.toNatClampNeg))) (0 : Int32) a309 i0 i1 (by first | assumption | omega) i3 (by omega) (by omega) (by omega) (by omega) (by omega) (by omega) (by omega) (by omega) (by omega) (by omega) (by omega) (by omega)
  · skip
    refine dz_Tle (fun h10 => ?_) (fun h10 => ?_)
    · skip
      exact dz_Ts trivial
    · skip
      exfalso; omega
set_option maxHeartbeats 1000000 in
set_option maxRecDepth 10000 in
theorem t291_X9_pass_h2_g31 (fu : Nat) (hfu : 1000000000000 ≤ fu) (c248_pots : Int32) (c261_many : Int32) (c261_swapsAPot : Int32) (a265 : Nat → Int32) (a268 : Nat → Int32) (a269 : Nat → Int32) (n269 : Nat) (n309 : Nat) (p0 : c248_pots.toInt ≤ 1) (p1 : 1 ≤ c248_pots.toInt) (p2 : c261_many.toInt ≤ 6) (p3 : 6 ≤ c261_many.toInt) (p4 : c261_swapsAPot.toInt ≤ 3) (p5 : 3 ≤ c261_swapsAPot.toInt) (p6 : ((n269 : Nat) : Int) ≤ 13824) (p7 : 1 ≤ ((n269 : Nat) : Int)) (p8 : ((n309 : Nat) : Int) ≤ 13824) (p9 : 1 ≤ ((n309 : Nat) : Int)) (p10 : 6 ≤ ((n309 : Nat) : Int)) (p11 : 6 ≤ ((n269 : Nat) : Int)) (hr_a265 : dz_rt a265 6 3 0 5) (hr_a268 : dz_pt a268 [1]) (hr_a269 : dz_rg a269 n269 0 1023) (k : Nat) (ih : ∀ j9, j9 < k → p291_X9_pass_g31 fu c248_pots c261_many c261_swapsAPot a265 a268 a269 n269 n309 j9) : ∀ (v1 : Int32) (v2 : Int32) (v3 : Int32) (v4 : Int32) (v5 : Int32) (v6 : Int32) (v7 : Int32) (a309 : Nat → Int32), v1.toInt ≤ 5 → 0 ≤ v1.toInt → v3.toInt ≤ 0 → 0 ≤ v3.toInt → v4.toInt ≤ 1 → 1 ≤ v4.toInt → v5.toInt ≤ 5 → 0 ≤ v5.toInt → v6.toInt ≤ 5 → 0 ≤ v6.toInt → v7.toInt ≤ 3 → 0 ≤ v7.toInt → v5.toInt ≤ v1.toInt → v6.toInt ≤ v1.toInt → ((v3.toInt = 0 ∧ v4.toInt = 1 ∧ v5.toInt = v1.toInt % 6 ∧ v6.toInt = v1.toInt - v5.toInt * 1)) → 0 + 0 + ((1 - v3.toInt) - 1) * 84 + 0 + (3 - v7.toInt) * 14 + 14 ≤ ((k : Nat) : Int) → dz_T ((F291_X9_pass fu c248_pots c261_many c261_swapsAPot a265 a268 a269 n269 n309 k).2.1 v1 v2 v3 v4 v5 v6 v7 a309) (fun r => True) := by
  intro v1 v2 v3 v4 v5 v6 v7 a309 i0 i1 i2 i3 i4 i5 i6 i7 i8 i9 i10 i11 i12 i13 x0 hm
  obtain ⟨k0, rfl⟩ : ∃ x, k = x + 1 := ⟨k - 1, by omega⟩
  show dz_T (s291_X9_pass_2 fu c248_pots c261_many c261_swapsAPot a265 a268 a269 n269 n309 (F291_X9_pass fu c248_pots c261_many c261_swapsAPot a265 a268 a269 n269 n309 k0).1 (F291_X9_pass fu c248_pots c261_many c261_swapsAPot a265 a268 a269 n269 n309 k0).2.2  v1 v2 v3 v4 v5 v6 v7 a309) _
  unfold s291_X9_pass_2
  have hs : v3.toInt = 0 := by omega
  refine dz_Tle (fun h1 => ?_) (fun h1 => ?_)
  · skip
    have e2 := dz_l1
    have e3 := dz_add (a := v3) (b := (1 : Int32)) (by omega) (by omega)
    exact (ih k0 (by omega)).1 v1 v2 (v3 + (1 : Int32)) a309 i0 i1 (by omega) (by omega) (by omega)
  · skip
    have e4 := dz_l6
    have e5 := dz_mulr (a := v5) (b := (6 : Int32)) 6 (by omega) (by omega) (by omega)
    have e6 := dz_add (a := (v5 * (6 : Int32))) (b := v7) (by omega) (by omega)
    refine dz_Tin (by omega) (by omega) ?_
    have e7 := dz_rtat (hr_a265) (x := v5) (y := v7) (by omega) (by omega) (by omega) (by omega) (by omega)
    have e8 := dz_mulr (a := (a265 ((v5 * (6 : Int32)) + v7).toNatClampNeg)) (b := v4) 1 (by omega) (by omega) (by omega)
    have e9 := dz_add (a := v6) (b := ((a265 ((v5 * (6 : Int32)) + v7).toNatClampNeg) * v4)) (by omega) (by omega)
    refine dz_Tin (by omega) (by omega) ?_
    have e10 := dz_rgat (hr_a269) (i := (v6 + ((a265 ((v5 * (6 : Int32)) + v7).toNatClampNeg) * v4))) (by omega) (by omega)
    have e11 := dz_l0
    refine dz_Teq (fun h12 => ?_) (fun h12 => ?_)
    · skip
      obtain ⟨k1, rfl⟩ : ∃ x, k0 = x + 1 := ⟨k0 - 1, by omega⟩
      show dz_T (s291_X9_pass_3 fu c248_pots c261_many c261_swapsAPot a265 a268 a269 n269 n309 (F291_X9_pass fu c248_pots c261_many c261_swapsAPot a265 a268 a269 n269 n309 k1).2.1 v1 v2 v3 v4 v5 v6 v7 (v6 + ((a265 ((v5 * (6 : Int32)) + v7).toNatClampNeg) * v4)) a309) _
      unfold s291_X9_pass_3
      refine dz_Tin (by omega) (by omega) ?_
      refine dz_Tin (by omega) (by omega) ?_
      have e13 := dz_l1
      have e14 := dz_add (a := v7) (b := (1 : Int32)) (by omega) (by omega)
      exact (ih k1 (by omega)).2 v1 v2 v3 v4 v5 v6 (v7 + (1 : Int32)) (upd a309 (v6 + ((a265 ((v5 * (6 : Int32)) + v7).toNatClampNeg) * v4)).toNatClampNeg ((a309 (v6 + ((a265 ((v5 * (6 : Int32)) + v7).toNatClampNeg) * v4)).toNatClampNeg) + v2)) i0 i1 i2 i3 i4 i5 i6 i7 i8 i9 (by omega) (by omega) i12 i13 (by omega) (by omega)
    · skip
      obtain ⟨k2, rfl⟩ : ∃ x, k0 = x + 1 := ⟨k0 - 1, by omega⟩
      show dz_T (s291_X9_pass_3 fu c248_pots c261_many c261_swapsAPot a265 a268 a269 n269 n309 (F291_X9_pass fu c248_pots c261_many c261_swapsAPot a265 a268 a269 n269 n309 k2).2.1 v1 v2 v3 v4 v5 v6 v7 v1 a309) _
      unfold s291_X9_pass_3
      refine dz_Tin (by omega) (by omega) ?_
      refine dz_Tin (by omega) (by omega) ?_
      have e15 := dz_l1
      have e16 := dz_add (a := v7) (b := (1 : Int32)) (by omega) (by omega)
      exact (ih k2 (by omega)).2 v1 v2 v3 v4 v5 v6 (v7 + (1 : Int32)) (upd a309 v1.toNatClampNeg ((a309 v1.toNatClampNeg) + v2)) i0 i1 i2 i3 i4 i5 i6 i7 i8 i9 (by omega) (by omega) i12 i13 (by omega) (by omega)
theorem t291_X9_pass_I_g31 (fu : Nat) (hfu : 1000000000000 ≤ fu) (c248_pots : Int32) (c261_many : Int32) (c261_swapsAPot : Int32) (a265 : Nat → Int32) (a268 : Nat → Int32) (a269 : Nat → Int32) (n269 : Nat) (n309 : Nat) (p0 : c248_pots.toInt ≤ 1) (p1 : 1 ≤ c248_pots.toInt) (p2 : c261_many.toInt ≤ 6) (p3 : 6 ≤ c261_many.toInt) (p4 : c261_swapsAPot.toInt ≤ 3) (p5 : 3 ≤ c261_swapsAPot.toInt) (p6 : ((n269 : Nat) : Int) ≤ 13824) (p7 : 1 ≤ ((n269 : Nat) : Int)) (p8 : ((n309 : Nat) : Int) ≤ 13824) (p9 : 1 ≤ ((n309 : Nat) : Int)) (p10 : 6 ≤ ((n309 : Nat) : Int)) (p11 : 6 ≤ ((n269 : Nat) : Int)) (hr_a265 : dz_rt a265 6 3 0 5) (hr_a268 : dz_pt a268 [1]) (hr_a269 : dz_rg a269 n269 0 1023) (k : Nat) : p291_X9_pass_g31 fu c248_pots c261_many c261_swapsAPot a265 a268 a269 n269 n309 k := by
  induction k using Nat.strongRecOn with
  | _ k ih => exact ⟨t291_X9_pass_h1_g31 fu hfu c248_pots c261_many c261_swapsAPot a265 a268 a269 n269 n309 p0 p1 p2 p3 p4 p5 p6 p7 p8 p9 p10 p11 hr_a265 hr_a268 hr_a269 k ih, t291_X9_pass_h2_g31 fu hfu c248_pots c261_many c261_swapsAPot a265 a268 a269 n269 n309 p0 p1 p2 p3 p4 p5 p6 p7 p8 p9 p10 p11 hr_a265 hr_a268 hr_a269 k ih⟩
set_option maxHeartbeats 1000000 in
set_option maxRecDepth 10000 in
theorem t291_X9_pass_E_g31 (fu : Nat) (hfu : 1000000000000 ≤ fu) (c248_pots : Int32) (c261_many : Int32) (c261_swapsAPot : Int32) (a265 : Nat → Int32) (a268 : Nat → Int32) (a269 : Nat → Int32) (n269 : Nat) (n309 : Nat) (v1 : Int32) (v2 : Int32) (a309 : Nat → Int32) (p0 : c248_pots.toInt ≤ 1) (p1 : 1 ≤ c248_pots.toInt) (p2 : c261_many.toInt ≤ 6) (p3 : 6 ≤ c261_many.toInt) (p4 : c261_swapsAPot.toInt ≤ 3) (p5 : 3 ≤ c261_swapsAPot.toInt) (p6 : ((n269 : Nat) : Int) ≤ 13824) (p7 : 1 ≤ ((n269 : Nat) : Int)) (p8 : ((n309 : Nat) : Int) ≤ 13824) (p9 : 1 ≤ ((n309 : Nat) : Int)) (p10 : 0 ≤ v1.toInt) (p11 : v1.toInt ≤ 5) (p12 : 6 ≤ ((n309 : Nat) : Int)) (p13 : 6 ≤ ((n269 : Nat) : Int)) (hr_a265 : dz_rt a265 6 3 0 5) (hr_a268 : dz_pt a268 [1]) (hr_a269 : dz_rg a269 n269 0 1023) (kv : Nat) (hkv : 1000000000000 ≤ kv) : dz_T (s291_X9_pass_0 fu c248_pots c261_many c261_swapsAPot a265 a268 a269 n269 n309 (F291_X9_pass fu c248_pots c261_many c261_swapsAPot a265 a268 a269 n269 n309 kv).1  v1 v2 a309) (fun r => True) := by
  unfold s291_X9_pass_0
  have e1 := dz_l0
  exact (t291_X9_pass_I_g31 fu hfu c248_pots c261_many c261_swapsAPot a265 a268 a269 n269 n309 p0 p1 p2 p3 p4 p5 p6 p7 p8 p9 p12 p13 hr_a265 hr_a268 hr_a269 kv).1 v1 v2 (0 : Int32) a309 p11 p10 (by omega) (by omega) (by omega)
theorem t291_X9_pass_g31 (fu : Nat) (hfu : 1000000000000 ≤ fu) (c248_pots : Int32) (c261_many : Int32) (c261_swapsAPot : Int32) (a265 : Nat → Int32) (a268 : Nat → Int32) (a269 : Nat → Int32) (n269 : Nat) (n309 : Nat) (v1 : Int32) (v2 : Int32) (a309 : Nat → Int32) (p0 : c248_pots.toInt ≤ 1) (p1 : 1 ≤ c248_pots.toInt) (p2 : c261_many.toInt ≤ 6) (p3 : 6 ≤ c261_many.toInt) (p4 : c261_swapsAPot.toInt ≤ 3) (p5 : 3 ≤ c261_swapsAPot.toInt) (p6 : ((n269 : Nat) : Int) ≤ 13824) (p7 : 1 ≤ ((n269 : Nat) : Int)) (p8 : ((n309 : Nat) : Int) ≤ 13824) (p9 : 1 ≤ ((n309 : Nat) : Int)) (p10 : 0 ≤ v1.toInt) (p11 : v1.toInt ≤ 5) (p12 : 6 ≤ ((n309 : Nat) : Int)) (p13 : 6 ≤ ((n269 : Nat) : Int)) (hr_a265 : dz_rt a265 6 3 0 5) (hr_a268 : dz_pt a268 [1]) (hr_a269 : dz_rg a269 n269 0 1023) : dz_T (f291_X9_pass fu c248_pots c261_many c261_swapsAPot a265 a268 a269 n269 n309 v1 v2 a309) (fun r => True) :=
  t291_X9_pass_E_g31 fu hfu c248_pots c261_many c261_swapsAPot a265 a268 a269 n269 n309 v1 v2 a309 p0 p1 p2 p3 p4 p5 p6 p7 p8 p9 p10 p11 p12 p13 hr_a265 hr_a268 hr_a269 fu hfu
abbrev p291_X9_pass_g32 (fu : Nat) (c248_pots : Int32) (c261_many : Int32) (c261_swapsAPot : Int32) (a265 : Nat → Int32) (a268 : Nat → Int32) (a269 : Nat → Int32) (n269 : Nat) (n309 : Nat) (k : Nat) : Prop :=
  (∀ (v1 : Int32) (v2 : Int32) (v3 : Int32) (a309 : Nat → Int32), v1.toInt ≤ 35 → 0 ≤ v1.toInt → v3.toInt ≤ 2 → 0 ≤ v3.toInt → 0 + 0 + (2 - v3.toInt) * 84 + 7 ≤ ((k : Nat) : Int) → dz_T ((F291_X9_pass fu c248_pots c261_many c261_swapsAPot a265 a268 a269 n269 n309 k).1 v1 v2 v3 a309) (fun r => True)) ∧ (∀ (v1 : Int32) (v2 : Int32) (v3 : Int32) (v4 : Int32) (v5 : Int32) (v6 : Int32) (v7 : Int32) (a309 : Nat → Int32), v1.toInt ≤ 35 → 0 ≤ v1.toInt → v3.toInt ≤ 1 → 0 ≤ v3.toInt → v4.toInt ≤ 6 → 1 ≤ v4.toInt → v5.toInt ≤ 5 → 0 ≤ v5.toInt → v6.toInt ≤ 35 → (-30) ≤ v6.toInt → v7.toInt ≤ 3 → 0 ≤ v7.toInt → v5.toInt ≤ v1.toInt → v6.toInt ≤ v1.toInt → ((v3.toInt = 0 ∧ v4.toInt = 6 ∧ v5.toInt = v1.toInt / 6 % 6 ∧ v6.toInt = v1.toInt - v5.toInt * 6) ∨ (v3.toInt = 1 ∧ v4.toInt = 1 ∧ v5.toInt = v1.toInt % 6 ∧ v6.toInt = v1.toInt - v5.toInt * 1)) → 0 + 0 + ((2 - v3.toInt) - 1) * 84 + 0 + (3 - v7.toInt) * 14 + 14 ≤ ((k : Nat) : Int) → dz_T ((F291_X9_pass fu c248_pots c261_many c261_swapsAPot a265 a268 a269 n269 n309 k).2.1 v1 v2 v3 v4 v5 v6 v7 a309) (fun r => True))
set_option maxHeartbeats 1000000 in
set_option maxRecDepth 10000 in
theorem t291_X9_pass_h1_g32 (fu : Nat) (hfu : 1000000000000 ≤ fu) (c248_pots : Int32) (c261_many : Int32) (c261_swapsAPot : Int32) (a265 : Nat → Int32) (a268 : Nat → Int32) (a269 : Nat → Int32) (n269 : Nat) (n309 : Nat) (p0 : c248_pots.toInt ≤ 2) (p1 : 2 ≤ c248_pots.toInt) (p2 : c261_many.toInt ≤ 6) (p3 : 6 ≤ c261_many.toInt) (p4 : c261_swapsAPot.toInt ≤ 3) (p5 : 3 ≤ c261_swapsAPot.toInt) (p6 : ((n269 : Nat) : Int) ≤ 13824) (p7 : 1 ≤ ((n269 : Nat) : Int)) (p8 : ((n309 : Nat) : Int) ≤ 13824) (p9 : 1 ≤ ((n309 : Nat) : Int)) (p10 : 36 ≤ ((n309 : Nat) : Int)) (p11 : 36 ≤ ((n269 : Nat) : Int)) (hr_a265 : dz_rt a265 6 3 0 5) (hr_a268 : dz_pt a268 [6, 1]) (hr_a269 : dz_rg a269 n269 0 1023) (k : Nat) (ih : ∀ j9, j9 < k → p291_X9_pass_g32 fu c248_pots c261_many c261_swapsAPot a265 a268 a269 n269 n309 j9) : ∀ (v1 : Int32) (v2 : Int32) (v3 : Int32) (a309 : Nat → Int32), v1.toInt ≤ 35 → 0 ≤ v1.toInt → v3.toInt ≤ 2 → 0 ≤ v3.toInt → 0 + 0 + (2 - v3.toInt) * 84 + 7 ≤ ((k : Nat) : Int) → dz_T ((F291_X9_pass fu c248_pots c261_many c261_swapsAPot a265 a268 a269 n269 n309 k).1 v1 v2 v3 a309) (fun r => True) := by
  intro v1 v2 v3 a309 i0 i1 i2 i3 hm
  obtain ⟨k0, rfl⟩ : ∃ x, k = x + 1 := ⟨k - 1, by omega⟩
  show dz_T (s291_X9_pass_1 fu c248_pots c261_many c261_swapsAPot a265 a268 a269 n269 n309 (F291_X9_pass fu c248_pots c261_many c261_swapsAPot a265 a268 a269 n269 n309 k0).2.1  v1 v2 v3 a309) _
  unfold s291_X9_pass_1
  rcases (show v3.toInt = 0 ∨ v3.toInt = 1 ∨ v3.toInt = 2 by omega) with hs | hs | hs
  · skip
    refine dz_Tle (fun h1 => ?_) (fun h1 => ?_)
    · skip
      exfalso; omega
    · skip
      refine dz_Tin (by omega) (by omega) ?_
      refine dz_Tbe (show f141_X2_rankIn fu c261_many a268 v1 v3 = (if dz_in v3 4 then (if ((a268 v3.toNatClampNeg) ≤ (0 : Int32)) then (some (0 : Int32)) else (if (c261_many ≤ (0 : Int32)) then (some (0 : Int32)) else (if (¬ ((a268 v3.toNatClampNeg) = (0 : Int32))) then (if (¬ (c261_many = (0 : Int32))) then (some (dz_rem (v1 / (a268 v3.toNatClampNeg)) c261_many)) else none) else none))) else none) from rfl) ?_
      refine dz_Tinb (by omega) (by omega) ?_
      have e2 := dz_ptat (hr_a268) (i := v3) (x := 6) 0 (by omega) (by decide)
      have e3 := dz_l0
      refine dz_Tleb (fun h4 => ?_) (fun h4 => ?_)
      · skip
        exfalso; omega
      · skip
        refine dz_Tleb (fun h5 => ?_) (fun h5 => ?_)
        · skip
          exfalso; omega
        · skip
          refine dz_Tzb (by omega) ?_
          refine dz_Tzb (by omega) ?_
          refine dz_Tsb ?_
          have e6 := dz_divn (a := v1) (b := (a268 v3.toNatClampNeg)) 6 (by omega) (by omega) (by omega)
          have e7 := dz_remn (a := (v1 / (a268 v3.toNatClampNeg))) (b := c261_many) 6 (by omega) (by omega) (by omega)
          have e8 := dz_mulr (a := (dz_rem (v1 / (a268 v3.toNatClampNeg)) c261_many)) (b := (a268 v3.toNatClampNeg)) 6 (by omega) (by omega) (by omega)
          have e9 := dz_sub (a := v1) (b := ((dz_rem (v1 / (a268 v3.toNatClampNeg)) c261_many) * (a268 v3.toNatClampNeg))) (by omega) (by omega)
          exact (ih k0 (by omega)).2 v1 v2 v3 (a268 v3.toNatClampNeg) (dz_rem (v1 / (a268 v3.toNatClampNeg)) c261_many) (v1 - ((dz_rem (v1 / (a268 v3.toNatClampNeg)) c261_many) * (a268 v3.toNatClampNeg))) (0 : Int32) a309 i0 i1 (by first | assumption | omega) i3 (by omega) (by omega) (by omega) (by omega) (by omega) (by omega) (by omega) (by omega) (by omega) (by omega) (by omega) (by omega)
  · skip
    refine dz_Tle (fun h10 => ?_) (fun h10 => ?_)
    · skip
      exfalso; omega
    · skip
      refine dz_Tin (by omega) (by omega) ?_
      refine dz_Tbe (show f141_X2_rankIn fu c261_many a268 v1 v3 = (if dz_in v3 4 then (if ((a268 v3.toNatClampNeg) ≤ (0 : Int32)) then (some (0 : Int32)) else (if (c261_many ≤ (0 : Int32)) then (some (0 : Int32)) else (if (¬ ((a268 v3.toNatClampNeg) = (0 : Int32))) then (if (¬ (c261_many = (0 : Int32))) then (some (dz_rem (v1 / (a268 v3.toNatClampNeg)) c261_many)) else none) else none))) else none) from rfl) ?_
      refine dz_Tinb (by omega) (by omega) ?_
      have e11 := dz_ptat (hr_a268) (i := v3) (x := 1) 1 (by omega) (by decide)
      have e12 := dz_l0
      refine dz_Tleb (fun h13 => ?_) (fun h13 => ?_)
      · skip
        exfalso; omega
      · skip
        refine dz_Tleb (fun h14 => ?_) (fun h14 => ?_)
        · skip
          exfalso; omega
        · skip
          refine dz_Tzb (by omega) ?_
          refine dz_Tzb (by omega) ?_
          refine dz_Tsb ?_
          have e15 := dz_div1 (a := v1) (b := (a268 v3.toNatClampNeg)) (by omega) (by omega)
          have e16 := dz_remn (a := (v1 / (a268 v3.toNatClampNeg))) (b := c261_many) 6 (by omega) (by omega) (by omega)
          have e17 := dz_mulr (a := (dz_rem (v1 / (a268 v3.toNatClampNeg)) c261_many)) (b := (a268 v3.toNatClampNeg)) 1 (by omega) (by omega) (by omega)
          have e18 := dz_sub (a := v1) (b := ((dz_rem (v1 / (a268 v3.toNatClampNeg)) c261_many) * (a268 v3.toNatClampNeg))) (by omega) (by omega)
          exact (ih k0 (by omega)).2 v1 v2 v3 (a268 v3.toNatClampNeg) (dz_rem (v1 / (a268 v3.toNatClampNeg)) c261_many) (v1 - ((dz_rem (v1 / (a268 v3.toNatClampNeg)) c261_many) * (a268 v3.toNatClampNeg))) (0 : Int32) a309 i0 i1 (by first | assumption | omega) i3 (by omega) (by omega) (by omega) (by omega) (by omega) (by omega) (by omega) (by omega) (by omega) (by omega) (by omega) (by omega)
  · skip
    refine dz_Tle (fun h19 => ?_) (fun h19 => ?_)
    · skip
      exact dz_Ts trivial
    · skip
      exfalso; omega
set_option maxHeartbeats 1000000 in
set_option maxRecDepth 10000 in
theorem t291_X9_pass_h2_g32 (fu : Nat) (hfu : 1000000000000 ≤ fu) (c248_pots : Int32) (c261_many : Int32) (c261_swapsAPot : Int32) (a265 : Nat → Int32) (a268 : Nat → Int32) (a269 : Nat → Int32) (n269 : Nat) (n309 : Nat) (p0 : c248_pots.toInt ≤ 2) (p1 : 2 ≤ c248_pots.toInt) (p2 : c261_many.toInt ≤ 6) (p3 : 6 ≤ c261_many.toInt) (p4 : c261_swapsAPot.toInt ≤ 3) (p5 : 3 ≤ c261_swapsAPot.toInt) (p6 : ((n269 : Nat) : Int) ≤ 13824) (p7 : 1 ≤ ((n269 : Nat) : Int)) (p8 : ((n309 : Nat) : Int) ≤ 13824) (p9 : 1 ≤ ((n309 : Nat) : Int)) (p10 : 36 ≤ ((n309 : Nat) : Int)) (p11 : 36 ≤ ((n269 : Nat) : Int)) (hr_a265 : dz_rt a265 6 3 0 5) (hr_a268 : dz_pt a268 [6, 1]) (hr_a269 : dz_rg a269 n269 0 1023) (k : Nat) (ih : ∀ j9, j9 < k → p291_X9_pass_g32 fu c248_pots c261_many c261_swapsAPot a265 a268 a269 n269 n309 j9) : ∀ (v1 : Int32) (v2 : Int32) (v3 : Int32) (v4 : Int32) (v5 : Int32) (v6 : Int32) (v7 : Int32) (a309 : Nat → Int32), v1.toInt ≤ 35 → 0 ≤ v1.toInt → v3.toInt ≤ 1 → 0 ≤ v3.toInt → v4.toInt ≤ 6 → 1 ≤ v4.toInt → v5.toInt ≤ 5 → 0 ≤ v5.toInt → v6.toInt ≤ 35 → (-30) ≤ v6.toInt → v7.toInt ≤ 3 → 0 ≤ v7.toInt → v5.toInt ≤ v1.toInt → v6.toInt ≤ v1.toInt → ((v3.toInt = 0 ∧ v4.toInt = 6 ∧ v5.toInt = v1.toInt / 6 % 6 ∧ v6.toInt = v1.toInt - v5.toInt * 6) ∨ (v3.toInt = 1 ∧ v4.toInt = 1 ∧ v5.toInt = v1.toInt % 6 ∧ v6.toInt = v1.toInt - v5.toInt * 1)) → 0 + 0 + ((2 - v3.toInt) - 1) * 84 + 0 + (3 - v7.toInt) * 14 + 14 ≤ ((k : Nat) : Int) → dz_T ((F291_X9_pass fu c248_pots c261_many c261_swapsAPot a265 a268 a269 n269 n309 k).2.1 v1 v2 v3 v4 v5 v6 v7 a309) (fun r => True) := by
  intro v1 v2 v3 v4 v5 v6 v7 a309 i0 i1 i2 i3 i4 i5 i6 i7 i8 i9 i10 i11 i12 i13 x0 hm
  obtain ⟨k0, rfl⟩ : ∃ x, k = x + 1 := ⟨k - 1, by omega⟩
  show dz_T (s291_X9_pass_2 fu c248_pots c261_many c261_swapsAPot a265 a268 a269 n269 n309 (F291_X9_pass fu c248_pots c261_many c261_swapsAPot a265 a268 a269 n269 n309 k0).1 (F291_X9_pass fu c248_pots c261_many c261_swapsAPot a265 a268 a269 n269 n309 k0).2.2  v1 v2 v3 v4 v5 v6 v7 a309) _
  unfold s291_X9_pass_2
  rcases (show v3.toInt = 0 ∨ v3.toInt = 1 by omega) with hs | hs
  · skip
    refine dz_Tle (fun h1 => ?_) (fun h1 => ?_)
    · skip
      have e2 := dz_l1
      have e3 := dz_add (a := v3) (b := (1 : Int32)) (by omega) (by omega)
      exact (ih k0 (by omega)).1 v1 v2 (v3 + (1 : Int32)) a309 i0 i1 (by omega) (by omega) (by omega)
    · skip
      have e4 := dz_l6
      have e5 := dz_mulr (a := v5) (b := (6 : Int32)) 6 (by omega) (by omega) (by omega)
      have e6 := dz_add (a := (v5 * (6 : Int32))) (b := v7) (by omega) (by omega)
      refine dz_Tin (by omega) (by omega) ?_
      have e7 := dz_rtat (hr_a265) (x := v5) (y := v7) (by omega) (by omega) (by omega) (by omega) (by omega)
      have e8 := dz_mulr (a := (a265 ((v5 * (6 : Int32)) + v7).toNatClampNeg)) (b := v4) 6 (by omega) (by omega) (by omega)
      have e9 := dz_add (a := v6) (b := ((a265 ((v5 * (6 : Int32)) + v7).toNatClampNeg) * v4)) (by omega) (by omega)
      refine dz_Tin (by omega) (by omega) ?_
      have e10 := dz_rgat (hr_a269) (i := (v6 + ((a265 ((v5 * (6 : Int32)) + v7).toNatClampNeg) * v4))) (by omega) (by omega)
      have e11 := dz_l0
      refine dz_Teq (fun h12 => ?_) (fun h12 => ?_)
      · skip
        obtain ⟨k1, rfl⟩ : ∃ x, k0 = x + 1 := ⟨k0 - 1, by omega⟩
        show dz_T (s291_X9_pass_3 fu c248_pots c261_many c261_swapsAPot a265 a268 a269 n269 n309 (F291_X9_pass fu c248_pots c261_many c261_swapsAPot a265 a268 a269 n269 n309 k1).2.1 v1 v2 v3 v4 v5 v6 v7 (v6 + ((a265 ((v5 * (6 : Int32)) + v7).toNatClampNeg) * v4)) a309) _
        unfold s291_X9_pass_3
        refine dz_Tin (by omega) (by omega) ?_
        refine dz_Tin (by omega) (by omega) ?_
        have e13 := dz_l1
        have e14 := dz_add (a := v7) (b := (1 : Int32)) (by omega) (by omega)
        exact (ih k1 (by omega)).2 v1 v2 v3 v4 v5 v6 (v7 + (1 : Int32)) (upd a309 (v6 + ((a265 ((v5 * (6 : Int32)) + v7).toNatClampNeg) * v4)).toNatClampNeg ((a309 (v6 + ((a265 ((v5 * (6 : Int32)) + v7).toNatClampNeg) * v4)).toNatClampNeg) + v2)) i0 i1 i2 i3 i4 i5 i6 i7 i8 i9 (by omega) (by omega) i12 i13 (by omega) (by omega)
      · skip
        obtain ⟨k2, rfl⟩ : ∃ x, k0 = x + 1 := ⟨k0 - 1, by omega⟩
        show dz_T (s291_X9_pass_3 fu c248_pots c261_many c261_swapsAPot a265 a268 a269 n269 n309 (F291_X9_pass fu c248_pots c261_many c261_swapsAPot a265 a268 a269 n269 n309 k2).2.1 v1 v2 v3 v4 v5 v6 v7 v1 a309) _
        unfold s291_X9_pass_3
        refine dz_Tin (by omega) (by omega) ?_
        refine dz_Tin (by omega) (by omega) ?_
        have e15 := dz_l1
        have e16 := dz_add (a := v7) (b := (1 : Int32)) (by omega) (by omega)
        exact (ih k2 (by omega)).2 v1 v2 v3 v4 v5 v6 (v7 + (1 : Int32)) (upd a309 v1.toNatClampNeg ((a309 v1.toNatClampNeg) + v2)) i0 i1 i2 i3 i4 i5 i6 i7 i8 i9 (by omega) (by omega) i12 i13 (by omega) (by omega)
  · skip
    refine dz_Tle (fun h17 => ?_) (fun h17 => ?_)
    · skip
      have e18 := dz_l1
      have e19 := dz_add (a := v3) (b := (1 : Int32)) (by omega) (by omega)
      exact (ih k0 (by omega)).1 v1 v2 (v3 + (1 : Int32)) a309 i0 i1 (by omega) (by omega) (by omega)
    · skip
      have e20 := dz_l6
      have e21 := dz_mulr (a := v5) (b := (6 : Int32)) 6 (by omega) (by omega) (by omega)
      have e22 := dz_add (a := (v5 * (6 : Int32))) (b := v7) (by omega) (by omega)
      refine dz_Tin (by omega) (by omega) ?_
      have e23 := dz_rtat (hr_a265) (x := v5) (y := v7) (by omega) (by omega) (by omega) (by omega) (by omega)
      have e24 := dz_mulr (a := (a265 ((v5 * (6 : Int32)) + v7).toNatClampNeg)) (b := v4) 1 (by omega) (by omega) (by omega)
      have e25 := dz_add (a := v6) (b := ((a265 ((v5 * (6 : Int32)) + v7).toNatClampNeg) * v4)) (by omega) (by omega)
      refine dz_Tin (by omega) (by omega) ?_
      have e26 := dz_rgat (hr_a269) (i := (v6 + ((a265 ((v5 * (6 : Int32)) + v7).toNatClampNeg) * v4))) (by omega) (by omega)
      have e27 := dz_l0
      refine dz_Teq (fun h28 => ?_) (fun h28 => ?_)
      · skip
        obtain ⟨k3, rfl⟩ : ∃ x, k0 = x + 1 := ⟨k0 - 1, by omega⟩
        show dz_T (s291_X9_pass_3 fu c248_pots c261_many c261_swapsAPot a265 a268 a269 n269 n309 (F291_X9_pass fu c248_pots c261_many c261_swapsAPot a265 a268 a269 n269 n309 k3).2.1 v1 v2 v3 v4 v5 v6 v7 (v6 + ((a265 ((v5 * (6 : Int32)) + v7).toNatClampNeg) * v4)) a309) _
        unfold s291_X9_pass_3
        refine dz_Tin (by omega) (by omega) ?_
        refine dz_Tin (by omega) (by omega) ?_
        have e29 := dz_l1
        have e30 := dz_add (a := v7) (b := (1 : Int32)) (by omega) (by omega)
        exact (ih k3 (by omega)).2 v1 v2 v3 v4 v5 v6 (v7 + (1 : Int32)) (upd a309 (v6 + ((a265 ((v5 * (6 : Int32)) + v7).toNatClampNeg) * v4)).toNatClampNeg ((a309 (v6 + ((a265 ((v5 * (6 : Int32)) + v7).toNatClampNeg) * v4)).toNatClampNeg) + v2)) i0 i1 i2 i3 i4 i5 i6 i7 i8 i9 (by omega) (by omega) i12 i13 (by omega) (by omega)
      · skip
        obtain ⟨k4, rfl⟩ : ∃ x, k0 = x + 1 := ⟨k0 - 1, by omega⟩
        show dz_T (s291_X9_pass_3 fu c248_pots c261_many c261_swapsAPot a265 a268 a269 n269 n309 (F291_X9_pass fu c248_pots c261_many c261_swapsAPot a265 a268 a269 n269 n309 k4).2.1 v1 v2 v3 v4 v5 v6 v7 v1 a309) _
        unfold s291_X9_pass_3
        refine dz_Tin (by omega) (by omega) ?_
        refine dz_Tin (by omega) (by omega) ?_
        have e31 := dz_l1
        have e32 := dz_add (a := v7) (b := (1 : Int32)) (by omega) (by omega)
        exact (ih k4 (by omega)).2 v1 v2 v3 v4 v5 v6 (v7 + (1 : Int32)) (upd a309 v1.toNatClampNeg ((a309 v1.toNatClampNeg) + v2)) i0 i1 i2 i3 i4 i5 i6 i7 i8 i9 (by omega) (by omega) i12 i13 (by omega) (by omega)
theorem t291_X9_pass_I_g32 (fu : Nat) (hfu : 1000000000000 ≤ fu) (c248_pots : Int32) (c261_many : Int32) (c261_swapsAPot : Int32) (a265 : Nat → Int32) (a268 : Nat → Int32) (a269 : Nat → Int32) (n269 : Nat) (n309 : Nat) (p0 : c248_pots.toInt ≤ 2) (p1 : 2 ≤ c248_pots.toInt) (p2 : c261_many.toInt ≤ 6) (p3 : 6 ≤ c261_many.toInt) (p4 : c261_swapsAPot.toInt ≤ 3) (p5 : 3 ≤ c261_swapsAPot.toInt) (p6 : ((n269 : Nat) : Int) ≤ 13824) (p7 : 1 ≤ ((n269 : Nat) : Int)) (p8 : ((n309 : Nat) : Int) ≤ 13824) (p9 : 1 ≤ ((n309 : Nat) : Int)) (p10 : 36 ≤ ((n309 : Nat) : Int)) (p11 : 36 ≤ ((n269 : Nat) : Int)) (hr_a265 : dz_rt a265 6 3 0 5) (hr_a268 : dz_pt a268 [6, 1]) (hr_a269 : dz_rg a269 n269 0 1023) (k : Nat) : p291_X9_pass_g32 fu c248_pots c261_many c261_swapsAPot a265 a268 a269 n269 n309 k := by
  induction k using Nat.strongRecOn with
  | _ k ih => exact ⟨t291_X9_pass_h1_g32 fu hfu c248_pots c261_many c261_swapsAPot a265 a268 a269 n269 n309 p0 p1 p2 p3 p4 p5 p6 p7 p8 p9 p10 p11 hr_a265 hr_a268 hr_a269 k ih, t291_X9_pass_h2_g32 fu hfu c248_pots c261_many c261_swapsAPot a265 a268 a269 n269 n309 p0 p1 p2 p3 p4 p5 p6 p7 p8 p9 p10 p11 hr_a265 hr_a268 hr_a269 k ih⟩
set_option maxHeartbeats 1000000 in
set_option maxRecDepth 10000 in
theorem t291_X9_pass_E_g32 (fu : Nat) (hfu : 1000000000000 ≤ fu) (c248_pots : Int32) (c261_many : Int32) (c261_swapsAPot : Int32) (a265 : Nat → Int32) (a268 : Nat → Int32) (a269 : Nat → Int32) (n269 : Nat) (n309 : Nat) (v1 : Int32) (v2 : Int32) (a309 : Nat → Int32) (p0 : c248_pots.toInt ≤ 2) (p1 : 2 ≤ c248_pots.toInt) (p2 : c261_many.toInt ≤ 6) (p3 : 6 ≤ c261_many.toInt) (p4 : c261_swapsAPot.toInt ≤ 3) (p5 : 3 ≤ c261_swapsAPot.toInt) (p6 : ((n269 : Nat) : Int) ≤ 13824) (p7 : 1 ≤ ((n269 : Nat) : Int)) (p8 : ((n309 : Nat) : Int) ≤ 13824) (p9 : 1 ≤ ((n309 : Nat) : Int)) (p10 : 0 ≤ v1.toInt) (p11 : v1.toInt ≤ 35) (p12 : 36 ≤ ((n309 : Nat) : Int)) (p13 : 36 ≤ ((n269 : Nat) : Int)) (hr_a265 : dz_rt a265 6 3 0 5) (hr_a268 : dz_pt a268 [6, 1]) (hr_a269 : dz_rg a269 n269 0 1023) (kv : Nat) (hkv : 1000000000000 ≤ kv) : dz_T (s291_X9_pass_0 fu c248_pots c261_many c261_swapsAPot a265 a268 a269 n269 n309 (F291_X9_pass fu c248_pots c261_many c261_swapsAPot a265 a268 a269 n269 n309 kv).1  v1 v2 a309) (fun r => True) := by
  unfold s291_X9_pass_0
  have e1 := dz_l0
  exact (t291_X9_pass_I_g32 fu hfu c248_pots c261_many c261_swapsAPot a265 a268 a269 n269 n309 p0 p1 p2 p3 p4 p5 p6 p7 p8 p9 p12 p13 hr_a265 hr_a268 hr_a269 kv).1 v1 v2 (0 : Int32) a309 p11 p10 (by omega) (by omega) (by omega)
theorem t291_X9_pass_g32 (fu : Nat) (hfu : 1000000000000 ≤ fu) (c248_pots : Int32) (c261_many : Int32) (c261_swapsAPot : Int32) (a265 : Nat → Int32) (a268 : Nat → Int32) (a269 : Nat → Int32) (n269 : Nat) (n309 : Nat) (v1 : Int32) (v2 : Int32) (a309 : Nat → Int32) (p0 : c248_pots.toInt ≤ 2) (p1 : 2 ≤ c248_pots.toInt) (p2 : c261_many.toInt ≤ 6) (p3 : 6 ≤ c261_many.toInt) (p4 : c261_swapsAPot.toInt ≤ 3) (p5 : 3 ≤ c261_swapsAPot.toInt) (p6 : ((n269 : Nat) : Int) ≤ 13824) (p7 : 1 ≤ ((n269 : Nat) : Int)) (p8 : ((n309 : Nat) : Int) ≤ 13824) (p9 : 1 ≤ ((n309 : Nat) : Int)) (p10 : 0 ≤ v1.toInt) (p11 : v1.toInt ≤ 35) (p12 : 36 ≤ ((n309 : Nat) : Int)) (p13 : 36 ≤ ((n269 : Nat) : Int)) (hr_a265 : dz_rt a265 6 3 0 5) (hr_a268 : dz_pt a268 [6, 1]) (hr_a269 : dz_rg a269 n269 0 1023) : dz_T (f291_X9_pass fu c248_pots c261_many c261_swapsAPot a265 a268 a269 n269 n309 v1 v2 a309) (fun r => True) :=
  t291_X9_pass_E_g32 fu hfu c248_pots c261_many c261_swapsAPot a265 a268 a269 n269 n309 v1 v2 a309 p0 p1 p2 p3 p4 p5 p6 p7 p8 p9 p10 p11 p12 p13 hr_a265 hr_a268 hr_a269 fu hfu
abbrev p291_X9_pass_g33 (fu : Nat) (c248_pots : Int32) (c261_many : Int32) (c261_swapsAPot : Int32) (a265 : Nat → Int32) (a268 : Nat → Int32) (a269 : Nat → Int32) (n269 : Nat) (n309 : Nat) (k : Nat) : Prop :=
  (∀ (v1 : Int32) (v2 : Int32) (v3 : Int32) (a309 : Nat → Int32), v1.toInt ≤ 215 → 0 ≤ v1.toInt → v3.toInt ≤ 3 → 0 ≤ v3.toInt → 0 + 0 + (3 - v3.toInt) * 84 + 7 ≤ ((k : Nat) : Int) → dz_T ((F291_X9_pass fu c248_pots c261_many c261_swapsAPot a265 a268 a269 n269 n309 k).1 v1 v2 v3 a309) (fun r => True)) ∧ (∀ (v1 : Int32) (v2 : Int32) (v3 : Int32) (v4 : Int32) (v5 : Int32) (v6 : Int32) (v7 : Int32) (a309 : Nat → Int32), v1.toInt ≤ 215 → 0 ≤ v1.toInt → v3.toInt ≤ 2 → 0 ≤ v3.toInt → v4.toInt ≤ 36 → 1 ≤ v4.toInt → v5.toInt ≤ 5 → 0 ≤ v5.toInt → v6.toInt ≤ 215 → (-180) ≤ v6.toInt → v7.toInt ≤ 3 → 0 ≤ v7.toInt → v5.toInt ≤ v1.toInt → v6.toInt ≤ v1.toInt → ((v3.toInt = 0 ∧ v4.toInt = 36 ∧ v5.toInt = v1.toInt / 36 % 6 ∧ v6.toInt = v1.toInt - v5.toInt * 36) ∨ (v3.toInt = 1 ∧ v4.toInt = 6 ∧ v5.toInt = v1.toInt / 6 % 6 ∧ v6.toInt = v1.toInt - v5.toInt * 6) ∨ (v3.toInt = 2 ∧ v4.toInt = 1 ∧ v5.toInt = v1.toInt % 6 ∧ v6.toInt = v1.toInt - v5.toInt * 1)) → 0 + 0 + ((3 - v3.toInt) - 1) * 84 + 0 + (3 - v7.toInt) * 14 + 14 ≤ ((k : Nat) : Int) → dz_T ((F291_X9_pass fu c248_pots c261_many c261_swapsAPot a265 a268 a269 n269 n309 k).2.1 v1 v2 v3 v4 v5 v6 v7 a309) (fun r => True))
set_option maxHeartbeats 1000000 in
set_option maxRecDepth 10000 in
theorem t291_X9_pass_h1_g33 (fu : Nat) (hfu : 1000000000000 ≤ fu) (c248_pots : Int32) (c261_many : Int32) (c261_swapsAPot : Int32) (a265 : Nat → Int32) (a268 : Nat → Int32) (a269 : Nat → Int32) (n269 : Nat) (n309 : Nat) (p0 : c248_pots.toInt ≤ 3) (p1 : 3 ≤ c248_pots.toInt) (p2 : c261_many.toInt ≤ 6) (p3 : 6 ≤ c261_many.toInt) (p4 : c261_swapsAPot.toInt ≤ 3) (p5 : 3 ≤ c261_swapsAPot.toInt) (p6 : ((n269 : Nat) : Int) ≤ 13824) (p7 : 1 ≤ ((n269 : Nat) : Int)) (p8 : ((n309 : Nat) : Int) ≤ 13824) (p9 : 1 ≤ ((n309 : Nat) : Int)) (p10 : 216 ≤ ((n309 : Nat) : Int)) (p11 : 216 ≤ ((n269 : Nat) : Int)) (hr_a265 : dz_rt a265 6 3 0 5) (hr_a268 : dz_pt a268 [36, 6, 1]) (hr_a269 : dz_rg a269 n269 0 1023) (k : Nat) (ih : ∀ j9, j9 < k → p291_X9_pass_g33 fu c248_pots c261_many c261_swapsAPot a265 a268 a269 n269 n309 j9) : ∀ (v1 : Int32) (v2 : Int32) (v3 : Int32) (a309 : Nat → Int32), v1.toInt ≤ 215 → 0 ≤ v1.toInt → v3.toInt ≤ 3 → 0 ≤ v3.toInt → 0 + 0 + (3 - v3.toInt) * 84 + 7 ≤ ((k : Nat) : Int) → dz_T ((F291_X9_pass fu c248_pots c261_many c261_swapsAPot a265 a268 a269 n269 n309 k).1 v1 v2 v3 a309) (fun r => True) := by
  intro v1 v2 v3 a309 i0 i1 i2 i3 hm
  obtain ⟨k0, rfl⟩ : ∃ x, k = x + 1 := ⟨k - 1, by omega⟩
  show dz_T (s291_X9_pass_1 fu c248_pots c261_many c261_swapsAPot a265 a268 a269 n269 n309 (F291_X9_pass fu c248_pots c261_many c261_swapsAPot a265 a268 a269 n269 n309 k0).2.1  v1 v2 v3 a309) _
  unfold s291_X9_pass_1
  rcases (show v3.toInt = 0 ∨ v3.toInt = 1 ∨ v3.toInt = 2 ∨ v3.toInt = 3 by omega) with hs | hs | hs | hs
  · skip
    refine dz_Tle (fun h1 => ?_) (fun h1 => ?_)
    · skip
      exfalso; omega
    · skip
      refine dz_Tin (by omega) (by omega) ?_
      refine dz_Tbe (show f141_X2_rankIn fu c261_many a268 v1 v3 = (if dz_in v3 4 then (if ((a268 v3.toNatClampNeg) ≤ (0 : Int32)) then (some (0 : Int32)) else (if (c261_many ≤ (0 : Int32)) then (some (0 : Int32)) else (if (¬ ((a268 v3.toNatClampNeg) = (0 : Int32))) then (if (¬ (c261_many = (0 : Int32))) then (some (dz_rem (v1 / (a268 v3.toNatClampNeg)) c261_many)) else none) else none))) else none) from rfl) ?_
      refine dz_Tinb (by omega) (by omega) ?_
      have e2 := dz_ptat (hr_a268) (i := v3) (x := 36) 0 (by omega) (by decide)
      have e3 := dz_l0
      refine dz_Tleb (fun h4 => ?_) (fun h4 => ?_)
      · skip
        exfalso; omega
      · skip
        refine dz_Tleb (fun h5 => ?_) (fun h5 => ?_)
        · skip
          exfalso; omega
        · skip
          refine dz_Tzb (by omega) ?_
          refine dz_Tzb (by omega) ?_
          refine dz_Tsb ?_
          have e6 := dz_divn (a := v1) (b := (a268 v3.toNatClampNeg)) 36 (by omega) (by omega) (by omega)
          have e7 := dz_remn (a := (v1 / (a268 v3.toNatClampNeg))) (b := c261_many) 6 (by omega) (by omega) (by omega)
          have e8 := dz_mulr (a := (dz_rem (v1 / (a268 v3.toNatClampNeg)) c261_many)) (b := (a268 v3.toNatClampNeg)) 36 (by omega) (by omega) (by omega)
          have e9 := dz_sub (a := v1) (b := ((dz_rem (v1 / (a268 v3.toNatClampNeg)) c261_many) * (a268 v3.toNatClampNeg))) (by omega) (by omega)
          exact (ih k0 (by omega)).2 v1 v2 v3 (a268 v3.toNatClampNeg) (dz_rem (v1 / (a268 v3.toNatClampNeg)) c261_many) (v1 - ((dz_rem (v1 / (a268 v3.toNatClampNeg)) c261_many) * (a268 v3.toNatClampNeg))) (0 : Int32) a309 i0 i1 (by first | assumption | omega) i3 (by omega) (by omega) (by omega) (by omega) (by omega) (by omega) (by omega) (by omega) (by omega) (by omega) (by omega) (by omega)
  · skip
    refine dz_Tle (fun h10 => ?_) (fun h10 => ?_)
    · skip
      exfalso; omega
    · skip
      refine dz_Tin (by omega) (by omega) ?_
      refine dz_Tbe (show f141_X2_rankIn fu c261_many a268 v1 v3 = (if dz_in v3 4 then (if ((a268 v3.toNatClampNeg) ≤ (0 : Int32)) then (some (0 : Int32)) else (if (c261_many ≤ (0 : Int32)) then (some (0 : Int32)) else (if (¬ ((a268 v3.toNatClampNeg) = (0 : Int32))) then (if (¬ (c261_many = (0 : Int32))) then (some (dz_rem (v1 / (a268 v3.toNatClampNeg)) c261_many)) else none) else none))) else none) from rfl) ?_
      refine dz_Tinb (by omega) (by omega) ?_
      have e11 := dz_ptat (hr_a268) (i := v3) (x := 6) 1 (by omega) (by decide)
      have e12 := dz_l0
      refine dz_Tleb (fun h13 => ?_) (fun h13 => ?_)
      · skip
        exfalso; omega
      · skip
        refine dz_Tleb (fun h14 => ?_) (fun h14 => ?_)
        · skip
          exfalso; omega
        · skip
          refine dz_Tzb (by omega) ?_
          refine dz_Tzb (by omega) ?_
          refine dz_Tsb ?_
          have e15 := dz_divn (a := v1) (b := (a268 v3.toNatClampNeg)) 6 (by omega) (by omega) (by omega)
          have e16 := dz_remn (a := (v1 / (a268 v3.toNatClampNeg))) (b := c261_many) 6 (by omega) (by omega) (by omega)
          have e17 := dz_mulr (a := (dz_rem (v1 / (a268 v3.toNatClampNeg)) c261_many)) (b := (a268 v3.toNatClampNeg)) 6 (by omega) (by omega) (by omega)
          have e18 := dz_sub (a := v1) (b := ((dz_rem (v1 / (a268 v3.toNatClampNeg)) c261_many) * (a268 v3.toNatClampNeg))) (by omega) (by omega)
          exact (ih k0 (by omega)).2 v1 v2 v3 (a268 v3.toNatClampNeg) (dz_rem (v1 / (a268 v3.toNatClampNeg)) c261_many) (v1 - ((dz_rem (v1 / (a268 v3.toNatClampNeg)) c261_many) * (a268 v3.toNatClampNeg))) (0 : Int32) a309 i0 i1 (by first | assumption | omega) i3 (by omega) (by omega) (by omega) (by omega) (by omega) (by omega) (by omega) (by omega) (by omega) (by omega) (by omega) (by omega)
  · skip
    refine dz_Tle (fun h19 => ?_) (fun h19 => ?_)
    · skip
      exfalso; omega
    · skip
      refine dz_Tin (by omega) (by omega) ?_
      refine dz_Tbe (show f141_X2_rankIn fu c261_many a268 v1 v3 = (if dz_in v3 4 then (if ((a268 v3.toNatClampNeg) ≤ (0 : Int32)) then (some (0 : Int32)) else (if (c261_many ≤ (0 : Int32)) then (some (0 : Int32)) else (if (¬ ((a268 v3.toNatClampNeg) = (0 : Int32))) then (if (¬ (c261_many = (0 : Int32))) then (some (dz_rem (v1 / (a268 v3.toNatClampNeg)) c261_many)) else none) else none))) else none) from rfl) ?_
      refine dz_Tinb (by omega) (by omega) ?_
      have e20 := dz_ptat (hr_a268) (i := v3) (x := 1) 2 (by omega) (by decide)
      have e21 := dz_l0
      refine dz_Tleb (fun h22 => ?_) (fun h22 => ?_)
      · skip
        exfalso; omega
      · skip
        refine dz_Tleb (fun h23 => ?_) (fun h23 => ?_)
        · skip
          exfalso; omega
        · skip
          refine dz_Tzb (by omega) ?_
          refine dz_Tzb (by omega) ?_
          refine dz_Tsb ?_
          have e24 := dz_div1 (a := v1) (b := (a268 v3.toNatClampNeg)) (by omega) (by omega)
          have e25 := dz_remn (a := (v1 / (a268 v3.toNatClampNeg))) (b := c261_many) 6 (by omega) (by omega) (by omega)
          have e26 := dz_mulr (a := (dz_rem (v1 / (a268 v3.toNatClampNeg)) c261_many)) (b := (a268 v3.toNatClampNeg)) 1 (by omega) (by omega) (by omega)
          have e27 := dz_sub (a := v1) (b := ((dz_rem (v1 / (a268 v3.toNatClampNeg)) c261_many) * (a268 v3.toNatClampNeg))) (by omega) (by omega)
          exact (ih k0 (by omega)).2 v1 v2 v3 (a268 v3.toNatClampNeg) (dz_rem (v1 / (a268 v3.toNatClampNeg)) c261_many) (v1 - ((dz_rem (v1 / (a268 v3.toNatClampNeg)) c261_many) * (a268 v3.toNatClampNeg))) (0 : Int32) a309 i0 i1 (by first | assumption | omega) i3 (by omega) (by omega) (by omega) (by omega) (by omega) (by omega) (by omega) (by omega) (by omega) (by omega) (by omega) (by omega)
  · skip
    refine dz_Tle (fun h28 => ?_) (fun h28 => ?_)
    · skip
      exact dz_Ts trivial
    · skip
      exfalso; omega
set_option maxHeartbeats 1000000 in
set_option maxRecDepth 10000 in
theorem t291_X9_pass_h2_g33 (fu : Nat) (hfu : 1000000000000 ≤ fu) (c248_pots : Int32) (c261_many : Int32) (c261_swapsAPot : Int32) (a265 : Nat → Int32) (a268 : Nat → Int32) (a269 : Nat → Int32) (n269 : Nat) (n309 : Nat) (p0 : c248_pots.toInt ≤ 3) (p1 : 3 ≤ c248_pots.toInt) (p2 : c261_many.toInt ≤ 6) (p3 : 6 ≤ c261_many.toInt) (p4 : c261_swapsAPot.toInt ≤ 3) (p5 : 3 ≤ c261_swapsAPot.toInt) (p6 : ((n269 : Nat) : Int) ≤ 13824) (p7 : 1 ≤ ((n269 : Nat) : Int)) (p8 : ((n309 : Nat) : Int) ≤ 13824) (p9 : 1 ≤ ((n309 : Nat) : Int)) (p10 : 216 ≤ ((n309 : Nat) : Int)) (p11 : 216 ≤ ((n269 : Nat) : Int)) (hr_a265 : dz_rt a265 6 3 0 5) (hr_a268 : dz_pt a268 [36, 6, 1]) (hr_a269 : dz_rg a269 n269 0 1023) (k : Nat) (ih : ∀ j9, j9 < k → p291_X9_pass_g33 fu c248_pots c261_many c261_swapsAPot a265 a268 a269 n269 n309 j9) : ∀ (v1 : Int32) (v2 : Int32) (v3 : Int32) (v4 : Int32) (v5 : Int32) (v6 : Int32) (v7 : Int32) (a309 : Nat → Int32), v1.toInt ≤ 215 → 0 ≤ v1.toInt → v3.toInt ≤ 2 → 0 ≤ v3.toInt → v4.toInt ≤ 36 → 1 ≤ v4.toInt → v5.toInt ≤ 5 → 0 ≤ v5.toInt → v6.toInt ≤ 215 → (-180) ≤ v6.toInt → v7.toInt ≤ 3 → 0 ≤ v7.toInt → v5.toInt ≤ v1.toInt → v6.toInt ≤ v1.toInt → ((v3.toInt = 0 ∧ v4.toInt = 36 ∧ v5.toInt = v1.toInt / 36 % 6 ∧ v6.toInt = v1.toInt - v5.toInt * 36) ∨ (v3.toInt = 1 ∧ v4.toInt = 6 ∧ v5.toInt = v1.toInt / 6 % 6 ∧ v6.toInt = v1.toInt - v5.toInt * 6) ∨ (v3.toInt = 2 ∧ v4.toInt = 1 ∧ v5.toInt = v1.toInt % 6 ∧ v6.toInt = v1.toInt - v5.toInt * 1)) → 0 + 0 + ((3 - v3.toInt) - 1) * 84 + 0 + (3 - v7.toInt) * 14 + 14 ≤ ((k : Nat) : Int) → dz_T ((F291_X9_pass fu c248_pots c261_many c261_swapsAPot a265 a268 a269 n269 n309 k).2.1 v1 v2 v3 v4 v5 v6 v7 a309) (fun r => True) := by
  intro v1 v2 v3 v4 v5 v6 v7 a309 i0 i1 i2 i3 i4 i5 i6 i7 i8 i9 i10 i11 i12 i13 x0 hm
  obtain ⟨k0, rfl⟩ : ∃ x, k = x + 1 := ⟨k - 1, by omega⟩
  show dz_T (s291_X9_pass_2 fu c248_pots c261_many c261_swapsAPot a265 a268 a269 n269 n309 (F291_X9_pass fu c248_pots c261_many c261_swapsAPot a265 a268 a269 n269 n309 k0).1 (F291_X9_pass fu c248_pots c261_many c261_swapsAPot a265 a268 a269 n269 n309 k0).2.2  v1 v2 v3 v4 v5 v6 v7 a309) _
  unfold s291_X9_pass_2
  rcases (show v3.toInt = 0 ∨ v3.toInt = 1 ∨ v3.toInt = 2 by omega) with hs | hs | hs
  · skip
    refine dz_Tle (fun h1 => ?_) (fun h1 => ?_)
    · skip
      have e2 := dz_l1
      have e3 := dz_add (a := v3) (b := (1 : Int32)) (by omega) (by omega)
      exact (ih k0 (by omega)).1 v1 v2 (v3 + (1 : Int32)) a309 i0 i1 (by omega) (by omega) (by omega)
    · skip
      have e4 := dz_l6
      have e5 := dz_mulr (a := v5) (b := (6 : Int32)) 6 (by omega) (by omega) (by omega)
      have e6 := dz_add (a := (v5 * (6 : Int32))) (b := v7) (by omega) (by omega)
      refine dz_Tin (by omega) (by omega) ?_
      have e7 := dz_rtat (hr_a265) (x := v5) (y := v7) (by omega) (by omega) (by omega) (by omega) (by omega)
      have e8 := dz_mulr (a := (a265 ((v5 * (6 : Int32)) + v7).toNatClampNeg)) (b := v4) 36 (by omega) (by omega) (by omega)
      have e9 := dz_add (a := v6) (b := ((a265 ((v5 * (6 : Int32)) + v7).toNatClampNeg) * v4)) (by omega) (by omega)
      refine dz_Tin (by omega) (by omega) ?_
      have e10 := dz_rgat (hr_a269) (i := (v6 + ((a265 ((v5 * (6 : Int32)) + v7).toNatClampNeg) * v4))) (by omega) (by omega)
      have e11 := dz_l0
      refine dz_Teq (fun h12 => ?_) (fun h12 => ?_)
      · skip
        obtain ⟨k1, rfl⟩ : ∃ x, k0 = x + 1 := ⟨k0 - 1, by omega⟩
        show dz_T (s291_X9_pass_3 fu c248_pots c261_many c261_swapsAPot a265 a268 a269 n269 n309 (F291_X9_pass fu c248_pots c261_many c261_swapsAPot a265 a268 a269 n269 n309 k1).2.1 v1 v2 v3 v4 v5 v6 v7 (v6 + ((a265 ((v5 * (6 : Int32)) + v7).toNatClampNeg) * v4)) a309) _
        unfold s291_X9_pass_3
        refine dz_Tin (by omega) (by omega) ?_
        refine dz_Tin (by omega) (by omega) ?_
        have e13 := dz_l1
        have e14 := dz_add (a := v7) (b := (1 : Int32)) (by omega) (by omega)
        exact (ih k1 (by omega)).2 v1 v2 v3 v4 v5 v6 (v7 + (1 : Int32)) (upd a309 (v6 + ((a265 ((v5 * (6 : Int32)) + v7).toNatClampNeg) * v4)).toNatClampNeg ((a309 (v6 + ((a265 ((v5 * (6 : Int32)) + v7).toNatClampNeg) * v4)).toNatClampNeg) + v2)) i0 i1 i2 i3 i4 i5 i6 i7 i8 i9 (by omega) (by omega) i12 i13 (by omega) (by omega)
      · skip
        obtain ⟨k2, rfl⟩ : ∃ x, k0 = x + 1 := ⟨k0 - 1, by omega⟩
        show dz_T (s291_X9_pass_3 fu c248_pots c261_many c261_swapsAPot a265 a268 a269 n269 n309 (F291_X9_pass fu c248_pots c261_many c261_swapsAPot a265 a268 a269 n269 n309 k2).2.1 v1 v2 v3 v4 v5 v6 v7 v1 a309) _
        unfold s291_X9_pass_3
        refine dz_Tin (by omega) (by omega) ?_
        refine dz_Tin (by omega) (by omega) ?_
        have e15 := dz_l1
        have e16 := dz_add (a := v7) (b := (1 : Int32)) (by omega) (by omega)
        exact (ih k2 (by omega)).2 v1 v2 v3 v4 v5 v6 (v7 + (1 : Int32)) (upd a309 v1.toNatClampNeg ((a309 v1.toNatClampNeg) + v2)) i0 i1 i2 i3 i4 i5 i6 i7 i8 i9 (by omega) (by omega) i12 i13 (by omega) (by omega)
  · skip
    refine dz_Tle (fun h17 => ?_) (fun h17 => ?_)
    · skip
      have e18 := dz_l1
      have e19 := dz_add (a := v3) (b := (1 : Int32)) (by omega) (by omega)
      exact (ih k0 (by omega)).1 v1 v2 (v3 + (1 : Int32)) a309 i0 i1 (by omega) (by omega) (by omega)
    · skip
      have e20 := dz_l6
      have e21 := dz_mulr (a := v5) (b := (6 : Int32)) 6 (by omega) (by omega) (by omega)
      have e22 := dz_add (a := (v5 * (6 : Int32))) (b := v7) (by omega) (by omega)
      refine dz_Tin (by omega) (by omega) ?_
      have e23 := dz_rtat (hr_a265) (x := v5) (y := v7) (by omega) (by omega) (by omega) (by omega) (by omega)
      have e24 := dz_mulr (a := (a265 ((v5 * (6 : Int32)) + v7).toNatClampNeg)) (b := v4) 6 (by omega) (by omega) (by omega)
      have e25 := dz_add (a := v6) (b := ((a265 ((v5 * (6 : Int32)) + v7).toNatClampNeg) * v4)) (by omega) (by omega)
      refine dz_Tin (by omega) (by omega) ?_
      have e26 := dz_rgat (hr_a269) (i := (v6 + ((a265 ((v5 * (6 : Int32)) + v7).toNatClampNeg) * v4))) (by omega) (by omega)
      have e27 := dz_l0
      refine dz_Teq (fun h28 => ?_) (fun h28 => ?_)
      · skip
        obtain ⟨k3, rfl⟩ : ∃ x, k0 = x + 1 := ⟨k0 - 1, by omega⟩
        show dz_T (s291_X9_pass_3 fu c248_pots c261_many c261_swapsAPot a265 a268 a269 n269 n309 (F291_X9_pass fu c248_pots c261_many c261_swapsAPot a265 a268 a269 n269 n309 k3).2.1 v1 v2 v3 v4 v5 v6 v7 (v6 + ((a265 ((v5 * (6 : Int32)) + v7).toNatClampNeg) * v4)) a309) _
        unfold s291_X9_pass_3
        refine dz_Tin (by omega) (by omega) ?_
        refine dz_Tin (by omega) (by omega) ?_
        have e29 := dz_l1
        have e30 := dz_add (a := v7) (b := (1 : Int32)) (by omega) (by omega)
        exact (ih k3 (by omega)).2 v1 v2 v3 v4 v5 v6 (v7 + (1 : Int32)) (upd a309 (v6 + ((a265 ((v5 * (6 : Int32)) + v7).toNatClampNeg) * v4)).toNatClampNeg ((a309 (v6 + ((a265 ((v5 * (6 : Int32)) + v7).toNatClampNeg) * v4)).toNatClampNeg) + v2)) i0 i1 i2 i3 i4 i5 i6 i7 i8 i9 (by omega) (by omega) i12 i13 (by omega) (by omega)
      · skip
        obtain ⟨k4, rfl⟩ : ∃ x, k0 = x + 1 := ⟨k0 - 1, by omega⟩
        show dz_T (s291_X9_pass_3 fu c248_pots c261_many c261_swapsAPot a265 a268 a269 n269 n309 (F291_X9_pass fu c248_pots c261_many c261_swapsAPot a265 a268 a269 n269 n309 k4).2.1 v1 v2 v3 v4 v5 v6 v7 v1 a309) _
        unfold s291_X9_pass_3
        refine dz_Tin (by omega) (by omega) ?_
        refine dz_Tin (by omega) (by omega) ?_
        have e31 := dz_l1
        have e32 := dz_add (a := v7) (b := (1 : Int32)) (by omega) (by omega)
        exact (ih k4 (by omega)).2 v1 v2 v3 v4 v5 v6 (v7 + (1 : Int32)) (upd a309 v1.toNatClampNeg ((a309 v1.toNatClampNeg) + v2)) i0 i1 i2 i3 i4 i5 i6 i7 i8 i9 (by omega) (by omega) i12 i13 (by omega) (by omega)
  · skip
    refine dz_Tle (fun h33 => ?_) (fun h33 => ?_)
    · skip
      have e34 := dz_l1
      have e35 := dz_add (a := v3) (b := (1 : Int32)) (by omega) (by omega)
      exact (ih k0 (by omega)).1 v1 v2 (v3 + (1 : Int32)) a309 i0 i1 (by omega) (by omega) (by omega)
    · skip
      have e36 := dz_l6
      have e37 := dz_mulr (a := v5) (b := (6 : Int32)) 6 (by omega) (by omega) (by omega)
      have e38 := dz_add (a := (v5 * (6 : Int32))) (b := v7) (by omega) (by omega)
      refine dz_Tin (by omega) (by omega) ?_
      have e39 := dz_rtat (hr_a265) (x := v5) (y := v7) (by omega) (by omega) (by omega) (by omega) (by omega)
      have e40 := dz_mulr (a := (a265 ((v5 * (6 : Int32)) + v7).toNatClampNeg)) (b := v4) 1 (by omega) (by omega) (by omega)
      have e41 := dz_add (a := v6) (b := ((a265 ((v5 * (6 : Int32)) + v7).toNatClampNeg) * v4)) (by omega) (by omega)
      refine dz_Tin (by omega) (by omega) ?_
      have e42 := dz_rgat (hr_a269) (i := (v6 + ((a265 ((v5 * (6 : Int32)) + v7).toNatClampNeg) * v4))) (by omega) (by omega)
      have e43 := dz_l0
      refine dz_Teq (fun h44 => ?_) (fun h44 => ?_)
      · skip
        obtain ⟨k5, rfl⟩ : ∃ x, k0 = x + 1 := ⟨k0 - 1, by omega⟩
        show dz_T (s291_X9_pass_3 fu c248_pots c261_many c261_swapsAPot a265 a268 a269 n269 n309 (F291_X9_pass fu c248_pots c261_many c261_swapsAPot a265 a268 a269 n269 n309 k5).2.1 v1 v2 v3 v4 v5 v6 v7 (v6 + ((a265 ((v5 * (6 : Int32)) + v7).toNatClampNeg) * v4)) a309) _
        unfold s291_X9_pass_3
        refine dz_Tin (by omega) (by omega) ?_
        refine dz_Tin (by omega) (by omega) ?_
        have e45 := dz_l1
        have e46 := dz_add (a := v7) (b := (1 : Int32)) (by omega) (by omega)
        exact (ih k5 (by omega)).2 v1 v2 v3 v4 v5 v6 (v7 + (1 : Int32)) (upd a309 (v6 + ((a265 ((v5 * (6 : Int32)) + v7).toNatClampNeg) * v4)).toNatClampNeg ((a309 (v6 + ((a265 ((v5 * (6 : Int32)) + v7).toNatClampNeg) * v4)).toNatClampNeg) + v2)) i0 i1 i2 i3 i4 i5 i6 i7 i8 i9 (by omega) (by omega) i12 i13 (by omega) (by omega)
      · skip
        obtain ⟨k6, rfl⟩ : ∃ x, k0 = x + 1 := ⟨k0 - 1, by omega⟩
        show dz_T (s291_X9_pass_3 fu c248_pots c261_many c261_swapsAPot a265 a268 a269 n269 n309 (F291_X9_pass fu c248_pots c261_many c261_swapsAPot a265 a268 a269 n269 n309 k6).2.1 v1 v2 v3 v4 v5 v6 v7 v1 a309) _
        unfold s291_X9_pass_3
        refine dz_Tin (by omega) (by omega) ?_
        refine dz_Tin (by omega) (by omega) ?_
        have e47 := dz_l1
        have e48 := dz_add (a := v7) (b := (1 : Int32)) (by omega) (by omega)
        exact (ih k6 (by omega)).2 v1 v2 v3 v4 v5 v6 (v7 + (1 : Int32)) (upd a309 v1.toNatClampNeg ((a309 v1.toNatClampNeg) + v2)) i0 i1 i2 i3 i4 i5 i6 i7 i8 i9 (by omega) (by omega) i12 i13 (by omega) (by omega)
theorem t291_X9_pass_I_g33 (fu : Nat) (hfu : 1000000000000 ≤ fu) (c248_pots : Int32) (c261_many : Int32) (c261_swapsAPot : Int32) (a265 : Nat → Int32) (a268 : Nat → Int32) (a269 : Nat → Int32) (n269 : Nat) (n309 : Nat) (p0 : c248_pots.toInt ≤ 3) (p1 : 3 ≤ c248_pots.toInt) (p2 : c261_many.toInt ≤ 6) (p3 : 6 ≤ c261_many.toInt) (p4 : c261_swapsAPot.toInt ≤ 3) (p5 : 3 ≤ c261_swapsAPot.toInt) (p6 : ((n269 : Nat) : Int) ≤ 13824) (p7 : 1 ≤ ((n269 : Nat) : Int)) (p8 : ((n309 : Nat) : Int) ≤ 13824) (p9 : 1 ≤ ((n309 : Nat) : Int)) (p10 : 216 ≤ ((n309 : Nat) : Int)) (p11 : 216 ≤ ((n269 : Nat) : Int)) (hr_a265 : dz_rt a265 6 3 0 5) (hr_a268 : dz_pt a268 [36, 6, 1]) (hr_a269 : dz_rg a269 n269 0 1023) (k : Nat) : p291_X9_pass_g33 fu c248_pots c261_many c261_swapsAPot a265 a268 a269 n269 n309 k := by
  induction k using Nat.strongRecOn with
  | _ k ih => exact ⟨t291_X9_pass_h1_g33 fu hfu c248_pots c261_many c261_swapsAPot a265 a268 a269 n269 n309 p0 p1 p2 p3 p4 p5 p6 p7 p8 p9 p10 p11 hr_a265 hr_a268 hr_a269 k ih, t291_X9_pass_h2_g33 fu hfu c248_pots c261_many c261_swapsAPot a265 a268 a269 n269 n309 p0 p1 p2 p3 p4 p5 p6 p7 p8 p9 p10 p11 hr_a265 hr_a268 hr_a269 k ih⟩
set_option maxHeartbeats 1000000 in
set_option maxRecDepth 10000 in
theorem t291_X9_pass_E_g33 (fu : Nat) (hfu : 1000000000000 ≤ fu) (c248_pots : Int32) (c261_many : Int32) (c261_swapsAPot : Int32) (a265 : Nat → Int32) (a268 : Nat → Int32) (a269 : Nat → Int32) (n269 : Nat) (n309 : Nat) (v1 : Int32) (v2 : Int32) (a309 : Nat → Int32) (p0 : c248_pots.toInt ≤ 3) (p1 : 3 ≤ c248_pots.toInt) (p2 : c261_many.toInt ≤ 6) (p3 : 6 ≤ c261_many.toInt) (p4 : c261_swapsAPot.toInt ≤ 3) (p5 : 3 ≤ c261_swapsAPot.toInt) (p6 : ((n269 : Nat) : Int) ≤ 13824) (p7 : 1 ≤ ((n269 : Nat) : Int)) (p8 : ((n309 : Nat) : Int) ≤ 13824) (p9 : 1 ≤ ((n309 : Nat) : Int)) (p10 : 0 ≤ v1.toInt) (p11 : v1.toInt ≤ 215) (p12 : 216 ≤ ((n309 : Nat) : Int)) (p13 : 216 ≤ ((n269 : Nat) : Int)) (hr_a265 : dz_rt a265 6 3 0 5) (hr_a268 : dz_pt a268 [36, 6, 1]) (hr_a269 : dz_rg a269 n269 0 1023) (kv : Nat) (hkv : 1000000000000 ≤ kv) : dz_T (s291_X9_pass_0 fu c248_pots c261_many c261_swapsAPot a265 a268 a269 n269 n309 (F291_X9_pass fu c248_pots c261_many c261_swapsAPot a265 a268 a269 n269 n309 kv).1  v1 v2 a309) (fun r => True) := by
  unfold s291_X9_pass_0
  have e1 := dz_l0
  exact (t291_X9_pass_I_g33 fu hfu c248_pots c261_many c261_swapsAPot a265 a268 a269 n269 n309 p0 p1 p2 p3 p4 p5 p6 p7 p8 p9 p12 p13 hr_a265 hr_a268 hr_a269 kv).1 v1 v2 (0 : Int32) a309 p11 p10 (by omega) (by omega) (by omega)
theorem t291_X9_pass_g33 (fu : Nat) (hfu : 1000000000000 ≤ fu) (c248_pots : Int32) (c261_many : Int32) (c261_swapsAPot : Int32) (a265 : Nat → Int32) (a268 : Nat → Int32) (a269 : Nat → Int32) (n269 : Nat) (n309 : Nat) (v1 : Int32) (v2 : Int32) (a309 : Nat → Int32) (p0 : c248_pots.toInt ≤ 3) (p1 : 3 ≤ c248_pots.toInt) (p2 : c261_many.toInt ≤ 6) (p3 : 6 ≤ c261_many.toInt) (p4 : c261_swapsAPot.toInt ≤ 3) (p5 : 3 ≤ c261_swapsAPot.toInt) (p6 : ((n269 : Nat) : Int) ≤ 13824) (p7 : 1 ≤ ((n269 : Nat) : Int)) (p8 : ((n309 : Nat) : Int) ≤ 13824) (p9 : 1 ≤ ((n309 : Nat) : Int)) (p10 : 0 ≤ v1.toInt) (p11 : v1.toInt ≤ 215) (p12 : 216 ≤ ((n309 : Nat) : Int)) (p13 : 216 ≤ ((n269 : Nat) : Int)) (hr_a265 : dz_rt a265 6 3 0 5) (hr_a268 : dz_pt a268 [36, 6, 1]) (hr_a269 : dz_rg a269 n269 0 1023) : dz_T (f291_X9_pass fu c248_pots c261_many c261_swapsAPot a265 a268 a269 n269 n309 v1 v2 a309) (fun r => True) :=
  t291_X9_pass_E_g33 fu hfu c248_pots c261_many c261_swapsAPot a265 a268 a269 n269 n309 v1 v2 a309 p0 p1 p2 p3 p4 p5 p6 p7 p8 p9 p10 p11 p12 p13 hr_a265 hr_a268 hr_a269 fu hfu
abbrev p291_X9_pass_g34 (fu : Nat) (c248_pots : Int32) (c261_many : Int32) (c261_swapsAPot : Int32) (a265 : Nat → Int32) (a268 : Nat → Int32) (a269 : Nat → Int32) (n269 : Nat) (n309 : Nat) (k : Nat) : Prop :=
  (∀ (v1 : Int32) (v2 : Int32) (v3 : Int32) (a309 : Nat → Int32), v1.toInt ≤ 1295 → 0 ≤ v1.toInt → v3.toInt ≤ 4 → 0 ≤ v3.toInt → 0 + 0 + (4 - v3.toInt) * 84 + 7 ≤ ((k : Nat) : Int) → dz_T ((F291_X9_pass fu c248_pots c261_many c261_swapsAPot a265 a268 a269 n269 n309 k).1 v1 v2 v3 a309) (fun r => True)) ∧ (∀ (v1 : Int32) (v2 : Int32) (v3 : Int32) (v4 : Int32) (v5 : Int32) (v6 : Int32) (v7 : Int32) (a309 : Nat → Int32), v1.toInt ≤ 1295 → 0 ≤ v1.toInt → v3.toInt ≤ 3 → 0 ≤ v3.toInt → v4.toInt ≤ 216 → 1 ≤ v4.toInt → v5.toInt ≤ 5 → 0 ≤ v5.toInt → v6.toInt ≤ 1295 → (-1080) ≤ v6.toInt → v7.toInt ≤ 3 → 0 ≤ v7.toInt → v5.toInt ≤ v1.toInt → v6.toInt ≤ v1.toInt → ((v3.toInt = 0 ∧ v4.toInt = 216 ∧ v5.toInt = v1.toInt / 216 % 6 ∧ v6.toInt = v1.toInt - v5.toInt * 216) ∨ (v3.toInt = 1 ∧ v4.toInt = 36 ∧ v5.toInt = v1.toInt / 36 % 6 ∧ v6.toInt = v1.toInt - v5.toInt * 36) ∨ (v3.toInt = 2 ∧ v4.toInt = 6 ∧ v5.toInt = v1.toInt / 6 % 6 ∧ v6.toInt = v1.toInt - v5.toInt * 6) ∨ (v3.toInt = 3 ∧ v4.toInt = 1 ∧ v5.toInt = v1.toInt % 6 ∧ v6.toInt = v1.toInt - v5.toInt * 1)) → 0 + 0 + ((4 - v3.toInt) - 1) * 84 + 0 + (3 - v7.toInt) * 14 + 14 ≤ ((k : Nat) : Int) → dz_T ((F291_X9_pass fu c248_pots c261_many c261_swapsAPot a265 a268 a269 n269 n309 k).2.1 v1 v2 v3 v4 v5 v6 v7 a309) (fun r => True))
set_option maxHeartbeats 1000000 in
set_option maxRecDepth 10000 in
theorem t291_X9_pass_h1_g34 (fu : Nat) (hfu : 1000000000000 ≤ fu) (c248_pots : Int32) (c261_many : Int32) (c261_swapsAPot : Int32) (a265 : Nat → Int32) (a268 : Nat → Int32) (a269 : Nat → Int32) (n269 : Nat) (n309 : Nat) (p0 : c248_pots.toInt ≤ 4) (p1 : 4 ≤ c248_pots.toInt) (p2 : c261_many.toInt ≤ 6) (p3 : 6 ≤ c261_many.toInt) (p4 : c261_swapsAPot.toInt ≤ 3) (p5 : 3 ≤ c261_swapsAPot.toInt) (p6 : ((n269 : Nat) : Int) ≤ 13824) (p7 : 1 ≤ ((n269 : Nat) : Int)) (p8 : ((n309 : Nat) : Int) ≤ 13824) (p9 : 1 ≤ ((n309 : Nat) : Int)) (p10 : 1296 ≤ ((n309 : Nat) : Int)) (p11 : 1296 ≤ ((n269 : Nat) : Int)) (hr_a265 : dz_rt a265 6 3 0 5) (hr_a268 : dz_pt a268 [216, 36, 6, 1]) (hr_a269 : dz_rg a269 n269 0 1023) (k : Nat) (ih : ∀ j9, j9 < k → p291_X9_pass_g34 fu c248_pots c261_many c261_swapsAPot a265 a268 a269 n269 n309 j9) : ∀ (v1 : Int32) (v2 : Int32) (v3 : Int32) (a309 : Nat → Int32), v1.toInt ≤ 1295 → 0 ≤ v1.toInt → v3.toInt ≤ 4 → 0 ≤ v3.toInt → 0 + 0 + (4 - v3.toInt) * 84 + 7 ≤ ((k : Nat) : Int) → dz_T ((F291_X9_pass fu c248_pots c261_many c261_swapsAPot a265 a268 a269 n269 n309 k).1 v1 v2 v3 a309) (fun r => True) := by
  intro v1 v2 v3 a309 i0 i1 i2 i3 hm
  obtain ⟨k0, rfl⟩ : ∃ x, k = x + 1 := ⟨k - 1, by omega⟩
  show dz_T (s291_X9_pass_1 fu c248_pots c261_many c261_swapsAPot a265 a268 a269 n269 n309 (F291_X9_pass fu c248_pots c261_many c261_swapsAPot a265 a268 a269 n269 n309 k0).2.1  v1 v2 v3 a309) _
  unfold s291_X9_pass_1
  rcases (show v3.toInt = 0 ∨ v3.toInt = 1 ∨ v3.toInt = 2 ∨ v3.toInt = 3 ∨ v3.toInt = 4 by omega) with hs | hs | hs | hs | hs
  · skip
    refine dz_Tle (fun h1 => ?_) (fun h1 => ?_)
    · skip
      exfalso; omega
    · skip
      refine dz_Tin (by omega) (by omega) ?_
      refine dz_Tbe (show f141_X2_rankIn fu c261_many a268 v1 v3 = (if dz_in v3 4 then (if ((a268 v3.toNatClampNeg) ≤ (0 : Int32)) then (some (0 : Int32)) else (if (c261_many ≤ (0 : Int32)) then (some (0 : Int32)) else (if (¬ ((a268 v3.toNatClampNeg) = (0 : Int32))) then (if (¬ (c261_many = (0 : Int32))) then (some (dz_rem (v1 / (a268 v3.toNatClampNeg)) c261_many)) else none) else none))) else none) from rfl) ?_
      refine dz_Tinb (by omega) (by omega) ?_
      have e2 := dz_ptat (hr_a268) (i := v3) (x := 216) 0 (by omega) (by decide)
      have e3 := dz_l0
      refine dz_Tleb (fun h4 => ?_) (fun h4 => ?_)
      · skip
        exfalso; omega
      · skip
        refine dz_Tleb (fun h5 => ?_) (fun h5 => ?_)
        · skip
          exfalso; omega
        · skip
          refine dz_Tzb (by omega) ?_
          refine dz_Tzb (by omega) ?_
          refine dz_Tsb ?_
          have e6 := dz_divn (a := v1) (b := (a268 v3.toNatClampNeg)) 216 (by omega) (by omega) (by omega)
          have e7 := dz_remn (a := (v1 / (a268 v3.toNatClampNeg))) (b := c261_many) 6 (by omega) (by omega) (by omega)
          have e8 := dz_mulr (a := (dz_rem (v1 / (a268 v3.toNatClampNeg)) c261_many)) (b := (a268 v3.toNatClampNeg)) 216 (by omega) (by omega) (by omega)
          have e9 := dz_sub (a := v1) (b := ((dz_rem (v1 / (a268 v3.toNatClampNeg)) c261_many) * (a268 v3.toNatClampNeg))) (by omega) (by omega)
          exact (ih k0 (by omega)).2 v1 v2 v3 (a268 v3.toNatClampNeg) (dz_rem (v1 / (a268 v3.toNatClampNeg)) c261_many) (v1 - ((dz_rem (v1 / (a268 v3.toNatClampNeg)) c261_many) * (a268 v3.toNatClampNeg))) (0 : Int32) a309 i0 i1 (by first | assumption | omega) i3 (by omega) (by omega) (by omega) (by omega) (by omega) (by omega) (by omega) (by omega) (by omega) (by omega) (by omega) (by omega)
  · skip
    refine dz_Tle (fun h10 => ?_) (fun h10 => ?_)
    · skip
      exfalso; omega
    · skip
      refine dz_Tin (by omega) (by omega) ?_
      refine dz_Tbe (show f141_X2_rankIn fu c261_many a268 v1 v3 = (if dz_in v3 4 then (if ((a268 v3.toNatClampNeg) ≤ (0 : Int32)) then (some (0 : Int32)) else (if (c261_many ≤ (0 : Int32)) then (some (0 : Int32)) else (if (¬ ((a268 v3.toNatClampNeg) = (0 : Int32))) then (if (¬ (c261_many = (0 : Int32))) then (some (dz_rem (v1 / (a268 v3.toNatClampNeg)) c261_many)) else none) else none))) else none) from rfl) ?_
      refine dz_Tinb (by omega) (by omega) ?_
      have e11 := dz_ptat (hr_a268) (i := v3) (x := 36) 1 (by omega) (by decide)
      have e12 := dz_l0
      refine dz_Tleb (fun h13 => ?_) (fun h13 => ?_)
      · skip
        exfalso; omega
      · skip
        refine dz_Tleb (fun h14 => ?_) (fun h14 => ?_)
        · skip
          exfalso; omega
        · skip
          refine dz_Tzb (by omega) ?_
          refine dz_Tzb (by omega) ?_
          refine dz_Tsb ?_
          have e15 := dz_divn (a := v1) (b := (a268 v3.toNatClampNeg)) 36 (by omega) (by omega) (by omega)
          have e16 := dz_remn (a := (v1 / (a268 v3.toNatClampNeg))) (b := c261_many) 6 (by omega) (by omega) (by omega)
          have e17 := dz_mulr (a := (dz_rem (v1 / (a268 v3.toNatClampNeg)) c261_many)) (b := (a268 v3.toNatClampNeg)) 36 (by omega) (by omega) (by omega)
          have e18 := dz_sub (a := v1) (b := ((dz_rem (v1 / (a268 v3.toNatClampNeg)) c261_many) * (a268 v3.toNatClampNeg))) (by omega) (by omega)
          exact (ih k0 (by omega)).2 v1 v2 v3 (a268 v3.toNatClampNeg) (dz_rem (v1 / (a268 v3.toNatClampNeg)) c261_many) (v1 - ((dz_rem (v1 / (a268 v3.toNatClampNeg)) c261_many) * (a268 v3.toNatClampNeg))) (0 : Int32) a309 i0 i1 (by first | assumption | omega) i3 (by omega) (by omega) (by omega) (by omega) (by omega) (by omega) (by omega) (by omega) (by omega) (by omega) (by omega) (by omega)
  · skip
    refine dz_Tle (fun h19 => ?_) (fun h19 => ?_)
    · skip
      exfalso; omega
    · skip
      refine dz_Tin (by omega) (by omega) ?_
      refine dz_Tbe (show f141_X2_rankIn fu c261_many a268 v1 v3 = (if dz_in v3 4 then (if ((a268 v3.toNatClampNeg) ≤ (0 : Int32)) then (some (0 : Int32)) else (if (c261_many ≤ (0 : Int32)) then (some (0 : Int32)) else (if (¬ ((a268 v3.toNatClampNeg) = (0 : Int32))) then (if (¬ (c261_many = (0 : Int32))) then (some (dz_rem (v1 / (a268 v3.toNatClampNeg)) c261_many)) else none) else none))) else none) from rfl) ?_
      refine dz_Tinb (by omega) (by omega) ?_
      have e20 := dz_ptat (hr_a268) (i := v3) (x := 6) 2 (by omega) (by decide)
      have e21 := dz_l0
      refine dz_Tleb (fun h22 => ?_) (fun h22 => ?_)
      · skip
        exfalso; omega
      · skip
        refine dz_Tleb (fun h23 => ?_) (fun h23 => ?_)
        · skip
          exfalso; omega
        · skip
          refine dz_Tzb (by omega) ?_
          refine dz_Tzb (by omega) ?_
          refine dz_Tsb ?_
          have e24 := dz_divn (a := v1) (b := (a268 v3.toNatClampNeg)) 6 (by omega) (by omega) (by omega)
          have e25 := dz_remn (a := (v1 / (a268 v3.toNatClampNeg))) (b := c261_many) 6 (by omega) (by omega) (by omega)
          have e26 := dz_mulr (a := (dz_rem (v1 / (a268 v3.toNatClampNeg)) c261_many)) (b := (a268 v3.toNatClampNeg)) 6 (by omega) (by omega) (by omega)
          have e27 := dz_sub (a := v1) (b := ((dz_rem (v1 / (a268 v3.toNatClampNeg)) c261_many) * (a268 v3.toNatClampNeg))) (by omega) (by omega)
          exact (ih k0 (by omega)).2 v1 v2 v3 (a268 v3.toNatClampNeg) (dz_rem (v1 / (a268 v3.toNatClampNeg)) c261_many) (v1 - ((dz_rem (v1 / (a268 v3.toNatClampNeg)) c261_many) * (a268 v3.toNatClampNeg))) (0 : Int32) a309 i0 i1 (by first | assumption | omega) i3 (by omega) (by omega) (by omega) (by omega) (by omega) (by omega) (by omega) (by omega) (by omega) (by omega) (by omega) (by omega)
  · skip
    refine dz_Tle (fun h28 => ?_) (fun h28 => ?_)
    · skip
      exfalso; omega
    · skip
      refine dz_Tin (by omega) (by omega) ?_
      refine dz_Tbe (show f141_X2_rankIn fu c261_many a268 v1 v3 = (if dz_in v3 4 then (if ((a268 v3.toNatClampNeg) ≤ (0 : Int32)) then (some (0 : Int32)) else (if (c261_many ≤ (0 : Int32)) then (some (0 : Int32)) else (if (¬ ((a268 v3.toNatClampNeg) = (0 : Int32))) then (if (¬ (c261_many = (0 : Int32))) then (some (dz_rem (v1 / (a268 v3.toNatClampNeg)) c261_many)) else none) else none))) else none) from rfl) ?_
      refine dz_Tinb (by omega) (by omega) ?_
      have e29 := dz_ptat (hr_a268) (i := v3) (x := 1) 3 (by omega) (by decide)
      have e30 := dz_l0
      refine dz_Tleb (fun h31 => ?_) (fun h31 => ?_)
      · skip
        exfalso; omega
      · skip
        refine dz_Tleb (fun h32 => ?_) (fun h32 => ?_)
        · skip
          exfalso; omega
        · skip
          refine dz_Tzb (by omega) ?_
          refine dz_Tzb (by omega) ?_
          refine dz_Tsb ?_
          have e33 := dz_div1 (a := v1) (b := (a268 v3.toNatClampNeg)) (by omega) (by omega)
          have e34 := dz_remn (a := (v1 / (a268 v3.toNatClampNeg))) (b := c261_many) 6 (by omega) (by omega) (by omega)
          have e35 := dz_mulr (a := (dz_rem (v1 / (a268 v3.toNatClampNeg)) c261_many)) (b := (a268 v3.toNatClampNeg)) 1 (by omega) (by omega) (by omega)
          have e36 := dz_sub (a := v1) (b := ((dz_rem (v1 / (a268 v3.toNatClampNeg)) c261_many) * (a268 v3.toNatClampNeg))) (by omega) (by omega)
          exact (ih k0 (by omega)).2 v1 v2 v3 (a268 v3.toNatClampNeg) (dz_rem (v1 / (a268 v3.toNatClampNeg)) c261_many) (v1 - ((dz_rem (v1 / (a268 v3.toNatClampNeg)) c261_many) * (a268 v3.toNatClampNeg))) (0 : Int32) a309 i0 i1 (by first | assumption | omega) i3 (by omega) (by omega) (by omega) (by omega) (by omega) (by omega) (by omega) (by omega) (by omega) (by omega) (by omega) (by omega)
  · skip
    refine dz_Tle (fun h37 => ?_) (fun h37 => ?_)
    · skip
      exact dz_Ts trivial
    · skip
      exfalso; omega
set_option maxHeartbeats 1000000 in
set_option maxRecDepth 10000 in
theorem t291_X9_pass_h2_g34 (fu : Nat) (hfu : 1000000000000 ≤ fu) (c248_pots : Int32) (c261_many : Int32) (c261_swapsAPot : Int32) (a265 : Nat → Int32) (a268 : Nat → Int32) (a269 : Nat → Int32) (n269 : Nat) (n309 : Nat) (p0 : c248_pots.toInt ≤ 4) (p1 : 4 ≤ c248_pots.toInt) (p2 : c261_many.toInt ≤ 6) (p3 : 6 ≤ c261_many.toInt) (p4 : c261_swapsAPot.toInt ≤ 3) (p5 : 3 ≤ c261_swapsAPot.toInt) (p6 : ((n269 : Nat) : Int) ≤ 13824) (p7 : 1 ≤ ((n269 : Nat) : Int)) (p8 : ((n309 : Nat) : Int) ≤ 13824) (p9 : 1 ≤ ((n309 : Nat) : Int)) (p10 : 1296 ≤ ((n309 : Nat) : Int)) (p11 : 1296 ≤ ((n269 : Nat) : Int)) (hr_a265 : dz_rt a265 6 3 0 5) (hr_a268 : dz_pt a268 [216, 36, 6, 1]) (hr_a269 : dz_rg a269 n269 0 1023) (k : Nat) (ih : ∀ j9, j9 < k → p291_X9_pass_g34 fu c248_pots c261_many c261_swapsAPot a265 a268 a269 n269 n309 j9) : ∀ (v1 : Int32) (v2 : Int32) (v3 : Int32) (v4 : Int32) (v5 : Int32) (v6 : Int32) (v7 : Int32) (a309 : Nat → Int32), v1.toInt ≤ 1295 → 0 ≤ v1.toInt → v3.toInt ≤ 3 → 0 ≤ v3.toInt → v4.toInt ≤ 216 → 1 ≤ v4.toInt → v5.toInt ≤ 5 → 0 ≤ v5.toInt → v6.toInt ≤ 1295 → (-1080) ≤ v6.toInt → v7.toInt ≤ 3 → 0 ≤ v7.toInt → v5.toInt ≤ v1.toInt → v6.toInt ≤ v1.toInt → ((v3.toInt = 0 ∧ v4.toInt = 216 ∧ v5.toInt = v1.toInt / 216 % 6 ∧ v6.toInt = v1.toInt - v5.toInt * 216) ∨ (v3.toInt = 1 ∧ v4.toInt = 36 ∧ v5.toInt = v1.toInt / 36 % 6 ∧ v6.toInt = v1.toInt - v5.toInt * 36) ∨ (v3.toInt = 2 ∧ v4.toInt = 6 ∧ v5.toInt = v1.toInt / 6 % 6 ∧ v6.toInt = v1.toInt - v5.toInt * 6) ∨ (v3.toInt = 3 ∧ v4.toInt = 1 ∧ v5.toInt = v1.toInt % 6 ∧ v6.toInt = v1.toInt - v5.toInt * 1)) → 0 + 0 + ((4 - v3.toInt) - 1) * 84 + 0 + (3 - v7.toInt) * 14 + 14 ≤ ((k : Nat) : Int) → dz_T ((F291_X9_pass fu c248_pots c261_many c261_swapsAPot a265 a268 a269 n269 n309 k).2.1 v1 v2 v3 v4 v5 v6 v7 a309) (fun r => True) := by
  intro v1 v2 v3 v4 v5 v6 v7 a309 i0 i1 i2 i3 i4 i5 i6 i7 i8 i9 i10 i11 i12 i13 x0 hm
  obtain ⟨k0, rfl⟩ : ∃ x, k = x + 1 := ⟨k - 1, by omega⟩
  show dz_T (s291_X9_pass_2 fu c248_pots c261_many c261_swapsAPot a265 a268 a269 n269 n309 (F291_X9_pass fu c248_pots c261_many c261_swapsAPot a265 a268 a269 n269 n309 k0).1 (F291_X9_pass fu c248_pots c261_many c261_swapsAPot a265 a268 a269 n269 n309 k0).2.2  v1 v2 v3 v4 v5 v6 v7 a309) _
  unfold s291_X9_pass_2
  rcases (show v3.toInt = 0 ∨ v3.toInt = 1 ∨ v3.toInt = 2 ∨ v3.toInt = 3 by omega) with hs | hs | hs | hs
  · skip
    refine dz_Tle (fun h1 => ?_) (fun h1 => ?_)
    · skip
      have e2 := dz_l1
      have e3 := dz_add (a := v3) (b := (1 : Int32)) (by omega) (by omega)
      exact (ih k0 (by omega)).1 v1 v2 (v3 + (1 : Int32)) a309 i0 i1 (by omega) (by omega) (by omega)
    · skip
      have e4 := dz_l6
      have e5 := dz_mulr (a := v5) (b := (6 : Int32)) 6 (by omega) (by omega) (by omega)
      have e6 := dz_add (a := (v5 * (6 : Int32))) (b := v7) (by omega) (by omega)
      refine dz_Tin (by omega) (by omega) ?_
      have e7 := dz_rtat (hr_a265) (x := v5) (y := v7) (by omega) (by omega) (by omega) (by omega) (by omega)
      have e8 := dz_mulr (a := (a265 ((v5 * (6 : Int32)) + v7).toNatClampNeg)) (b := v4) 216 (by omega) (by omega) (by omega)
      have e9 := dz_add (a := v6) (b := ((a265 ((v5 * (6 : Int32)) + v7).toNatClampNeg) * v4)) (by omega) (by omega)
      refine dz_Tin (by omega) (by omega) ?_
      have e10 := dz_rgat (hr_a269) (i := (v6 + ((a265 ((v5 * (6 : Int32)) + v7).toNatClampNeg) * v4))) (by omega) (by omega)
      have e11 := dz_l0
      refine dz_Teq (fun h12 => ?_) (fun h12 => ?_)
      · skip
        obtain ⟨k1, rfl⟩ : ∃ x, k0 = x + 1 := ⟨k0 - 1, by omega⟩
        show dz_T (s291_X9_pass_3 fu c248_pots c261_many c261_swapsAPot a265 a268 a269 n269 n309 (F291_X9_pass fu c248_pots c261_many c261_swapsAPot a265 a268 a269 n269 n309 k1).2.1 v1 v2 v3 v4 v5 v6 v7 (v6 + ((a265 ((v5 * (6 : Int32)) + v7).toNatClampNeg) * v4)) a309) _
        unfold s291_X9_pass_3
        refine dz_Tin (by omega) (by omega) ?_
        refine dz_Tin (by omega) (by omega) ?_
        have e13 := dz_l1
        have e14 := dz_add (a := v7) (b := (1 : Int32)) (by omega) (by omega)
        exact (ih k1 (by omega)).2 v1 v2 v3 v4 v5 v6 (v7 + (1 : Int32)) (upd a309 (v6 + ((a265 ((v5 * (6 : Int32)) + v7).toNatClampNeg) * v4)).toNatClampNeg ((a309 (v6 + ((a265 ((v5 * (6 : Int32)) + v7).toNatClampNeg) * v4)).toNatClampNeg) + v2)) i0 i1 i2 i3 i4 i5 i6 i7 i8 i9 (by omega) (by omega) i12 i13 (by omega) (by omega)
      · skip
        obtain ⟨k2, rfl⟩ : ∃ x, k0 = x + 1 := ⟨k0 - 1, by omega⟩
        show dz_T (s291_X9_pass_3 fu c248_pots c261_many c261_swapsAPot a265 a268 a269 n269 n309 (F291_X9_pass fu c248_pots c261_many c261_swapsAPot a265 a268 a269 n269 n309 k2).2.1 v1 v2 v3 v4 v5 v6 v7 v1 a309) _
        unfold s291_X9_pass_3
        refine dz_Tin (by omega) (by omega) ?_
        refine dz_Tin (by omega) (by omega) ?_
        have e15 := dz_l1
        have e16 := dz_add (a := v7) (b := (1 : Int32)) (by omega) (by omega)
        exact (ih k2 (by omega)).2 v1 v2 v3 v4 v5 v6 (v7 + (1 : Int32)) (upd a309 v1.toNatClampNeg ((a309 v1.toNatClampNeg) + v2)) i0 i1 i2 i3 i4 i5 i6 i7 i8 i9 (by omega) (by omega) i12 i13 (by omega) (by omega)
  · skip
    refine dz_Tle (fun h17 => ?_) (fun h17 => ?_)
    · skip
      have e18 := dz_l1
      have e19 := dz_add (a := v3) (b := (1 : Int32)) (by omega) (by omega)
      exact (ih k0 (by omega)).1 v1 v2 (v3 + (1 : Int32)) a309 i0 i1 (by omega) (by omega) (by omega)
    · skip
      have e20 := dz_l6
      have e21 := dz_mulr (a := v5) (b := (6 : Int32)) 6 (by omega) (by omega) (by omega)
      have e22 := dz_add (a := (v5 * (6 : Int32))) (b := v7) (by omega) (by omega)
      refine dz_Tin (by omega) (by omega) ?_
      have e23 := dz_rtat (hr_a265) (x := v5) (y := v7) (by omega) (by omega) (by omega) (by omega) (by omega)
      have e24 := dz_mulr (a := (a265 ((v5 * (6 : Int32)) + v7).toNatClampNeg)) (b := v4) 36 (by omega) (by omega) (by omega)
      have e25 := dz_add (a := v6) (b := ((a265 ((v5 * (6 : Int32)) + v7).toNatClampNeg) * v4)) (by omega) (by omega)
      refine dz_Tin (by omega) (by omega) ?_
      have e26 := dz_rgat (hr_a269) (i := (v6 + ((a265 ((v5 * (6 : Int32)) + v7).toNatClampNeg) * v4))) (by omega) (by omega)
      have e27 := dz_l0
      refine dz_Teq (fun h28 => ?_) (fun h28 => ?_)
      · skip
        obtain ⟨k3, rfl⟩ : ∃ x, k0 = x + 1 := ⟨k0 - 1, by omega⟩
        show dz_T (s291_X9_pass_3 fu c248_pots c261_many c261_swapsAPot a265 a268 a269 n269 n309 (F291_X9_pass fu c248_pots c261_many c261_swapsAPot a265 a268 a269 n269 n309 k3).2.1 v1 v2 v3 v4 v5 v6 v7 (v6 + ((a265 ((v5 * (6 : Int32)) + v7).toNatClampNeg) * v4)) a309) _
        unfold s291_X9_pass_3
        refine dz_Tin (by omega) (by omega) ?_
        refine dz_Tin (by omega) (by omega) ?_
        have e29 := dz_l1
        have e30 := dz_add (a := v7) (b := (1 : Int32)) (by omega) (by omega)
        exact (ih k3 (by omega)).2 v1 v2 v3 v4 v5 v6 (v7 + (1 : Int32)) (upd a309 (v6 + ((a265 ((v5 * (6 : Int32)) + v7).toNatClampNeg) * v4)).toNatClampNeg ((a309 (v6 + ((a265 ((v5 * (6 : Int32)) + v7).toNatClampNeg) * v4)).toNatClampNeg) + v2)) i0 i1 i2 i3 i4 i5 i6 i7 i8 i9 (by omega) (by omega) i12 i13 (by omega) (by omega)
      · skip
        obtain ⟨k4, rfl⟩ : ∃ x, k0 = x + 1 := ⟨k0 - 1, by omega⟩
        show dz_T (s291_X9_pass_3 fu c248_pots c261_many c261_swapsAPot a265 a268 a269 n269 n309 (F291_X9_pass fu c248_pots c261_many c261_swapsAPot a265 a268 a269 n269 n309 k4).2.1 v1 v2 v3 v4 v5 v6 v7 v1 a309) _
        unfold s291_X9_pass_3
        refine dz_Tin (by omega) (by omega) ?_
        refine dz_Tin (by omega) (by omega) ?_
        have e31 := dz_l1
        have e32 := dz_add (a := v7) (b := (1 : Int32)) (by omega) (by omega)
        exact (ih k4 (by omega)).2 v1 v2 v3 v4 v5 v6 (v7 + (1 : Int32)) (upd a309 v1.toNatClampNeg ((a309 v1.toNatClampNeg) + v2)) i0 i1 i2 i3 i4 i5 i6 i7 i8 i9 (by omega) (by omega) i12 i13 (by omega) (by omega)
  · skip
    refine dz_Tle (fun h33 => ?_) (fun h33 => ?_)
    · skip
      have e34 := dz_l1
      have e35 := dz_add (a := v3) (b := (1 : Int32)) (by omega) (by omega)
      exact (ih k0 (by omega)).1 v1 v2 (v3 + (1 : Int32)) a309 i0 i1 (by omega) (by omega) (by omega)
    · skip
      have e36 := dz_l6
      have e37 := dz_mulr (a := v5) (b := (6 : Int32)) 6 (by omega) (by omega) (by omega)
      have e38 := dz_add (a := (v5 * (6 : Int32))) (b := v7) (by omega) (by omega)
      refine dz_Tin (by omega) (by omega) ?_
      have e39 := dz_rtat (hr_a265) (x := v5) (y := v7) (by omega) (by omega) (by omega) (by omega) (by omega)
      have e40 := dz_mulr (a := (a265 ((v5 * (6 : Int32)) + v7).toNatClampNeg)) (b := v4) 6 (by omega) (by omega) (by omega)
      have e41 := dz_add (a := v6) (b := ((a265 ((v5 * (6 : Int32)) + v7).toNatClampNeg) * v4)) (by omega) (by omega)
      refine dz_Tin (by omega) (by omega) ?_
      have e42 := dz_rgat (hr_a269) (i := (v6 + ((a265 ((v5 * (6 : Int32)) + v7).toNatClampNeg) * v4))) (by omega) (by omega)
      have e43 := dz_l0
      refine dz_Teq (fun h44 => ?_) (fun h44 => ?_)
      · skip
        obtain ⟨k5, rfl⟩ : ∃ x, k0 = x + 1 := ⟨k0 - 1, by omega⟩
        show dz_T (s291_X9_pass_3 fu c248_pots c261_many c261_swapsAPot a265 a268 a269 n269 n309 (F291_X9_pass fu c248_pots c261_many c261_swapsAPot a265 a268 a269 n269 n309 k5).2.1 v1 v2 v3 v4 v5 v6 v7 (v6 + ((a265 ((v5 * (6 : Int32)) + v7).toNatClampNeg) * v4)) a309) _
        unfold s291_X9_pass_3
        refine dz_Tin (by omega) (by omega) ?_
        refine dz_Tin (by omega) (by omega) ?_
        have e45 := dz_l1
        have e46 := dz_add (a := v7) (b := (1 : Int32)) (by omega) (by omega)
        exact (ih k5 (by omega)).2 v1 v2 v3 v4 v5 v6 (v7 + (1 : Int32)) (upd a309 (v6 + ((a265 ((v5 * (6 : Int32)) + v7).toNatClampNeg) * v4)).toNatClampNeg ((a309 (v6 + ((a265 ((v5 * (6 : Int32)) + v7).toNatClampNeg) * v4)).toNatClampNeg) + v2)) i0 i1 i2 i3 i4 i5 i6 i7 i8 i9 (by omega) (by omega) i12 i13 (by omega) (by omega)
      · skip
        obtain ⟨k6, rfl⟩ : ∃ x, k0 = x + 1 := ⟨k0 - 1, by omega⟩
        show dz_T (s291_X9_pass_3 fu c248_pots c261_many c261_swapsAPot a265 a268 a269 n269 n309 (F291_X9_pass fu c248_pots c261_many c261_swapsAPot a265 a268 a269 n269 n309 k6).2.1 v1 v2 v3 v4 v5 v6 v7 v1 a309) _
        unfold s291_X9_pass_3
        refine dz_Tin (by omega) (by omega) ?_
        refine dz_Tin (by omega) (by omega) ?_
        have e47 := dz_l1
        have e48 := dz_add (a := v7) (b := (1 : Int32)) (by omega) (by omega)
        exact (ih k6 (by omega)).2 v1 v2 v3 v4 v5 v6 (v7 + (1 : Int32)) (upd a309 v1.toNatClampNeg ((a309 v1.toNatClampNeg) + v2)) i0 i1 i2 i3 i4 i5 i6 i7 i8 i9 (by omega) (by omega) i12 i13 (by omega) (by omega)
  · skip
    refine dz_Tle (fun h49 => ?_) (fun h49 => ?_)
    · skip
      have e50 := dz_l1
      have e51 := dz_add (a := v3) (b := (1 : Int32)) (by omega) (by omega)
      exact (ih k0 (by omega)).1 v1 v2 (v3 + (1 : Int32)) a309 i0 i1 (by omega) (by omega) (by omega)
    · skip
      have e52 := dz_l6
      have e53 := dz_mulr (a := v5) (b := (6 : Int32)) 6 (by omega) (by omega) (by omega)
      have e54 := dz_add (a := (v5 * (6 : Int32))) (b := v7) (by omega) (by omega)
      refine dz_Tin (by omega) (by omega) ?_
      have e55 := dz_rtat (hr_a265) (x := v5) (y := v7) (by omega) (by omega) (by omega) (by omega) (by omega)
      have e56 := dz_mulr (a := (a265 ((v5 * (6 : Int32)) + v7).toNatClampNeg)) (b := v4) 1 (by omega) (by omega) (by omega)
      have e57 := dz_add (a := v6) (b := ((a265 ((v5 * (6 : Int32)) + v7).toNatClampNeg) * v4)) (by omega) (by omega)
      refine dz_Tin (by omega) (by omega) ?_
      have e58 := dz_rgat (hr_a269) (i := (v6 + ((a265 ((v5 * (6 : Int32)) + v7).toNatClampNeg) * v4))) (by omega) (by omega)
      have e59 := dz_l0
      refine dz_Teq (fun h60 => ?_) (fun h60 => ?_)
      · skip
        obtain ⟨k7, rfl⟩ : ∃ x, k0 = x + 1 := ⟨k0 - 1, by omega⟩
        show dz_T (s291_X9_pass_3 fu c248_pots c261_many c261_swapsAPot a265 a268 a269 n269 n309 (F291_X9_pass fu c248_pots c261_many c261_swapsAPot a265 a268 a269 n269 n309 k7).2.1 v1 v2 v3 v4 v5 v6 v7 (v6 + ((a265 ((v5 * (6 : Int32)) + v7).toNatClampNeg) * v4)) a309) _
        unfold s291_X9_pass_3
        refine dz_Tin (by omega) (by omega) ?_
        refine dz_Tin (by omega) (by omega) ?_
        have e61 := dz_l1
        have e62 := dz_add (a := v7) (b := (1 : Int32)) (by omega) (by omega)
        exact (ih k7 (by omega)).2 v1 v2 v3 v4 v5 v6 (v7 + (1 : Int32)) (upd a309 (v6 + ((a265 ((v5 * (6 : Int32)) + v7).toNatClampNeg) * v4)).toNatClampNeg ((a309 (v6 + ((a265 ((v5 * (6 : Int32)) + v7).toNatClampNeg) * v4)).toNatClampNeg) + v2)) i0 i1 i2 i3 i4 i5 i6 i7 i8 i9 (by omega) (by omega) i12 i13 (by omega) (by omega)
      · skip
        obtain ⟨k8, rfl⟩ : ∃ x, k0 = x + 1 := ⟨k0 - 1, by omega⟩
        show dz_T (s291_X9_pass_3 fu c248_pots c261_many c261_swapsAPot a265 a268 a269 n269 n309 (F291_X9_pass fu c248_pots c261_many c261_swapsAPot a265 a268 a269 n269 n309 k8).2.1 v1 v2 v3 v4 v5 v6 v7 v1 a309) _
        unfold s291_X9_pass_3
        refine dz_Tin (by omega) (by omega) ?_
        refine dz_Tin (by omega) (by omega) ?_
        have e63 := dz_l1
        have e64 := dz_add (a := v7) (b := (1 : Int32)) (by omega) (by omega)
        exact (ih k8 (by omega)).2 v1 v2 v3 v4 v5 v6 (v7 + (1 : Int32)) (upd a309 v1.toNatClampNeg ((a309 v1.toNatClampNeg) + v2)) i0 i1 i2 i3 i4 i5 i6 i7 i8 i9 (by omega) (by omega) i12 i13 (by omega) (by omega)
theorem t291_X9_pass_I_g34 (fu : Nat) (hfu : 1000000000000 ≤ fu) (c248_pots : Int32) (c261_many : Int32) (c261_swapsAPot : Int32) (a265 : Nat → Int32) (a268 : Nat → Int32) (a269 : Nat → Int32) (n269 : Nat) (n309 : Nat) (p0 : c248_pots.toInt ≤ 4) (p1 : 4 ≤ c248_pots.toInt) (p2 : c261_many.toInt ≤ 6) (p3 : 6 ≤ c261_many.toInt) (p4 : c261_swapsAPot.toInt ≤ 3) (p5 : 3 ≤ c261_swapsAPot.toInt) (p6 : ((n269 : Nat) : Int) ≤ 13824) (p7 : 1 ≤ ((n269 : Nat) : Int)) (p8 : ((n309 : Nat) : Int) ≤ 13824) (p9 : 1 ≤ ((n309 : Nat) : Int)) (p10 : 1296 ≤ ((n309 : Nat) : Int)) (p11 : 1296 ≤ ((n269 : Nat) : Int)) (hr_a265 : dz_rt a265 6 3 0 5) (hr_a268 : dz_pt a268 [216, 36, 6, 1]) (hr_a269 : dz_rg a269 n269 0 1023) (k : Nat) : p291_X9_pass_g34 fu c248_pots c261_many c261_swapsAPot a265 a268 a269 n269 n309 k := by
  induction k using Nat.strongRecOn with
  | _ k ih => exact ⟨t291_X9_pass_h1_g34 fu hfu c248_pots c261_many c261_swapsAPot a265 a268 a269 n269 n309 p0 p1 p2 p3 p4 p5 p6 p7 p8 p9 p10 p11 hr_a265 hr_a268 hr_a269 k ih, t291_X9_pass_h2_g34 fu hfu c248_pots c261_many c261_swapsAPot a265 a268 a269 n269 n309 p0 p1 p2 p3 p4 p5 p6 p7 p8 p9 p10 p11 hr_a265 hr_a268 hr_a269 k ih⟩
set_option maxHeartbeats 1000000 in
set_option maxRecDepth 10000 in
theorem t291_X9_pass_E_g34 (fu : Nat) (hfu : 1000000000000 ≤ fu) (c248_pots : Int32) (c261_many : Int32) (c261_swapsAPot : Int32) (a265 : Nat → Int32) (a268 : Nat → Int32) (a269 : Nat → Int32) (n269 : Nat) (n309 : Nat) (v1 : Int32) (v2 : Int32) (a309 : Nat → Int32) (p0 : c248_pots.toInt ≤ 4) (p1 : 4 ≤ c248_pots.toInt) (p2 : c261_many.toInt ≤ 6) (p3 : 6 ≤ c261_many.toInt) (p4 : c261_swapsAPot.toInt ≤ 3) (p5 : 3 ≤ c261_swapsAPot.toInt) (p6 : ((n269 : Nat) : Int) ≤ 13824) (p7 : 1 ≤ ((n269 : Nat) : Int)) (p8 : ((n309 : Nat) : Int) ≤ 13824) (p9 : 1 ≤ ((n309 : Nat) : Int)) (p10 : 0 ≤ v1.toInt) (p11 : v1.toInt ≤ 1295) (p12 : 1296 ≤ ((n309 : Nat) : Int)) (p13 : 1296 ≤ ((n269 : Nat) : Int)) (hr_a265 : dz_rt a265 6 3 0 5) (hr_a268 : dz_pt a268 [216, 36, 6, 1]) (hr_a269 : dz_rg a269 n269 0 1023) (kv : Nat) (hkv : 1000000000000 ≤ kv) : dz_T (s291_X9_pass_0 fu c248_pots c261_many c261_swapsAPot a265 a268 a269 n269 n309 (F291_X9_pass fu c248_pots c261_many c261_swapsAPot a265 a268 a269 n269 n309 kv).1  v1 v2 a309) (fun r => True) := by
  unfold s291_X9_pass_0
  have e1 := dz_l0
  exact (t291_X9_pass_I_g34 fu hfu c248_pots c261_many c261_swapsAPot a265 a268 a269 n269 n309 p0 p1 p2 p3 p4 p5 p6 p7 p8 p9 p12 p13 hr_a265 hr_a268 hr_a269 kv).1 v1 v2 (0 : Int32) a309 p11 p10 (by omega) (by omega) (by omega)
theorem t291_X9_pass_g34 (fu : Nat) (hfu : 1000000000000 ≤ fu) (c248_pots : Int32) (c261_many : Int32) (c261_swapsAPot : Int32) (a265 : Nat → Int32) (a268 : Nat → Int32) (a269 : Nat → Int32) (n269 : Nat) (n309 : Nat) (v1 : Int32) (v2 : Int32) (a309 : Nat → Int32) (p0 : c248_pots.toInt ≤ 4) (p1 : 4 ≤ c248_pots.toInt) (p2 : c261_many.toInt ≤ 6) (p3 : 6 ≤ c261_many.toInt) (p4 : c261_swapsAPot.toInt ≤ 3) (p5 : 3 ≤ c261_swapsAPot.toInt) (p6 : ((n269 : Nat) : Int) ≤ 13824) (p7 : 1 ≤ ((n269 : Nat) : Int)) (p8 : ((n309 : Nat) : Int) ≤ 13824) (p9 : 1 ≤ ((n309 : Nat) : Int)) (p10 : 0 ≤ v1.toInt) (p11 : v1.toInt ≤ 1295) (p12 : 1296 ≤ ((n309 : Nat) : Int)) (p13 : 1296 ≤ ((n269 : Nat) : Int)) (hr_a265 : dz_rt a265 6 3 0 5) (hr_a268 : dz_pt a268 [216, 36, 6, 1]) (hr_a269 : dz_rg a269 n269 0 1023) : dz_T (f291_X9_pass fu c248_pots c261_many c261_swapsAPot a265 a268 a269 n269 n309 v1 v2 a309) (fun r => True) :=
  t291_X9_pass_E_g34 fu hfu c248_pots c261_many c261_swapsAPot a265 a268 a269 n269 n309 v1 v2 a309 p0 p1 p2 p3 p4 p5 p6 p7 p8 p9 p10 p11 p12 p13 hr_a265 hr_a268 hr_a269 fu hfu
abbrev p291_X9_pass_g40 (fu : Nat) (c248_pots : Int32) (c261_many : Int32) (c261_swapsAPot : Int32) (a265 : Nat → Int32) (a268 : Nat → Int32) (a269 : Nat → Int32) (n269 : Nat) (n309 : Nat) (k : Nat) : Prop :=
  (∀ (v1 : Int32) (v2 : Int32) (v3 : Int32) (a309 : Nat → Int32), v1.toInt ≤ 0 → 0 ≤ v1.toInt → v3.toInt ≤ 0 → 0 ≤ v3.toInt → 0 + 0 + (0 - v3.toInt) * 42 + 7 ≤ ((k : Nat) : Int) → dz_T ((F291_X9_pass fu c248_pots c261_many c261_swapsAPot a265 a268 a269 n269 n309 k).1 v1 v2 v3 a309) (fun r => True))
set_option maxHeartbeats 1000000 in
set_option maxRecDepth 10000 in
theorem t291_X9_pass_h1_g40 (fu : Nat) (hfu : 1000000000000 ≤ fu) (c248_pots : Int32) (c261_many : Int32) (c261_swapsAPot : Int32) (a265 : Nat → Int32) (a268 : Nat → Int32) (a269 : Nat → Int32) (n269 : Nat) (n309 : Nat) (p0 : c248_pots.toInt ≤ 0) (p1 : 0 ≤ c248_pots.toInt) (p2 : c261_many.toInt ≤ 24) (p3 : 24 ≤ c261_many.toInt) (p4 : c261_swapsAPot.toInt ≤ 6) (p5 : 6 ≤ c261_swapsAPot.toInt) (p6 : ((n269 : Nat) : Int) ≤ 13824) (p7 : 1 ≤ ((n269 : Nat) : Int)) (p8 : ((n309 : Nat) : Int) ≤ 13824) (p9 : 1 ≤ ((n309 : Nat) : Int)) (p10 : 1 ≤ ((n309 : Nat) : Int)) (p11 : 1 ≤ ((n269 : Nat) : Int)) (hr_a265 : dz_rt a265 24 6 0 23) (hr_a269 : dz_rg a269 n269 0 1023) (k : Nat) (ih : ∀ j9, j9 < k → p291_X9_pass_g40 fu c248_pots c261_many c261_swapsAPot a265 a268 a269 n269 n309 j9) : ∀ (v1 : Int32) (v2 : Int32) (v3 : Int32) (a309 : Nat → Int32), v1.toInt ≤ 0 → 0 ≤ v1.toInt → v3.toInt ≤ 0 → 0 ≤ v3.toInt → 0 + 0 + (0 - v3.toInt) * 42 + 7 ≤ ((k : Nat) : Int) → dz_T ((F291_X9_pass fu c248_pots c261_many c261_swapsAPot a265 a268 a269 n269 n309 k).1 v1 v2 v3 a309) (fun r => True) := by
  intro v1 v2 v3 a309 i0 i1 i2 i3 hm
  obtain ⟨k0, rfl⟩ : ∃ x, k = x + 1 := ⟨k - 1, by omega⟩
  show dz_T (s291_X9_pass_1 fu c248_pots c261_many c261_swapsAPot a265 a268 a269 n269 n309 (F291_X9_pass fu c248_pots c261_many c261_swapsAPot a265 a268 a269 n269 n309 k0).2.1  v1 v2 v3 a309) _
  unfold s291_X9_pass_1
  refine dz_Tle (fun h1 => ?_) (fun h1 => ?_)
  · skip
    exact dz_Ts trivial
  · skip
    exfalso; omega
theorem t291_X9_pass_I_g40 (fu : Nat) (hfu : 1000000000000 ≤ fu) (c248_pots : Int32) (c261_many : Int32) (c261_swapsAPot : Int32) (a265 : Nat → Int32) (a268 : Nat → Int32) (a269 : Nat → Int32) (n269 : Nat) (n309 : Nat) (p0 : c248_pots.toInt ≤ 0) (p1 : 0 ≤ c248_pots.toInt) (p2 : c261_many.toInt ≤ 24) (p3 : 24 ≤ c261_many.toInt) (p4 : c261_swapsAPot.toInt ≤ 6) (p5 : 6 ≤ c261_swapsAPot.toInt) (p6 : ((n269 : Nat) : Int) ≤ 13824) (p7 : 1 ≤ ((n269 : Nat) : Int)) (p8 : ((n309 : Nat) : Int) ≤ 13824) (p9 : 1 ≤ ((n309 : Nat) : Int)) (p10 : 1 ≤ ((n309 : Nat) : Int)) (p11 : 1 ≤ ((n269 : Nat) : Int)) (hr_a265 : dz_rt a265 24 6 0 23) (hr_a269 : dz_rg a269 n269 0 1023) (k : Nat) : p291_X9_pass_g40 fu c248_pots c261_many c261_swapsAPot a265 a268 a269 n269 n309 k := by
  induction k using Nat.strongRecOn with
  | _ k ih => exact t291_X9_pass_h1_g40 fu hfu c248_pots c261_many c261_swapsAPot a265 a268 a269 n269 n309 p0 p1 p2 p3 p4 p5 p6 p7 p8 p9 p10 p11 hr_a265 hr_a269 k ih
set_option maxHeartbeats 1000000 in
set_option maxRecDepth 10000 in
theorem t291_X9_pass_E_g40 (fu : Nat) (hfu : 1000000000000 ≤ fu) (c248_pots : Int32) (c261_many : Int32) (c261_swapsAPot : Int32) (a265 : Nat → Int32) (a268 : Nat → Int32) (a269 : Nat → Int32) (n269 : Nat) (n309 : Nat) (v1 : Int32) (v2 : Int32) (a309 : Nat → Int32) (p0 : c248_pots.toInt ≤ 0) (p1 : 0 ≤ c248_pots.toInt) (p2 : c261_many.toInt ≤ 24) (p3 : 24 ≤ c261_many.toInt) (p4 : c261_swapsAPot.toInt ≤ 6) (p5 : 6 ≤ c261_swapsAPot.toInt) (p6 : ((n269 : Nat) : Int) ≤ 13824) (p7 : 1 ≤ ((n269 : Nat) : Int)) (p8 : ((n309 : Nat) : Int) ≤ 13824) (p9 : 1 ≤ ((n309 : Nat) : Int)) (p10 : 0 ≤ v1.toInt) (p11 : v1.toInt ≤ 0) (p12 : 1 ≤ ((n309 : Nat) : Int)) (p13 : 1 ≤ ((n269 : Nat) : Int)) (hr_a265 : dz_rt a265 24 6 0 23) (hr_a269 : dz_rg a269 n269 0 1023) (kv : Nat) (hkv : 1000000000000 ≤ kv) : dz_T (s291_X9_pass_0 fu c248_pots c261_many c261_swapsAPot a265 a268 a269 n269 n309 (F291_X9_pass fu c248_pots c261_many c261_swapsAPot a265 a268 a269 n269 n309 kv).1  v1 v2 a309) (fun r => True) := by
  unfold s291_X9_pass_0
  have e1 := dz_l0
  exact (t291_X9_pass_I_g40 fu hfu c248_pots c261_many c261_swapsAPot a265 a268 a269 n269 n309 p0 p1 p2 p3 p4 p5 p6 p7 p8 p9 p12 p13 hr_a265 hr_a269 kv) v1 v2 (0 : Int32) a309 p11 p10 (by omega) (by omega) (by omega)
theorem t291_X9_pass_g40 (fu : Nat) (hfu : 1000000000000 ≤ fu) (c248_pots : Int32) (c261_many : Int32) (c261_swapsAPot : Int32) (a265 : Nat → Int32) (a268 : Nat → Int32) (a269 : Nat → Int32) (n269 : Nat) (n309 : Nat) (v1 : Int32) (v2 : Int32) (a309 : Nat → Int32) (p0 : c248_pots.toInt ≤ 0) (p1 : 0 ≤ c248_pots.toInt) (p2 : c261_many.toInt ≤ 24) (p3 : 24 ≤ c261_many.toInt) (p4 : c261_swapsAPot.toInt ≤ 6) (p5 : 6 ≤ c261_swapsAPot.toInt) (p6 : ((n269 : Nat) : Int) ≤ 13824) (p7 : 1 ≤ ((n269 : Nat) : Int)) (p8 : ((n309 : Nat) : Int) ≤ 13824) (p9 : 1 ≤ ((n309 : Nat) : Int)) (p10 : 0 ≤ v1.toInt) (p11 : v1.toInt ≤ 0) (p12 : 1 ≤ ((n309 : Nat) : Int)) (p13 : 1 ≤ ((n269 : Nat) : Int)) (hr_a265 : dz_rt a265 24 6 0 23) (hr_a269 : dz_rg a269 n269 0 1023) : dz_T (f291_X9_pass fu c248_pots c261_many c261_swapsAPot a265 a268 a269 n269 n309 v1 v2 a309) (fun r => True) :=
  t291_X9_pass_E_g40 fu hfu c248_pots c261_many c261_swapsAPot a265 a268 a269 n269 n309 v1 v2 a309 p0 p1 p2 p3 p4 p5 p6 p7 p8 p9 p10 p11 p12 p13 hr_a265 hr_a269 fu hfu
abbrev p291_X9_pass_g41 (fu : Nat) (c248_pots : Int32) (c261_many : Int32) (c261_swapsAPot : Int32) (a265 : Nat → Int32) (a268 : Nat → Int32) (a269 : Nat → Int32) (n269 : Nat) (n309 : Nat) (k : Nat) : Prop :=
  (∀ (v1 : Int32) (v2 : Int32) (v3 : Int32) (a309 : Nat → Int32), v1.toInt ≤ 23 → 0 ≤ v1.toInt → v3.toInt ≤ 1 → 0 ≤ v3.toInt → 0 + 0 + (1 - v3.toInt) * 126 + 7 ≤ ((k : Nat) : Int) → dz_T ((F291_X9_pass fu c248_pots c261_many c261_swapsAPot a265 a268 a269 n269 n309 k).1 v1 v2 v3 a309) (fun r => True)) ∧ (∀ (v1 : Int32) (v2 : Int32) (v3 : Int32) (v4 : Int32) (v5 : Int32) (v6 : Int32) (v7 : Int32) (a309 : Nat → Int32), v1.toInt ≤ 23 → 0 ≤ v1.toInt → v3.toInt ≤ 0 → 0 ≤ v3.toInt → v4.toInt ≤ 1 → 1 ≤ v4.toInt → v5.toInt ≤ 23 → 0 ≤ v5.toInt → v6.toInt ≤ 23 → 0 ≤ v6.toInt → v7.toInt ≤ 6 → 0 ≤ v7.toInt → v5.toInt ≤ v1.toInt → v6.toInt ≤ v1.toInt → ((v3.toInt = 0 ∧ v4.toInt = 1 ∧ v5.toInt = v1.toInt % 24 ∧ v6.toInt = v1.toInt - v5.toInt * 1)) → 0 + 0 + ((1 - v3.toInt) - 1) * 126 + 0 + (6 - v7.toInt) * 14 + 14 ≤ ((k : Nat) : Int) → dz_T ((F291_X9_pass fu c248_pots c261_many c261_swapsAPot a265 a268 a269 n269 n309 k).2.1 v1 v2 v3 v4 v5 v6 v7 a309) (fun r => True))
set_option maxHeartbeats 1000000 in
set_option maxRecDepth 10000 in
theorem t291_X9_pass_h1_g41 (fu : Nat) (hfu : 1000000000000 ≤ fu) (c248_pots : Int32) (c261_many : Int32) (c261_swapsAPot : Int32) (a265 : Nat → Int32) (a268 : Nat → Int32) (a269 : Nat → Int32) (n269 : Nat) (n309 : Nat) (p0 : c248_pots.toInt ≤ 1) (p1 : 1 ≤ c248_pots.toInt) (p2 : c261_many.toInt ≤ 24) (p3 : 24 ≤ c261_many.toInt) (p4 : c261_swapsAPot.toInt ≤ 6) (p5 : 6 ≤ c261_swapsAPot.toInt) (p6 : ((n269 : Nat) : Int) ≤ 13824) (p7 : 1 ≤ ((n269 : Nat) : Int)) (p8 : ((n309 : Nat) : Int) ≤ 13824) (p9 : 1 ≤ ((n309 : Nat) : Int)) (p10 : 24 ≤ ((n309 : Nat) : Int)) (p11 : 24 ≤ ((n269 : Nat) : Int)) (hr_a265 : dz_rt a265 24 6 0 23) (hr_a268 : dz_pt a268 [1]) (hr_a269 : dz_rg a269 n269 0 1023) (k : Nat) (ih : ∀ j9, j9 < k → p291_X9_pass_g41 fu c248_pots c261_many c261_swapsAPot a265 a268 a269 n269 n309 j9) : ∀ (v1 : Int32) (v2 : Int32) (v3 : Int32) (a309 : Nat → Int32), v1.toInt ≤ 23 → 0 ≤ v1.toInt → v3.toInt ≤ 1 → 0 ≤ v3.toInt → 0 + 0 + (1 - v3.toInt) * 126 + 7 ≤ ((k : Nat) : Int) → dz_T ((F291_X9_pass fu c248_pots c261_many c261_swapsAPot a265 a268 a269 n269 n309 k).1 v1 v2 v3 a309) (fun r => True) := by
  intro v1 v2 v3 a309 i0 i1 i2 i3 hm
  obtain ⟨k0, rfl⟩ : ∃ x, k = x + 1 := ⟨k - 1, by omega⟩
  show dz_T (s291_X9_pass_1 fu c248_pots c261_many c261_swapsAPot a265 a268 a269 n269 n309 (F291_X9_pass fu c248_pots c261_many c261_swapsAPot a265 a268 a269 n269 n309 k0).2.1  v1 v2 v3 a309) _
  unfold s291_X9_pass_1
  rcases (show v3.toInt = 0 ∨ v3.toInt = 1 by omega) with hs | hs
  · skip
    refine dz_Tle (fun h1 => ?_) (fun h1 => ?_)
    · skip
      exfalso; omega
    · skip
      refine dz_Tin (by omega) (by omega) ?_
      refine dz_Tbe (show f141_X2_rankIn fu c261_many a268 v1 v3 = (if dz_in v3 4 then (if ((a268 v3.toNatClampNeg) ≤ (0 : Int32)) then (some (0 : Int32)) else (if (c261_many ≤ (0 : Int32)) then (some (0 : Int32)) else (if (¬ ((a268 v3.toNatClampNeg) = (0 : Int32))) then (if (¬ (c261_many = (0 : Int32))) then (some (dz_rem (v1 / (a268 v3.toNatClampNeg)) c261_many)) else none) else none))) else none) from rfl) ?_
      refine dz_Tinb (by omega) (by omega) ?_
      have e2 := dz_ptat (hr_a268) (i := v3) (x := 1) 0 (by omega) (by decide)
      have e3 := dz_l0
      refine dz_Tleb (fun h4 => ?_) (fun h4 => ?_)
      · skip
        exfalso; omega
      · skip
        refine dz_Tleb (fun h5 => ?_) (fun h5 => ?_)
        · skip
          exfalso; omega
        · skip
          refine dz_Tzb (by omega) ?_
          refine dz_Tzb (by omega) ?_
          refine dz_Tsb ?_
          have e6 := dz_div1 (a := v1) (b := (a268 v3.toNatClampNeg)) (by omega) (by omega)
          have e7 := dz_remn (a := (v1 / (a268 v3.toNatClampNeg))) (b := c261_many) 24 (by omega) (by omega) (by omega)
          have e8 := dz_mulr (a := (dz_rem (v1 / (a268 v3.toNatClampNeg)) c261_many)) (b := (a268 v3.toNatClampNeg)) 1 (by omega) (by omega) (by omega)
          have e9 := dz_sub (a := v1) (b := ((dz_rem (v1 / (a268 v3.toNatClampNeg)) c261_many) * (a268 v3.toNatClampNeg))) (by omega) (by omega)
          exact (ih k0 (by omega)).2 v1 v2 v3 (a268 v3.toNatClampNeg) (dz_rem (v1 / (a268 v3.toNatClampNeg)) c261_many) (v1 - ((dz_rem (v1 / (a268 v3.toNatClampNeg)) c261_many) * (a268 v3.toNatClampNeg))) (0 : Int32) a309 i0 i1 (by first | assumption | omega) i3 (by omega) (by omega) (by omega) (by omega) (by omega) (by omega) (by omega) (by omega) (by omega) (by omega) (by omega) (by omega)
  · skip
    refine dz_Tle (fun h10 => ?_) (fun h10 => ?_)
    · skip
      exact dz_Ts trivial
    · skip
      exfalso; omega
set_option maxHeartbeats 1000000 in
set_option maxRecDepth 10000 in
theorem t291_X9_pass_h2_g41 (fu : Nat) (hfu : 1000000000000 ≤ fu) (c248_pots : Int32) (c261_many : Int32) (c261_swapsAPot : Int32) (a265 : Nat → Int32) (a268 : Nat → Int32) (a269 : Nat → Int32) (n269 : Nat) (n309 : Nat) (p0 : c248_pots.toInt ≤ 1) (p1 : 1 ≤ c248_pots.toInt) (p2 : c261_many.toInt ≤ 24) (p3 : 24 ≤ c261_many.toInt) (p4 : c261_swapsAPot.toInt ≤ 6) (p5 : 6 ≤ c261_swapsAPot.toInt) (p6 : ((n269 : Nat) : Int) ≤ 13824) (p7 : 1 ≤ ((n269 : Nat) : Int)) (p8 : ((n309 : Nat) : Int) ≤ 13824) (p9 : 1 ≤ ((n309 : Nat) : Int)) (p10 : 24 ≤ ((n309 : Nat) : Int)) (p11 : 24 ≤ ((n269 : Nat) : Int)) (hr_a265 : dz_rt a265 24 6 0 23) (hr_a268 : dz_pt a268 [1]) (hr_a269 : dz_rg a269 n269 0 1023) (k : Nat) (ih : ∀ j9, j9 < k → p291_X9_pass_g41 fu c248_pots c261_many c261_swapsAPot a265 a268 a269 n269 n309 j9) : ∀ (v1 : Int32) (v2 : Int32) (v3 : Int32) (v4 : Int32) (v5 : Int32) (v6 : Int32) (v7 : Int32) (a309 : Nat → Int32), v1.toInt ≤ 23 → 0 ≤ v1.toInt → v3.toInt ≤ 0 → 0 ≤ v3.toInt → v4.toInt ≤ 1 → 1 ≤ v4.toInt → v5.toInt ≤ 23 → 0 ≤ v5.toInt → v6.toInt ≤ 23 → 0 ≤ v6.toInt → v7.toInt ≤ 6 → 0 ≤ v7.toInt → v5.toInt ≤ v1.toInt → v6.toInt ≤ v1.toInt → ((v3.toInt = 0 ∧ v4.toInt = 1 ∧ v5.toInt = v1.toInt % 24 ∧ v6.toInt = v1.toInt - v5.toInt * 1)) → 0 + 0 + ((1 - v3.toInt) - 1) * 126 + 0 + (6 - v7.toInt) * 14 + 14 ≤ ((k : Nat) : Int) → dz_T ((F291_X9_pass fu c248_pots c261_many c261_swapsAPot a265 a268 a269 n269 n309 k).2.1 v1 v2 v3 v4 v5 v6 v7 a309) (fun r => True) := by
  intro v1 v2 v3 v4 v5 v6 v7 a309 i0 i1 i2 i3 i4 i5 i6 i7 i8 i9 i10 i11 i12 i13 x0 hm
  obtain ⟨k0, rfl⟩ : ∃ x, k = x + 1 := ⟨k - 1, by omega⟩
  show dz_T (s291_X9_pass_2 fu c248_pots c261_many c261_swapsAPot a265 a268 a269 n269 n309 (F291_X9_pass fu c248_pots c261_many c261_swapsAPot a265 a268 a269 n269 n309 k0).1 (F291_X9_pass fu c248_pots c261_many c261_swapsAPot a265 a268 a269 n269 n309 k0).2.2  v1 v2 v3 v4 v5 v6 v7 a309) _
  unfold s291_X9_pass_2
  have hs : v3.toInt = 0 := by omega
  refine dz_Tle (fun h1 => ?_) (fun h1 => ?_)
  · skip
    have e2 := dz_l1
    have e3 := dz_add (a := v3) (b := (1 : Int32)) (by omega) (by omega)
    exact (ih k0 (by omega)).1 v1 v2 (v3 + (1 : Int32)) a309 i0 i1 (by omega) (by omega) (by omega)
  · skip
    have e4 := dz_l6
    have e5 := dz_mulr (a := v5) (b := (6 : Int32)) 6 (by omega) (by omega) (by omega)
    have e6 := dz_add (a := (v5 * (6 : Int32))) (b := v7) (by omega) (by omega)
    refine dz_Tin (by omega) (by omega) ?_
    have e7 := dz_rtat (hr_a265) (x := v5) (y := v7) (by omega) (by omega) (by omega) (by omega) (by omega)
    have e8 := dz_mulr (a := (a265 ((v5 * (6 : Int32)) + v7).toNatClampNeg)) (b := v4) 1 (by omega) (by omega) (by omega)
    have e9 := dz_add (a := v6) (b := ((a265 ((v5 * (6 : Int32)) + v7).toNatClampNeg) * v4)) (by omega) (by omega)
    refine dz_Tin (by omega) (by omega) ?_
    have e10 := dz_rgat (hr_a269) (i := (v6 + ((a265 ((v5 * (6 : Int32)) + v7).toNatClampNeg) * v4))) (by omega) (by omega)
    have e11 := dz_l0
    refine dz_Teq (fun h12 => ?_) (fun h12 => ?_)
    · skip
      obtain ⟨k1, rfl⟩ : ∃ x, k0 = x + 1 := ⟨k0 - 1, by omega⟩
      show dz_T (s291_X9_pass_3 fu c248_pots c261_many c261_swapsAPot a265 a268 a269 n269 n309 (F291_X9_pass fu c248_pots c261_many c261_swapsAPot a265 a268 a269 n269 n309 k1).2.1 v1 v2 v3 v4 v5 v6 v7 (v6 + ((a265 ((v5 * (6 : Int32)) + v7).toNatClampNeg) * v4)) a309) _
      unfold s291_X9_pass_3
      refine dz_Tin (by omega) (by omega) ?_
      refine dz_Tin (by omega) (by omega) ?_
      have e13 := dz_l1
      have e14 := dz_add (a := v7) (b := (1 : Int32)) (by omega) (by omega)
      exact (ih k1 (by omega)).2 v1 v2 v3 v4 v5 v6 (v7 + (1 : Int32)) (upd a309 (v6 + ((a265 ((v5 * (6 : Int32)) + v7).toNatClampNeg) * v4)).toNatClampNeg ((a309 (v6 + ((a265 ((v5 * (6 : Int32)) + v7).toNatClampNeg) * v4)).toNatClampNeg) + v2)) i0 i1 i2 i3 i4 i5 i6 i7 i8 i9 (by omega) (by omega) i12 i13 (by omega) (by omega)
    · skip
      obtain ⟨k2, rfl⟩ : ∃ x, k0 = x + 1 := ⟨k0 - 1, by omega⟩
      show dz_T (s291_X9_pass_3 fu c248_pots c261_many c261_swapsAPot a265 a268 a269 n269 n309 (F291_X9_pass fu c248_pots c261_many c261_swapsAPot a265 a268 a269 n269 n309 k2).2.1 v1 v2 v3 v4 v5 v6 v7 v1 a309) _
      unfold s291_X9_pass_3
      refine dz_Tin (by omega) (by omega) ?_
      refine dz_Tin (by omega) (by omega) ?_
      have e15 := dz_l1
      have e16 := dz_add (a := v7) (b := (1 : Int32)) (by omega) (by omega)
      exact (ih k2 (by omega)).2 v1 v2 v3 v4 v5 v6 (v7 + (1 : Int32)) (upd a309 v1.toNatClampNeg ((a309 v1.toNatClampNeg) + v2)) i0 i1 i2 i3 i4 i5 i6 i7 i8 i9 (by omega) (by omega) i12 i13 (by omega) (by omega)
theorem t291_X9_pass_I_g41 (fu : Nat) (hfu : 1000000000000 ≤ fu) (c248_pots : Int32) (c261_many : Int32) (c261_swapsAPot : Int32) (a265 : Nat → Int32) (a268 : Nat → Int32) (a269 : Nat → Int32) (n269 : Nat) (n309 : Nat) (p0 : c248_pots.toInt ≤ 1) (p1 : 1 ≤ c248_pots.toInt) (p2 : c261_many.toInt ≤ 24) (p3 : 24 ≤ c261_many.toInt) (p4 : c261_swapsAPot.toInt ≤ 6) (p5 : 6 ≤ c261_swapsAPot.toInt) (p6 : ((n269 : Nat) : Int) ≤ 13824) (p7 : 1 ≤ ((n269 : Nat) : Int)) (p8 : ((n309 : Nat) : Int) ≤ 13824) (p9 : 1 ≤ ((n309 : Nat) : Int)) (p10 : 24 ≤ ((n309 : Nat) : Int)) (p11 : 24 ≤ ((n269 : Nat) : Int)) (hr_a265 : dz_rt a265 24 6 0 23) (hr_a268 : dz_pt a268 [1]) (hr_a269 : dz_rg a269 n269 0 1023) (k : Nat) : p291_X9_pass_g41 fu c248_pots c261_many c261_swapsAPot a265 a268 a269 n269 n309 k := by
  induction k using Nat.strongRecOn with
  | _ k ih => exact ⟨t291_X9_pass_h1_g41 fu hfu c248_pots c261_many c261_swapsAPot a265 a268 a269 n269 n309 p0 p1 p2 p3 p4 p5 p6 p7 p8 p9 p10 p11 hr_a265 hr_a268 hr_a269 k ih, t291_X9_pass_h2_g41 fu hfu c248_pots c261_many c261_swapsAPot a265 a268 a269 n269 n309 p0 p1 p2 p3 p4 p5 p6 p7 p8 p9 p10 p11 hr_a265 hr_a268 hr_a269 k ih⟩
set_option maxHeartbeats 1000000 in
set_option maxRecDepth 10000 in
theorem t291_X9_pass_E_g41 (fu : Nat) (hfu : 1000000000000 ≤ fu) (c248_pots : Int32) (c261_many : Int32) (c261_swapsAPot : Int32) (a265 : Nat → Int32) (a268 : Nat → Int32) (a269 : Nat → Int32) (n269 : Nat) (n309 : Nat) (v1 : Int32) (v2 : Int32) (a309 : Nat → Int32) (p0 : c248_pots.toInt ≤ 1) (p1 : 1 ≤ c248_pots.toInt) (p2 : c261_many.toInt ≤ 24) (p3 : 24 ≤ c261_many.toInt) (p4 : c261_swapsAPot.toInt ≤ 6) (p5 : 6 ≤ c261_swapsAPot.toInt) (p6 : ((n269 : Nat) : Int) ≤ 13824) (p7 : 1 ≤ ((n269 : Nat) : Int)) (p8 : ((n309 : Nat) : Int) ≤ 13824) (p9 : 1 ≤ ((n309 : Nat) : Int)) (p10 : 0 ≤ v1.toInt) (p11 : v1.toInt ≤ 23) (p12 : 24 ≤ ((n309 : Nat) : Int)) (p13 : 24 ≤ ((n269 : Nat) : Int)) (hr_a265 : dz_rt a265 24 6 0 23) (hr_a268 : dz_pt a268 [1]) (hr_a269 : dz_rg a269 n269 0 1023) (kv : Nat) (hkv : 1000000000000 ≤ kv) : dz_T (s291_X9_pass_0 fu c248_pots c261_many c261_swapsAPot a265 a268 a269 n269 n309 (F291_X9_pass fu c248_pots c261_many c261_swapsAPot a265 a268 a269 n269 n309 kv).1  v1 v2 a309) (fun r => True) := by
  unfold s291_X9_pass_0
  have e1 := dz_l0
  exact (t291_X9_pass_I_g41 fu hfu c248_pots c261_many c261_swapsAPot a265 a268 a269 n269 n309 p0 p1 p2 p3 p4 p5 p6 p7 p8 p9 p12 p13 hr_a265 hr_a268 hr_a269 kv).1 v1 v2 (0 : Int32) a309 p11 p10 (by omega) (by omega) (by omega)
theorem t291_X9_pass_g41 (fu : Nat) (hfu : 1000000000000 ≤ fu) (c248_pots : Int32) (c261_many : Int32) (c261_swapsAPot : Int32) (a265 : Nat → Int32) (a268 : Nat → Int32) (a269 : Nat → Int32) (n269 : Nat) (n309 : Nat) (v1 : Int32) (v2 : Int32) (a309 : Nat → Int32) (p0 : c248_pots.toInt ≤ 1) (p1 : 1 ≤ c248_pots.toInt) (p2 : c261_many.toInt ≤ 24) (p3 : 24 ≤ c261_many.toInt) (p4 : c261_swapsAPot.toInt ≤ 6) (p5 : 6 ≤ c261_swapsAPot.toInt) (p6 : ((n269 : Nat) : Int) ≤ 13824) (p7 : 1 ≤ ((n269 : Nat) : Int)) (p8 : ((n309 : Nat) : Int) ≤ 13824) (p9 : 1 ≤ ((n309 : Nat) : Int)) (p10 : 0 ≤ v1.toInt) (p11 : v1.toInt ≤ 23) (p12 : 24 ≤ ((n309 : Nat) : Int)) (p13 : 24 ≤ ((n269 : Nat) : Int)) (hr_a265 : dz_rt a265 24 6 0 23) (hr_a268 : dz_pt a268 [1]) (hr_a269 : dz_rg a269 n269 0 1023) : dz_T (f291_X9_pass fu c248_pots c261_many c261_swapsAPot a265 a268 a269 n269 n309 v1 v2 a309) (fun r => True) :=
  t291_X9_pass_E_g41 fu hfu c248_pots c261_many c261_swapsAPot a265 a268 a269 n269 n309 v1 v2 a309 p0 p1 p2 p3 p4 p5 p6 p7 p8 p9 p10 p11 p12 p13 hr_a265 hr_a268 hr_a269 fu hfu
