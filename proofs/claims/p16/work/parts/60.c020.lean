abbrev p284_X9_meetSwapped_g23 (fu : Nat) (c248_pots : Int32) (c261_many : Int32) (c261_swapsAPot : Int32) (a265 : Nat → Int32) (a268 : Nat → Int32) (a269 : Nat → Int32) (n269 : Nat) (n308 : Nat) (n309 : Nat) (k : Nat) : Prop :=
  (∀ (v1 : Int32) (v2 : Int32) (c307_queued : Int32) (a308 : Nat → Int32) (a309 : Nat → Int32), v1.toInt ≤ 7 → 0 ≤ v1.toInt → v2.toInt ≤ 3 → 0 ≤ v2.toInt → c307_queued.toInt ≤ 13824 → 0 ≤ c307_queued.toInt → dz_rg a309 c307_queued.toInt.toNat 0 7 → 0 + 0 + (3 - v2.toInt) * 56 + 7 ≤ ((k : Nat) : Int) → dz_T ((F284_X9_meetSwapped fu c248_pots c261_many c261_swapsAPot a265 a268 a269 n269 n308 n309 k).1 v1 v2 c307_queued a308 a309) (fun r => r.1.toInt ≤ 13824 ∧ 0 ≤ r.1.toInt ∧ dz_rg r.2.2 r.1.toInt.toNat 0 7)) ∧ (∀ (v1 : Int32) (v2 : Int32) (v3 : Int32) (v4 : Int32) (v5 : Int32) (v6 : Int32) (c307_queued : Int32) (a308 : Nat → Int32) (a309 : Nat → Int32), v1.toInt ≤ 7 → 0 ≤ v1.toInt → v2.toInt ≤ 2 → 0 ≤ v2.toInt → v3.toInt ≤ 4 → 1 ≤ v3.toInt → v4.toInt ≤ 1 → 0 ≤ v4.toInt → v5.toInt ≤ 7 → (-4) ≤ v5.toInt → v6.toInt ≤ 1 → 0 ≤ v6.toInt → c307_queued.toInt ≤ 13824 → 0 ≤ c307_queued.toInt → v4.toInt ≤ v1.toInt → v5.toInt ≤ v1.toInt → v1.toInt ≤ v5.toInt + 4 → v2.toInt ≤ v5.toInt + 4 → dz_rg a309 c307_queued.toInt.toNat 0 7 → ((v2.toInt = 0 ∧ v3.toInt = 4 ∧ v4.toInt = v1.toInt / 4 % 2 ∧ v5.toInt = v1.toInt - v4.toInt * 4) ∨ (v2.toInt = 1 ∧ v3.toInt = 2 ∧ v4.toInt = v1.toInt / 2 % 2 ∧ v5.toInt = v1.toInt - v4.toInt * 2) ∨ (v2.toInt = 2 ∧ v3.toInt = 1 ∧ v4.toInt = v1.toInt % 2 ∧ v5.toInt = v1.toInt - v4.toInt * 1)) → 0 + 0 + ((3 - v2.toInt) - 1) * 56 + 0 + (1 - v6.toInt) * 14 + 14 ≤ ((k : Nat) : Int) → dz_T ((F284_X9_meetSwapped fu c248_pots c261_many c261_swapsAPot a265 a268 a269 n269 n308 n309 k).2.1 v1 v2 v3 v4 v5 v6 c307_queued a308 a309) (fun r => r.1.toInt ≤ 13824 ∧ 0 ≤ r.1.toInt ∧ dz_rg r.2.2 r.1.toInt.toNat 0 7))
set_option maxHeartbeats 1000000 in
set_option maxRecDepth 10000 in
theorem t284_X9_meetSwapped_h1_g23 (fu : Nat) (hfu : 1000000000000 ≤ fu) (c248_pots : Int32) (c261_many : Int32) (c261_swapsAPot : Int32) (a265 : Nat → Int32) (a268 : Nat → Int32) (a269 : Nat → Int32) (n269 : Nat) (n308 : Nat) (n309 : Nat) (p0 : c248_pots.toInt ≤ 3) (p1 : 3 ≤ c248_pots.toInt) (p2 : c261_many.toInt ≤ 2) (p3 : 2 ≤ c261_many.toInt) (p4 : c261_swapsAPot.toInt ≤ 1) (p5 : 1 ≤ c261_swapsAPot.toInt) (p6 : ((n269 : Nat) : Int) ≤ 13824) (p7 : 1 ≤ ((n269 : Nat) : Int)) (p8 : ((n308 : Nat) : Int) ≤ 13824) (p9 : 1 ≤ ((n308 : Nat) : Int)) (p10 : ((n309 : Nat) : Int) ≤ 13824) (p11 : 1 ≤ ((n309 : Nat) : Int)) (p12 : ((n308 : Nat) : Int) ≤ ((n309 : Nat) : Int)) (p13 : ((n309 : Nat) : Int) ≤ ((n308 : Nat) : Int)) (p14 : 8 ≤ ((n308 : Nat) : Int)) (p15 : 8 ≤ ((n269 : Nat) : Int)) (hr_a265 : dz_rt a265 2 1 0 1) (hr_a268 : dz_pt a268 [4, 2, 1]) (hr_a269 : dz_rg a269 n269 0 1023) (k : Nat) (ih : ∀ j9, j9 < k → p284_X9_meetSwapped_g23 fu c248_pots c261_many c261_swapsAPot a265 a268 a269 n269 n308 n309 j9) : ∀ (v1 : Int32) (v2 : Int32) (c307_queued : Int32) (a308 : Nat → Int32) (a309 : Nat → Int32), v1.toInt ≤ 7 → 0 ≤ v1.toInt → v2.toInt ≤ 3 → 0 ≤ v2.toInt → c307_queued.toInt ≤ 13824 → 0 ≤ c307_queued.toInt → dz_rg a309 c307_queued.toInt.toNat 0 7 → 0 + 0 + (3 - v2.toInt) * 56 + 7 ≤ ((k : Nat) : Int) → dz_T ((F284_X9_meetSwapped fu c248_pots c261_many c261_swapsAPot a265 a268 a269 n269 n308 n309 k).1 v1 v2 c307_queued a308 a309) (fun r => r.1.toInt ≤ 13824 ∧ 0 ≤ r.1.toInt ∧ dz_rg r.2.2 r.1.toInt.toNat 0 7) := by
  intro v1 v2 c307_queued a308 a309 i0 i1 i2 i3 i4 i5 hr_a309 hm
  obtain ⟨k0, rfl⟩ : ∃ x, k = x + 1 := ⟨k - 1, by omega⟩
  show dz_T (s284_X9_meetSwapped_1 fu c248_pots c261_many c261_swapsAPot a265 a268 a269 n269 n308 n309 (F284_X9_meetSwapped fu c248_pots c261_many c261_swapsAPot a265 a268 a269 n269 n308 n309 k0).2.1  v1 v2 c307_queued a308 a309) _
  unfold s284_X9_meetSwapped_1
  rcases (show v2.toInt = 0 ∨ v2.toInt = 1 ∨ v2.toInt = 2 ∨ v2.toInt = 3 by omega) with hs | hs | hs | hs
  · skip
    refine dz_Tle (fun h1 => ?_) (fun h1 => ?_)
    · skip
      exfalso; omega
    · skip
      refine dz_Tin (by omega) (by omega) ?_
      refine dz_Tbe (show f141_X2_rankIn fu c261_many a268 v1 v2 = (if dz_in v2 4 then (if ((a268 v2.toNatClampNeg) ≤ (0 : Int32)) then (some (0 : Int32)) else (if (c261_many ≤ (0 : Int32)) then (some (0 : Int32)) else (if (¬ ((a268 v2.toNatClampNeg) = (0 : Int32))) then (if (¬ (c261_many = (0 : Int32))) then (some (dz_rem (v1 / (a268 v2.toNatClampNeg)) c261_many)) else none) else none))) else none) from rfl) ?_
      refine dz_Tinb (by omega) (by omega) ?_
      have e2 := dz_ptat (hr_a268) (i := v2) (x := 4) 0 (by omega) (by decide)
      have e3 := dz_l0
      refine dz_Tleb (fun h4 => ?_) (fun h4 => ?_)
      · skip
        exfalso; omega
      · skip
        refine dz_Tleb (fun h5 => ?_) (fun h5 => ?_)
        · skip
          exfalso; omega
        · skip
          refine dz_Tzb (by omega) ?_
          refine dz_Tzb (by omega) ?_
          refine dz_Tsb ?_
          have e6 := dz_divn (a := v1) (b := (a268 v2.toNatClampNeg)) 4 (by omega) (by omega) (by omega)
          have e7 := dz_remn (a := (v1 / (a268 v2.toNatClampNeg))) (b := c261_many) 2 (by omega) (by omega) (by omega)
          have e8 := dz_mulr (a := (dz_rem (v1 / (a268 v2.toNatClampNeg)) c261_many)) (b := (a268 v2.toNatClampNeg)) 4 (by omega) (by omega) (by omega)
          have e9 := dz_sub (a := v1) (b := ((dz_rem (v1 / (a268 v2.toNatClampNeg)) c261_many) * (a268 v2.toNatClampNeg))) (by omega) (by omega)
          exact (ih k0 (by omega)).2 v1 v2 (a268 v2.toNatClampNeg) (dz_rem (v1 / (a268 v2.toNatClampNeg)) c261_many) (v1 - ((dz_rem (v1 / (a268 v2.toNatClampNeg)) c261_many) * (a268 v2.toNatClampNeg))) (0 : Int32) c307_queued a308 a309 i0 i1 (by first | assumption | omega) i3 (by omega) (by omega) (by omega) (by omega) (by omega) (by omega) (by omega) (by omega) i4 i5 (by omega) (by omega) (by omega) (by omega) (dz_rgs (hr_a309) (by omega)) (by omega) (by omega)
  · skip
    refine dz_Tle (fun h10 => ?_) (fun h10 => ?_)
    · skip
      exfalso; omega
    · skip
      refine dz_Tin (by omega) (by omega) ?_
      refine dz_Tbe (show f141_X2_rankIn fu c261_many a268 v1 v2 = (if dz_in v2 4 then (if ((a268 v2.toNatClampNeg) ≤ (0 : Int32)) then (some (0 : Int32)) else (if (c261_many ≤ (0 : Int32)) then (some (0 : Int32)) else (if (¬ ((a268 v2.toNatClampNeg) = (0 : Int32))) then (if (¬ (c261_many = (0 : Int32))) then (some (dz_rem (v1 / (a268 v2.toNatClampNeg)) c261_many)) else none) else none))) else none) from rfl) ?_
      refine dz_Tinb (by omega) (by omega) ?_
      have e11 := dz_ptat (hr_a268) (i := v2) (x := 2) 1 (by omega) (by decide)
      have e12 := dz_l0
      refine dz_Tleb (fun h13 => ?_) (fun h13 => ?_)
      · skip
        exfalso; omega
      · skip
        refine dz_Tleb (fun h14 => ?_) (fun h14 => ?_)
        · skip
          exfalso; omega
        · skip
          refine dz_Tzb (by omega) ?_
          refine dz_Tzb (by omega) ?_
          refine dz_Tsb ?_
          have e15 := dz_divn (a := v1) (b := (a268 v2.toNatClampNeg)) 2 (by omega) (by omega) (by omega)
          have e16 := dz_remn (a := (v1 / (a268 v2.toNatClampNeg))) (b := c261_many) 2 (by omega) (by omega) (by omega)
          have e17 := dz_mulr (a := (dz_rem (v1 / (a268 v2.toNatClampNeg)) c261_many)) (b := (a268 v2.toNatClampNeg)) 2 (by omega) (by omega) (by omega)
          have e18 := dz_sub (a := v1) (b := ((dz_rem (v1 / (a268 v2.toNatClampNeg)) c261_many) * (a268 v2.toNatClampNeg))) (by omega) (by omega)
          exact (ih k0 (by omega)).2 v1 v2 (a268 v2.toNatClampNeg) (dz_rem (v1 / (a268 v2.toNatClampNeg)) c261_many) (v1 - ((dz_rem (v1 / (a268 v2.toNatClampNeg)) c261_many) * (a268 v2.toNatClampNeg))) (0 : Int32) c307_queued a308 a309 i0 i1 (by first | assumption | omega) i3 (by omega) (by omega) (by omega) (by omega) (by omega) (by omega) (by omega) (by omega) i4 i5 (by omega) (by omega) (by omega) (by omega) (dz_rgs (hr_a309) (by omega)) (by omega) (by omega)
  · skip
    refine dz_Tle (fun h19 => ?_) (fun h19 => ?_)
    · skip
      exfalso; omega
    · skip
      refine dz_Tin (by omega) (by omega) ?_
      refine dz_Tbe (show f141_X2_rankIn fu c261_many a268 v1 v2 = (if dz_in v2 4 then (if ((a268 v2.toNatClampNeg) ≤ (0 : Int32)) then (some (0 : Int32)) else (if (c261_many ≤ (0 : Int32)) then (some (0 : Int32)) else (if (¬ ((a268 v2.toNatClampNeg) = (0 : Int32))) then (if (¬ (c261_many = (0 : Int32))) then (some (dz_rem (v1 / (a268 v2.toNatClampNeg)) c261_many)) else none) else none))) else none) from rfl) ?_
      refine dz_Tinb (by omega) (by omega) ?_
      have e20 := dz_ptat (hr_a268) (i := v2) (x := 1) 2 (by omega) (by decide)
      have e21 := dz_l0
      refine dz_Tleb (fun h22 => ?_) (fun h22 => ?_)
      · skip
        exfalso; omega
      · skip
        refine dz_Tleb (fun h23 => ?_) (fun h23 => ?_)
        · skip
          exfalso; omega
        · skip
          refine dz_Tzb (by omega) ?_
          refine dz_Tzb (by omega) ?_
          refine dz_Tsb ?_
          have e24 := dz_div1 (a := v1) (b := (a268 v2.toNatClampNeg)) (by omega) (by omega)
          have e25 := dz_remn (a := (v1 / (a268 v2.toNatClampNeg))) (b := c261_many) 2 (by omega) (by omega) (by omega)
          have e26 := dz_mulr (a := (dz_rem (v1 / (a268 v2.toNatClampNeg)) c261_many)) (b := (a268 v2.toNatClampNeg)) 1 (by omega) (by omega) (by omega)
          have e27 := dz_sub (a := v1) (b := ((dz_rem (v1 / (a268 v2.toNatClampNeg)) c261_many) * (a268 v2.toNatClampNeg))) (by omega) (by omega)
          exact (ih k0 (by omega)).2 v1 v2 (a268 v2.toNatClampNeg) (dz_rem (v1 / (a268 v2.toNatClampNeg)) c261_many) (v1 - ((dz_rem (v1 / (a268 v2.toNatClampNeg)) c261_many) * (a268 v2.toNatClampNeg))) (0 : Int32) c307_queued a308 a309 i0 i1 (by first | assumption | omega) i3 (by omega) (by omega) (by omega) (by omega) (by omega) (by omega) (by omega) (by omega) i4 i5 (by omega) (by omega) (by omega) (by omega) (dz_rgs (hr_a309) (by omega)) (by omega) (by omega)
  · skip
    refine dz_Tle (fun h28 => ?_) (fun h28 => ?_)
    · skip
      refine dz_Ts ?_
      dsimp only
      exact ⟨i4, i5, (dz_rgs (hr_a309) (by omega))⟩
    · skip
      exfalso; omega
set_option maxHeartbeats 1000000 in
set_option maxRecDepth 10000 in
theorem t284_X9_meetSwapped_h2_g23 (fu : Nat) (hfu : 1000000000000 ≤ fu) (c248_pots : Int32) (c261_many : Int32) (c261_swapsAPot : Int32) (a265 : Nat → Int32) (a268 : Nat → Int32) (a269 : Nat → Int32) (n269 : Nat) (n308 : Nat) (n309 : Nat) (p0 : c248_pots.toInt ≤ 3) (p1 : 3 ≤ c248_pots.toInt) (p2 : c261_many.toInt ≤ 2) (p3 : 2 ≤ c261_many.toInt) (p4 : c261_swapsAPot.toInt ≤ 1) (p5 : 1 ≤ c261_swapsAPot.toInt) (p6 : ((n269 : Nat) : Int) ≤ 13824) (p7 : 1 ≤ ((n269 : Nat) : Int)) (p8 : ((n308 : Nat) : Int) ≤ 13824) (p9 : 1 ≤ ((n308 : Nat) : Int)) (p10 : ((n309 : Nat) : Int) ≤ 13824) (p11 : 1 ≤ ((n309 : Nat) : Int)) (p12 : ((n308 : Nat) : Int) ≤ ((n309 : Nat) : Int)) (p13 : ((n309 : Nat) : Int) ≤ ((n308 : Nat) : Int)) (p14 : 8 ≤ ((n308 : Nat) : Int)) (p15 : 8 ≤ ((n269 : Nat) : Int)) (hr_a265 : dz_rt a265 2 1 0 1) (hr_a268 : dz_pt a268 [4, 2, 1]) (hr_a269 : dz_rg a269 n269 0 1023) (k : Nat) (ih : ∀ j9, j9 < k → p284_X9_meetSwapped_g23 fu c248_pots c261_many c261_swapsAPot a265 a268 a269 n269 n308 n309 j9) : ∀ (v1 : Int32) (v2 : Int32) (v3 : Int32) (v4 : Int32) (v5 : Int32) (v6 : Int32) (c307_queued : Int32) (a308 : Nat → Int32) (a309 : Nat → Int32), v1.toInt ≤ 7 → 0 ≤ v1.toInt → v2.toInt ≤ 2 → 0 ≤ v2.toInt → v3.toInt ≤ 4 → 1 ≤ v3.toInt → v4.toInt ≤ 1 → 0 ≤ v4.toInt → v5.toInt ≤ 7 → (-4) ≤ v5.toInt → v6.toInt ≤ 1 → 0 ≤ v6.toInt → c307_queued.toInt ≤ 13824 → 0 ≤ c307_queued.toInt → v4.toInt ≤ v1.toInt → v5.toInt ≤ v1.toInt → v1.toInt ≤ v5.toInt + 4 → v2.toInt ≤ v5.toInt + 4 → dz_rg a309 c307_queued.toInt.toNat 0 7 → ((v2.toInt = 0 ∧ v3.toInt = 4 ∧ v4.toInt = v1.toInt / 4 % 2 ∧ v5.toInt = v1.toInt - v4.toInt * 4) ∨ (v2.toInt = 1 ∧ v3.toInt = 2 ∧ v4.toInt = v1.toInt / 2 % 2 ∧ v5.toInt = v1.toInt - v4.toInt * 2) ∨ (v2.toInt = 2 ∧ v3.toInt = 1 ∧ v4.toInt = v1.toInt % 2 ∧ v5.toInt = v1.toInt - v4.toInt * 1)) → 0 + 0 + ((3 - v2.toInt) - 1) * 56 + 0 + (1 - v6.toInt) * 14 + 14 ≤ ((k : Nat) : Int) → dz_T ((F284_X9_meetSwapped fu c248_pots c261_many c261_swapsAPot a265 a268 a269 n269 n308 n309 k).2.1 v1 v2 v3 v4 v5 v6 c307_queued a308 a309) (fun r => r.1.toInt ≤ 13824 ∧ 0 ≤ r.1.toInt ∧ dz_rg r.2.2 r.1.toInt.toNat 0 7) := by
  intro v1 v2 v3 v4 v5 v6 c307_queued a308 a309 i0 i1 i2 i3 i4 i5 i6 i7 i8 i9 i10 i11 i12 i13 i14 i15 i16 i17 hr_a309 x0 hm
  obtain ⟨k0, rfl⟩ : ∃ x, k = x + 1 := ⟨k - 1, by omega⟩
  show dz_T (s284_X9_meetSwapped_2 fu c248_pots c261_many c261_swapsAPot a265 a268 a269 n269 n308 n309 (F284_X9_meetSwapped fu c248_pots c261_many c261_swapsAPot a265 a268 a269 n269 n308 n309 k0).1 (F284_X9_meetSwapped fu c248_pots c261_many c261_swapsAPot a265 a268 a269 n269 n308 n309 k0).2.2  v1 v2 v3 v4 v5 v6 c307_queued a308 a309) _
  unfold s284_X9_meetSwapped_2
  rcases (show v2.toInt = 0 ∨ v2.toInt = 1 ∨ v2.toInt = 2 by omega) with hs | hs | hs
  · skip
    refine dz_Tle (fun h1 => ?_) (fun h1 => ?_)
    · skip
      have e2 := dz_l1
      have e3 := dz_add (a := v2) (b := (1 : Int32)) (by omega) (by omega)
      exact (ih k0 (by omega)).1 v1 (v2 + (1 : Int32)) c307_queued a308 a309 i0 i1 (by omega) (by omega) i12 i13 (dz_rgs (hr_a309) (by omega)) (by omega)
    · skip
      have e4 := dz_l6
      have e5 := dz_mulr (a := v4) (b := (6 : Int32)) 6 (by omega) (by omega) (by omega)
      have e6 := dz_add (a := (v4 * (6 : Int32))) (b := v6) (by omega) (by omega)
      refine dz_Tin (by omega) (by omega) ?_
      have e7 := dz_rtat (hr_a265) (x := v4) (y := v6) (by omega) (by omega) (by omega) (by omega) (by omega)
      have e8 := dz_mulr (a := (a265 ((v4 * (6 : Int32)) + v6).toNatClampNeg)) (b := v3) 4 (by omega) (by omega) (by omega)
      have e9 := dz_add (a := v5) (b := ((a265 ((v4 * (6 : Int32)) + v6).toNatClampNeg) * v3)) (by omega) (by omega)
      refine dz_Tin (by omega) (by omega) ?_
      have e10 := dz_rgat (hr_a269) (i := (v5 + ((a265 ((v4 * (6 : Int32)) + v6).toNatClampNeg) * v3))) (by omega) (by omega)
      have e11 := dz_l0
      refine dz_Teq (fun h12 => ?_) (fun h12 => ?_)
      · skip
        refine dz_Tb (t283_X9_meet_g23 fu hfu _ _ _ _ _ _ p8 (by first | assumption | omega) p10 p11 i12 i13 p12 p13 (by omega) (by omega) p14 (by first | assumption | omega) (dz_rgs (hr_a309) (by omega))) (fun r1 q => ?_)
        obtain ⟨q1_0, q1_1, qa1_2⟩ := q
        obtain ⟨k1, rfl⟩ : ∃ x, k0 = x + 1 := ⟨k0 - 1, by omega⟩
        show dz_T (s284_X9_meetSwapped_3 fu c248_pots c261_many c261_swapsAPot a265 a268 a269 n269 n308 n309 (F284_X9_meetSwapped fu c248_pots c261_many c261_swapsAPot a265 a268 a269 n269 n308 n309 k1).2.1 v1 v2 v3 v4 v5 v6 r1.1 r1.2.1 r1.2.2) _
        unfold s284_X9_meetSwapped_3
        have e13 := dz_l1
        have e14 := dz_add (a := v6) (b := (1 : Int32)) (by omega) (by omega)
        exact (ih k1 (by omega)).2 v1 v2 v3 v4 v5 (v6 + (1 : Int32)) r1.1 r1.2.1 r1.2.2 i0 i1 i2 i3 i4 i5 i6 i7 i8 i9 (by omega) (by omega) q1_0 q1_1 i14 i15 i16 i17 (dz_rgs (qa1_2) (by omega)) (by omega) (by omega)
      · skip
        obtain ⟨k2, rfl⟩ : ∃ x, k0 = x + 1 := ⟨k0 - 1, by omega⟩
        show dz_T (s284_X9_meetSwapped_3 fu c248_pots c261_many c261_swapsAPot a265 a268 a269 n269 n308 n309 (F284_X9_meetSwapped fu c248_pots c261_many c261_swapsAPot a265 a268 a269 n269 n308 n309 k2).2.1 v1 v2 v3 v4 v5 v6 c307_queued a308 a309) _
        unfold s284_X9_meetSwapped_3
        have e15 := dz_l1
        have e16 := dz_add (a := v6) (b := (1 : Int32)) (by omega) (by omega)
        exact (ih k2 (by omega)).2 v1 v2 v3 v4 v5 (v6 + (1 : Int32)) c307_queued a308 a309 i0 i1 i2 i3 i4 i5 i6 i7 i8 i9 (by omega) (by omega) i12 i13 i14 i15 i16 i17 (dz_rgs (hr_a309) (by omega)) (by omega) (by omega)
  · skip
    refine dz_Tle (fun h17 => ?_) (fun h17 => ?_)
    · skip
      have e18 := dz_l1
      have e19 := dz_add (a := v2) (b := (1 : Int32)) (by omega) (by omega)
      exact (ih k0 (by omega)).1 v1 (v2 + (1 : Int32)) c307_queued a308 a309 i0 i1 (by omega) (by omega) i12 i13 (dz_rgs (hr_a309) (by omega)) (by omega)
    · skip
      have e20 := dz_l6
      have e21 := dz_mulr (a := v4) (b := (6 : Int32)) 6 (by omega) (by omega) (by omega)
      have e22 := dz_add (a := (v4 * (6 : Int32))) (b := v6) (by omega) (by omega)
      refine dz_Tin (by omega) (by omega) ?_
      have e23 := dz_rtat (hr_a265) (x := v4) (y := v6) (by omega) (by omega) (by omega) (by omega) (by omega)
      have e24 := dz_mulr (a := (a265 ((v4 * (6 : Int32)) + v6).toNatClampNeg)) (b := v3) 2 (by omega) (by omega) (by omega)
      have e25 := dz_add (a := v5) (b := ((a265 ((v4 * (6 : Int32)) + v6).toNatClampNeg) * v3)) (by omega) (by omega)
      refine dz_Tin (by omega) (by omega) ?_
      have e26 := dz_rgat (hr_a269) (i := (v5 + ((a265 ((v4 * (6 : Int32)) + v6).toNatClampNeg) * v3))) (by omega) (by omega)
      have e27 := dz_l0
      refine dz_Teq (fun h28 => ?_) (fun h28 => ?_)
      · skip
        refine dz_Tb (t283_X9_meet_g23 fu hfu _ _ _ _ _ _ p8 (by first | assumption | omega) p10 p11 i12 i13 p12 p13 (by omega) (by omega) p14 (by first | assumption | omega) (dz_rgs (hr_a309) (by omega))) (fun r2 q => ?_)
        obtain ⟨q2_0, q2_1, qa2_2⟩ := q
        obtain ⟨k3, rfl⟩ : ∃ x, k0 = x + 1 := ⟨k0 - 1, by omega⟩
        show dz_T (s284_X9_meetSwapped_3 fu c248_pots c261_many c261_swapsAPot a265 a268 a269 n269 n308 n309 (F284_X9_meetSwapped fu c248_pots c261_many c261_swapsAPot a265 a268 a269 n269 n308 n309 k3).2.1 v1 v2 v3 v4 v5 v6 r2.1 r2.2.1 r2.2.2) _
        unfold s284_X9_meetSwapped_3
        have e29 := dz_l1
        have e30 := dz_add (a := v6) (b := (1 : Int32)) (by omega) (by omega)
        exact (ih k3 (by omega)).2 v1 v2 v3 v4 v5 (v6 + (1 : Int32)) r2.1 r2.2.1 r2.2.2 i0 i1 i2 i3 i4 i5 i6 i7 i8 i9 (by omega) (by omega) q2_0 q2_1 i14 i15 i16 i17 (dz_rgs (qa2_2) (by omega)) (by omega) (by omega)
      · skip
        obtain ⟨k4, rfl⟩ : ∃ x, k0 = x + 1 := ⟨k0 - 1, by omega⟩
        show dz_T (s284_X9_meetSwapped_3 fu c248_pots c261_many c261_swapsAPot a265 a268 a269 n269 n308 n309 (F284_X9_meetSwapped fu c248_pots c261_many c261_swapsAPot a265 a268 a269 n269 n308 n309 k4).2.1 v1 v2 v3 v4 v5 v6 c307_queued a308 a309) _
        unfold s284_X9_meetSwapped_3
        have e31 := dz_l1
        have e32 := dz_add (a := v6) (b := (1 : Int32)) (by omega) (by omega)
        exact (ih k4 (by omega)).2 v1 v2 v3 v4 v5 (v6 + (1 : Int32)) c307_queued a308 a309 i0 i1 i2 i3 i4 i5 i6 i7 i8 i9 (by omega) (by omega) i12 i13 i14 i15 i16 i17 (dz_rgs (hr_a309) (by omega)) (by omega) (by omega)
  · skip
    refine dz_Tle (fun h33 => ?_) (fun h33 => ?_)
    · skip
      have e34 := dz_l1
      have e35 := dz_add (a := v2) (b := (1 : Int32)) (by omega) (by omega)
      exact (ih k0 (by omega)).1 v1 (v2 + (1 : Int32)) c307_queued a308 a309 i0 i1 (by omega) (by omega) i12 i13 (dz_rgs (hr_a309) (by omega)) (by omega)
    · skip
      have e36 := dz_l6
      have e37 := dz_mulr (a := v4) (b := (6 : Int32)) 6 (by omega) (by omega) (by omega)
      have e38 := dz_add (a := (v4 * (6 : Int32))) (b := v6) (by omega) (by omega)
      refine dz_Tin (by omega) (by omega) ?_
      have e39 := dz_rtat (hr_a265) (x := v4) (y := v6) (by omega) (by omega) (by omega) (by omega) (by omega)
      have e40 := dz_mulr (a := (a265 ((v4 * (6 : Int32)) + v6).toNatClampNeg)) (b := v3) 1 (by omega) (by omega) (by omega)
      have e41 := dz_add (a := v5) (b := ((a265 ((v4 * (6 : Int32)) + v6).toNatClampNeg) * v3)) (by omega) (by omega)
      refine dz_Tin (by omega) (by omega) ?_
      have e42 := dz_rgat (hr_a269) (i := (v5 + ((a265 ((v4 * (6 : Int32)) + v6).toNatClampNeg) * v3))) (by omega) (by omega)
      have e43 := dz_l0
      refine dz_Teq (fun h44 => ?_) (fun h44 => ?_)
      · skip
        refine dz_Tb (t283_X9_meet_g23 fu hfu _ _ _ _ _ _ p8 (by first | assumption | omega) p10 p11 i12 i13 p12 p13 (by omega) (by omega) p14 (by first | assumption | omega) (dz_rgs (hr_a309) (by omega))) (fun r3 q => ?_)
        obtain ⟨q3_0, q3_1, qa3_2⟩ := q
        obtain ⟨k5, rfl⟩ : ∃ x, k0 = x + 1 := ⟨k0 - 1, by omega⟩
        show dz_T (s284_X9_meetSwapped_3 fu c248_pots c261_many c261_swapsAPot a265 a268 a269 n269 n308 n309 (F284_X9_meetSwapped fu c248_pots c261_many c261_swapsAPot a265 a268 a269 n269 n308 n309 k5).2.1 v1 v2 v3 v4 v5 v6 r3.1 r3.2.1 r3.2.2) _
        unfold s284_X9_meetSwapped_3
        have e45 := dz_l1
        have e46 := dz_add (a := v6) (b := (1 : Int32)) (by omega) (by omega)
        exact (ih k5 (by omega)).2 v1 v2 v3 v4 v5 (v6 + (1 : Int32)) r3.1 r3.2.1 r3.2.2 i0 i1 i2 i3 i4 i5 i6 i7 i8 i9 (by omega) (by omega) q3_0 q3_1 i14 i15 i16 i17 (dz_rgs (qa3_2) (by omega)) (by omega) (by omega)
      · skip
        obtain ⟨k6, rfl⟩ : ∃ x, k0 = x + 1 := ⟨k0 - 1, by omega⟩
        show dz_T (s284_X9_meetSwapped_3 fu c248_pots c261_many c261_swapsAPot a265 a268 a269 n269 n308 n309 (F284_X9_meetSwapped fu c248_pots c261_many c261_swapsAPot a265 a268 a269 n269 n308 n309 k6).2.1 v1 v2 v3 v4 v5 v6 c307_queued a308 a309) _
        unfold s284_X9_meetSwapped_3
        have e47 := dz_l1
        have e48 := dz_add (a := v6) (b := (1 : Int32)) (by omega) (by omega)
        exact (ih k6 (by omega)).2 v1 v2 v3 v4 v5 (v6 + (1 : Int32)) c307_queued a308 a309 i0 i1 i2 i3 i4 i5 i6 i7 i8 i9 (by omega) (by omega) i12 i13 i14 i15 i16 i17 (dz_rgs (hr_a309) (by omega)) (by omega) (by omega)
theorem t284_X9_meetSwapped_I_g23 (fu : Nat) (hfu : 1000000000000 ≤ fu) (c248_pots : Int32) (c261_many : Int32) (c261_swapsAPot : Int32) (a265 : Nat → Int32) (a268 : Nat → Int32) (a269 : Nat → Int32) (n269 : Nat) (n308 : Nat) (n309 : Nat) (p0 : c248_pots.toInt ≤ 3) (p1 : 3 ≤ c248_pots.toInt) (p2 : c261_many.toInt ≤ 2) (p3 : 2 ≤ c261_many.toInt) (p4 : c261_swapsAPot.toInt ≤ 1) (p5 : 1 ≤ c261_swapsAPot.toInt) (p6 : ((n269 : Nat) : Int) ≤ 13824) (p7 : 1 ≤ ((n269 : Nat) : Int)) (p8 : ((n308 : Nat) : Int) ≤ 13824) (p9 : 1 ≤ ((n308 : Nat) : Int)) (p10 : ((n309 : Nat) : Int) ≤ 13824) (p11 : 1 ≤ ((n309 : Nat) : Int)) (p12 : ((n308 : Nat) : Int) ≤ ((n309 : Nat) : Int)) (p13 : ((n309 : Nat) : Int) ≤ ((n308 : Nat) : Int)) (p14 : 8 ≤ ((n308 : Nat) : Int)) (p15 : 8 ≤ ((n269 : Nat) : Int)) (hr_a265 : dz_rt a265 2 1 0 1) (hr_a268 : dz_pt a268 [4, 2, 1]) (hr_a269 : dz_rg a269 n269 0 1023) (k : Nat) : p284_X9_meetSwapped_g23 fu c248_pots c261_many c261_swapsAPot a265 a268 a269 n269 n308 n309 k := by
  induction k using Nat.strongRecOn with
  | _ k ih => exact ⟨t284_X9_meetSwapped_h1_g23 fu hfu c248_pots c261_many c261_swapsAPot a265 a268 a269 n269 n308 n309 p0 p1 p2 p3 p4 p5 p6 p7 p8 p9 p10 p11 p12 p13 p14 p15 hr_a265 hr_a268 hr_a269 k ih, t284_X9_meetSwapped_h2_g23 fu hfu c248_pots c261_many c261_swapsAPot a265 a268 a269 n269 n308 n309 p0 p1 p2 p3 p4 p5 p6 p7 p8 p9 p10 p11 p12 p13 p14 p15 hr_a265 hr_a268 hr_a269 k ih⟩
set_option maxHeartbeats 1000000 in
set_option maxRecDepth 10000 in
theorem t284_X9_meetSwapped_E_g23 (fu : Nat) (hfu : 1000000000000 ≤ fu) (c248_pots : Int32) (c261_many : Int32) (c261_swapsAPot : Int32) (a265 : Nat → Int32) (a268 : Nat → Int32) (a269 : Nat → Int32) (n269 : Nat) (n308 : Nat) (n309 : Nat) (v1 : Int32) (c307_queued : Int32) (a308 : Nat → Int32) (a309 : Nat → Int32) (p0 : c248_pots.toInt ≤ 3) (p1 : 3 ≤ c248_pots.toInt) (p2 : c261_many.toInt ≤ 2) (p3 : 2 ≤ c261_many.toInt) (p4 : c261_swapsAPot.toInt ≤ 1) (p5 : 1 ≤ c261_swapsAPot.toInt) (p6 : ((n269 : Nat) : Int) ≤ 13824) (p7 : 1 ≤ ((n269 : Nat) : Int)) (p8 : ((n308 : Nat) : Int) ≤ 13824) (p9 : 1 ≤ ((n308 : Nat) : Int)) (p10 : ((n309 : Nat) : Int) ≤ 13824) (p11 : 1 ≤ ((n309 : Nat) : Int)) (p12 : c307_queued.toInt ≤ 13824) (p13 : 0 ≤ c307_queued.toInt) (p14 : ((n308 : Nat) : Int) ≤ ((n309 : Nat) : Int)) (p15 : ((n309 : Nat) : Int) ≤ ((n308 : Nat) : Int)) (p16 : 0 ≤ v1.toInt) (p17 : v1.toInt ≤ 7) (p18 : 8 ≤ ((n308 : Nat) : Int)) (p19 : 8 ≤ ((n269 : Nat) : Int)) (hr_a265 : dz_rt a265 2 1 0 1) (hr_a268 : dz_pt a268 [4, 2, 1]) (hr_a269 : dz_rg a269 n269 0 1023) (hr_a309 : dz_rg a309 c307_queued.toInt.toNat 0 7) (kv : Nat) (hkv : 1000000000000 ≤ kv) : dz_T (s284_X9_meetSwapped_0 fu c248_pots c261_many c261_swapsAPot a265 a268 a269 n269 n308 n309 (F284_X9_meetSwapped fu c248_pots c261_many c261_swapsAPot a265 a268 a269 n269 n308 n309 kv).1  v1 c307_queued a308 a309) (fun r => r.1.toInt ≤ 13824 ∧ 0 ≤ r.1.toInt ∧ dz_rg r.2.2 r.1.toInt.toNat 0 7) := by
  unfold s284_X9_meetSwapped_0
  have e1 := dz_l0
  exact (t284_X9_meetSwapped_I_g23 fu hfu c248_pots c261_many c261_swapsAPot a265 a268 a269 n269 n308 n309 p0 p1 p2 p3 p4 p5 p6 p7 p8 p9 p10 p11 p14 p15 p18 p19 hr_a265 hr_a268 hr_a269 kv).1 v1 (0 : Int32) c307_queued a308 a309 p17 p16 (by omega) (by omega) p12 p13 (dz_rgs (hr_a309) (by omega)) (by omega)
theorem t284_X9_meetSwapped_g23 (fu : Nat) (hfu : 1000000000000 ≤ fu) (c248_pots : Int32) (c261_many : Int32) (c261_swapsAPot : Int32) (a265 : Nat → Int32) (a268 : Nat → Int32) (a269 : Nat → Int32) (n269 : Nat) (n308 : Nat) (n309 : Nat) (v1 : Int32) (c307_queued : Int32) (a308 : Nat → Int32) (a309 : Nat → Int32) (p0 : c248_pots.toInt ≤ 3) (p1 : 3 ≤ c248_pots.toInt) (p2 : c261_many.toInt ≤ 2) (p3 : 2 ≤ c261_many.toInt) (p4 : c261_swapsAPot.toInt ≤ 1) (p5 : 1 ≤ c261_swapsAPot.toInt) (p6 : ((n269 : Nat) : Int) ≤ 13824) (p7 : 1 ≤ ((n269 : Nat) : Int)) (p8 : ((n308 : Nat) : Int) ≤ 13824) (p9 : 1 ≤ ((n308 : Nat) : Int)) (p10 : ((n309 : Nat) : Int) ≤ 13824) (p11 : 1 ≤ ((n309 : Nat) : Int)) (p12 : c307_queued.toInt ≤ 13824) (p13 : 0 ≤ c307_queued.toInt) (p14 : ((n308 : Nat) : Int) ≤ ((n309 : Nat) : Int)) (p15 : ((n309 : Nat) : Int) ≤ ((n308 : Nat) : Int)) (p16 : 0 ≤ v1.toInt) (p17 : v1.toInt ≤ 7) (p18 : 8 ≤ ((n308 : Nat) : Int)) (p19 : 8 ≤ ((n269 : Nat) : Int)) (hr_a265 : dz_rt a265 2 1 0 1) (hr_a268 : dz_pt a268 [4, 2, 1]) (hr_a269 : dz_rg a269 n269 0 1023) (hr_a309 : dz_rg a309 c307_queued.toInt.toNat 0 7) : dz_T (f284_X9_meetSwapped fu c248_pots c261_many c261_swapsAPot a265 a268 a269 n269 n308 n309 v1 c307_queued a308 a309) (fun r => r.1.toInt ≤ 13824 ∧ 0 ≤ r.1.toInt ∧ dz_rg r.2.2 r.1.toInt.toNat 0 7) :=
  t284_X9_meetSwapped_E_g23 fu hfu c248_pots c261_many c261_swapsAPot a265 a268 a269 n269 n308 n309 v1 c307_queued a308 a309 p0 p1 p2 p3 p4 p5 p6 p7 p8 p9 p10 p11 p12 p13 p14 p15 p16 p17 p18 p19 hr_a265 hr_a268 hr_a269 hr_a309 fu hfu
abbrev p284_X9_meetSwapped_g24 (fu : Nat) (c248_pots : Int32) (c261_many : Int32) (c261_swapsAPot : Int32) (a265 : Nat → Int32) (a268 : Nat → Int32) (a269 : Nat → Int32) (n269 : Nat) (n308 : Nat) (n309 : Nat) (k : Nat) : Prop :=
  (∀ (v1 : Int32) (v2 : Int32) (c307_queued : Int32) (a308 : Nat → Int32) (a309 : Nat → Int32), v1.toInt ≤ 15 → 0 ≤ v1.toInt → v2.toInt ≤ 4 → 0 ≤ v2.toInt → c307_queued.toInt ≤ 13824 → 0 ≤ c307_queued.toInt → dz_rg a309 c307_queued.toInt.toNat 0 15 → 0 + 0 + (4 - v2.toInt) * 56 + 7 ≤ ((k : Nat) : Int) → dz_T ((F284_X9_meetSwapped fu c248_pots c261_many c261_swapsAPot a265 a268 a269 n269 n308 n309 k).1 v1 v2 c307_queued a308 a309) (fun r => r.1.toInt ≤ 13824 ∧ 0 ≤ r.1.toInt ∧ dz_rg r.2.2 r.1.toInt.toNat 0 15)) ∧ (∀ (v1 : Int32) (v2 : Int32) (v3 : Int32) (v4 : Int32) (v5 : Int32) (v6 : Int32) (c307_queued : Int32) (a308 : Nat → Int32) (a309 : Nat → Int32), v1.toInt ≤ 15 → 0 ≤ v1.toInt → v2.toInt ≤ 3 → 0 ≤ v2.toInt → v3.toInt ≤ 8 → 1 ≤ v3.toInt → v4.toInt ≤ 1 → 0 ≤ v4.toInt → v5.toInt ≤ 15 → (-8) ≤ v5.toInt → v6.toInt ≤ 1 → 0 ≤ v6.toInt → c307_queued.toInt ≤ 13824 → 0 ≤ c307_queued.toInt → v4.toInt ≤ v1.toInt → v5.toInt ≤ v1.toInt → v1.toInt ≤ v5.toInt + 8 → v2.toInt ≤ v5.toInt + 8 → dz_rg a309 c307_queued.toInt.toNat 0 15 → ((v2.toInt = 0 ∧ v3.toInt = 8 ∧ v4.toInt = v1.toInt / 8 % 2 ∧ v5.toInt = v1.toInt - v4.toInt * 8) ∨ (v2.toInt = 1 ∧ v3.toInt = 4 ∧ v4.toInt = v1.toInt / 4 % 2 ∧ v5.toInt = v1.toInt - v4.toInt * 4) ∨ (v2.toInt = 2 ∧ v3.toInt = 2 ∧ v4.toInt = v1.toInt / 2 % 2 ∧ v5.toInt = v1.toInt - v4.toInt * 2) ∨ (v2.toInt = 3 ∧ v3.toInt = 1 ∧ v4.toInt = v1.toInt % 2 ∧ v5.toInt = v1.toInt - v4.toInt * 1)) → 0 + 0 + ((4 - v2.toInt) - 1) * 56 + 0 + (1 - v6.toInt) * 14 + 14 ≤ ((k : Nat) : Int) → dz_T ((F284_X9_meetSwapped fu c248_pots c261_many c261_swapsAPot a265 a268 a269 n269 n308 n309 k).2.1 v1 v2 v3 v4 v5 v6 c307_queued a308 a309) (fun r => r.1.toInt ≤ 13824 ∧ 0 ≤ r.1.toInt ∧ dz_rg r.2.2 r.1.toInt.toNat 0 15))
set_option maxHeartbeats 1000000 in
set_option maxRecDepth 10000 in
theorem t284_X9_meetSwapped_h1_g24 (fu : Nat) (hfu : 1000000000000 ≤ fu) (c248_pots : Int32) (c261_many : Int32) (c261_swapsAPot : Int32) (a265 : Nat → Int32) (a268 : Nat → Int32) (a269 : Nat → Int32) (n269 : Nat) (n308 : Nat) (n309 : Nat) (p0 : c248_pots.toInt ≤ 4) (p1 : 4 ≤ c248_pots.toInt) (p2 : c261_many.toInt ≤ 2) (p3 : 2 ≤ c261_many.toInt) (p4 : c261_swapsAPot.toInt ≤ 1) (p5 : 1 ≤ c261_swapsAPot.toInt) (p6 : ((n269 : Nat) : Int) ≤ 13824) (p7 : 1 ≤ ((n269 : Nat) : Int)) (p8 : ((n308 : Nat) : Int) ≤ 13824) (p9 : 1 ≤ ((n308 : Nat) : Int)) (p10 : ((n309 : Nat) : Int) ≤ 13824) (p11 : 1 ≤ ((n309 : Nat) : Int)) (p12 : ((n308 : Nat) : Int) ≤ ((n309 : Nat) : Int)) (p13 : ((n309 : Nat) : Int) ≤ ((n308 : Nat) : Int)) (p14 : 16 ≤ ((n308 : Nat) : Int)) (p15 : 16 ≤ ((n269 : Nat) : Int)) (hr_a265 : dz_rt a265 2 1 0 1) (hr_a268 : dz_pt a268 [8, 4, 2, 1]) (hr_a269 : dz_rg a269 n269 0 1023) (k : Nat) (ih : ∀ j9, j9 < k → p284_X9_meetSwapped_g24 fu c248_pots c261_many c261_swapsAPot a265 a268 a269 n269 n308 n309 j9) : ∀ (v1 : Int32) (v2 : Int32) (c307_queued : Int32) (a308 : Nat → Int32) (a309 : Nat → Int32), v1.toInt ≤ 15 → 0 ≤ v1.toInt → v2.toInt ≤ 4 → 0 ≤ v2.toInt → c307_queued.toInt ≤ 13824 → 0 ≤ c307_queued.toInt → dz_rg a309 c307_queued.toInt.toNat 0 15 → 0 + 0 + (4 - v2.toInt) * 56 + 7 ≤ ((k : Nat) : Int) → dz_T ((F284_X9_meetSwapped fu c248_pots c261_many c261_swapsAPot a265 a268 a269 n269 n308 n309 k).1 v1 v2 c307_queued a308 a309) (fun r => r.1.toInt ≤ 13824 ∧ 0 ≤ r.1.toInt ∧ dz_rg r.2.2 r.1.toInt.toNat 0 15) := by
  intro v1 v2 c307_queued a308 a309 i0 i1 i2 i3 i4 i5 hr_a309 hm
  obtain ⟨k0, rfl⟩ : ∃ x, k = x + 1 := ⟨k - 1, by omega⟩
  show dz_T (s284_X9_meetSwapped_1 fu c248_pots c261_many c261_swapsAPot a265 a268 a269 n269 n308 n309 (F284_X9_meetSwapped fu c248_pots c261_many c261_swapsAPot a265 a268 a269 n269 n308 n309 k0).2.1  v1 v2 c307_queued a308 a309) _
  unfold s284_X9_meetSwapped_1
  rcases (show v2.toInt = 0 ∨ v2.toInt = 1 ∨ v2.toInt = 2 ∨ v2.toInt = 3 ∨ v2.toInt = 4 by omega) with hs | hs | hs | hs | hs
  · skip
    refine dz_Tle (fun h1 => ?_) (fun h1 => ?_)
    · skip
      exfalso; omega
    · skip
      refine dz_Tin (by omega) (by omega) ?_
      refine dz_Tbe (show f141_X2_rankIn fu c261_many a268 v1 v2 = (if dz_in v2 4 then (if ((a268 v2.toNatClampNeg) ≤ (0 : Int32)) then (some (0 : Int32)) else (if (c261_many ≤ (0 : Int32)) then (some (0 : Int32)) else (if (¬ ((a268 v2.toNatClampNeg) = (0 : Int32))) then (if (¬ (c261_many = (0 : Int32))) then (some (dz_rem (v1 / (a268 v2.toNatClampNeg)) c261_many)) else none) else none))) else none) from rfl) ?_
      refine dz_Tinb (by omega) (by omega) ?_
      have e2 := dz_ptat (hr_a268) (i := v2) (x := 8) 0 (by omega) (by decide)
      have e3 := dz_l0
      refine dz_Tleb (fun h4 => ?_) (fun h4 => ?_)
      · skip
        exfalso; omega
      · skip
        refine dz_Tleb (fun h5 => ?_) (fun h5 => ?_)
        · skip
          exfalso; omega
        · skip
          refine dz_Tzb (by omega) ?_
          refine dz_Tzb (by omega) ?_
          refine dz_Tsb ?_
          have e6 := dz_divn (a := v1) (b := (a268 v2.toNatClampNeg)) 8 (by omega) (by omega) (by omega)
          have e7 := dz_remn (a := (v1 / (a268 v2.toNatClampNeg))) (b := c261_many) 2 (by omega) (by omega) (by omega)
          have e8 := dz_mulr (a := (dz_rem (v1 / (a268 v2.toNatClampNeg)) c261_many)) (b := (a268 v2.toNatClampNeg)) 8 (by omega) (by omega) (by omega)
          have e9 := dz_sub (a := v1) (b := ((dz_rem (v1 / (a268 v2.toNatClampNeg)) c261_many) * (a268 v2.toNatClampNeg))) (by omega) (by omega)
          exact (ih k0 (by omega)).2 v1 v2 (a268 v2.toNatClampNeg) (dz_rem (v1 / (a268 v2.toNatClampNeg)) c261_many) (v1 - ((dz_rem (v1 / (a268 v2.toNatClampNeg)) c261_many) * (a268 v2.toNatClampNeg))) (0 : Int32) c307_queued a308 a309 i0 i1 (by first | assumption | omega) i3 (by omega) (by omega) (by omega) (by omega) (by omega) (by omega) (by omega) (by omega) i4 i5 (by omega) (by omega) (by omega) (by omega) (dz_rgs (hr_a309) (by omega)) (by omega) (by omega)
  · skip
    refine dz_Tle (fun h10 => ?_) (fun h10 => ?_)
    · skip
      exfalso; omega
    · skip
      refine dz_Tin (by omega) (by omega) ?_
      refine dz_Tbe (show f141_X2_rankIn fu c261_many a268 v1 v2 = (if dz_in v2 4 then (if ((a268 v2.toNatClampNeg) ≤ (0 : Int32)) then (some (0 : Int32)) else (if (c261_many ≤ (0 : Int32)) then (some (0 : Int32)) else (if (¬ ((a268 v2.toNatClampNeg) = (0 : Int32))) then (if (¬ (c261_many = (0 : Int32))) then (some (dz_rem (v1 / (a268 v2.toNatClampNeg)) c261_many)) else none) else none))) else none) from rfl) ?_
      refine dz_Tinb (by omega) (by omega) ?_
      have e11 := dz_ptat (hr_a268) (i := v2) (x := 4) 1 (by omega) (by decide)
      have e12 := dz_l0
      refine dz_Tleb (fun h13 => ?_) (fun h13 => ?_)
      · skip
        exfalso; omega
      · skip
        refine dz_Tleb (fun h14 => ?_) (fun h14 => ?_)
        · skip
          exfalso; omega
        · skip
          refine dz_Tzb (by omega) ?_
          refine dz_Tzb (by omega) ?_
          refine dz_Tsb ?_
          have e15 := dz_divn (a := v1) (b := (a268 v2.toNatClampNeg)) 4 (by omega) (by omega) (by omega)
          have e16 := dz_remn (a := (v1 / (a268 v2.toNatClampNeg))) (b := c261_many) 2 (by omega) (by omega) (by omega)
          have e17 := dz_mulr (a := (dz_rem (v1 / (a268 v2.toNatClampNeg)) c261_many)) (b := (a268 v2.toNatClampNeg)) 4 (by omega) (by omega) (by omega)
          have e18 := dz_sub (a := v1) (b := ((dz_rem (v1 / (a268 v2.toNatClampNeg)) c261_many) * (a268 v2.toNatClampNeg))) (by omega) (by omega)
          exact (ih k0 (by omega)).2 v1 v2 (a268 v2.toNatClampNeg) (dz_rem (v1 / (a268 v2.toNatClampNeg)) c261_many) (v1 - ((dz_rem (v1 / (a268 v2.toNatClampNeg)) c261_many) * (a268 v2.toNatClampNeg))) (0 : Int32) c307_queued a308 a309 i0 i1 (by first | assumption | omega) i3 (by omega) (by omega) (by omega) (by omega) (by omega) (by omega) (by omega) (by omega) i4 i5 (by omega) (by omega) (by omega) (by omega) (dz_rgs (hr_a309) (by omega)) (by omega) (by omega)
  · skip
    refine dz_Tle (fun h19 => ?_) (fun h19 => ?_)
    · skip
      exfalso; omega
    · skip
      refine dz_Tin (by omega) (by omega) ?_
      refine dz_Tbe (show f141_X2_rankIn fu c261_many a268 v1 v2 = (if dz_in v2 4 then (if ((a268 v2.toNatClampNeg) ≤ (0 : Int32)) then (some (0 : Int32)) else (if (c261_many ≤ (0 : Int32)) then (some (0 : Int32)) else (if (¬ ((a268 v2.toNatClampNeg) = (0 : Int32))) then (if (¬ (c261_many = (0 : Int32))) then (some (dz_rem (v1 / (a268 v2.toNatClampNeg)) c261_many)) else none) else none))) else none) from rfl) ?_
      refine dz_Tinb (by omega) (by omega) ?_
      have e20 := dz_ptat (hr_a268) (i := v2) (x := 2) 2 (by omega) (by decide)
      have e21 := dz_l0
      refine dz_Tleb (fun h22 => ?_) (fun h22 => ?_)
      · skip
        exfalso; omega
      · skip
        refine dz_Tleb (fun h23 => ?_) (fun h23 => ?_)
        · skip
          exfalso; omega
        · skip
          refine dz_Tzb (by omega) ?_
          refine dz_Tzb (by omega) ?_
          refine dz_Tsb ?_
          have e24 := dz_divn (a := v1) (b := (a268 v2.toNatClampNeg)) 2 (by omega) (by omega) (by omega)
          have e25 := dz_remn (a := (v1 / (a268 v2.toNatClampNeg))) (b := c261_many) 2 (by omega) (by omega) (by omega)
          have e26 := dz_mulr (a := (dz_rem (v1 / (a268 v2.toNatClampNeg)) c261_many)) (b := (a268 v2.toNatClampNeg)) 2 (by omega) (by omega) (by omega)
          have e27 := dz_sub (a := v1) (b := ((dz_rem (v1 / (a268 v2.toNatClampNeg)) c261_many) * (a268 v2.toNatClampNeg))) (by omega) (by omega)
          exact (ih k0 (by omega)).2 v1 v2 (a268 v2.toNatClampNeg) (dz_rem (v1 / (a268 v2.toNatClampNeg)) c261_many) (v1 - ((dz_rem (v1 / (a268 v2.toNatClampNeg)) c261_many) * (a268 v2.toNatClampNeg))) (0 : Int32) c307_queued a308 a309 i0 i1 (by first | assumption | omega) i3 (by omega) (by omega) (by omega) (by omega) (by omega) (by omega) (by omega) (by omega) i4 i5 (by omega) (by omega) (by omega) (by omega) (dz_rgs (hr_a309) (by omega)) (by omega) (by omega)
  · skip
    refine dz_Tle (fun h28 => ?_) (fun h28 => ?_)
    · skip
      exfalso; omega
    · skip
      refine dz_Tin (by omega) (by omega) ?_
      refine dz_Tbe (show f141_X2_rankIn fu c261_many a268 v1 v2 = (if dz_in v2 4 then (if ((a268 v2.toNatClampNeg) ≤ (0 : Int32)) then (some (0 : Int32)) else (if (c261_many ≤ (0 : Int32)) then (some (0 : Int32)) else (if (¬ ((a268 v2.toNatClampNeg) = (0 : Int32))) then (if (¬ (c261_many = (0 : Int32))) then (some (dz_rem (v1 / (a268 v2.toNatClampNeg)) c261_many)) else none) else none))) else none) from rfl) ?_
      refine dz_Tinb (by omega) (by omega) ?_
      have e29 := dz_ptat (hr_a268) (i := v2) (x := 1) 3 (by omega) (by decide)
      have e30 := dz_l0
      refine dz_Tleb (fun h31 => ?_) (fun h31 => ?_)
      · skip
        exfalso; omega
      · skip
        refine dz_Tleb (fun h32 => ?_) (fun h32 => ?_)
        · skip
          exfalso; omega
        · skip
          refine dz_Tzb (by omega) ?_
          refine dz_Tzb (by omega) ?_
          refine dz_Tsb ?_
          have e33 := dz_div1 (a := v1) (b := (a268 v2.toNatClampNeg)) (by omega) (by omega)
          have e34 := dz_remn (a := (v1 / (a268 v2.toNatClampNeg))) (b := c261_many) 2 (by omega) (by omega) (by omega)
          have e35 := dz_mulr (a := (dz_rem (v1 / (a268 v2.toNatClampNeg)) c261_many)) (b := (a268 v2.toNatClampNeg)) 1 (by omega) (by omega) (by omega)
          have e36 := dz_sub (a := v1) (b := ((dz_rem (v1 / (a268 v2.toNatClampNeg)) c261_many) * (a268 v2.toNatClampNeg))) (by omega) (by omega)
          exact (ih k0 (by omega)).2 v1 v2 (a268 v2.toNatClampNeg) (dz_rem (v1 / (a268 v2.toNatClampNeg)) c261_many) (v1 - ((dz_rem (v1 / (a268 v2.toNatClampNeg)) c261_many) * (a268 v2.toNatClampNeg))) (0 : Int32) c307_queued a308 a309 i0 i1 (by first | assumption | omega) i3 (by omega) (by omega) (by omega) (by omega) (by omega) (by omega) (by omega) (by omega) i4 i5 (by omega) (by omega) (by omega) (by omega) (dz_rgs (hr_a309) (by omega)) (by omega) (by omega)
  · skip
    refine dz_Tle (fun h37 => ?_) (fun h37 => ?_)
    · skip
      refine dz_Ts ?_
      dsimp only
      exact ⟨i4, i5, (dz_rgs (hr_a309) (by omega))⟩
    · skip
      exfalso; omega
set_option maxHeartbeats 1000000 in
set_option maxRecDepth 10000 in
theorem t284_X9_meetSwapped_h2_g24 (fu : Nat) (hfu : 1000000000000 ≤ fu) (c248_pots : Int32) (c261_many : Int32) (c261_swapsAPot : Int32) (a265 : Nat → Int32) (a268 : Nat → Int32) (a269 : Nat → Int32) (n269 : Nat) (n308 : Nat) (n309 : Nat) (p0 : c248_pots.toInt ≤ 4) (p1 : 4 ≤ c248_pots.toInt) (p2 : c261_many.toInt ≤ 2) (p3 : 2 ≤ c261_many.toInt) (p4 : c261_swapsAPot.toInt ≤ 1) (p5 : 1 ≤ c261_swapsAPot.toInt) (p6 : ((n269 : Nat) : Int) ≤ 13824) (p7 : 1 ≤ ((n269 : Nat) : Int)) (p8 : ((n308 : Nat) : Int) ≤ 13824) (p9 : 1 ≤ ((n308 : Nat) : Int)) (p10 : ((n309 : Nat) : Int) ≤ 13824) (p11 : 1 ≤ ((n309 : Nat) : Int)) (p12 : ((n308 : Nat) : Int) ≤ ((n309 : Nat) : Int)) (p13 : ((n309 : Nat) : Int) ≤ ((n308 : Nat) : Int)) (p14 : 16 ≤ ((n308 : Nat) : Int)) (p15 : 16 ≤ ((n269 : Nat) : Int)) (hr_a265 : dz_rt a265 2 1 0 1) (hr_a268 : dz_pt a268 [8, 4, 2, 1]) (hr_a269 : dz_rg a269 n269 0 1023) (k : Nat) (ih : ∀ j9, j9 < k → p284_X9_meetSwapped_g24 fu c248_pots c261_many c261_swapsAPot a265 a268 a269 n269 n308 n309 j9) : ∀ (v1 : Int32) (v2 : Int32) (v3 : Int32) (v4 : Int32) (v5 : Int32) (v6 : Int32) (c307_queued : Int32) (a308 : Nat → Int32) (a309 : Nat → Int32), v1.toInt ≤ 15 → 0 ≤ v1.toInt → v2.toInt ≤ 3 → 0 ≤ v2.toInt → v3.toInt ≤ 8 → 1 ≤ v3.toInt → v4.toInt ≤ 1 → 0 ≤ v4.toInt → v5.toInt ≤ 15 → (-8) ≤ v5.toInt → v6.toInt ≤ 1 → 0 ≤ v6.toInt → c307_queued.toInt ≤ 13824 → 0 ≤ c307_queued.toInt → v4.toInt ≤ v1.toInt → v5.toInt ≤ v1.toInt → v1.toInt ≤ v5.toInt + 8 → v2.toInt ≤ v5.toInt + 8 → dz_rg a309 c307_queued.toInt.toNat 0 15 → ((v2.toInt = 0 ∧ v3.toInt = 8 ∧ v4.toInt = v1.toInt / 8 % 2 ∧ v5.toInt = v1.toInt - v4.toInt * 8) ∨ (v2.toInt = 1 ∧ v3.toInt = 4 ∧ v4.toInt = v1.toInt / 4 % 2 ∧ v5.toInt = v1.toInt - v4.toInt * 4) ∨ (v2.toInt = 2 ∧ v3.toInt = 2 ∧ v4.toInt = v1.toInt / 2 % 2 ∧ v5.toInt = v1.toInt - v4.toInt * 2) ∨ (v2.toInt = 3 ∧ v3.toInt = 1 ∧ v4.toInt = v1.toInt % 2 ∧ v5.toInt = v1.toInt - v4.toInt * 1)) → 0 + 0 + ((4 - v2.toInt) - 1) * 56 + 0 + (1 - v6.toInt) * 14 + 14 ≤ ((k : Nat) : Int) → dz_T ((F284_X9_meetSwapped fu c248_pots c261_many c261_swapsAPot a265 a268 a269 n269 n308 n309 k).2.1 v1 v2 v3 v4 v5 v6 c307_queued a308 a309) (fun r => r.1.toInt ≤ 13824 ∧ 0 ≤ r.1.toInt ∧ dz_rg r.2.2 r.1.toInt.toNat 0 15) := by
  intro v1 v2 v3 v4 v5 v6 c307_queued a308 a309 i0 i1 i2 i3 i4 i5 i6 i7 i8 i9 i10 i11 i12 i13 i14 i15 i16 i17 hr_a309 x0 hm
  obtain ⟨k0, rfl⟩ : ∃ x, k = x + 1 := ⟨k - 1, by omega⟩
  show dz_T (s284_X9_meetSwapped_2 fu c248_pots c261_many c261_swapsAPot a265 a268 a269 n269 n308 n309 (F284_X9_meetSwapped fu c248_pots c261_many c261_swapsAPot a265 a268 a269 n269 n308 n309 k0).1 (F284_X9_meetSwapped fu c248_pots c261_many c261_swapsAPot a265 a268 a269 n269 n308 n309 k0).2.2  v1 v2 v3 v4 v5 v6 c307_queued a308 a309) _
  unfold s284_X9_meetSwapped_2
  rcases (show v2.toInt = 0 ∨ v2.toInt = 1 ∨ v2.toInt = 2 ∨ v2.toInt = 3 by omega) with hs | hs | hs | hs
  · skip
    refine dz_Tle (fun h1 => ?_) (fun h1 => ?_)
    · skip
      have e2 := dz_l1
      have e3 := dz_add (a := v2) (b := (1 : Int32)) (by omega) (by omega)
      exact (ih k0 (by omega)).1 v1 (v2 + (1 : Int32)) c307_queued a308 a309 i0 i1 (by omega) (by omega) i12 i13 (dz_rgs (hr_a309) (by omega)) (by omega)
    · skip
      have e4 := dz_l6
      have e5 := dz_mulr (a := v4) (b := (6 : Int32)) 6 (by omega) (by omega) (by omega)
      have e6 := dz_add (a := (v4 * (6 : Int32))) (b := v6) (by omega) (by omega)
      refine dz_Tin (by omega) (by omega) ?_
      have e7 := dz_rtat (hr_a265) (x := v4) (y := v6) (by omega) (by omega) (by omega) (by omega) (by omega)
      have e8 := dz_mulr (a := (a265 ((v4 * (6 : Int32)) + v6).toNatClampNeg)) (b := v3) 8 (by omega) (by omega) (by omega)
      have e9 := dz_add (a := v5) (b := ((a265 ((v4 * (6 : Int32)) + v6).toNatClampNeg) * v3)) (by omega) (by omega)
      refine dz_Tin (by omega) (by omega) ?_
      have e10 := dz_rgat (hr_a269) (i := (v5 + ((a265 ((v4 * (6 : Int32)) + v6).toNatClampNeg) * v3))) (by omega) (by omega)
      have e11 := dz_l0
      refine dz_Teq (fun h12 => ?_) (fun h12 => ?_)
      · skip
        refine dz_Tb (t283_X9_meet_g24 fu hfu _ _ _ _ _ _ p8 (by first | assumption | omega) p10 p11 i12 i13 p12 p13 (by omega) (by omega) p14 (by first | assumption | omega) (dz_rgs (hr_a309) (by omega))) (fun r1 q => ?_)
        obtain ⟨q1_0, q1_1, qa1_2⟩ := q
        obtain ⟨k1, rfl⟩ : ∃ x, k0 = x + 1 := ⟨k0 - 1, by omega⟩
        show dz_T (s284_X9_meetSwapped_3 fu c248_pots c261_many c261_swapsAPot a265 a268 a269 n269 n308 n309 (F284_X9_meetSwapped fu c248_pots c261_many c261_swapsAPot a265 a268 a269 n269 n308 n309 k1).2.1 v1 v2 v3 v4 v5 v6 r1.1 r1.2.1 r1.2.2) _
        unfold s284_X9_meetSwapped_3
        have e13 := dz_l1
        have e14 := dz_add (a := v6) (b := (1 : Int32)) (by omega) (by omega)
        exact (ih k1 (by omega)).2 v1 v2 v3 v4 v5 (v6 + (1 : Int32)) r1.1 r1.2.1 r1.2.2 i0 i1 i2 i3 i4 i5 i6 i7 i8 i9 (by omega) (by omega) q1_0 q1_1 i14 i15 i16 i17 (dz_rgs (qa1_2) (by omega)) (by omega) (by omega)
      · skip
        obtain ⟨k2, rfl⟩ : ∃ x, k0 = x + 1 := ⟨k0 - 1, by omega⟩
        show dz_T (s284_X9_meetSwapped_3 fu c248_pots c261_many c261_swapsAPot a265 a268 a269 n269 n308 n309 (F284_X9_meetSwapped fu c248_pots c261_many c261_swapsAPot a265 a268 a269 n269 n308 n309 k2).2.1 v1 v2 v3 v4 v5 v6 c307_queued a308 a309) _
        unfold s284_X9_meetSwapped_3
        have e15 := dz_l1
        have e16 := dz_add (a := v6) (b := (1 : Int32)) (by omega) (by omega)
        exact (ih k2 (by omega)).2 v1 v2 v3 v4 v5 (v6 + (1 : Int32)) c307_queued a308 a309 i0 i1 i2 i3 i4 i5 i6 i7 i8 i9 (by omega) (by omega) i12 i13 i14 i15 i16 i17 (dz_rgs (hr_a309) (by omega)) (by omega) (by omega)
  · skip
    refine dz_Tle (fun h17 => ?_) (fun h17 => ?_)
    · skip
      have e18 := dz_l1
      have e19 := dz_add (a := v2) (b := (1 : Int32)) (by omega) (by omega)
      exact (ih k0 (by omega)).1 v1 (v2 + (1 : Int32)) c307_queued a308 a309 i0 i1 (by omega) (by omega) i12 i13 (dz_rgs (hr_a309) (by omega)) (by omega)
    · skip
      have e20 := dz_l6
      have e21 := dz_mulr (a := v4) (b := (6 : Int32)) 6 (by omega) (by omega) (by omega)
      have e22 := dz_add (a := (v4 * (6 : Int32))) (b := v6) (by omega) (by omega)
      refine dz_Tin (by omega) (by omega) ?_
      have e23 := dz_rtat (hr_a265) (x := v4) (y := v6) (by omega) (by omega) (by omega) (by omega) (by omega)
      have e24 := dz_mulr (a := (a265 ((v4 * (6 : Int32)) + v6).toNatClampNeg)) (b := v3) 4 (by omega) (by omega) (by omega)
      have e25 := dz_add (a := v5) (b := ((a265 ((v4 * (6 : Int32)) + v6).toNatClampNeg) * v3)) (by omega) (by omega)
      refine dz_Tin (by omega) (by omega) ?_
      have e26 := dz_rgat (hr_a269) (i := (v5 + ((a265 ((v4 * (6 : Int32)) + v6).toNatClampNeg) * v3))) (by omega) (by omega)
      have e27 := dz_l0
      refine dz_Teq (fun h28 => ?_) (fun h28 => ?_)
      · skip
        refine dz_Tb (t283_X9_meet_g24 fu hfu _ _ _ _ _ _ p8 (by first | assumption | omega) p10 p11 i12 i13 p12 p13 (by omega) (by omega) p14 (by first | assumption | omega) (dz_rgs (hr_a309) (by omega))) (fun r2 q => ?_)
        obtain ⟨q2_0, q2_1, qa2_2⟩ := q
        obtain ⟨k3, rfl⟩ : ∃ x, k0 = x + 1 := ⟨k0 - 1, by omega⟩
        show dz_T (s284_X9_meetSwapped_3 fu c248_pots c261_many c261_swapsAPot a265 a268 a269 n269 n308 n309 (F284_X9_meetSwapped fu c248_pots c261_many c261_swapsAPot a265 a268 a269 n269 n308 n309 k3).2.1 v1 v2 v3 v4 v5 v6 r2.1 r2.2.1 r2.2.2) _
        unfold s284_X9_meetSwapped_3
        have e29 := dz_l1
        have e30 := dz_add (a := v6) (b := (1 : Int32)) (by omega) (by omega)
        exact (ih k3 (by omega)).2 v1 v2 v3 v4 v5 (v6 + (1 : Int32)) r2.1 r2.2.1 r2.2.2 i0 i1 i2 i3 i4 i5 i6 i7 i8 i9 (by omega) (by omega) q2_0 q2_1 i14 i15 i16 i17 (dz_rgs (qa2_2) (by omega)) (by omega) (by omega)
      · skip
        obtain ⟨k4, rfl⟩ : ∃ x, k0 = x + 1 := ⟨k0 - 1, by omega⟩
        show dz_T (s284_X9_meetSwapped_3 fu c248_pots c261_many c261_swapsAPot a265 a268 a269 n269 n308 n309 (F284_X9_meetSwapped fu c248_pots c261_many c261_swapsAPot a265 a268 a269 n269 n308 n309 k4).2.1 v1 v2 v3 v4 v5 v6 c307_queued a308 a309) _
        unfold s284_X9_meetSwapped_3
        have e31 := dz_l1
        have e32 := dz_add (a := v6) (b := (1 : Int32)) (by omega) (by omega)
        exact (ih k4 (by omega)).2 v1 v2 v3 v4 v5 (v6 + (1 : Int32)) c307_queued a308 a309 i0 i1 i2 i3 i4 i5 i6 i7 i8 i9 (by omega) (by omega) i12 i13 i14 i15 i16 i17 (dz_rgs (hr_a309) (by omega)) (by omega) (by omega)
  · skip
    refine dz_Tle (fun h33 => ?_) (fun h33 => ?_)
    · skip
      have e34 := dz_l1
      have e35 := dz_add (a := v2) (b := (1 : Int32)) (by omega) (by omega)
      exact (ih k0 (by omega)).1 v1 (v2 + (1 : Int32)) c307_queued a308 a309 i0 i1 (by omega) (by omega) i12 i13 (dz_rgs (hr_a309) (by omega)) (by omega)
    · skip
      have e36 := dz_l6
      have e37 := dz_mulr (a := v4) (b := (6 : Int32)) 6 (by omega) (by omega) (by omega)
      have e38 := dz_add (a := (v4 * (6 : Int32))) (b := v6) (by omega) (by omega)
      refine dz_Tin (by omega) (by omega) ?_
      have e39 := dz_rtat (hr_a265) (x := v4) (y := v6) (by omega) (by omega) (by omega) (by omega) (by omega)
      have e40 := dz_mulr (a := (a265 ((v4 * (6 : Int32)) + v6).toNatClampNeg)) (b := v3) 2 (by omega) (by omega) (by omega)
      have e41 := dz_add (a := v5) (b := ((a265 ((v4 * (6 : Int32)) + v6).toNatClampNeg) * v3)) (by omega) (by omega)
      refine dz_Tin (by omega) (by omega) ?_
      have e42 := dz_rgat (hr_a269) (i := (v5 + ((a265 ((v4 * (6 : Int32)) + v6).toNatClampNeg) * v3))) (by omega) (by omega)
      have e43 := dz_l0
      refine dz_Teq (fun h44 => ?_) (fun h44 => ?_)
      · skip
        refine dz_Tb (t283_X9_meet_g24 fu hfu _ _ _ _ _ _ p8 (by first | assumption | omega) p10 p11 i12 i13 p12 p13 (by omega) (by omega) p14 (by first | assumption | omega) (dz_rgs (hr_a309) (by omega))) (fun r3 q => ?_)
        obtain ⟨q3_0, q3_1, qa3_2⟩ := q
        obtain ⟨k5, rfl⟩ : ∃ x, k0 = x + 1 := ⟨k0 - 1, by omega⟩
        show dz_T (s284_X9_meetSwapped_3 fu c248_pots c261_many c261_swapsAPot a265 a268 a269 n269 n308 n309 (F284_X9_meetSwapped fu c248_pots c261_many c261_swapsAPot a265 a268 a269 n269 n308 n309 k5).2.1 v1 v2 v3 v4 v5 v6 r3.1 r3.2.1 r3.2.2) _
        unfold s284_X9_meetSwapped_3
        have e45 := dz_l1
        have e46 := dz_add (a := v6) (b := (1 : Int32)) (by omega) (by omega)
        exact (ih k5 (by omega)).2 v1 v2 v3 v4 v5 (v6 + (1 : Int32)) r3.1 r3.2.1 r3.2.2 i0 i1 i2 i3 i4 i5 i6 i7 i8 i9 (by omega) (by omega) q3_0 q3_1 i14 i15 i16 i17 (dz_rgs (qa3_2) (by omega)) (by omega) (by omega)
      · skip
        obtain ⟨k6, rfl⟩ : ∃ x, k0 = x + 1 := ⟨k0 - 1, by omega⟩
        show dz_T (s284_X9_meetSwapped_3 fu c248_pots c261_many c261_swapsAPot a265 a268 a269 n269 n308 n309 (F284_X9_meetSwapped fu c248_pots c261_many c261_swapsAPot a265 a268 a269 n269 n308 n309 k6).2.1 v1 v2 v3 v4 v5 v6 c307_queued a308 a309) _
        unfold s284_X9_meetSwapped_3
        have e47 := dz_l1
        have e48 := dz_add (a := v6) (b := (1 : Int32)) (by omega) (by omega)
        exact (ih k6 (by omega)).2 v1 v2 v3 v4 v5 (v6 + (1 : Int32)) c307_queued a308 a309 i0 i1 i2 i3 i4 i5 i6 i7 i8 i9 (by omega) (by omega) i12 i13 i14 i15 i16 i17 (dz_rgs (hr_a309) (by omega)) (by omega) (by omega)
  · skip
    refine dz_Tle (fun h49 => ?_) (fun h49 => ?_)
    · skip
      have e50 := dz_l1
      have e51 := dz_add (a := v2) (b := (1 : Int32)) (by omega) (by omega)
      exact (ih k0 (by omega)).1 v1 (v2 + (1 : Int32)) c307_queued a308 a309 i0 i1 (by omega) (by omega) i12 i13 (dz_rgs (hr_a309) (by omega)) (by omega)
    · skip
      have e52 := dz_l6
      have e53 := dz_mulr (a := v4) (b := (6 : Int32)) 6 (by omega) (by omega) (by omega)
      have e54 := dz_add (a := (v4 * (6 : Int32))) (b := v6) (by omega) (by omega)
      refine dz_Tin (by omega) (by omega) ?_
      have e55 := dz_rtat (hr_a265) (x := v4) (y := v6) (by omega) (by omega) (by omega) (by omega) (by omega)
      have e56 := dz_mulr (a := (a265 ((v4 * (6 : Int32)) + v6).toNatClampNeg)) (b := v3) 1 (by omega) (by omega) (by omega)
      have e57 := dz_add (a := v5) (b := ((a265 ((v4 * (6 : Int32)) + v6).toNatClampNeg) * v3)) (by omega) (by omega)
      refine dz_Tin (by omega) (by omega) ?_
      have e58 := dz_rgat (hr_a269) (i := (v5 + ((a265 ((v4 * (6 : Int32)) + v6).toNatClampNeg) * v3))) (by omega) (by omega)
      have e59 := dz_l0
      refine dz_Teq (fun h60 => ?_) (fun h60 => ?_)
      · skip
        refine dz_Tb (t283_X9_meet_g24 fu hfu _ _ _ _ _ _ p8 (by first | assumption | omega) p10 p11 i12 i13 p12 p13 (by omega) (by omega) p14 (by first | assumption | omega) (dz_rgs (hr_a309) (by omega))) (fun r4 q => ?_)
        obtain ⟨q4_0, q4_1, qa4_2⟩ := q
        obtain ⟨k7, rfl⟩ : ∃ x, k0 = x + 1 := ⟨k0 - 1, by omega⟩
        show dz_T (s284_X9_meetSwapped_3 fu c248_pots c261_many c261_swapsAPot a265 a268 a269 n269 n308 n309 (F284_X9_meetSwapped fu c248_pots c261_many c261_swapsAPot a265 a268 a269 n269 n308 n309 k7).2.1 v1 v2 v3 v4 v5 v6 r4.1 r4.2.1 r4.2.2) _
        unfold s284_X9_meetSwapped_3
        have e61 := dz_l1
        have e62 := dz_add (a := v6) (b := (1 : Int32)) (by omega) (by omega)
        exact (ih k7 (by omega)).2 v1 v2 v3 v4 v5 (v6 + (1 : Int32)) r4.1 r4.2.1 r4.2.2 i0 i1 i2 i3 i4 i5 i6 i7 i8 i9 (by omega) (by omega) q4_0 q4_1 i14 i15 i16 i17 (dz_rgs (qa4_2) (by omega)) (by omega) (by omega)
      · skip
        obtain ⟨k8, rfl⟩ : ∃ x, k0 = x + 1 := ⟨k0 - 1, by omega⟩
        show dz_T (s284_X9_meetSwapped_3 fu c248_pots c261_many c261_swapsAPot a265 a268 a269 n269 n308 n309 (F284_X9_meetSwapped fu c248_pots c261_many c261_swapsAPot a265 a268 a269 n269 n308 n309 k8).2.1 v1 v2 v3 v4 v5 v6 c307_queued a308 a309) _
        unfold s284_X9_meetSwapped_3
        have e63 := dz_l1
        have e64 := dz_add (a := v6) (b := (1 : Int32)) (by omega) (by omega)
        exact (ih k8 (by omega)).2 v1 v2 v3 v4 v5 (v6 + (1 : Int32)) c307_queued a308 a309 i0 i1 i2 i3 i4 i5 i6 i7 i8 i9 (by omega) (by omega) i12 i13 i14 i15 i16 i17 (dz_rgs (hr_a309) (by omega)) (by omega) (by omega)
theorem t284_X9_meetSwapped_I_g24 (fu : Nat) (hfu : 1000000000000 ≤ fu) (c248_pots : Int32) (c261_many : Int32) (c261_swapsAPot : Int32) (a265 : Nat → Int32) (a268 : Nat → Int32) (a269 : Nat → Int32) (n269 : Nat) (n308 : Nat) (n309 : Nat) (p0 : c248_pots.toInt ≤ 4) (p1 : 4 ≤ c248_pots.toInt) (p2 : c261_many.toInt ≤ 2) (p3 : 2 ≤ c261_many.toInt) (p4 : c261_swapsAPot.toInt ≤ 1) (p5 : 1 ≤ c261_swapsAPot.toInt) (p6 : ((n269 : Nat) : Int) ≤ 13824) (p7 : 1 ≤ ((n269 : Nat) : Int)) (p8 : ((n308 : Nat) : Int) ≤ 13824) (p9 : 1 ≤ ((n308 : Nat) : Int)) (p10 : ((n309 : Nat) : Int) ≤ 13824) (p11 : 1 ≤ ((n309 : Nat) : Int)) (p12 : ((n308 : Nat) : Int) ≤ ((n309 : Nat) : Int)) (p13 : ((n309 : Nat) : Int) ≤ ((n308 : Nat) : Int)) (p14 : 16 ≤ ((n308 : Nat) : Int)) (p15 : 16 ≤ ((n269 : Nat) : Int)) (hr_a265 : dz_rt a265 2 1 0 1) (hr_a268 : dz_pt a268 [8, 4, 2, 1]) (hr_a269 : dz_rg a269 n269 0 1023) (k : Nat) : p284_X9_meetSwapped_g24 fu c248_pots c261_many c261_swapsAPot a265 a268 a269 n269 n308 n309 k := by
  induction k using Nat.strongRecOn with
  | _ k ih => exact ⟨t284_X9_meetSwapped_h1_g24 fu hfu c248_pots c261_many c261_swapsAPot a265 a268 a269 n269 n308 n309 p0 p1 p2 p3 p4 p5 p6 p7 p8 p9 p10 p11 p12 p13 p14 p15 hr_a265 hr_a268 hr_a269 k ih, t284_X9_meetSwapped_h2_g24 fu hfu c248_pots c261_many c261_swapsAPot a265 a268 a269 n269 n308 n309 p0 p1 p2 p3 p4 p5 p6 p7 p8 p9 p10 p11 p12 p13 p14 p15 hr_a265 hr_a268 hr_a269 k ih⟩
set_option maxHeartbeats 1000000 in
set_option maxRecDepth 10000 in
theorem t284_X9_meetSwapped_E_g24 (fu : Nat) (hfu : 1000000000000 ≤ fu) (c248_pots : Int32) (c261_many : Int32) (c261_swapsAPot : Int32) (a265 : Nat → Int32) (a268 : Nat → Int32) (a269 : Nat → Int32) (n269 : Nat) (n308 : Nat) (n309 : Nat) (v1 : Int32) (c307_queued : Int32) (a308 : Nat → Int32) (a309 : Nat → Int32) (p0 : c248_pots.toInt ≤ 4) (p1 : 4 ≤ c248_pots.toInt) (p2 : c261_many.toInt ≤ 2) (p3 : 2 ≤ c261_many.toInt) (p4 : c261_swapsAPot.toInt ≤ 1) (p5 : 1 ≤ c261_swapsAPot.toInt) (p6 : ((n269 : Nat) : Int) ≤ 13824) (p7 : 1 ≤ ((n269 : Nat) : Int)) (p8 : ((n308 : Nat) : Int) ≤ 13824) (p9 : 1 ≤ ((n308 : Nat) : Int)) (p10 : ((n309 : Nat) : Int) ≤ 13824) (p11 : 1 ≤ ((n309 : Nat) : Int)) (p12 : c307_queued.toInt ≤ 13824) (p13 : 0 ≤ c307_queued.toInt) (p14 : ((n308 : Nat) : Int) ≤ ((n309 : Nat) : Int)) (p15 : ((n309 : Nat) : Int) ≤ ((n308 : Nat) : Int)) (p16 : 0 ≤ v1.toInt) (p17 : v1.toInt ≤ 15) (p18 : 16 ≤ ((n308 : Nat) : Int)) (p19 : 16 ≤ ((n269 : Nat) : Int)) (hr_a265 : dz_rt a265 2 1 0 1) (hr_a268 : dz_pt a268 [8, 4, 2, 1]) (hr_a269 : dz_rg a269 n269 0 1023) (hr_a309 : dz_rg a309 c307_queued.toInt.toNat 0 15) (kv : Nat) (hkv : 1000000000000 ≤ kv) : dz_T (s284_X9_meetSwapped_0 fu c248_pots c261_many c261_swapsAPot a265 a268 a269 n269 n308 n309 (F284_X9_meetSwapped fu c248_pots c261_many c261_swapsAPot a265 a268 a269 n269 n308 n309 kv).1  v1 c307_queued a308 a309) (fun r => r.1.toInt ≤ 13824 ∧ 0 ≤ r.1.toInt ∧ dz_rg r.2.2 r.1.toInt.toNat 0 15) := by
  unfold s284_X9_meetSwapped_0
  have e1 := dz_l0
  exact (t284_X9_meetSwapped_I_g24 fu hfu c248_pots c261_many c261_swapsAPot a265 a268 a269 n269 n308 n309 p0 p1 p2 p3 p4 p5 p6 p7 p8 p9 p10 p11 p14 p15 p18 p19 hr_a265 hr_a268 hr_a269 kv).1 v1 (0 : Int32) c307_queued a308 a309 p17 p16 (by omega) (by omega) p12 p13 (dz_rgs (hr_a309) (by omega)) (by omega)
theorem t284_X9_meetSwapped_g24 (fu : Nat) (hfu : 1000000000000 ≤ fu) (c248_pots : Int32) (c261_many : Int32) (c261_swapsAPot : Int32) (a265 : Nat → Int32) (a268 : Nat → Int32) (a269 : Nat → Int32) (n269 : Nat) (n308 : Nat) (n309 : Nat) (v1 : Int32) (c307_queued : Int32) (a308 : Nat → Int32) (a309 : Nat → Int32) (p0 : c248_pots.toInt ≤ 4) (p1 : 4 ≤ c248_pots.toInt) (p2 : c261_many.toInt ≤ 2) (p3 : 2 ≤ c261_many.toInt) (p4 : c261_swapsAPot.toInt ≤ 1) (p5 : 1 ≤ c261_swapsAPot.toInt) (p6 : ((n269 : Nat) : Int) ≤ 13824) (p7 : 1 ≤ ((n269 : Nat) : Int)) (p8 : ((n308 : Nat) : Int) ≤ 13824) (p9 : 1 ≤ ((n308 : Nat) : Int)) (p10 : ((n309 : Nat) : Int) ≤ 13824) (p11 : 1 ≤ ((n309 : Nat) : Int)) (p12 : c307_queued.toInt ≤ 13824) (p13 : 0 ≤ c307_queued.toInt) (p14 : ((n308 : Nat) : Int) ≤ ((n309 : Nat) : Int)) (p15 : ((n309 : Nat) : Int) ≤ ((n308 : Nat) : Int)) (p16 : 0 ≤ v1.toInt) (p17 : v1.toInt ≤ 15) (p18 : 16 ≤ ((n308 : Nat) : Int)) (p19 : 16 ≤ ((n269 : Nat) : Int)) (hr_a265 : dz_rt a265 2 1 0 1) (hr_a268 : dz_pt a268 [8, 4, 2, 1]) (hr_a269 : dz_rg a269 n269 0 1023) (hr_a309 : dz_rg a309 c307_queued.toInt.toNat 0 15) : dz_T (f284_X9_meetSwapped fu c248_pots c261_many c261_swapsAPot a265 a268 a269 n269 n308 n309 v1 c307_queued a308 a309) (fun r => r.1.toInt ≤ 13824 ∧ 0 ≤ r.1.toInt ∧ dz_rg r.2.2 r.1.toInt.toNat 0 15) :=
  t284_X9_meetSwapped_E_g24 fu hfu c248_pots c261_many c261_swapsAPot a265 a268 a269 n269 n308 n309 v1 c307_queued a308 a309 p0 p1 p2 p3 p4 p5 p6 p7 p8 p9 p10 p11 p12 p13 p14 p15 p16 p17 p18 p19 hr_a265 hr_a268 hr_a269 hr_a309 fu hfu
abbrev p284_X9_meetSwapped_g30 (fu : Nat) (c248_pots : Int32) (c261_many : Int32) (c261_swapsAPot : Int32) (a265 : Nat → Int32) (a268 : Nat → Int32) (a269 : Nat → Int32) (n269 : Nat) (n308 : Nat) (n309 : Nat) (k : Nat) : Prop :=
  (∀ (v1 : Int32) (v2 : Int32) (c307_queued : Int32) (a308 : Nat → Int32) (a309 : Nat → Int32), v1.toInt ≤ 0 → 0 ≤ v1.toInt → v2.toInt ≤ 0 → 0 ≤ v2.toInt → c307_queued.toInt ≤ 13824 → 0 ≤ c307_queued.toInt → dz_rg a309 c307_queued.toInt.toNat 0 0 → 0 + 0 + (0 - v2.toInt) * 42 + 7 ≤ ((k : Nat) : Int) → dz_T ((F284_X9_meetSwapped fu c248_pots c261_many c261_swapsAPot a265 a268 a269 n269 n308 n309 k).1 v1 v2 c307_queued a308 a309) (fun r => r.1.toInt ≤ 13824 ∧ 0 ≤ r.1.toInt ∧ dz_rg r.2.2 r.1.toInt.toNat 0 0))
set_option maxHeartbeats 1000000 in
set_option maxRecDepth 10000 in
theorem t284_X9_meetSwapped_h1_g30 (fu : Nat) (hfu : 1000000000000 ≤ fu) (c248_pots : Int32) (c261_many : Int32) (c261_swapsAPot : Int32) (a265 : Nat → Int32) (a268 : Nat → Int32) (a269 : Nat → Int32) (n269 : Nat) (n308 : Nat) (n309 : Nat) (p0 : c248_pots.toInt ≤ 0) (p1 : 0 ≤ c248_pots.toInt) (p2 : c261_many.toInt ≤ 6) (p3 : 6 ≤ c261_many.toInt) (p4 : c261_swapsAPot.toInt ≤ 3) (p5 : 3 ≤ c261_swapsAPot.toInt) (p6 : ((n269 : Nat) : Int) ≤ 13824) (p7 : 1 ≤ ((n269 : Nat) : Int)) (p8 : ((n308 : Nat) : Int) ≤ 13824) (p9 : 1 ≤ ((n308 : Nat) : Int)) (p10 : ((n309 : Nat) : Int) ≤ 13824) (p11 : 1 ≤ ((n309 : Nat) : Int)) (p12 : ((n308 : Nat) : Int) ≤ ((n309 : Nat) : Int)) (p13 : ((n309 : Nat) : Int) ≤ ((n308 : Nat) : Int)) (p14 : 1 ≤ ((n308 : Nat) : Int)) (p15 : 1 ≤ ((n269 : Nat) : Int)) (hr_a265 : dz_rt a265 6 3 0 5) (hr_a269 : dz_rg a269 n269 0 1023) (k : Nat) (ih : ∀ j9, j9 < k → p284_X9_meetSwapped_g30 fu c248_pots c261_many c261_swapsAPot a265 a268 a269 n269 n308 n309 j9) : ∀ (v1 : Int32) (v2 : Int32) (c307_queued : Int32) (a308 : Nat → Int32) (a309 : Nat → Int32), v1.toInt ≤ 0 → 0 ≤ v1.toInt → v2.toInt ≤ 0 → 0 ≤ v2.toInt → c307_queued.toInt ≤ 13824 → 0 ≤ c307_queued.toInt → dz_rg a309 c307_queued.toInt.toNat 0 0 → 0 + 0 + (0 - v2.toInt) * 42 + 7 ≤ ((k : Nat) : Int) → dz_T ((F284_X9_meetSwapped fu c248_pots c261_many c261_swapsAPot a265 a268 a269 n269 n308 n309 k).1 v1 v2 c307_queued a308 a309) (fun r => r.1.toInt ≤ 13824 ∧ 0 ≤ r.1.toInt ∧ dz_rg r.2.2 r.1.toInt.toNat 0 0) := by
  intro v1 v2 c307_queued a308 a309 i0 i1 i2 i3 i4 i5 hr_a309 hm
  obtain ⟨k0, rfl⟩ : ∃ x, k = x + 1 := ⟨k - 1, by omega⟩
  show dz_T (s284_X9_meetSwapped_1 fu c248_pots c261_many c261_swapsAPot a265 a268 a269 n269 n308 n309 (F284_X9_meetSwapped fu c248_pots c261_many c261_swapsAPot a265 a268 a269 n269 n308 n309 k0).2.1  v1 v2 c307_queued a308 a309) _
  unfold s284_X9_meetSwapped_1
  refine dz_Tle (fun h1 => ?_) (fun h1 => ?_)
  · skip
    refine dz_Ts ?_
    dsimp only
    exact ⟨i4, i5, (dz_rgs (hr_a309) (by omega))⟩
  · skip
    exfalso; omega
theorem t284_X9_meetSwapped_I_g30 (fu : Nat) (hfu : 1000000000000 ≤ fu) (c248_pots : Int32) (c261_many : Int32) (c261_swapsAPot : Int32) (a265 : Nat → Int32) (a268 : Nat → Int32) (a269 : Nat → Int32) (n269 : Nat) (n308 : Nat) (n309 : Nat) (p0 : c248_pots.toInt ≤ 0) (p1 : 0 ≤ c248_pots.toInt) (p2 : c261_many.toInt ≤ 6) (p3 : 6 ≤ c261_many.toInt) (p4 : c261_swapsAPot.toInt ≤ 3) (p5 : 3 ≤ c261_swapsAPot.toInt) (p6 : ((n269 : Nat) : Int) ≤ 13824) (p7 : 1 ≤ ((n269 : Nat) : Int)) (p8 : ((n308 : Nat) : Int) ≤ 13824) (p9 : 1 ≤ ((n308 : Nat) : Int)) (p10 : ((n309 : Nat) : Int) ≤ 13824) (p11 : 1 ≤ ((n309 : Nat) : Int)) (p12 : ((n308 : Nat) : Int) ≤ ((n309 : Nat) : Int)) (p13 : ((n309 : Nat) : Int) ≤ ((n308 : Nat) : Int)) (p14 : 1 ≤ ((n308 : Nat) : Int)) (p15 : 1 ≤ ((n269 : Nat) : Int)) (hr_a265 : dz_rt a265 6 3 0 5) (hr_a269 : dz_rg a269 n269 0 1023) (k : Nat) : p284_X9_meetSwapped_g30 fu c248_pots c261_many c261_swapsAPot a265 a268 a269 n269 n308 n309 k := by
  induction k using Nat.strongRecOn with
  | _ k ih => exact t284_X9_meetSwapped_h1_g30 fu hfu c248_pots c261_many c261_swapsAPot a265 a268 a269 n269 n308 n309 p0 p1 p2 p3 p4 p5 p6 p7 p8 p9 p10 p11 p12 p13 p14 p15 hr_a265 hr_a269 k ih
set_option maxHeartbeats 1000000 in
set_option maxRecDepth 10000 in
theorem t284_X9_meetSwapped_E_g30 (fu : Nat) (hfu : 1000000000000 ≤ fu) (c248_pots : Int32) (c261_many : Int32) (c261_swapsAPot : Int32) (a265 : Nat → Int32) (a268 : Nat → Int32) (a269 : Nat → Int32) (n269 : Nat) (n308 : Nat) (n309 : Nat) (v1 : Int32) (c307_queued : Int32) (a308 : Nat → Int32) (a309 : Nat → Int32) (p0 : c248_pots.toInt ≤ 0) (p1 : 0 ≤ c248_pots.toInt) (p2 : c261_many.toInt ≤ 6) (p3 : 6 ≤ c261_many.toInt) (p4 : c261_swapsAPot.toInt ≤ 3) (p5 : 3 ≤ c261_swapsAPot.toInt) (p6 : ((n269 : Nat) : Int) ≤ 13824) (p7 : 1 ≤ ((n269 : Nat) : Int)) (p8 : ((n308 : Nat) : Int) ≤ 13824) (p9 : 1 ≤ ((n308 : Nat) : Int)) (p10 : ((n309 : Nat) : Int) ≤ 13824) (p11 : 1 ≤ ((n309 : Nat) : Int)) (p12 : c307_queued.toInt ≤ 13824) (p13 : 0 ≤ c307_queued.toInt) (p14 : ((n308 : Nat) : Int) ≤ ((n309 : Nat) : Int)) (p15 : ((n309 : Nat) : Int) ≤ ((n308 : Nat) : Int)) (p16 : 0 ≤ v1.toInt) (p17 : v1.toInt ≤ 0) (p18 : 1 ≤ ((n308 : Nat) : Int)) (p19 : 1 ≤ ((n269 : Nat) : Int)) (hr_a265 : dz_rt a265 6 3 0 5) (hr_a269 : dz_rg a269 n269 0 1023) (hr_a309 : dz_rg a309 c307_queued.toInt.toNat 0 0) (kv : Nat) (hkv : 1000000000000 ≤ kv) : dz_T (s284_X9_meetSwapped_0 fu c248_pots c261_many c261_swapsAPot a265 a268 a269 n269 n308 n309 (F284_X9_meetSwapped fu c248_pots c261_many c261_swapsAPot a265 a268 a269 n269 n308 n309 kv).1  v1 c307_queued a308 a309) (fun r => r.1.toInt ≤ 13824 ∧ 0 ≤ r.1.toInt ∧ dz_rg r.2.2 r.1.toInt.toNat 0 0) := by
  unfold s284_X9_meetSwapped_0
  have e1 := dz_l0
  exact (t284_X9_meetSwapped_I_g30 fu hfu c248_pots c261_many c261_swapsAPot a265 a268 a269 n269 n308 n309 p0 p1 p2 p3 p4 p5 p6 p7 p8 p9 p10 p11 p14 p15 p18 p19 hr_a265 hr_a269 kv) v1 (0 : Int32) c307_queued a308 a309 p17 p16 (by omega) (by omega) p12 p13 (dz_rgs (hr_a309) (by omega)) (by omega)
theorem t284_X9_meetSwapped_g30 (fu : Nat) (hfu : 1000000000000 ≤ fu) (c248_pots : Int32) (c261_many : Int32) (c261_swapsAPot : Int32) (a265 : Nat → Int32) (a268 : Nat → Int32) (a269 : Nat → Int32) (n269 : Nat) (n308 : Nat) (n309 : Nat) (v1 : Int32) (c307_queued : Int32) (a308 : Nat → Int32) (a309 : Nat → Int32) (p0 : c248_pots.toInt ≤ 0) (p1 : 0 ≤ c248_pots.toInt) (p2 : c261_many.toInt ≤ 6) (p3 : 6 ≤ c261_many.toInt) (p4 : c261_swapsAPot.toInt ≤ 3) (p5 : 3 ≤ c261_swapsAPot.toInt) (p6 : ((n269 : Nat) : Int) ≤ 13824) (p7 : 1 ≤ ((n269 : Nat) : Int)) (p8 : ((n308 : Nat) : Int) ≤ 13824) (p9 : 1 ≤ ((n308 : Nat) : Int)) (p10 : ((n309 : Nat) : Int) ≤ 13824) (p11 : 1 ≤ ((n309 : Nat) : Int)) (p12 : c307_queued.toInt ≤ 13824) (p13 : 0 ≤ c307_queued.toInt) (p14 : ((n308 : Nat) : Int) ≤ ((n309 : Nat) : Int)) (p15 : ((n309 : Nat) : Int) ≤ ((n308 : Nat) : Int)) (p16 : 0 ≤ v1.toInt) (p17 : v1.toInt ≤ 0) (p18 : 1 ≤ ((n308 : Nat) : Int)) (p19 : 1 ≤ ((n269 : Nat) : Int)) (hr_a265 : dz_rt a265 6 3 0 5) (hr_a269 : dz_rg a269 n269 0 1023) (hr_a309 : dz_rg a309 c307_queued.toInt.toNat 0 0) : dz_T (f284_X9_meetSwapped fu c248_pots c261_many c261_swapsAPot a265 a268 a269 n269 n308 n309 v1 c307_queued a308 a309) (fun r => r.1.toInt ≤ 13824 ∧ 0 ≤ r.1.toInt ∧ dz_rg r.2.2 r.1.toInt.toNat 0 0) :=
  t284_X9_meetSwapped_E_g30 fu hfu c248_pots c261_many c261_swapsAPot a265 a268 a269 n269 n308 n309 v1 c307_queued a308 a309 p0 p1 p2 p3 p4 p5 p6 p7 p8 p9 p10 p11 p12 p13 p14 p15 p16 p17 p18 p19 hr_a265 hr_a269 hr_a309 fu hfu
abbrev p284_X9_meetSwapped_g31 (fu : Nat) (c248_pots : Int32) (c261_many : Int32) (c261_swapsAPot : Int32) (a265 : Nat → Int32) (a268 : Nat → Int32) (a269 : Nat → Int32) (n269 : Nat) (n308 : Nat) (n309 : Nat) (k : Nat) : Prop :=
  (∀ (v1 : Int32) (v2 : Int32) (c307_queued : Int32) (a308 : Nat → Int32) (a309 : Nat → Int32), v1.toInt ≤ 5 → 0 ≤ v1.toInt → v2.toInt ≤ 1 → 0 ≤ v2.toInt → c307_queued.toInt ≤ 13824 → 0 ≤ c307_queued.toInt → dz_rg a309 c307_queued.toInt.toNat 0 5 → 0 + 0 + (1 - v2.toInt) * 84 + 7 ≤ ((k : Nat) : Int) → dz_T ((F284_X9_meetSwapped fu c248_pots c261_many c261_swapsAPot a265 a268 a269 n269 n308 n309 k).1 v1 v2 c307_queued a308 a309) (fun r => r.1.toInt ≤ 13824 ∧ 0 ≤ r.1.toInt ∧ dz_rg r.2.2 r.1.toInt.toNat 0 5)) ∧ (∀ (v1 : Int32) (v2 : Int32) (v3 : Int32) (v4 : Int32) (v5 : Int32) (v6 : Int32) (c307_queued : Int32) (a308 : Nat → Int32) (a309 : Nat → Int32), v1.toInt ≤ 5 → 0 ≤ v1.toInt → v2.toInt ≤ 0 → 0 ≤ v2.toInt → v3.toInt ≤ 1 → 1 ≤ v3.toInt → v4.toInt ≤ 5 → 0 ≤ v4.toInt → v5.toInt ≤ 5 → 0 ≤ v5.toInt → v6.toInt ≤ 3 → 0 ≤ v6.toInt → c307_queued.toInt ≤ 13824 → 0 ≤ c307_queued.toInt → v4.toInt ≤ v1.toInt → v5.toInt ≤ v1.toInt → dz_rg a309 c307_queued.toInt.toNat 0 5 → ((v2.toInt = 0 ∧ v3.toInt = 1 ∧ v4.toInt = v1.toInt % 6 ∧ v5.toInt = v1.toInt - v4.toInt * 1)) → 0 + 0 + ((1 - v2.toInt) - 1) * 84 + 0 + (3 - v6.toInt) * 14 + 14 ≤ ((k : Nat) : Int) → dz_T ((F284_X9_meetSwapped fu c248_pots c261_many c261_swapsAPot a265 a268 a269 n269 n308 n309 k).2.1 v1 v2 v3 v4 v5 v6 c307_queued a308 a309) (fun r => r.1.toInt ≤ 13824 ∧ 0 ≤ r.1.toInt ∧ dz_rg r.2.2 r.1.toInt.toNat 0 5))
set_option maxHeartbeats 1000000 in
set_option maxRecDepth 10000 in
theorem t284_X9_meetSwapped_h1_g31 (fu : Nat) (hfu : 1000000000000 ≤ fu) (c248_pots : Int32) (c261_many : Int32) (c261_swapsAPot : Int32) (a265 : Nat → Int32) (a268 : Nat → Int32) (a269 : Nat → Int32) (n269 : Nat) (n308 : Nat) (n309 : Nat) (p0 : c248_pots.toInt ≤ 1) (p1 : 1 ≤ c248_pots.toInt) (p2 : c261_many.toInt ≤ 6) (p3 : 6 ≤ c261_many.toInt) (p4 : c261_swapsAPot.toInt ≤ 3) (p5 : 3 ≤ c261_swapsAPot.toInt) (p6 : ((n269 : Nat) : Int) ≤ 13824) (p7 : 1 ≤ ((n269 : Nat) : Int)) (p8 : ((n308 : Nat) : Int) ≤ 13824) (p9 : 1 ≤ ((n308 : Nat) : Int)) (p10 : ((n309 : Nat) : Int) ≤ 13824) (p11 : 1 ≤ ((n309 : Nat) : Int)) (p12 : ((n308 : Nat) : Int) ≤ ((n309 : Nat) : Int)) (p13 : ((n309 : Nat) : Int) ≤ ((n308 : Nat) : Int)) (p14 : 6 ≤ ((n308 : Nat) : Int)) (p15 : 6 ≤ ((n269 : Nat) : Int)) (hr_a265 : dz_rt a265 6 3 0 5) (hr_a268 : dz_pt a268 [1]) (hr_a269 : dz_rg a269 n269 0 1023) (k : Nat) (ih : ∀ j9, j9 < k → p284_X9_meetSwapped_g31 fu c248_pots c261_many c261_swapsAPot a265 a268 a269 n269 n308 n309 j9) : ∀ (v1 : Int32) (v2 : Int32) (c307_queued : Int32) (a308 : Nat → Int32) (a309 : Nat → Int32), v1.toInt ≤ 5 → 0 ≤ v1.toInt → v2.toInt ≤ 1 → 0 ≤ v2.toInt → c307_queued.toInt ≤ 13824 → 0 ≤ c307_queued.toInt → dz_rg a309 c307_queued.toInt.toNat 0 5 → 0 + 0 + (1 - v2.toInt) * 84 + 7 ≤ ((k : Nat) : Int) → dz_T ((F284_X9_meetSwapped fu c248_pots c261_many c261_swapsAPot a265 a268 a269 n269 n308 n309 k).1 v1 v2 c307_queued a308 a309) (fun r => r.1.toInt ≤ 13824 ∧ 0 ≤ r.1.toInt ∧ dz_rg r.2.2 r.1.toInt.toNat 0 5) := by
  intro v1 v2 c307_queued a308 a309 i0 i1 i2 i3 i4 i5 hr_a309 hm
  obtain ⟨k0, rfl⟩ : ∃ x, k = x + 1 := ⟨k - 1, by omega⟩
  show dz_T (s284_X9_meetSwapped_1 fu c248_pots c261_many c261_swapsAPot a265 a268 a269 n269 n308 n309 (F284_X9_meetSwapped fu c248_pots c261_many c261_swapsAPot a265 a268 a269 n269 n308 n309 k0).2.1  v1 v2 c307_queued a308 a309) _
  unfold s284_X9_meetSwapped_1
  rcases (show v2.toInt = 0 ∨ v2.toInt = 1 by omega) with hs | hs
  · skip
    refine dz_Tle (fun h1 => ?_) (fun h1 => ?_)
    · skip
      exfalso; omega
    · skip
      refine dz_Tin (by omega) (by omega) ?_
      refine dz_Tbe (show f141_X2_rankIn fu c261_many a268 v1 v2 = (if dz_in v2 4 then (if ((a268 v2.toNatClampNeg) ≤ (0 : Int32)) then (some (0 : Int32)) else (if (c261_many ≤ (0 : Int32)) then (some (0 : Int32)) else (if (¬ ((a268 v2.toNatClampNeg) = (0 : Int32))) then (if (¬ (c261_many = (0 : Int32))) then (some (dz_rem (v1 / (a268 v2.toNatClampNeg)) c261_many)) else none) else none))) else none) from rfl) ?_
      refine dz_Tinb (by omega) (by omega) ?_
      have e2 := dz_ptat (hr_a268) (i := v2) (x := 1) 0 (by omega) (by decide)
      have e3 := dz_l0
      refine dz_Tleb (fun h4 => ?_) (fun h4 => ?_)
      · skip
        exfalso; omega
      · skip
        refine dz_Tleb (fun h5 => ?_) (fun h5 => ?_)
        · skip
          exfalso; omega
        · skip
          refine dz_Tzb (by omega) ?_
          refine dz_Tzb (by omega) ?_
          refine dz_Tsb ?_
          have e6 := dz_div1 (a := v1) (b := (a268 v2.toNatClampNeg)) (by omega) (by omega)
          have e7 := dz_remn (a := (v1 / (a268 v2.toNatClampNeg))) (b := c261_many) 6 (by omega) (by omega) (by omega)
          have e8 := dz_mulr (a := (dz_rem (v1 / (a268 v2.toNatClampNeg)) c261_many)) (b := (a268 v2.toNatClampNeg)) 1 (by omega) (by omega) (by omega)
          have e9 := dz_sub (a := v1) (b := ((dz_rem (v1 / (a268 v2.toNatClampNeg)) c261_many) * (a268 v2.toNatClampNeg))) (by omega) (by omega)
          exact (ih k0 (by omega)).2 v1 v2 (a268 v2.toNatClampNeg) (dz_rem (v1 / (a268 v2.toNatClampNeg)) c261_many) (v1 - ((dz_rem (v1 / (a268 v2.toNatClampNeg)) c261_many) * (a268 v2.toNatClampNeg))) (0 : Int32) c307_queued a308 a309 i0 i1 (by first | assumption | omega) i3 (by omega) (by omega) (by omega) (by omega) (by omega) (by omega) (by omega) (by omega) i4 i5 (by omega) (by omega) (dz_rgs (hr_a309) (by omega)) (by omega) (by omega)
  · skip
    refine dz_Tle (fun h10 => ?_) (fun h10 => ?_)
    · skip
      refine dz_Ts ?_
      dsimp only
      exact ⟨i4, i5, (dz_rgs (hr_a309) (by omega))⟩
    · skip
      exfalso; omega
set_option maxHeartbeats 1000000 in
set_option maxRecDepth 10000 in
theorem t284_X9_meetSwapped_h2_g31 (fu : Nat) (hfu : 1000000000000 ≤ fu) (c248_pots : Int32) (c261_many : Int32) (c261_swapsAPot : Int32) (a265 : Nat → Int32) (a268 : Nat → Int32) (a269 : Nat → Int32) (n269 : Nat) (n308 : Nat) (n309 : Nat) (p0 : c248_pots.toInt ≤ 1) (p1 : 1 ≤ c248_pots.toInt) (p2 : c261_many.toInt ≤ 6) (p3 : 6 ≤ c261_many.toInt) (p4 : c261_swapsAPot.toInt ≤ 3) (p5 : 3 ≤ c261_swapsAPot.toInt) (p6 : ((n269 : Nat) : Int) ≤ 13824) (p7 : 1 ≤ ((n269 : Nat) : Int)) (p8 : ((n308 : Nat) : Int) ≤ 13824) (p9 : 1 ≤ ((n308 : Nat) : Int)) (p10 : ((n309 : Nat) : Int) ≤ 13824) (p11 : 1 ≤ ((n309 : Nat) : Int)) (p12 : ((n308 : Nat) : Int) ≤ ((n309 : Nat) : Int)) (p13 : ((n309 : Nat) : Int) ≤ ((n308 : Nat) : Int)) (p14 : 6 ≤ ((n308 : Nat) : Int)) (p15 : 6 ≤ ((n269 : Nat) : Int)) (hr_a265 : dz_rt a265 6 3 0 5) (hr_a268 : dz_pt a268 [1]) (hr_a269 : dz_rg a269 n269 0 1023) (k : Nat) (ih : ∀ j9, j9 < k → p284_X9_meetSwapped_g31 fu c248_pots c261_many c261_swapsAPot a265 a268 a269 n269 n308 n309 j9) : ∀ (v1 : Int32) (v2 : Int32) (v3 : Int32) (v4 : Int32) (v5 : Int32) (v6 : Int32) (c307_queued : Int32) (a308 : Nat → Int32) (a309 : Nat → Int32), v1.toInt ≤ 5 → 0 ≤ v1.toInt → v2.toInt ≤ 0 → 0 ≤ v2.toInt → v3.toInt ≤ 1 → 1 ≤ v3.toInt → v4.toInt ≤ 5 → 0 ≤ v4.toInt → v5.toInt ≤ 5 → 0 ≤ v5.toInt → v6.toInt ≤ 3 → 0 ≤ v6.toInt → c307_queued.toInt ≤ 13824 → 0 ≤ c307_queued.toInt → v4.toInt ≤ v1.toInt → v5.toInt ≤ v1.toInt → dz_rg a309 c307_queued.toInt.toNat 0 5 → ((v2.toInt = 0 ∧ v3.toInt = 1 ∧ v4.toInt = v1.toInt % 6 ∧ v5.toInt = v1.toInt - v4.toInt * 1)) → 0 + 0 + ((1 - v2.toInt) - 1) * 84 + 0 + (3 - v6.toInt) * 14 + 14 ≤ ((k : Nat) : Int) → dz_T ((F284_X9_meetSwapped fu c248_pots c261_many c261_swapsAPot a265 a268 a269 n269 n308 n309 k).2.1 v1 v2 v3 v4 v5 v6 c307_queued a308 a309) (fun r => r.1.toInt ≤ 13824 ∧ 0 ≤ r.1.toInt ∧ dz_rg r.2.2 r.1.toInt.toNat 0 5) := by
  intro v1 v2 v3 v4 v5 v6 c307_queued a308 a309 i0 i1 i2 i3 i4 i5 i6 i7 i8 i9 i10 i11 i12 i13 i14 i15 hr_a309 x0 hm
  obtain ⟨k0, rfl⟩ : ∃ x, k = x + 1 := ⟨k - 1, by omega⟩
  show dz_T (s284_X9_meetSwapped_2 fu c248_pots c261_many c261_swapsAPot a265 a268 a269 n269 n308 n309 (F284_X9_meetSwapped fu c248_pots c261_many c261_swapsAPot a265 a268 a269 n269 n308 n309 k0).1 (F284_X9_meetSwapped fu c248_pots c261_many c261_swapsAPot a265 a268 a269 n269 n308 n309 k0).2.2  v1 v2 v3 v4 v5 v6 c307_queued a308 a309) _
  unfold s284_X9_meetSwapped_2
  have hs : v2.toInt = 0 := by omega
  refine dz_Tle (fun h1 => ?_) (fun h1 => ?_)
  · skip
    have e2 := dz_l1
    have e3 := dz_add (a := v2) (b := (1 : Int32)) (by omega) (by omega)
    exact (ih k0 (by omega)).1 v1 (v2 + (1 : Int32)) c307_queued a308 a309 i0 i1 (by omega) (by omega) i12 i13 (dz_rgs (hr_a309) (by omega)) (by omega)
  · skip
    have e4 := dz_l6
    have e5 := dz_mulr (a := v4) (b := (6 : Int32)) 6 (by omega) (by omega) (by omega)
    have e6 := dz_add (a := (v4 * (6 : Int32))) (b := v6) (by omega) (by omega)
    refine dz_Tin (by omega) (by omega) ?_
    have e7 := dz_rtat (hr_a265) (x := v4) (y := v6) (by omega) (by omega) (by omega) (by omega) (by omega)
    have e8 := dz_mulr (a := (a265 ((v4 * (6 : Int32)) + v6).toNatClampNeg)) (b := v3) 1 (by omega) (by omega) (by omega)
    have e9 := dz_add (a := v5) (b := ((a265 ((v4 * (6 : Int32)) + v6).toNatClampNeg) * v3)) (by omega) (by omega)
    refine dz_Tin (by omega) (by omega) ?_
    have e10 := dz_rgat (hr_a269) (i := (v5 + ((a265 ((v4 * (6 : Int32)) + v6).toNatClampNeg) * v3))) (by omega) (by omega)
    have e11 := dz_l0
    refine dz_Teq (fun h12 => ?_) (fun h12 => ?_)
    · skip
      refine dz_Tb (t283_X9_meet_g31 fu hfu _ _ _ _ _ _ p8 (by first | assumption | omega) p10 p11 i12 i13 p12 p13 (by omega) (by omega) p14 (by first | assumption | omega) (dz_rgs (hr_a309) (by omega))) (fun r1 q => ?_)
      obtain ⟨q1_0, q1_1, qa1_2⟩ := q
      obtain ⟨k1, rfl⟩ : ∃ x, k0 = x + 1 := ⟨k0 - 1, by omega⟩
      show dz_T (s284_X9_meetSwapped_3 fu c248_pots c261_many c261_swapsAPot a265 a268 a269 n269 n308 n309 (F284_X9_meetSwapped fu c248_pots c261_many c261_swapsAPot a265 a268 a269 n269 n308 n309 k1).2.1 v1 v2 v3 v4 v5 v6 r1.1 r1.2.1 r1.2.2) _
      unfold s284_X9_meetSwapped_3
      have e13 := dz_l1
      have e14 := dz_add (a := v6) (b := (1 : Int32)) (by omega) (by omega)
      exact (ih k1 (by omega)).2 v1 v2 v3 v4 v5 (v6 + (1 : Int32)) r1.1 r1.2.1 r1.2.2 i0 i1 i2 i3 i4 i5 i6 i7 i8 i9 (by omega) (by omega) q1_0 q1_1 i14 i15 (dz_rgs (qa1_2) (by omega)) (by omega) (by omega)
    · skip
      obtain ⟨k2, rfl⟩ : ∃ x, k0 = x + 1 := ⟨k0 - 1, by omega⟩
      show dz_T (s284_X9_meetSwapped_3 fu c248_pots c261_many c261_swapsAPot a265 a268 a269 n269 n308 n309 (F284_X9_meetSwapped fu c248_pots c261_many c261_swapsAPot a265 a268 a269 n269 n308 n309 k2).2.1 v1 v2 v3 v4 v5 v6 c307_queued a308 a309) _
      unfold s284_X9_meetSwapped_3
      have e15 := dz_l1
      have e16 := dz_add (a := v6) (b := (1 : Int32)) (by omega) (by omega)
      exact (ih k2 (by omega)).2 v1 v2 v3 v4 v5 (v6 + (1 : Int32)) c307_queued a308 a309 i0 i1 i2 i3 i4 i5 i6 i7 i8 i9 (by omega) (by omega) i12 i13 i14 i15 (dz_rgs (hr_a309) (by omega)) (by omega) (by omega)
theorem t284_X9_meetSwapped_I_g31 (fu : Nat) (hfu : 1000000000000 ≤ fu) (c248_pots : Int32) (c261_many : Int32) (c261_swapsAPot : Int32) (a265 : Nat → Int32) (a268 : Nat → Int32) (a269 : Nat → Int32) (n269 : Nat) (n308 : Nat) (n309 : Nat) (p0 : c248_pots.toInt ≤ 1) (p1 : 1 ≤ c248_pots.toInt) (p2 : c261_many.toInt ≤ 6) (p3 : 6 ≤ c261_many.toInt) (p4 : c261_swapsAPot.toInt ≤ 3) (p5 : 3 ≤ c261_swapsAPot.toInt) (p6 : ((n269 : Nat) : Int) ≤ 13824) (p7 : 1 ≤ ((n269 : Nat) : Int)) (p8 : ((n308 : Nat) : Int) ≤ 13824) (p9 : 1 ≤ ((n308 : Nat) : Int)) (p10 : ((n309 : Nat) : Int) ≤ 13824) (p11 : 1 ≤ ((n309 : Nat) : Int)) (p12 : ((n308 : Nat) : Int) ≤ ((n309 : Nat) : Int)) (p13 : ((n309 : Nat) : Int) ≤ ((n308 : Nat) : Int)) (p14 : 6 ≤ ((n308 : Nat) : Int)) (p15 : 6 ≤ ((n269 : Nat) : Int)) (hr_a265 : dz_rt a265 6 3 0 5) (hr_a268 : dz_pt a268 [1]) (hr_a269 : dz_rg a269 n269 0 1023) (k : Nat) : p284_X9_meetSwapped_g31 fu c248_pots c261_many c261_swapsAPot a265 a268 a269 n269 n308 n309 k := by
  induction k using Nat.strongRecOn with
  | _ k ih => exact ⟨t284_X9_meetSwapped_h1_g31 fu hfu c248_pots c261_many c261_swapsAPot a265 a268 a269 n269 n308 n309 p0 p1 p2 p3 p4 p5 p6 p7 p8 p9 p10 p11 p12 p13 p14 p15 hr_a265 hr_a268 hr_a269 k ih, t284_X9_meetSwapped_h2_g31 fu hfu c248_pots c261_many c261_swapsAPot a265 a268 a269 n269 n308 n309 p0 p1 p2 p3 p4 p5 p6 p7 p8 p9 p10 p11 p12 p13 p14 p15 hr_a265 hr_a268 hr_a269 k ih⟩
set_option maxHeartbeats 1000000 in
set_option maxRecDepth 10000 in
theorem t284_X9_meetSwapped_E_g31 (fu : Nat) (hfu : 1000000000000 ≤ fu) (c248_pots : Int32) (c261_many : Int32) (c261_swapsAPot : Int32) (a265 : Nat → Int32) (a268 : Nat → Int32) (a269 : Nat → Int32) (n269 : Nat) (n308 : Nat) (n309 : Nat) (v1 : Int32) (c307_queued : Int32) (a308 : Nat → Int32) (a309 : Nat → Int32) (p0 : c248_pots.toInt ≤ 1) (p1 : 1 ≤ c248_pots.toInt) (p2 : c261_many.toInt ≤ 6) (p3 : 6 ≤ c261_many.toInt) (p4 : c261_swapsAPot.toInt ≤ 3) (p5 : 3 ≤ c261_swapsAPot.toInt) (p6 : ((n269 : Nat) : Int) ≤ 13824) (p7 : 1 ≤ ((n269 : Nat) : Int)) (p8 : ((n308 : Nat) : Int) ≤ 13824) (p9 : 1 ≤ ((n308 : Nat) : Int)) (p10 : ((n309 : Nat) : Int) ≤ 13824) (p11 : 1 ≤ ((n309 : Nat) : Int)) (p12 : c307_queued.toInt ≤ 13824) (p13 : 0 ≤ c307_queued.toInt) (p14 : ((n308 : Nat) : Int) ≤ ((n309 : Nat) : Int)) (p15 : ((n309 : Nat) : Int) ≤ ((n308 : Nat) : Int)) (p16 : 0 ≤ v1.toInt) (p17 : v1.toInt ≤ 5) (p18 : 6 ≤ ((n308 : Nat) : Int)) (p19 : 6 ≤ ((n269 : Nat) : Int)) (hr_a265 : dz_rt a265 6 3 0 5) (hr_a268 : dz_pt a268 [1]) (hr_a269 : dz_rg a269 n269 0 1023) (hr_a309 : dz_rg a309 c307_queued.toInt.toNat 0 5) (kv : Nat) (hkv : 1000000000000 ≤ kv) : dz_T (s284_X9_meetSwapped_0 fu c248_pots c261_many c261_swapsAPot a265 a268 a269 n269 n308 n309 (F284_X9_meetSwapped fu c248_pots c261_many c261_swapsAPot a265 a268 a269 n269 n308 n309 kv).1  v1 c307_queued a308 a309) (fun r => r.1.toInt ≤ 13824 ∧ 0 ≤ r.1.toInt ∧ dz_rg r.2.2 r.1.toInt.toNat 0 5) := by
  unfold s284_X9_meetSwapped_0
  have e1 := dz_l0
  exact (t284_X9_meetSwapped_I_g31 fu hfu c248_pots c261_many c261_swapsAPot a265 a268 a269 n269 n308 n309 p0 p1 p2 p3 p4 p5 p6 p7 p8 p9 p10 p11 p14 p15 p18 p19 hr_a265 hr_a268 hr_a269 kv).1 v1 (0 : Int32) c307_queued a308 a309 p17 p16 (by omega) (by omega) p12 p13 (dz_rgs (hr_a309) (by omega)) (by omega)
theorem t284_X9_meetSwapped_g31 (fu : Nat) (hfu : 1000000000000 ≤ fu) (c248_pots : Int32) (c261_many : Int32) (c261_swapsAPot : Int32) (a265 : Nat → Int32) (a268 : Nat → Int32) (a269 : Nat → Int32) (n269 : Nat) (n308 : Nat) (n309 : Nat) (v1 : Int32) (c307_queued : Int32) (a308 : Nat → Int32) (a309 : Nat → Int32) (p0 : c248_pots.toInt ≤ 1) (p1 : 1 ≤ c248_pots.toInt) (p2 : c261_many.toInt ≤ 6) (p3 : 6 ≤ c261_many.toInt) (p4 : c261_swapsAPot.toInt ≤ 3) (p5 : 3 ≤ c261_swapsAPot.toInt) (p6 : ((n269 : Nat) : Int) ≤ 13824) (p7 : 1 ≤ ((n269 : Nat) : Int)) (p8 : ((n308 : Nat) : Int) ≤ 13824) (p9 : 1 ≤ ((n308 : Nat) : Int)) (p10 : ((n309 : Nat) : Int) ≤ 13824) (p11 : 1 ≤ ((n309 : Nat) : Int)) (p12 : c307_queued.toInt ≤ 13824) (p13 : 0 ≤ c307_queued.toInt) (p14 : ((n308 : Nat) : Int) ≤ ((n309 : Nat) : Int)) (p15 : ((n309 : Nat) : Int) ≤ ((n308 : Nat) : Int)) (p16 : 0 ≤ v1.toInt) (p17 : v1.toInt ≤ 5) (p18 : 6 ≤ ((n308 : Nat) : Int)) (p19 : 6 ≤ ((n269 : Nat) : Int)) (hr_a265 : dz_rt a265 6 3 0 5) (hr_a268 : dz_pt a268 [1]) (hr_a269 : dz_rg a269 n269 0 1023) (hr_a309 : dz_rg a309 c307_queued.toInt.toNat 0 5) : dz_T (f284_X9_meetSwapped fu c248_pots c261_many c261_swapsAPot a265 a268 a269 n269 n308 n309 v1 c307_queued a308 a309) (fun r => r.1.toInt ≤ 13824 ∧ 0 ≤ r.1.toInt ∧ dz_rg r.2.2 r.1.toInt.toNat 0 5) :=
  t284_X9_meetSwapped_E_g31 fu hfu c248_pots c261_many c261_swapsAPot a265 a268 a269 n269 n308 n309 v1 c307_queued a308 a309 p0 p1 p2 p3 p4 p5 p6 p7 p8 p9 p10 p11 p12 p13 p14 p15 p16 p17 p18 p19 hr_a265 hr_a268 hr_a269 hr_a309 fu hfu
abbrev p284_X9_meetSwapped_g32 (fu : Nat) (c248_pots : Int32) (c261_many : Int32) (c261_swapsAPot : Int32) (a265 : Nat → Int32) (a268 : Nat → Int32) (a269 : Nat → Int32) (n269 : Nat) (n308 : Nat) (n309 : Nat) (k : Nat) : Prop :=
  (∀ (v1 : Int32) (v2 : Int32) (c307_queued : Int32) (a308 : Nat → Int32) (a309 : Nat → Int32), v1.toInt ≤ 35 → 0 ≤ v1.toInt → v2.toInt ≤ 2 → 0 ≤ v2.toInt → c307_queued.toInt ≤ 13824 → 0 ≤ c307_queued.toInt → dz_rg a309 c307_queued.toInt.toNat 0 35 → 0 + 0 + (2 - v2.toInt) * 84 + 7 ≤ ((k : Nat) : Int) → dz_T ((F284_X9_meetSwapped fu c248_pots c261_many c261_swapsAPot a265 a268 a269 n269 n308 n309 k).1 v1 v2 c307_queued a308 a309) (fun r => r.1.toInt ≤ 13824 ∧ 0 ≤ r.1.toInt ∧ dz_rg r.2.2 r.1.toInt.toNat 0 35)) ∧ (∀ (v1 : Int32) (v2 : Int32) (v3 : Int32) (v4 : Int32) (v5 : Int32) (v6 : Int32) (c307_queued : Int32) (a308 : Nat → Int32) (a309 : Nat → Int32), v1.toInt ≤ 35 → 0 ≤ v1.toInt → v2.toInt ≤ 1 → 0 ≤ v2.toInt → v3.toInt ≤ 6 → 1 ≤ v3.toInt → v4.toInt ≤ 5 → 0 ≤ v4.toInt → v5.toInt ≤ 35 → (-30) ≤ v5.toInt → v6.toInt ≤ 3 → 0 ≤ v6.toInt → c307_queued.toInt ≤ 13824 → 0 ≤ c307_queued.toInt → v4.toInt ≤ v1.toInt → v5.toInt ≤ v1.toInt → dz_rg a309 c307_queued.toInt.toNat 0 35 → ((v2.toInt = 0 ∧ v3.toInt = 6 ∧ v4.toInt = v1.toInt / 6 % 6 ∧ v5.toInt = v1.toInt - v4.toInt * 6) ∨ (v2.toInt = 1 ∧ v3.toInt = 1 ∧ v4.toInt = v1.toInt % 6 ∧ v5.toInt = v1.toInt - v4.toInt * 1)) → 0 + 0 + ((2 - v2.toInt) - 1) * 84 + 0 + (3 - v6.toInt) * 14 + 14 ≤ ((k : Nat) : Int) → dz_T ((F284_X9_meetSwapped fu c248_pots c261_many c261_swapsAPot a265 a268 a269 n269 n308 n309 k).2.1 v1 v2 v3 v4 v5 v6 c307_queued a308 a309) (fun r => r.1.toInt ≤ 13824 ∧ 0 ≤ r.1.toInt ∧ dz_rg r.2.2 r.1.toInt.toNat 0 35))
set_option maxHeartbeats 1000000 in
set_option maxRecDepth 10000 in
theorem t284_X9_meetSwapped_h1_g32 (fu : Nat) (hfu : 1000000000000 ≤ fu) (c248_pots : Int32) (c261_many : Int32) (c261_swapsAPot : Int32) (a265 : Nat → Int32) (a268 : Nat → Int32) (a269 : Nat → Int32) (n269 : Nat) (n308 : Nat) (n309 : Nat) (p0 : c248_pots.toInt ≤ 2) (p1 : 2 ≤ c248_pots.toInt) (p2 : c261_many.toInt ≤ 6) (p3 : 6 ≤ c261_many.toInt) (p4 : c261_swapsAPot.toInt ≤ 3) (p5 : 3 ≤ c261_swapsAPot.toInt) (p6 : ((n269 : Nat) : Int) ≤ 13824) (p7 : 1 ≤ ((n269 : Nat) : Int)) (p8 : ((n308 : Nat) : Int) ≤ 13824) (p9 : 1 ≤ ((n308 : Nat) : Int)) (p10 : ((n309 : Nat) : Int) ≤ 13824) (p11 : 1 ≤ ((n309 : Nat) : Int)) (p12 : ((n308 : Nat) : Int) ≤ ((n309 : Nat) : Int)) (p13 : ((n309 : Nat) : Int) ≤ ((n308 : Nat) : Int)) (p14 : 36 ≤ ((n308 : Nat) : Int)) (p15 : 36 ≤ ((n269 : Nat) : Int)) (hr_a265 : dz_rt a265 6 3 0 5) (hr_a268 : dz_pt a268 [6, 1]) (hr_a269 : dz_rg a269 n269 0 1023) (k : Nat) (ih : ∀ j9, j9 < k → p284_X9_meetSwapped_g32 fu c248_pots c261_many c261_swapsAPot a265 a268 a269 n269 n308 n309 j9) : ∀ (v1 : Int32) (v2 : Int32) (c307_queued : Int32) (a308 : Nat → Int32) (a309 : Nat → Int32), v1.toInt ≤ 35 → 0 ≤ v1.toInt → v2.toInt ≤ 2 → 0 ≤ v2.toInt → c307_queued.toInt ≤ 13824 → 0 ≤ c307_queued.toInt → dz_rg a309 c307_queued.toInt.toNat 0 35 → 0 + 0 + (2 - v2.toInt) * 84 + 7 ≤ ((k : Nat) : Int) → dz_T ((F284_X9_meetSwapped fu c248_pots c261_many c261_swapsAPot a265 a268 a269 n269 n308 n309 k).1 v1 v2 c307_queued a308 a309) (fun r => r.1.toInt ≤ 13824 ∧ 0 ≤ r.1.toInt ∧ dz_rg r.2.2 r.1.toInt.toNat 0 35) := by
  intro v1 v2 c307_queued a308 a309 i0 i1 i2 i3 i4 i5 hr_a309 hm
  obtain ⟨k0, rfl⟩ : ∃ x, k = x + 1 := ⟨k - 1, by omega⟩
  show dz_T (s284_X9_meetSwapped_1 fu c248_pots c261_many c261_swapsAPot a265 a268 a269 n269 n308 n309 (F284_X9_meetSwapped fu c248_pots c261_many c261_swapsAPot a265 a268 a269 n269 n308 n309 k0).2.1  v1 v2 c307_queued a308 a309) _
  unfold s284_X9_meetSwapped_1
  rcases (show v2.toInt = 0 ∨ v2.toInt = 1 ∨ v2.toInt = 2 by omega) with hs | hs | hs
  · skip
    refine dz_Tle (fun h1 => ?_) (fun h1 => ?_)
    · skip
      exfalso; omega
    · skip
      refine dz_Tin (by omega) (by omega) ?_
      refine dz_Tbe (show f141_X2_rankIn fu c261_many a268 v1 v2 = (if dz_in v2 4 then (if ((a268 v2.toNatClampNeg) ≤ (0 : Int32)) then (some (0 : Int32)) else (if (c261_many ≤ (0 : Int32)) then (some (0 : Int32)) else (if (¬ ((a268 v2.toNatClampNeg) = (0 : Int32))) then (if (¬ (c261_many = (0 : Int32))) then (some (dz_rem (v1 / (a268 v2.toNatClampNeg)) c261_many)) else none) else none))) else none) from rfl) ?_
      refine dz_Tinb (by omega) (by omega) ?_
      have e2 := dz_ptat (hr_a268) (i := v2) (x := 6) 0 (by omega) (by decide)
      have e3 := dz_l0
      refine dz_Tleb (fun h4 => ?_) (fun h4 => ?_)
      · skip
        exfalso; omega
      · skip
        refine dz_Tleb (fun h5 => ?_) (fun h5 => ?_)
        · skip
          exfalso; omega
        · skip
          refine dz_Tzb (by omega) ?_
          refine dz_Tzb (by omega) ?_
          refine dz_Tsb ?_
          have e6 := dz_divn (a := v1) (b := (a268 v2.toNatClampNeg)) 6 (by omega) (by omega) (by omega)
          have e7 := dz_remn (a := (v1 / (a268 v2.toNatClampNeg))) (b := c261_many) 6 (by omega) (by omega) (by omega)
          have e8 := dz_mulr (a := (dz_rem (v1 / (a268 v2.toNatClampNeg)) c261_many)) (b := (a268 v2.toNatClampNeg)) 6 (by omega) (by omega) (by omega)
          have e9 := dz_sub (a := v1) (b := ((dz_rem (v1 / (a268 v2.toNatClampNeg)) c261_many) * (a268 v2.toNatClampNeg))) (by omega) (by omega)
          exact (ih k0 (by omega)).2 v1 v2 (a268 v2.toNatClampNeg) (dz_rem (v1 / (a268 v2.toNatClampNeg)) c261_many) (v1 - ((dz_rem (v1 / (a268 v2.toNatClampNeg)) c261_many) * (a268 v2.toNatClampNeg))) (0 : Int32) c307_queued a308 a309 i0 i1 (by first | assumption | omega) i3 (by omega) (by omega) (by omega) (by omega) (by omega) (by omega) (by omega) (by omega) i4 i5 (by omega) (by omega) (dz_rgs (hr_a309) (by omega)) (by omega) (by omega)
  · skip
    refine dz_Tle (fun h10 => ?_) (fun h10 => ?_)
    · skip
      exfalso; omega
    · skip
      refine dz_Tin (by omega) (by omega) ?_
      refine dz_Tbe (show f141_X2_rankIn fu c261_many a268 v1 v2 = (if dz_in v2 4 then (if ((a268 v2.toNatClampNeg) ≤ (0 : Int32)) then (some (0 : Int32)) else (if (c261_many ≤ (0 : Int32)) then (some (0 : Int32)) else (if (¬ ((a268 v2.toNatClampNeg) = (0 : Int32))) then (if (¬ (c261_many = (0 : Int32))) then (some (dz_rem (v1 / (a268 v2.toNatClampNeg)) c261_many)) else none) else none))) else none) from rfl) ?_
      refine dz_Tinb (by omega) (by omega) ?_
      have e11 := dz_ptat (hr_a268) (i := v2) (x := 1) 1 (by omega) (by decide)
      have e12 := dz_l0
      refine dz_Tleb (fun h13 => ?_) (fun h13 => ?_)
      · skip
        exfalso; omega
      · skip
        refine dz_Tleb (fun h14 => ?_) (fun h14 => ?_)
        · skip
          exfalso; omega
        · skip
          refine dz_Tzb (by omega) ?_
          refine dz_Tzb (by omega) ?_
          refine dz_Tsb ?_
          have e15 := dz_div1 (a := v1) (b := (a268 v2.toNatClampNeg)) (by omega) (by omega)
          have e16 := dz_remn (a := (v1 / (a268 v2.toNatClampNeg))) (b := c261_many) 6 (by omega) (by omega) (by omega)
          have e17 := dz_mulr (a := (dz_rem (v1 / (a268 v2.toNatClampNeg)) c261_many)) (b := (a268 v2.toNatClampNeg)) 1 (by omega) (by omega) (by omega)
          have e18 := dz_sub (a := v1) (b := ((dz_rem (v1 / (a268 v2.toNatClampNeg)) c261_many) * (a268 v2.toNatClampNeg))) (by omega) (by omega)
          exact (ih k0 (by omega)).2 v1 v2 (a268 v2.toNatClampNeg) (dz_rem (v1 / (a268 v2.toNatClampNeg)) c261_many) (v1 - ((dz_rem (v1 / (a268 v2.toNatClampNeg)) c261_many) * (a268 v2.toNatClampNeg))) (0 : Int32) c307_queued a308 a309 i0 i1 (by first | assumption | omega) i3 (by omega) (by omega) (by omega) (by omega) (by omega) (by omega) (by omega) (by omega) i4 i5 (by omega) (by omega) (dz_rgs (hr_a309) (by omega)) (by omega) (by omega)
  · skip
    refine dz_Tle (fun h19 => ?_) (fun h19 => ?_)
    · skip
      refine dz_Ts ?_
      dsimp only
      exact ⟨i4, i5, (dz_rgs (hr_a309) (by omega))⟩
    · skip
      exfalso; omega
set_option maxHeartbeats 1000000 in
set_option maxRecDepth 10000 in
theorem t284_X9_meetSwapped_h2_g32 (fu : Nat) (hfu : 1000000000000 ≤ fu) (c248_pots : Int32) (c261_many : Int32) (c261_swapsAPot : Int32) (a265 : Nat → Int32) (a268 : Nat → Int32) (a269 : Nat → Int32) (n269 : Nat) (n308 : Nat) (n309 : Nat) (p0 : c248_pots.toInt ≤ 2) (p1 : 2 ≤ c248_pots.toInt) (p2 : c261_many.toInt ≤ 6) (p3 : 6 ≤ c261_many.toInt) (p4 : c261_swapsAPot.toInt ≤ 3) (p5 : 3 ≤ c261_swapsAPot.toInt) (p6 : ((n269 : Nat) : Int) ≤ 13824) (p7 : 1 ≤ ((n269 : Nat) : Int)) (p8 : ((n308 : Nat) : Int) ≤ 13824) (p9 : 1 ≤ ((n308 : Nat) : Int)) (p10 : ((n309 : Nat) : Int) ≤ 13824) (p11 : 1 ≤ ((n309 : Nat) : Int)) (p12 : ((n308 : Nat) : Int) ≤ ((n309 : Nat) : Int)) (p13 : ((n309 : Nat) : Int) ≤ ((n308 : Nat) : Int)) (p14 : 36 ≤ ((n308 : Nat) : Int)) (p15 : 36 ≤ ((n269 : Nat) : Int)) (hr_a265 : dz_rt a265 6 3 0 5) (hr_a268 : dz_pt a268 [6, 1]) (hr_a269 : dz_rg a269 n269 0 1023) (k : Nat) (ih : ∀ j9, j9 < k → p284_X9_meetSwapped_g32 fu c248_pots c261_many c261_swapsAPot a265 a268 a269 n269 n308 n309 j9) : ∀ (v1 : Int32) (v2 : Int32) (v3 : Int32) (v4 : Int32) (v5 : Int32) (v6 : Int32) (c307_queued : Int32) (a308 : Nat → Int32) (a309 : Nat → Int32), v1.toInt ≤ 35 → 0 ≤ v1.toInt → v2.toInt ≤ 1 → 0 ≤ v2.toInt → v3.toInt ≤ 6 → 1 ≤ v3.toInt → v4.toInt ≤ 5 → 0 ≤ v4.toInt → v5.toInt ≤ 35 → (-30) ≤ v5.toInt → v6.toInt ≤ 3 → 0 ≤ v6.toInt → c307_queued.toInt ≤ 13824 → 0 ≤ c307_queued.toInt → v4.toInt ≤ v1.toInt → v5.toInt ≤ v1.toInt → dz_rg a309 c307_queued.toInt.toNat 0 35 → ((v2.toInt = 0 ∧ v3.toInt = 6 ∧ v4.toInt = v1.toInt / 6 % 6 ∧ v5.toInt = v1.toInt - v4.toInt * 6) ∨ (v2.toInt = 1 ∧ v3.toInt = 1 ∧ v4.toInt = v1.toInt % 6 ∧ v5.toInt = v1.toInt - v4.toInt * 1)) → 0 + 0 + ((2 - v2.toInt) - 1) * 84 + 0 + (3 - v6.toInt) * 14 + 14 ≤ ((k : Nat) : Int) → dz_T ((F284_X9_meetSwapped fu c248_pots c261_many c261_swapsAPot a265 a268 a269 n269 n308 n309 k).2.1 v1 v2 v3 v4 v5 v6 c307_queued a308 a309) (fun r => r.1.toInt ≤ 13824 ∧ 0 ≤ r.1.toInt ∧ dz_rg r.2.2 r.1.toInt.toNat 0 35) := by
  intro v1 v2 v3 v4 v5 v6 c307_queued a308 a309 i0 i1 i2 i3 i4 i5 i6 i7 i8 i9 i10 i11 i12 i13 i14 i15 hr_a309 x0 hm
  obtain ⟨k0, rfl⟩ : ∃ x, k = x + 1 := ⟨k - 1, by omega⟩
  show dz_T (s284_X9_meetSwapped_2 fu c248_pots c261_many c261_swapsAPot a265 a268 a269 n269 n308 n309 (F284_X9_meetSwapped fu c248_pots c261_many c261_swapsAPot a265 a268 a269 n269 n308 n309 k0).1 (F284_X9_meetSwapped fu c248_pots c261_many c261_swapsAPot a265 a268 a269 n269 n308 n309 k0).2.2  v1 v2 v3 v4 v5 v6 c307_queued a308 a309) _
  unfold s284_X9_meetSwapped_2
  rcases (show v2.toInt = 0 ∨ v2.toInt = 1 by omega) with hs | hs
  · skip
    refine dz_Tle (fun h1 => ?_) (fun h1 => ?_)
    · skip
      have e2 := dz_l1
      have e3 := dz_add (a := v2) (b := (1 : Int32)) (by omega) (by omega)
      exact (ih k0 (by omega)).1 v1 (v2 + (1 : Int32)) c307_queued a308 a309 i0 i1 (by omega) (by omega) i12 i13 (dz_rgs (hr_a309) (by omega)) (by omega)
    · skip
      have e4 := dz_l6
      have e5 := dz_mulr (a := v4) (b := (6 : Int32)) 6 (by omega) (by omega) (by omega)
      have e6 := dz_add (a := (v4 * (6 : Int32))) (b := v6) (by omega) (by omega)
      refine dz_Tin (by omega) (by omega) ?_
      have e7 := dz_rtat (hr_a265) (x := v4) (y := v6) (by omega) (by omega) (by omega) (by omega) (by omega)
      have e8 := dz_mulr (a := (a265 ((v4 * (6 : Int32)) + v6).toNatClampNeg)) (b := v3) 6 (by omega) (by omega) (by omega)
      have e9 := dz_add (a := v5) (b := ((a265 ((v4 * (6 : Int32)) + v6).toNatClampNeg) * v3)) (by omega) (by omega)
      refine dz_Tin (by omega) (by omega) ?_
      have e10 := dz_rgat (hr_a269) (i := (v5 + ((a265 ((v4 * (6 : Int32)) + v6).toNatClampNeg) * v3))) (by omega) (by omega)
      have e11 := dz_l0
      refine dz_Teq (fun h12 => ?_) (fun h12 => ?_)
      · skip
        refine dz_Tb (t283_X9_meet_g32 fu hfu _ _ _ _ _ _ p8 (by first | assumption | omega) p10 p11 i12 i13 p12 p13 (by omega) (by omega) p14 (by first | assumption | omega) (dz_rgs (hr_a309) (by omega))) (fun r1 q => ?_)
        obtain ⟨q1_0, q1_1, qa1_2⟩ := q
        obtain ⟨k1, rfl⟩ : ∃ x, k0 = x + 1 := ⟨k0 - 1, by omega⟩
        show dz_T (s284_X9_meetSwapped_3 fu c248_pots c261_many c261_swapsAPot a265 a268 a269 n269 n308 n309 (F284_X9_meetSwapped fu c248_pots c261_many c261_swapsAPot a265 a268 a269 n269 n308 n309 k1).2.1 v1 v2 v3 v4 v5 v6 r1.1 r1.2.1 r1.2.2) _
        unfold s284_X9_meetSwapped_3
        have e13 := dz_l1
        have e14 := dz_add (a := v6) (b := (1 : Int32)) (by omega) (by omega)
        exact (ih k1 (by omega)).2 v1 v2 v3 v4 v5 (v6 + (1 : Int32)) r1.1 r1.2.1 r1.2.2 i0 i1 i2 i3 i4 i5 i6 i7 i8 i9 (by omega) (by omega) q1_0 q1_1 i14 i15 (dz_rgs (qa1_2) (by omega)) (by omega) (by omega)
      · skip
        obtain ⟨k2, rfl⟩ : ∃ x, k0 = x + 1 := ⟨k0 - 1, by omega⟩
        show dz_T (s284_X9_meetSwapped_3 fu c248_pots c261_many c261_swapsAPot a265 a268 a269 n269 n308 n309 (F284_X9_meetSwapped fu c248_pots c261_many c261_swapsAPot a265 a268 a269 n269 n308 n309 k2).2.1 v1 v2 v3 v4 v5 v6 c307_queued a308 a309) _
        unfold s284_X9_meetSwapped_3
        have e15 := dz_l1
        have e16 := dz_add (a := v6) (b := (1 : Int32)) (by omega) (by omega)
        exact (ih k2 (by omega)).2 v1 v2 v3 v4 v5 (v6 + (1 : Int32)) c307_queued a308 a309 i0 i1 i2 i3 i4 i5 i6 i7 i8 i9 (by omega) (by omega) i12 i13 i14 i15 (dz_rgs (hr_a309) (by omega)) (by omega) (by omega)
  · skip
    refine dz_Tle (fun h17 => ?_) (fun h17 => ?_)
    · skip
      have e18 := dz_l1
      have e19 := dz_add (a := v2) (b := (1 : Int32)) (by omega) (by omega)
      exact (ih k0 (by omega)).1 v1 (v2 + (1 : Int32)) c307_queued a308 a309 i0 i1 (by omega) (by omega) i12 i13 (dz_rgs (hr_a309) (by omega)) (by omega)
    · skip
      have e20 := dz_l6
      have e21 := dz_mulr (a := v4) (b := (6 : Int32)) 6 (by omega) (by omega) (by omega)
      have e22 := dz_add (a := (v4 * (6 : Int32))) (b := v6) (by omega) (by omega)
      refine dz_Tin (by omega) (by omega) ?_
      have e23 := dz_rtat (hr_a265) (x := v4) (y := v6) (by omega) (by omega) (by omega) (by omega) (by omega)
      have e24 := dz_mulr (a := (a265 ((v4 * (6 : Int32)) + v6).toNatClampNeg)) (b := v3) 1 (by omega) (by omega) (by omega)
      have e25 := dz_add (a := v5) (b := ((a265 ((v4 * (6 : Int32)) + v6).toNatClampNeg) * v3)) (by omega) (by omega)
      refine dz_Tin (by omega) (by omega) ?_
      have e26 := dz_rgat (hr_a269) (i := (v5 + ((a265 ((v4 * (6 : Int32)) + v6).toNatClampNeg) * v3))) (by omega) (by omega)
      have e27 := dz_l0
      refine dz_Teq (fun h28 => ?_) (fun h28 => ?_)
      · skip
        refine dz_Tb (t283_X9_meet_g32 fu hfu _ _ _ _ _ _ p8 (by first | assumption | omega) p10 p11 i12 i13 p12 p13 (by omega) (by omega) p14 (by first | assumption | omega) (dz_rgs (hr_a309) (by omega))) (fun r2 q => ?_)
        obtain ⟨q2_0, q2_1, qa2_2⟩ := q
        obtain ⟨k3, rfl⟩ : ∃ x, k0 = x + 1 := ⟨k0 - 1, by omega⟩
        show dz_T (s284_X9_meetSwapped_3 fu c248_pots c261_many c261_swapsAPot a265 a268 a269 n269 n308 n309 (F284_X9_meetSwapped fu c248_pots c261_many c261_swapsAPot a265 a268 a269 n269 n308 n309 k3).2.1 v1 v2 v3 v4 v5 v6 r2.1 r2.2.1 r2.2.2) _
        unfold s284_X9_meetSwapped_3
        have e29 := dz_l1
        have e30 := dz_add (a := v6) (b := (1 : Int32)) (by omega) (by omega)
        exact (ih k3 (by omega)).2 v1 v2 v3 v4 v5 (v6 + (1 : Int32)) r2.1 r2.2.1 r2.2.2 i0 i1 i2 i3 i4 i5 i6 i7 i8 i9 (by omega) (by omega) q2_0 q2_1 i14 i15 (dz_rgs (qa2_2) (by omega)) (by omega) (by omega)
      · skip
        obtain ⟨k4, rfl⟩ : ∃ x, k0 = x + 1 := ⟨k0 - 1, by omega⟩
        show dz_T (s284_X9_meetSwapped_3 fu c248_pots c261_many c261_swapsAPot a265 a268 a269 n269 n308 n309 (F284_X9_meetSwapped fu c248_pots c261_many c261_swapsAPot a265 a268 a269 n269 n308 n309 k4).2.1 v1 v2 v3 v4 v5 v6 c307_queued a308 a309) _
        unfold s284_X9_meetSwapped_3
        have e31 := dz_l1
        have e32 := dz_add (a := v6) (b := (1 : Int32)) (by omega) (by omega)
        exact (ih k4 (by omega)).2 v1 v2 v3 v4 v5 (v6 + (1 : Int32)) c307_queued a308 a309 i0 i1 i2 i3 i4 i5 i6 i7 i8 i9 (by omega) (by omega) i12 i13 i14 i15 (dz_rgs (hr_a309) (by omega)) (by omega) (by omega)
theorem t284_X9_meetSwapped_I_g32 (fu : Nat) (hfu : 1000000000000 ≤ fu) (c248_pots : Int32) (c261_many : Int32) (c261_swapsAPot : Int32) (a265 : Nat → Int32) (a268 : Nat → Int32) (a269 : Nat → Int32) (n269 : Nat) (n308 : Nat) (n309 : Nat) (p0 : c248_pots.toInt ≤ 2) (p1 : 2 ≤ c248_pots.toInt) (p2 : c261_many.toInt ≤ 6) (p3 : 6 ≤ c261_many.toInt) (p4 : c261_swapsAPot.toInt ≤ 3) (p5 : 3 ≤ c261_swapsAPot.toInt) (p6 : ((n269 : Nat) : Int) ≤ 13824) (p7 : 1 ≤ ((n269 : Nat) : Int)) (p8 : ((n308 : Nat) : Int) ≤ 13824) (p9 : 1 ≤ ((n308 : Nat) : Int)) (p10 : ((n309 : Nat) : Int) ≤ 13824) (p11 : 1 ≤ ((n309 : Nat) : Int)) (p12 : ((n308 : Nat) : Int) ≤ ((n309 : Nat) : Int)) (p13 : ((n309 : Nat) : Int) ≤ ((n308 : Nat) : Int)) (p14 : 36 ≤ ((n308 : Nat) : Int)) (p15 : 36 ≤ ((n269 : Nat) : Int)) (hr_a265 : dz_rt a265 6 3 0 5) (hr_a268 : dz_pt a268 [6, 1]) (hr_a269 : dz_rg a269 n269 0 1023) (k : Nat) : p284_X9_meetSwapped_g32 fu c248_pots c261_many c261_swapsAPot a265 a268 a269 n269 n308 n309 k := by
  induction k using Nat.strongRecOn with
  | _ k ih => exact ⟨t284_X9_meetSwapped_h1_g32 fu hfu c248_pots c261_many c261_swapsAPot a265 a268 a269 n269 n308 n309 p0 p1 p2 p3 p4 p5 p6 p7 p8 p9 p10 p11 p12 p13 p14 p15 hr_a265 hr_a268 hr_a269 k ih, t284_X9_meetSwapped_h2_g32 fu hfu c248_pots c261_many c261_swapsAPot a265 a268 a269 n269 n308 n309 p0 p1 p2 p3 p4 p5 p6 p7 p8 p9 p10 p11 p12 p13 p14 p15 hr_a265 hr_a268 hr_a269 k ih⟩
set_option maxHeartbeats 1000000 in
set_option maxRecDepth 10000 in
theorem t284_X9_meetSwapped_E_g32 (fu : Nat) (hfu : 1000000000000 ≤ fu) (c248_pots : Int32) (c261_many : Int32) (c261_swapsAPot : Int32) (a265 : Nat → Int32) (a268 : Nat → Int32) (a269 : Nat → Int32) (n269 : Nat) (n308 : Nat) (n309 : Nat) (v1 : Int32) (c307_queued : Int32) (a308 : Nat → Int32) (a309 : Nat → Int32) (p0 : c248_pots.toInt ≤ 2) (p1 : 2 ≤ c248_pots.toInt) (p2 : c261_many.toInt ≤ 6) (p3 : 6 ≤ c261_many.toInt) (p4 : c261_swapsAPot.toInt ≤ 3) (p5 : 3 ≤ c261_swapsAPot.toInt) (p6 : ((n269 : Nat) : Int) ≤ 13824) (p7 : 1 ≤ ((n269 : Nat) : Int)) (p8 : ((n308 : Nat) : Int) ≤ 13824) (p9 : 1 ≤ ((n308 : Nat) : Int)) (p10 : ((n309 : Nat) : Int) ≤ 13824) (p11 : 1 ≤ ((n309 : Nat) : Int)) (p12 : c307_queued.toInt ≤ 13824) (p13 : 0 ≤ c307_queued.toInt) (p14 : ((n308 : Nat) : Int) ≤ ((n309 : Nat) : Int)) (p15 : ((n309 : Nat) : Int) ≤ ((n308 : Nat) : Int)) (p16 : 0 ≤ v1.toInt) (p17 : v1.toInt ≤ 35) (p18 : 36 ≤ ((n308 : Nat) : Int)) (p19 : 36 ≤ ((n269 : Nat) : Int)) (hr_a265 : dz_rt a265 6 3 0 5) (hr_a268 : dz_pt a268 [6, 1]) (hr_a269 : dz_rg a269 n269 0 1023) (hr_a309 : dz_rg a309 c307_queued.toInt.toNat 0 35) (kv : Nat) (hkv : 1000000000000 ≤ kv) : dz_T (s284_X9_meetSwapped_0 fu c248_pots c261_many c261_swapsAPot a265 a268 a269 n269 n308 n309 (F284_X9_meetSwapped fu c248_pots c261_many c261_swapsAPot a265 a268 a269 n269 n308 n309 kv).1  v1 c307_queued a308 a309) (fun r => r.1.toInt ≤ 13824 ∧ 0 ≤ r.1.toInt ∧ dz_rg r.2.2 r.1.toInt.toNat 0 35) := by
  unfold s284_X9_meetSwapped_0
  have e1 := dz_l0
  exact (t284_X9_meetSwapped_I_g32 fu hfu c248_pots c261_many c261_swapsAPot a265 a268 a269 n269 n308 n309 p0 p1 p2 p3 p4 p5 p6 p7 p8 p9 p10 p11 p14 p15 p18 p19 hr_a265 hr_a268 hr_a269 kv).1 v1 (0 : Int32) c307_queued a308 a309 p17 p16 (by omega) (by omega) p12 p13 (dz_rgs (hr_a309) (by omega)) (by omega)
theorem t284_X9_meetSwapped_g32 (fu : Nat) (hfu : 1000000000000 ≤ fu) (c248_pots : Int32) (c261_many : Int32) (c261_swapsAPot : Int32) (a265 : Nat → Int32) (a268 : Nat → Int32) (a269 : Nat → Int32) (n269 : Nat) (n308 : Nat) (n309 : Nat) (v1 : Int32) (c307_queued : Int32) (a308 : Nat → Int32) (a309 : Nat → Int32) (p0 : c248_pots.toInt ≤ 2) (p1 : 2 ≤ c248_pots.toInt) (p2 : c261_many.toInt ≤ 6) (p3 : 6 ≤ c261_many.toInt) (p4 : c261_swapsAPot.toInt ≤ 3) (p5 : 3 ≤ c261_swapsAPot.toInt) (p6 : ((n269 : Nat) : Int) ≤ 13824) (p7 : 1 ≤ ((n269 : Nat) : Int)) (p8 : ((n308 : Nat) : Int) ≤ 13824) (p9 : 1 ≤ ((n308 : Nat) : Int)) (p10 : ((n309 : Nat) : Int) ≤ 13824) (p11 : 1 ≤ ((n309 : Nat) : Int)) (p12 : c307_queued.toInt ≤ 13824) (p13 : 0 ≤ c307_queued.toInt) (p14 : ((n308 : Nat) : Int) ≤ ((n309 : Nat) : Int)) (p15 : ((n309 : Nat) : Int) ≤ ((n308 : Nat) : Int)) (p16 : 0 ≤ v1.toInt) (p17 : v1.toInt ≤ 35) (p18 : 36 ≤ ((n308 : Nat) : Int)) (p19 : 36 ≤ ((n269 : Nat) : Int)) (hr_a265 : dz_rt a265 6 3 0 5) (hr_a268 : dz_pt a268 [6, 1]) (hr_a269 : dz_rg a269 n269 0 1023) (hr_a309 : dz_rg a309 c307_queued.toInt.toNat 0 35) : dz_T (f284_X9_meetSwapped fu c248_pots c261_many c261_swapsAPot a265 a268 a269 n269 n308 n309 v1 c307_queued a308 a309) (fun r => r.1.toInt ≤ 13824 ∧ 0 ≤ r.1.toInt ∧ dz_rg r.2.2 r.1.toInt.toNat 0 35) :=
  t284_X9_meetSwapped_E_g32 fu hfu c248_pots c261_many c261_swapsAPot a265 a268 a269 n269 n308 n309 v1 c307_queued a308 a309 p0 p1 p2 p3 p4 p5 p6 p7 p8 p9 p10 p11 p12 p13 p14 p15 p16 p17 p18 p19 hr_a265 hr_a268 hr_a269 hr_a309 fu hfu
abbrev p284_X9_meetSwapped_g33 (fu : Nat) (c248_pots : Int32) (c261_many : Int32) (c261_swapsAPot : Int32) (a265 : Nat → Int32) (a268 : Nat → Int32) (a269 : Nat → Int32) (n269 : Nat) (n308 : Nat) (n309 : Nat) (k : Nat) : Prop :=
  (∀ (v1 : Int32) (v2 : Int32) (c307_queued : Int32) (a308 : Nat → Int32) (a309 : Nat → Int32), v1.toInt ≤ 215 → 0 ≤ v1.toInt → v2.toInt ≤ 3 → 0 ≤ v2.toInt → c307_queued.toInt ≤ 13824 → 0 ≤ c307_queued.toInt → dz_rg a309 c307_queued.toInt.toNat 0 215 → 0 + 0 + (3 - v2.toInt) * 84 + 7 ≤ ((k : Nat) : Int) → dz_T ((F284_X9_meetSwapped fu c248_pots c261_many c261_swapsAPot a265 a268 a269 n269 n308 n309 k).1 v1 v2 c307_queued a308 a309) (fun r => r.1.toInt ≤ 13824 ∧ 0 ≤ r.1.toInt ∧ dz_rg r.2.2 r.1.toInt.toNat 0 215)) ∧ (∀ (v1 : Int32) (v2 : Int32) (v3 : Int32) (v4 : Int32) (v5 : Int32) (v6 : Int32) (c307_queued : Int32) (a308 : Nat → Int32) (a309 : Nat → Int32), v1.toInt ≤ 215 → 0 ≤ v1.toInt → v2.toInt ≤ 2 → 0 ≤ v2.toInt → v3.toInt ≤ 36 → 1 ≤ v3.toInt → v4.toInt ≤ 5 → 0 ≤ v4.toInt → v5.toInt ≤ 215 → (-180) ≤ v5.toInt → v6.toInt ≤ 3 → 0 ≤ v6.toInt → c307_queued.toInt ≤ 13824 → 0 ≤ c307_queued.toInt → v4.toInt ≤ v1.toInt → v5.toInt ≤ v1.toInt → dz_rg a309 c307_queued.toInt.toNat 0 215 → ((v2.toInt = 0 ∧ v3.toInt = 36 ∧ v4.toInt = v1.toInt / 36 % 6 ∧ v5.toInt = v1.toInt - v4.toInt * 36) ∨ (v2.toInt = 1 ∧ v3.toInt = 6 ∧ v4.toInt = v1.toInt / 6 % 6 ∧ v5.toInt = v1.toInt - v4.toInt * 6) ∨ (v2.toInt = 2 ∧ v3.toInt = 1 ∧ v4.toInt = v1.toInt % 6 ∧ v5.toInt = v1.toInt - v4.toInt * 1)) → 0 + 0 + ((3 - v2.toInt) - 1) * 84 + 0 + (3 - v6.toInt) * 14 + 14 ≤ ((k : Nat) : Int) → dz_T ((F284_X9_meetSwapped fu c248_pots c261_many c261_swapsAPot a265 a268 a269 n269 n308 n309 k).2.1 v1 v2 v3 v4 v5 v6 c307_queued a308 a309) (fun r => r.1.toInt ≤ 13824 ∧ 0 ≤ r.1.toInt ∧ dz_rg r.2.2 r.1.toInt.toNat 0 215))
set_option maxHeartbeats 1000000 in
set_option maxRecDepth 10000 in
theorem t284_X9_meetSwapped_h1_g33 (fu : Nat) (hfu : 1000000000000 ≤ fu) (c248_pots : Int32) (c261_many : Int32) (c261_swapsAPot : Int32) (a265 : Nat → Int32) (a268 : Nat → Int32) (a269 : Nat → Int32) (n269 : Nat) (n308 : Nat) (n309 : Nat) (p0 : c248_pots.toInt ≤ 3) (p1 : 3 ≤ c248_pots.toInt) (p2 : c261_many.toInt ≤ 6) (p3 : 6 ≤ c261_many.toInt) (p4 : c261_swapsAPot.toInt ≤ 3) (p5 : 3 ≤ c261_swapsAPot.toInt) (p6 : ((n269 : Nat) : Int) ≤ 13824) (p7 : 1 ≤ ((n269 : Nat) : Int)) (p8 : ((n308 : Nat) : Int) ≤ 13824) (p9 : 1 ≤ ((n308 : Nat) : Int)) (p10 : ((n309 : Nat) : Int) ≤ 13824) (p11 : 1 ≤ ((n309 : Nat) : Int)) (p12 : ((n308 : Nat) : Int) ≤ ((n309 : Nat) : Int)) (p13 : ((n309 : Nat) : Int) ≤ ((n308 : Nat) : Int)) (p14 : 216 ≤ ((n308 : Nat) : Int)) (p15 : 216 ≤ ((n269 : Nat) : Int)) (hr_a265 : dz_rt a265 6 3 0 5) (hr_a268 : dz_pt a268 [36, 6, 1]) (hr_a269 : dz_rg a269 n269 0 1023) (k : Nat) (ih : ∀ j9, j9 < k → p284_X9_meetSwapped_g33 fu c248_pots c261_many c261_swapsAPot a265 a268 a269 n269 n308 n309 j9) : ∀ (v1 : Int32) (v2 : Int32) (c307_queued : Int32) (a308 : Nat → Int32) (a309 : Nat → Int32), v1.toInt ≤ 215 → 0 ≤ v1.toInt → v2.toInt ≤ 3 → 0 ≤ v2.toInt → c307_queued.toInt ≤ 13824 → 0 ≤ c307_queued.toInt → dz_rg a309 c307_queued.toInt.toNat 0 215 → 0 + 0 + (3 - v2.toInt) * 84 + 7 ≤ ((k : Nat) : Int) → dz_T ((F284_X9_meetSwapped fu c248_pots c261_many c261_swapsAPot a265 a268 a269 n269 n308 n309 k).1 v1 v2 c307_queued a308 a309) (fun r => r.1.toInt ≤ 13824 ∧ 0 ≤ r.1.toInt ∧ dz_rg r.2.2 r.1.toInt.toNat 0 215) := by
  intro v1 v2 c307_queued a308 a309 i0 i1 i2 i3 i4 i5 hr_a309 hm
  obtain ⟨k0, rfl⟩ : ∃ x, k = x + 1 := ⟨k - 1, by omega⟩
  show dz_T (s284_X9_meetSwapped_1 fu c248_pots c261_many c261_swapsAPot a265 a268 a269 n269 n308 n309 (F284_X9_meetSwapped fu c248_pots c261_many c261_swapsAPot a265 a268 a269 n269 n308 n309 k0).2.1  v1 v2 c307_queued a308 a309) _
  unfold s284_X9_meetSwapped_1
  rcases (show v2.toInt = 0 ∨ v2.toInt = 1 ∨ v2.toInt = 2 ∨ v2.toInt = 3 by omega) with hs | hs | hs | hs
  · skip
    refine dz_Tle (fun h1 => ?_) (fun h1 => ?_)
    · skip
      exfalso; omega
    · skip
      refine dz_Tin (by omega) (by omega) ?_
      refine dz_Tbe (show f141_X2_rankIn fu c261_many a268 v1 v2 = (if dz_in v2 4 then (if ((a268 v2.toNatClampNeg) ≤ (0 : Int32)) then (some (0 : Int32)) else (if (c261_many ≤ (0 : Int32)) then (some (0 : Int32)) else (if (¬ ((a268 v2.toNatClampNeg) = (0 : Int32))) then (if (¬ (c261_many = (0 : Int32))) then (some (dz_rem (v1 / (a268 v2.toNatClampNeg)) c261_many)) else none) else none))) else none) from rfl) ?_
      refine dz_Tinb (by omega) (by omega) ?_
      have e2 := dz_ptat (hr_a268) (i := v2) (x := 36) 0 (by omega) (by decide)
      have e3 := dz_l0
      refine dz_Tleb (fun h4 => ?_) (fun h4 => ?_)
      · skip
        exfalso; omega
      · skip
        refine dz_Tleb (fun h5 => ?_) (fun h5 => ?_)
        · skip
          exfalso; omega
        · skip
          refine dz_Tzb (by omega) ?_
          refine dz_Tzb (by omega) ?_
          refine dz_Tsb ?_
          have e6 := dz_divn (a := v1) (b := (a268 v2.toNatClampNeg)) 36 (by omega) (by omega) (by omega)
          have e7 := dz_remn (a := (v1 / (a268 v2.toNatClampNeg))) (b := c261_many) 6 (by omega) (by omega) (by omega)
          have e8 := dz_mulr (a := (dz_rem (v1 / (a268 v2.toNatClampNeg)) c261_many)) (b := (a268 v2.toNatClampNeg)) 36 (by omega) (by omega) (by omega)
          have e9 := dz_sub (a := v1) (b := ((dz_rem (v1 / (a268 v2.toNatClampNeg)) c261_many) * (a268 v2.toNatClampNeg))) (by omega) (by omega)
          exact (ih k0 (by omega)).2 v1 v2 (a268 v2.toNatClampNeg) (dz_rem (v1 / (a268 v2.toNatClampNeg)) c261_many) (v1 - ((dz_rem (v1 / (a268 v2.toNatClampNeg)) c261_many) * (a268 v2.toNatClampNeg))) (0 : Int32) c307_queued a308 a309 i0 i1 (by first | assumption | omega) i3 (by omega) (by omega) (by omega) (by omega) (by omega) (by omega) (by omega) (by omega) i4 i5 (by omega) (by omega) (dz_rgs (hr_a309) (by omega)) (by omega) (by omega)
  · skip
    refine dz_Tle (fun h10 => ?_) (fun h10 => ?_)
    · skip
      exfalso; omega
    · skip
      refine dz_Tin (by omega) (by omega) ?_
      refine dz_Tbe (show f141_X2_rankIn fu c261_many a268 v1 v2 = (if dz_in v2 4 then (if ((a268 v2.toNatClampNeg) ≤ (0 : Int32)) then (some (0 : Int32)) else (if (c261_many ≤ (0 : Int32)) then (some (0 : Int32)) else (if (¬ ((a268 v2.toNatClampNeg) = (0 : Int32))) then (if (¬ (c261_many = (0 : Int32))) then (some (dz_rem (v1 / (a268 v2.toNatClampNeg)) c261_many)) else none) else none))) else none) from rfl) ?_
      refine dz_Tinb (by omega) (by omega) ?_
      have e11 := dz_ptat (hr_a268) (i := v2) (x := 6) 1 (by omega) (by decide)
      have e12 := dz_l0
      refine dz_Tleb (fun h13 => ?_) (fun h13 => ?_)
      · skip
        exfalso; omega
      · skip
        refine dz_Tleb (fun h14 => ?_) (fun h14 => ?_)
        · skip
          exfalso; omega
        · skip
          refine dz_Tzb (by omega) ?_
          refine dz_Tzb (by omega) ?_
          refine dz_Tsb ?_
          have e15 := dz_divn (a := v1) (b := (a268 v2.toNatClampNeg)) 6 (by omega) (by omega) (by omega)
          have e16 := dz_remn (a := (v1 / (a268 v2.toNatClampNeg))) (b := c261_many) 6 (by omega) (by omega) (by omega)
          have e17 := dz_mulr (a := (dz_rem (v1 / (a268 v2.toNatClampNeg)) c261_many)) (b := (a268 v2.toNatClampNeg)) 6 (by omega) (by omega) (by omega)
          have e18 := dz_sub (a := v1) (b := ((dz_rem (v1 / (a268 v2.toNatClampNeg)) c261_many) * (a268 v2.toNatClampNeg))) (by omega) (by omega)
          exact (ih k0 (by omega)).2 v1 v2 (a268 v2.toNatClampNeg) (dz_rem (v1 / (a268 v2.toNatClampNeg)) c261_many) (v1 - ((dz_rem (v1 / (a268 v2.toNatClampNeg)) c261_many) * (a268 v2.toNatClampNeg))) (0 : Int32) c307_queued a308 a309 i0 i1 (by first | assumption | omega) i3 (by omega) (by omega) (by omega) (by omega) (by omega) (by omega) (by omega) (by omega) i4 i5 (by omega) (by omega) (dz_rgs (hr_a309) (by omega)) (by omega) (by omega)
  · skip
    refine dz_Tle (fun h19 => ?_) (fun h19 => ?_)
    · skip
      exfalso; omega
    · skip
      refine dz_Tin (by omega) (by omega) ?_
      refine dz_Tbe (show f141_X2_rankIn fu c261_many a268 v1 v2 = (if dz_in v2 4 then (if ((a268 v2.toNatClampNeg) ≤ (0 : Int32)) then (some (0 : Int32)) else (if (c261_many ≤ (0 : Int32)) then (some (0 : Int32)) else (if (¬ ((a268 v2.toNatClampNeg) = (0 : Int32))) then (if (¬ (c261_many = (0 : Int32))) then (some (dz_rem (v1 / (a268 v2.toNatClampNeg)) c261_many)) else none) else none))) else none) from rfl) ?_
      refine dz_Tinb (by omega) (by omega) ?_
      have e20 := dz_ptat (hr_a268) (i := v2) (x := 1) 2 (by omega) (by decide)
      have e21 := dz_l0
      refine dz_Tleb (fun h22 => ?_) (fun h22 => ?_)
      · skip
        exfalso; omega
      · skip
        refine dz_Tleb (fun h23 => ?_) (fun h23 => ?_)
        · skip
          exfalso; omega
        · skip
          refine dz_Tzb (by omega) ?_
          refine dz_Tzb (by omega) ?_
          refine dz_Tsb ?_
          have e24 := dz_div1 (a := v1) (b := (a268 v2.toNatClampNeg)) (by omega) (by omega)
          have e25 := dz_remn (a := (v1 / (a268 v2.toNatClampNeg))) (b := c261_many) 6 (by omega) (by omega) (by omega)
          have e26 := dz_mulr (a := (dz_rem (v1 / (a268 v2.toNatClampNeg)) c261_many)) (b := (a268 v2.toNatClampNeg)) 1 (by omega) (by omega) (by omega)
          have e27 := dz_sub (a := v1) (b := ((dz_rem (v1 / (a268 v2.toNatClampNeg)) c261_many) * (a268 v2.toNatClampNeg))) (by omega) (by omega)
          exact (ih k0 (by omega)).2 v1 v2 (a268 v2.toNatClampNeg) (dz_rem (v1 / (a268 v2.toNatClampNeg)) c261_many) (v1 - ((dz_rem (v1 / (a268 v2.toNatClampNeg)) c261_many) * (a268 v2.toNatClampNeg))) (0 : Int32) c307_queued a308 a309 i0 i1 (by first | assumption | omega) i3 (by omega) (by omega) (by omega) (by omega) (by omega) (by omega) (by omega) (by omega) i4 i5 (by omega) (by omega) (dz_rgs (hr_a309) (by omega)) (by omega) (by omega)
  · skip
    refine dz_Tle (fun h28 => ?_) (fun h28 => ?_)
    · skip
      refine dz_Ts ?_
      dsimp only
      exact ⟨i4, i5, (dz_rgs (hr_a309) (by omega))⟩
    · skip
      exfalso; omega
set_option maxHeartbeats 1000000 in
set_option maxRecDepth 10000 in
theorem t284_X9_meetSwapped_h2_g33 (fu : Nat) (hfu : 1000000000000 ≤ fu) (c248_pots : Int32) (c261_many : Int32) (c261_swapsAPot : Int32) (a265 : Nat → Int32) (a268 : Nat → Int32) (a269 : Nat → Int32) (n269 : Nat) (n308 : Nat) (n309 : Nat) (p0 : c248_pots.toInt ≤ 3) (p1 : 3 ≤ c248_pots.toInt) (p2 : c261_many.toInt ≤ 6) (p3 : 6 ≤ c261_many.toInt) (p4 : c261_swapsAPot.toInt ≤ 3) (p5 : 3 ≤ c261_swapsAPot.toInt) (p6 : ((n269 : Nat) : Int) ≤ 13824) (p7 : 1 ≤ ((n269 : Nat) : Int)) (p8 : ((n308 : Nat) : Int) ≤ 13824) (p9 : 1 ≤ ((n308 : Nat) : Int)) (p10 : ((n309 : Nat) : Int) ≤ 13824) (p11 : 1 ≤ ((n309 : Nat) : Int)) (p12 : ((n308 : Nat) : Int) ≤ ((n309 : Nat) : Int)) (p13 : ((n309 : Nat) : Int) ≤ ((n308 : Nat) : Int)) (p14 : 216 ≤ ((n308 : Nat) : Int)) (p15 : 216 ≤ ((n269 : Nat) : Int)) (hr_a265 : dz_rt a265 6 3 0 5) (hr_a268 : dz_pt a268 [36, 6, 1]) (hr_a269 : dz_rg a269 n269 0 1023) (k : Nat) (ih : ∀ j9, j9 < k → p284_X9_meetSwapped_g33 fu c248_pots c261_many c261_swapsAPot a265 a268 a269 n269 n308 n309 j9) : ∀ (v1 : Int32) (v2 : Int32) (v3 : Int32) (v4 : Int32) (v5 : Int32) (v6 : Int32) (c307_queued : Int32) (a308 : Nat → Int32) (a309 : Nat → Int32), v1.toInt ≤ 215 → 0 ≤ v1.toInt → v2.toInt ≤ 2 → 0 ≤ v2.toInt → v3.toInt ≤ 36 → 1 ≤ v3.toInt → v4.toInt ≤ 5 → 0 ≤ v4.toInt → v5.toInt ≤ 215 → (-180) ≤ v5.toInt → v6.toInt ≤ 3 → 0 ≤ v6.toInt → c307_queued.toInt ≤ 13824 → 0 ≤ c307_queued.toInt → v4.toInt ≤ v1.toInt → v5.toInt ≤ v1.toInt → dz_rg a309 c307_queued.toInt.toNat 0 215 → ((v2.toInt = 0 ∧ v3.toInt = 36 ∧ v4.toInt = v1.toInt / 36 % 6 ∧ v5.toInt = v1.toInt - v4.toInt * 36) ∨ (v2.toInt = 1 ∧ v3.toInt = 6 ∧ v4.toInt = v1.toInt / 6 % 6 ∧ v5.toInt = v1.toInt - v4.toInt * 6) ∨ (v2.toInt = 2 ∧ v3.toInt = 1 ∧ v4.toInt = v1.toInt % 6 ∧ v5.toInt = v1.toInt - v4.toInt * 1)) → 0 + 0 + ((3 - v2.toInt) - 1) * 84 + 0 + (3 - v6.toInt) * 14 + 14 ≤ ((k : Nat) : Int) → dz_T ((F284_X9_meetSwapped fu c248_pots c261_many c261_swapsAPot a265 a268 a269 n269 n308 n309 k).2.1 v1 v2 v3 v4 v5 v6 c307_queued a308 a309) (fun r => r.1.toInt ≤ 13824 ∧ 0 ≤ r.1.toInt ∧ dz_rg r.2.2 r.1.toInt.toNat 0 215) := by
  intro v1 v2 v3 v4 v5 v6 c307_queued a308 a309 i0 i1 i2 i3 i4 i5 i6 i7 i8 i9 i10 i11 i12 i13 i14 i15 hr_a309 x0 hm
  obtain ⟨k0, rfl⟩ : ∃ x, k = x + 1 := ⟨k - 1, by omega⟩
  show dz_T (s284_X9_meetSwapped_2 fu c248_pots c261_many c261_swapsAPot a265 a268 a269 n269 n308 n309 (F284_X9_meetSwapped fu c248_pots c261_many c261_swapsAPot a265 a268 a269 n269 n308 n309 k0).1 (F284_X9_meetSwapped fu c248_pots c261_many c261_swapsAPot a265 a268 a269 n269 n308 n309 k0).2.2  v1 v2 v3 v4 v5 v6 c307_queued a308 a309) _
  unfold s284_X9_meetSwapped_2
  rcases (show v2.toInt = 0 ∨ v2.toInt = 1 ∨ v2.toInt = 2 by omega) with hs | hs | hs
  · skip
    refine dz_Tle (fun h1 => ?_) (fun h1 => ?_)
    · skip
      have e2 := dz_l1
      have e3 := dz_add (a := v2) (b := (1 : Int32)) (by omega) (by omega)
      exact (ih k0 (by omega)).1 v1 (v2 + (1 : Int32)) c307_queued a308 a309 i0 i1 (by omega) (by omega) i12 i13 (dz_rgs (hr_a309) (by omega)) (by omega)
    · skip
      have e4 := dz_l6
      have e5 := dz_mulr (a := v4) (b := (6 : Int32)) 6 (by omega) (by omega) (by omega)
      have e6 := dz_add (a := (v4 * (6 : Int32))) (b := v6) (by omega) (by omega)
      refine dz_Tin (by omega) (by omega) ?_
      have e7 := dz_rtat (hr_a265) (x := v4) (y := v6) (by omega) (by omega) (by omega) (by omega) (by omega)
      have e8 := dz_mulr (a := (a265 ((v4 * (6 : Int32)) + v6).toNatClampNeg)) (b := v3) 36 (by omega) (by omega) (by omega)
      have e9 := dz_add (a := v5) (b := ((a265 ((v4 * (6 : Int32)) + v6).toNatClampNeg) * v3)) (by omega) (by omega)
      refine dz_Tin (by omega) (by omega) ?_
      have e10 := dz_rgat (hr_a269) (i := (v5 + ((a265 ((v4 * (6 : Int32)) + v6).toNatClampNeg) * v3))) (by omega) (by omega)
      have e11 := dz_l0
      refine dz_Teq (fun h12 => ?_) (fun h12 => ?_)
      · skip
        refine dz_Tb (t283_X9_meet_g33 fu hfu _ _ _ _ _ _ p8 (by first | assumption | omega) p10 p11 i12 i13 p12 p13 (by omega) (by omega) p14 (by first | assumption | omega) (dz_rgs (hr_a309) (by omega))) (fun r1 q => ?_)
        obtain ⟨q1_0, q1_1, qa1_2⟩ := q
        obtain ⟨k1, rfl⟩ : ∃ x, k0 = x + 1 := ⟨k0 - 1, by omega⟩
        show dz_T (s284_X9_meetSwapped_3 fu c248_pots c261_many c261_swapsAPot a265 a268 a269 n269 n308 n309 (F284_X9_meetSwapped fu c248_pots c261_many c261_swapsAPot a265 a268 a269 n269 n308 n309 k1).2.1 v1 v2 v3 v4 v5 v6 r1.1 r1.2.1 r1.2.2) _
        unfold s284_X9_meetSwapped_3
        have e13 := dz_l1
        have e14 := dz_add (a := v6) (b := (1 : Int32)) (by omega) (by omega)
        exact (ih k1 (by omega)).2 v1 v2 v3 v4 v5 (v6 + (1 : Int32)) r1.1 r1.2.1 r1.2.2 i0 i1 i2 i3 i4 i5 i6 i7 i8 i9 (by omega) (by omega) q1_0 q1_1 i14 i15 (dz_rgs (qa1_2) (by omega)) (by omega) (by omega)
      · skip
        obtain ⟨k2, rfl⟩ : ∃ x, k0 = x + 1 := ⟨k0 - 1, by omega⟩
        show dz_T (s284_X9_meetSwapped_3 fu c248_pots c261_many c261_swapsAPot a265 a268 a269 n269 n308 n309 (F284_X9_meetSwapped fu c248_pots c261_many c261_swapsAPot a265 a268 a269 n269 n308 n309 k2).2.1 v1 v2 v3 v4 v5 v6 c307_queued a308 a309) _
        unfold s284_X9_meetSwapped_3
        have e15 := dz_l1
        have e16 := dz_add (a := v6) (b := (1 : Int32)) (by omega) (by omega)
        exact (ih k2 (by omega)).2 v1 v2 v3 v4 v5 (v6 + (1 : Int32)) c307_queued a308 a309 i0 i1 i2 i3 i4 i5 i6 i7 i8 i9 (by omega) (by omega) i12 i13 i14 i15 (dz_rgs (hr_a309) (by omega)) (by omega) (by omega)
  · skip
    refine dz_Tle (fun h17 => ?_) (fun h17 => ?_)
    · skip
      have e18 := dz_l1
      have e19 := dz_add (a := v2) (b := (1 : Int32)) (by omega) (by omega)
      exact (ih k0 (by omega)).1 v1 (v2 + (1 : Int32)) c307_queued a308 a309 i0 i1 (by omega) (by omega) i12 i13 (dz_rgs (hr_a309) (by omega)) (by omega)
    · skip
      have e20 := dz_l6
      have e21 := dz_mulr (a := v4) (b := (6 : Int32)) 6 (by omega) (by omega) (by omega)
      have e22 := dz_add (a := (v4 * (6 : Int32))) (b := v6) (by omega) (by omega)
      refine dz_Tin (by omega) (by omega) ?_
      have e23 := dz_rtat (hr_a265) (x := v4) (y := v6) (by omega) (by omega) (by omega) (by omega) (by omega)
      have e24 := dz_mulr (a := (a265 ((v4 * (6 : Int32)) + v6).toNatClampNeg)) (b := v3) 6 (by omega) (by omega) (by omega)
      have e25 := dz_add (a := v5) (b := ((a265 ((v4 * (6 : Int32)) + v6).toNatClampNeg) * v3)) (by omega) (by omega)
      refine dz_Tin (by omega) (by omega) ?_
      have e26 := dz_rgat (hr_a269) (i := (v5 + ((a265 ((v4 * (6 : Int32)) + v6).toNatClampNeg) * v3))) (by omega) (by omega)
      have e27 := dz_l0
      refine dz_Teq (fun h28 => ?_) (fun h28 => ?_)
      · skip
        refine dz_Tb (t283_X9_meet_g33 fu hfu _ _ _ _ _ _ p8 (by first | assumption | omega) p10 p11 i12 i13 p12 p13 (by omega) (by omega) p14 (by first | assumption | omega) (dz_rgs (hr_a309) (by omega))) (fun r2 q => ?_)
        obtain ⟨q2_0, q2_1, qa2_2⟩ := q
        obtain ⟨k3, rfl⟩ : ∃ x, k0 = x + 1 := ⟨k0 - 1, by omega⟩
        show dz_T (s284_X9_meetSwapped_3 fu c248_pots c261_many c261_swapsAPot a265 a268 a269 n269 n308 n309 (F284_X9_meetSwapped fu c248_pots c261_many c261_swapsAPot a265 a268 a269 n269 n308 n309 k3).2.1 v1 v2 v3 v4 v5 v6 r2.1 r2.2.1 r2.2.2) _
        unfold s284_X9_meetSwapped_3
        have e29 := dz_l1
        have e30 := dz_add (a := v6) (b := (1 : Int32)) (by omega) (by omega)
        exact (ih k3 (by omega)).2 v1 v2 v3 v4 v5 (v6 + (1 : Int32)) r2.1 r2.2.1 r2.2.2 i0 i1 i2 i3 i4 i5 i6 i7 i8 i9 (by omega) (by omega) q2_0 q2_1 i14 i15 (dz_rgs (qa2_2) (by omega)) (by omega) (by omega)
      · skip
        obtain ⟨k4, rfl⟩ : ∃ x, k0 = x + 1 := ⟨k0 - 1, by omega⟩
        show dz_T (s284_X9_meetSwapped_3 fu c248_pots c261_many c261_swapsAPot a265 a268 a269 n269 n308 n309 (F284_X9_meetSwapped fu c248_pots c261_many c261_swapsAPot a265 a268 a269 n269 n308 n309 k4).2.1 v1 v2 v3 v4 v5 v6 c307_queued a308 a309) _
        unfold s284_X9_meetSwapped_3
        have e31 := dz_l1
        have e32 := dz_add (a := v6) (b := (1 : Int32)) (by omega) (by omega)
        exact (ih k4 (by omega)).2 v1 v2 v3 v4 v5 (v6 + (1 : Int32)) c307_queued a308 a309 i0 i1 i2 i3 i4 i5 i6 i7 i8 i9 (by omega) (by omega) i12 i13 i14 i15 (dz_rgs (hr_a309) (by omega)) (by omega) (by omega)
  · skip
    refine dz_Tle (fun h33 => ?_) (fun h33 => ?_)
    · skip
      have e34 := dz_l1
      have e35 := dz_add (a := v2) (b := (1 : Int32)) (by omega) (by omega)
      exact (ih k0 (by omega)).1 v1 (v2 + (1 : Int32)) c307_queued a308 a309 i0 i1 (by omega) (by omega) i12 i13 (dz_rgs (hr_a309) (by omega)) (by omega)
    · skip
      have e36 := dz_l6
      have e37 := dz_mulr (a := v4) (b := (6 : Int32)) 6 (by omega) (by omega) (by omega)
      have e38 := dz_add (a := (v4 * (6 : Int32))) (b := v6) (by omega) (by omega)
      refine dz_Tin (by omega) (by omega) ?_
      have e39 := dz_rtat (hr_a265) (x := v4) (y := v6) (by omega) (by omega) (by omega) (by omega) (by omega)
      have e40 := dz_mulr (a := (a265 ((v4 * (6 : Int32)) + v6).toNatClampNeg)) (b := v3) 1 (by omega) (by omega) (by omega)
      have e41 := dz_add (a := v5) (b := ((a265 ((v4 * (6 : Int32)) + v6).toNatClampNeg) * v3)) (by omega) (by omega)
      refine dz_Tin (by omega) (by omega) ?_
      have e42 := dz_rgat (hr_a269) (i := (v5 + ((a265 ((v4 * (6 : Int32)) + v6).toNatClampNeg) * v3))) (by omega) (by omega)
      have e43 := dz_l0
      refine dz_Teq (fun h44 => ?_) (fun h44 => ?_)
      · skip
        refine dz_Tb (t283_X9_meet_g33 fu hfu _ _ _ _ _ _ p8 (by first | assumption | omega) p10 p11 i12 i13 p12 p13 (by omega) (by omega) p14 (by first | assumption | omega) (dz_rgs (hr_a309) (by omega))) (fun r3 q => ?_)
        obtain ⟨q3_0, q3_1, qa3_2⟩ := q
        obtain ⟨k5, rfl⟩ : ∃ x, k0 = x + 1 := ⟨k0 - 1, by omega⟩
        show dz_T (s284_X9_meetSwapped_3 fu c248_pots c261_many c261_swapsAPot a265 a268 a269 n269 n308 n309 (F284_X9_meetSwapped fu c248_pots c261_many c261_swapsAPot a265 a268 a269 n269 n308 n309 k5).2.1 v1 v2 v3 v4 v5 v6 r3.1 r3.2.1 r3.2.2) _
        unfold s284_X9_meetSwapped_3
        have e45 := dz_l1
        have e46 := dz_add (a := v6) (b := (1 : Int32)) (by omega) (by omega)
        exact (ih k5 (by omega)).2 v1 v2 v3 v4 v5 (v6 + (1 : Int32)) r3.1 r3.2.1 r3.2.2 i0 i1 i2 i3 i4 i5 i6 i7 i8 i9 (by omega) (by omega) q3_0 q3_1 i14 i15 (dz_rgs (qa3_2) (by omega)) (by omega) (by omega)
      · skip
        obtain ⟨k6, rfl⟩ : ∃ x, k0 = x + 1 := ⟨k0 - 1, by omega⟩
        show dz_T (s284_X9_meetSwapped_3 fu c248_pots c261_many c261_swapsAPot a265 a268 a269 n269 n308 n309 (F284_X9_meetSwapped fu c248_pots c261_many c261_swapsAPot a265 a268 a269 n269 n308 n309 k6).2.1 v1 v2 v3 v4 v5 v6 c307_queued a308 a309) _
        unfold s284_X9_meetSwapped_3
        have e47 := dz_l1
        have e48 := dz_add (a := v6) (b := (1 : Int32)) (by omega) (by omega)
        exact (ih k6 (by omega)).2 v1 v2 v3 v4 v5 (v6 + (1 : Int32)) c307_queued a308 a309 i0 i1 i2 i3 i4 i5 i6 i7 i8 i9 (by omega) (by omega) i12 i13 i14 i15 (dz_rgs (hr_a309) (by omega)) (by omega) (by omega)
theorem t284_X9_meetSwapped_I_g33 (fu : Nat) (hfu : 1000000000000 ≤ fu) (c248_pots : Int32) (c261_many : Int32) (c261_swapsAPot : Int32) (a265 : Nat → Int32) (a268 : Nat → Int32) (a269 : Nat → Int32) (n269 : Nat) (n308 : Nat) (n309 : Nat) (p0 : c248_pots.toInt ≤ 3) (p1 : 3 ≤ c248_pots.toInt) (p2 : c261_many.toInt ≤ 6) (p3 : 6 ≤ c261_many.toInt) (p4 : c261_swapsAPot.toInt ≤ 3) (p5 : 3 ≤ c261_swapsAPot.toInt) (p6 : ((n269 : Nat) : Int) ≤ 13824) (p7 : 1 ≤ ((n269 : Nat) : Int)) (p8 : ((n308 : Nat) : Int) ≤ 13824) (p9 : 1 ≤ ((n308 : Nat) : Int)) (p10 : ((n309 : Nat) : Int) ≤ 13824) (p11 : 1 ≤ ((n309 : Nat) : Int)) (p12 : ((n308 : Nat) : Int) ≤ ((n309 : Nat) : Int)) (p13 : ((n309 : Nat) : Int) ≤ ((n308 : Nat) : Int)) (p14 : 216 ≤ ((n308 : Nat) : Int)) (p15 : 216 ≤ ((n269 : Nat) : Int)) (hr_a265 : dz_rt a265 6 3 0 5) (hr_a268 : dz_pt a268 [36, 6, 1]) (hr_a269 : dz_rg a269 n269 0 1023) (k : Nat) : p284_X9_meetSwapped_g33 fu c248_pots c261_many c261_swapsAPot a265 a268 a269 n269 n308 n309 k := by
  induction k using Nat.strongRecOn with
  | _ k ih => exact ⟨t284_X9_meetSwapped_h1_g33 fu hfu c248_pots c261_many c261_swapsAPot a265 a268 a269 n269 n308 n309 p0 p1 p2 p3 p4 p5 p6 p7 p8 p9 p10 p11 p12 p13 p14 p15 hr_a265 hr_a268 hr_a269 k ih, t284_X9_meetSwapped_h2_g33 fu hfu c248_pots c261_many c261_swapsAPot a265 a268 a269 n269 n308 n309 p0 p1 p2 p3 p4 p5 p6 p7 p8 p9 p10 p11 p12 p13 p14 p15 hr_a265 hr_a268 hr_a269 k ih⟩
set_option maxHeartbeats 1000000 in
set_option maxRecDepth 10000 in
theorem t284_X9_meetSwapped_E_g33 (fu : Nat) (hfu : 1000000000000 ≤ fu) (c248_pots : Int32) (c261_many : Int32) (c261_swapsAPot : Int32) (a265 : Nat → Int32) (a268 : Nat → Int32) (a269 : Nat → Int32) (n269 : Nat) (n308 : Nat) (n309 : Nat) (v1 : Int32) (c307_queued : Int32) (a308 : Nat → Int32) (a309 : Nat → Int32) (p0 : c248_pots.toInt ≤ 3) (p1 : 3 ≤ c248_pots.toInt) (p2 : c261_many.toInt ≤ 6) (p3 : 6 ≤ c261_many.toInt) (p4 : c261_swapsAPot.toInt ≤ 3) (p5 : 3 ≤ c261_swapsAPot.toInt) (p6 : ((n269 : Nat) : Int) ≤ 13824) (p7 : 1 ≤ ((n269 : Nat) : Int)) (p8 : ((n308 : Nat) : Int) ≤ 13824) (p9 : 1 ≤ ((n308 : Nat) : Int)) (p10 : ((n309 : Nat) : Int) ≤ 13824) (p11 : 1 ≤ ((n309 : Nat) : Int)) (p12 : c307_queued.toInt ≤ 13824) (p13 : 0 ≤ c307_queued.toInt) (p14 : ((n308 : Nat) : Int) ≤ ((n309 : Nat) : Int)) (p15 : ((n309 : Nat) : Int) ≤ ((n308 : Nat) : Int)) (p16 : 0 ≤ v1.toInt) (p17 : v1.toInt ≤ 215) (p18 : 216 ≤ ((n308 : Nat) : Int)) (p19 : 216 ≤ ((n269 : Nat) : Int)) (hr_a265 : dz_rt a265 6 3 0 5) (hr_a268 : dz_pt a268 [36, 6, 1]) (hr_a269 : dz_rg a269 n269 0 1023) (hr_a309 : dz_rg a309 c307_queued.toInt.toNat 0 215) (kv : Nat) (hkv : 1000000000000 ≤ kv) : dz_T (s284_X9_meetSwapped_0 fu c248_pots c261_many c261_swapsAPot a265 a268 a269 n269 n308 n309 (F284_X9_meetSwapped fu c248_pots c261_many c261_swapsAPot a265 a268 a269 n269 n308 n309 kv).1  v1 c307_queued a308 a309) (fun r => r.1.toInt ≤ 13824 ∧ 0 ≤ r.1.toInt ∧ dz_rg r.2.2 r.1.toInt.toNat 0 215) := by
  unfold s284_X9_meetSwapped_0
  have e1 := dz_l0
  exact (t284_X9_meetSwapped_I_g33 fu hfu c248_pots c261_many c261_swapsAPot a265 a268 a269 n269 n308 n309 p0 p1 p2 p3 p4 p5 p6 p7 p8 p9 p10 p11 p14 p15 p18 p19 hr_a265 hr_a268 hr_a269 kv).1 v1 (0 : Int32) c307_queued a308 a309 p17 p16 (by omega) (by omega) p12 p13 (dz_rgs (hr_a309) (by omega)) (by omega)
theorem t284_X9_meetSwapped_g33 (fu : Nat) (hfu : 1000000000000 ≤ fu) (c248_pots : Int32) (c261_many : Int32) (c261_swapsAPot : Int32) (a265 : Nat → Int32) (a268 : Nat → Int32) (a269 : Nat → Int32) (n269 : Nat) (n308 : Nat) (n309 : Nat) (v1 : Int32) (c307_queued : Int32) (a308 : Nat → Int32) (a309 : Nat → Int32) (p0 : c248_pots.toInt ≤ 3) (p1 : 3 ≤ c248_pots.toInt) (p2 : c261_many.toInt ≤ 6) (p3 : 6 ≤ c261_many.toInt) (p4 : c261_swapsAPot.toInt ≤ 3) (p5 : 3 ≤ c261_swapsAPot.toInt) (p6 : ((n269 : Nat) : Int) ≤ 13824) (p7 : 1 ≤ ((n269 : Nat) : Int)) (p8 : ((n308 : Nat) : Int) ≤ 13824) (p9 : 1 ≤ ((n308 : Nat) : Int)) (p10 : ((n309 : Nat) : Int) ≤ 13824) (p11 : 1 ≤ ((n309 : Nat) : Int)) (p12 : c307_queued.toInt ≤ 13824) (p13 : 0 ≤ c307_queued.toInt) (p14 : ((n308 : Nat) : Int) ≤ ((n309 : Nat) : Int)) (p15 : ((n309 : Nat) : Int) ≤ ((n308 : Nat) : Int)) (p16 : 0 ≤ v1.toInt) (p17 : v1.toInt ≤ 215) (p18 : 216 ≤ ((n308 : Nat) : Int)) (p19 : 216 ≤ ((n269 : Nat) : Int)) (hr_a265 : dz_rt a265 6 3 0 5) (hr_a268 : dz_pt a268 [36, 6, 1]) (hr_a269 : dz_rg a269 n269 0 1023) (hr_a309 : dz_rg a309 c307_queued.toInt.toNat 0 215) : dz_T (f284_X9_meetSwapped fu c248_pots c261_many c261_swapsAPot a265 a268 a269 n269 n308 n309 v1 c307_queued a308 a309) (fun r => r.1.toInt ≤ 13824 ∧ 0 ≤ r.1.toInt ∧ dz_rg r.2.2 r.1.toInt.toNat 0 215) :=
  t284_X9_meetSwapped_E_g33 fu hfu c248_pots c261_many c261_swapsAPot a265 a268 a269 n269 n308 n309 v1 c307_queued a308 a309 p0 p1 p2 p3 p4 p5 p6 p7 p8 p9 p10 p11 p12 p13 p14 p15 p16 p17 p18 p19 hr_a265 hr_a268 hr_a269 hr_a309 fu hfu
