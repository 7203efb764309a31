set_option maxHeartbeats 1000000 in
set_option maxRecDepth 10000 in
theorem t299_X10_build_E_g22 (fu : Nat) (hfu : 1000000000000 ≤ fu) (c248_pots : Int32) (c261_many : Int32) (c267_total : Int32) (a268 : Nat → Int32) (a269 : Nat → Int32) (n269 : Nat) (c284_fresh : Int32) (a285 : Nat → Int32) (a286 : Nat → Int32) (a287 : Nat → Int32) (p0 : c248_pots.toInt ≤ 2) (p1 : 2 ≤ c248_pots.toInt) (p2 : c261_many.toInt ≤ 2) (p3 : 2 ≤ c261_many.toInt) (p4 : c267_total.toInt ≤ 4) (p5 : 4 ≤ c267_total.toInt) (p6 : ((n269 : Nat) : Int) ≤ 13824) (p7 : 1 ≤ ((n269 : Nat) : Int)) (p8 : c284_fresh.toInt ≤ 1) (p9 : 0 ≤ c284_fresh.toInt) (p10 : c267_total.toInt ≤ ((n269 : Nat) : Int)) (hr_a268 : dz_pt a268 [2, 1]) (hr_a269 : dz_rg a269 n269 0 1023) (hr_a285 : dz_rg a285 601 0 16777215) (hr_a286 : dz_rg a286 5 0 14425) (kv : Nat) (hkv : 1000000000000 ≤ kv) : dz_T (s299_X10_build_0 fu c248_pots c261_many c267_total a268 a269 n269 (F299_X10_build fu c248_pots c261_many c267_total a268 a269 n269 kv).1  c284_fresh a285 a286 a287) (fun r => r.1.toInt ≤ 1 ∧ 1 ≤ r.1.toInt ∧ dz_rg r.2.1 601 0 16777215 ∧ dz_rg r.2.2.1 5 0 14425 ∧ dz_pm r.2.2.2 2) := by
  unfold s299_X10_build_0
  have e1 := dz_l0
  refine dz_Tng (by omega) ?_
  refine dz_Tng (by omega) ?_
  have e2 := dz_l4
  refine dz_Tng (by omega) ?_
  have e3 := dz_tn (0 : Int32)
  have e4 := dz_tn (4 : Int32)
  refine dz_Tg (by omega) ?_
  refine dz_Tg (by omega) ?_
  refine dz_Tin (by omega) (by omega) ?_
  obtain ⟨k1, rfl⟩ : ∃ x, kv = x + 1 := ⟨kv - 1, by omega⟩
  show dz_T (s299_X10_build_1 fu c248_pots c261_many c267_total a268 a269 n269 (F299_X10_build fu c248_pots c261_many c267_total a268 a269 n269 k1).1 (F299_X10_build fu c248_pots c261_many c267_total a268 a269 n269 k1).2.1 c248_pots (1 : Int32) (0 : Int32) c284_fresh a285 (upd a286 (0 : Int32).toNatClampNeg (0 : Int32)) (va_cpy jw_s0 a287 (0 : Int32).toNatClampNeg (0 : Int32).toNatClampNeg (4 : Int32).toNatClampNeg)) _
  unfold s299_X10_build_1
  refine dz_Tle (fun h5 => ?_) (fun h5 => ?_)
  · skip
    exfalso; omega
  · skip
    refine dz_Tin (by omega) (by omega) ?_
    have e6 := dz_l1
    have e7 := dz_add (a := (0 : Int32)) (b := (1 : Int32)) (by omega) (by omega)
    refine dz_Tin (by omega) (by omega) ?_
    obtain ⟨k2, rfl⟩ : ∃ x, k1 = x + 1 := ⟨k1 - 1, by omega⟩
    show dz_T (s299_X10_build_1 fu c248_pots c261_many c267_total a268 a269 n269 (F299_X10_build fu c248_pots c261_many c267_total a268 a269 n269 k2).1 (F299_X10_build fu c248_pots c261_many c267_total a268 a269 n269 k2).2.1 c248_pots ((1 : Int32) * c261_many) ((0 : Int32) + (1 : Int32)) c284_fresh a285 (upd (upd a286 (0 : Int32).toNatClampNeg (0 : Int32)) ((0 : Int32) + (1 : Int32)).toNatClampNeg (((upd a286 (0 : Int32).toNatClampNeg (0 : Int32)) (0 : Int32).toNatClampNeg) + (1 : Int32))) (va_cpy jw_s0 a287 (0 : Int32).toNatClampNeg (0 : Int32).toNatClampNeg (4 : Int32).toNatClampNeg)) _
    unfold s299_X10_build_1
    refine dz_Tle (fun h8 => ?_) (fun h8 => ?_)
    · skip
      exfalso; omega
    · skip
      refine dz_Tin (by omega) (by omega) ?_
      have e9 := dz_add (a := ((0 : Int32) + (1 : Int32))) (b := (1 : Int32)) (by omega) (by omega)
      refine dz_Tin (by omega) (by omega) ?_
      obtain ⟨k3, rfl⟩ : ∃ x, k2 = x + 1 := ⟨k2 - 1, by omega⟩
      show dz_T (s299_X10_build_1 fu c248_pots c261_many c267_total a268 a269 n269 (F299_X10_build fu c248_pots c261_many c267_total a268 a269 n269 k3).1 (F299_X10_build fu c248_pots c261_many c267_total a268 a269 n269 k3).2.1 c248_pots (((1 : Int32) * c261_many) * c261_many) (((0 : Int32) + (1 : Int32)) + (1 : Int32)) c284_fresh a285 (upd (upd (upd a286 (0 : Int32).toNatClampNeg (0 : Int32)) ((0 : Int32) + (1 : Int32)).toNatClampNeg (((upd a286 (0 : Int32).toNatClampNeg (0 : Int32)) (0 : Int32).toNatClampNeg) + (1 : Int32))) (((0 : Int32) + (1 : Int32)) + (1 : Int32)).toNatClampNeg (((upd (upd a286 (0 : Int32).toNatClampNeg (0 : Int32)) ((0 : Int32) + (1 : Int32)).toNatClampNeg (((upd a286 (0 : Int32).toNatClampNeg (0 : Int32)) (0 : Int32).toNatClampNeg) + (1 : Int32))) ((0 : Int32) + (1 : Int32)).toNatClampNeg) + ((1 : Int32) * c261_many))) (va_cpy jw_s0 a287 (0 : Int32).toNatClampNeg (0 : Int32).toNatClampNeg (4 : Int32).toNatClampNeg)) _
      unfold s299_X10_build_1
      refine dz_Tle (fun h10 => ?_) (fun h10 => ?_)
      · skip
        refine dz_Tle (fun h11 => ?_) (fun h11 => ?_)
        · skip
          exfalso; omega
        · skip
          have e12 := dz_ups (a := a286) (v := (0 : Int32)) (i := (0 : Int32)) (j := (0 : Int32)) (by omega)
          have e13 := dz_add (a := ((upd a286 (0 : Int32).toNatClampNeg (0 : Int32)) (0 : Int32).toNatClampNeg)) (b := (1 : Int32)) (by omega) (by omega)
          have e14 := dz_ups (a := (upd a286 (0 : Int32).toNatClampNeg (0 : Int32))) (v := (((upd a286 (0 : Int32).toNatClampNeg (0 : Int32)) (0 : Int32).toNatClampNeg) + (1 : Int32))) (i := ((0 : Int32) + (1 : Int32))) (j := ((0 : Int32) + (1 : Int32))) (by omega)
          have e15 := dz_mull (a := (1 : Int32)) (b := c261_many) 1 (by omega) (by omega) (by omega)
          have e16 := dz_add (a := ((upd (upd a286 (0 : Int32).toNatClampNeg (0 : Int32)) ((0 : Int32) + (1 : Int32)).toNatClampNeg (((upd a286 (0 : Int32).toNatClampNeg (0 : Int32)) (0 : Int32).toNatClampNeg) + (1 : Int32))) ((0 : Int32) + (1 : Int32)).toNatClampNeg)) (b := ((1 : Int32) * c261_many)) (by omega) (by omega)
          refine dz_Tb (t172_X10_fillLast_g22 fu hfu _ _ _ _ _ _ _ _ _ p0 p1 p2 p3 p4 p5 p6 p7 p10 (hr_a268) (hr_a269) (dz_ptmk3 ((dz_upo (j := (((0 : Int32) + (1 : Int32)) + (1 : Int32))) 0 (by omega)).trans ((dz_upo (j := ((0 : Int32) + (1 : Int32))) 0 (by omega)).trans ((dz_upk (j := (0 : Int32)) 0 (by omega)).trans (by omega)))) ((dz_upo (j := (((0 : Int32) + (1 : Int32)) + (1 : Int32))) 1 (by omega)).trans ((dz_upk (j := ((0 : Int32) + (1 : Int32))) 1 (by omega)).trans (by omega))) ((dz_upk (j := (((0 : Int32) + (1 : Int32)) + (1 : Int32))) 2 (by omega)).trans (by omega))) (dz_pms2) (hr_a285) (by first | assumption | omega)) (fun r1 q => ?_)
          have qa1_0 := q
          obtain ⟨k4, rfl⟩ : ∃ x, k3 = x + 1 := ⟨k3 - 1, by omega⟩
          show dz_T (s299_X10_build_2 fu c248_pots c261_many c267_total a268 a269 n269 (F299_X10_build fu c248_pots c261_many c267_total a268 a269 n269 k4).2.2 c248_pots c284_fresh r1 (upd (upd (upd a286 (0 : Int32).toNatClampNeg (0 : Int32)) ((0 : Int32) + (1 : Int32)).toNatClampNeg (((upd a286 (0 : Int32).toNatClampNeg (0 : Int32)) (0 : Int32).toNatClampNeg) + (1 : Int32))) (((0 : Int32) + (1 : Int32)) + (1 : Int32)).toNatClampNeg (((upd (upd a286 (0 : Int32).toNatClampNeg (0 : Int32)) ((0 : Int32) + (1 : Int32)).toNatClampNeg (((upd a286 (0 : Int32).toNatClampNeg (0 : Int32)) (0 : Int32).toNatClampNeg) + (1 : Int32))) ((0 : Int32) + (1 : Int32)).toNatClampNeg) + ((1 : Int32) * c261_many))) (va_cpy jw_s0 a287 (0 : Int32).toNatClampNeg (0 : Int32).toNatClampNeg (4 : Int32).toNatClampNeg)) _
          unfold s299_X10_build_2
          have e17 := dz_l2
          have e18 := dz_sub (a := c248_pots) (b := (2 : Int32)) (by omega) (by omega)
          generalize (c248_pots - (2 : Int32)) = zz7 at *
          obtain ⟨k5, rfl⟩ : ∃ x, k4 = x + 1 := ⟨k4 - 1, by omega⟩
          show dz_T (s299_X10_build_3 fu c248_pots c261_many c267_total a268 a269 n269 (F299_X10_build fu c248_pots c261_many c267_total a268 a269 n269 k5).2.2 zz7 c284_fresh r1 (upd (upd (upd a286 (0 : Int32).toNatClampNeg (0 : Int32)) ((0 : Int32) + (1 : Int32)).toNatClampNeg (((upd a286 (0 : Int32).toNatClampNeg (0 : Int32)) (0 : Int32).toNatClampNeg) + (1 : Int32))) (((0 : Int32) + (1 : Int32)) + (1 : Int32)).toNatClampNeg (((upd (upd a286 (0 : Int32).toNatClampNeg (0 : Int32)) ((0 : Int32) + (1 : Int32)).toNatClampNeg (((upd a286 (0 : Int32).toNatClampNeg (0 : Int32)) (0 : Int32).toNatClampNeg) + (1 : Int32))) ((0 : Int32) + (1 : Int32)).toNatClampNeg) + ((1 : Int32) * c261_many))) (va_cpy jw_s0 a287 (0 : Int32).toNatClampNeg (0 : Int32).toNatClampNeg (4 : Int32).toNatClampNeg)) _
          unfold s299_X10_build_3
          refine dz_Tlt (fun h19 => ?_) (fun h19 => ?_)
          · skip
            exfalso; omega
          · skip
            refine dz_Tb (t173_X10_fillFromNext_g22 fu hfu _ _ _ _ p2 p3 (by first | assumption | omega) (by first | assumption | omega) (dz_ptmk3 ((dz_upo (j := (((0 : Int32) + (1 : Int32)) + (1 : Int32))) 0 (by omega)).trans ((dz_upo (j := ((0 : Int32) + (1 : Int32))) 0 (by omega)).trans ((dz_upk (j := (0 : Int32)) 0 (by omega)).trans (by omega)))) ((dz_upo (j := (((0 : Int32) + (1 : Int32)) + (1 : Int32))) 1 (by omega)).trans ((dz_upk (j := ((0 : Int32) + (1 : Int32))) 1 (by omega)).trans (by omega))) ((dz_upk (j := (((0 : Int32) + (1 : Int32)) + (1 : Int32))) 2 (by omega)).trans (by omega))) (qa1_0)) (fun r2 q => ?_)
            have qa2_0 := q
            have e20 := dz_lm1
            have e21 := dz_add (a := zz7) (b := (-(1 : Int32))) (by omega) (by omega)
            generalize (zz7 + (-(1 : Int32))) = zz8 at *
            obtain ⟨k6, rfl⟩ : ∃ x, k5 = x + 1 := ⟨k5 - 1, by omega⟩
            show dz_T (s299_X10_build_3 fu c248_pots c261_many c267_total a268 a269 n269 (F299_X10_build fu c248_pots c261_many c267_total a268 a269 n269 k6).2.2 zz8 c284_fresh r2 (upd (upd (upd a286 (0 : Int32).toNatClampNeg (0 : Int32)) ((0 : Int32) + (1 : Int32)).toNatClampNeg (((upd a286 (0 : Int32).toNatClampNeg (0 : Int32)) (0 : Int32).toNatClampNeg) + (1 : Int32))) (((0 : Int32) + (1 : Int32)) + (1 : Int32)).toNatClampNeg (((upd (upd a286 (0 : Int32).toNatClampNeg (0 : Int32)) ((0 : Int32) + (1 : Int32)).toNatClampNeg (((upd a286 (0 : Int32).toNatClampNeg (0 : Int32)) (0 : Int32).toNatClampNeg) + (1 : Int32))) ((0 : Int32) + (1 : Int32)).toNatClampNeg) + ((1 : Int32) * c261_many))) (va_cpy jw_s0 a287 (0 : Int32).toNatClampNeg (0 : Int32).toNatClampNeg (4 : Int32).toNatClampNeg)) _
            unfold s299_X10_build_3
            refine dz_Tlt (fun h22 => ?_) (fun h22 => ?_)
            · skip
              refine dz_Ts ?_
              dsimp only
              exact ⟨(by omega), (by omega), (qa2_0), (dz_rgu (dz_rgu (dz_rgu (hr_a286) (by omega) (by omega)) (by omega) (by omega)) (by omega) (by omega)), (dz_pms2)⟩
            · skip
              exfalso; omega
      · skip
        exfalso; omega
theorem t299_X10_build_g22 (fu : Nat) (hfu : 1000000000000 ≤ fu) (c248_pots : Int32) (c261_many : Int32) (c267_total : Int32) (a268 : Nat → Int32) (a269 : Nat → Int32) (n269 : Nat) (c284_fresh : Int32) (a285 : Nat → Int32) (a286 : Nat → Int32) (a287 : Nat → Int32) (p0 : c248_pots.toInt ≤ 2) (p1 : 2 ≤ c248_pots.toInt) (p2 : c261_many.toInt ≤ 2) (p3 : 2 ≤ c261_many.toInt) (p4 : c267_total.toInt ≤ 4) (p5 : 4 ≤ c267_total.toInt) (p6 : ((n269 : Nat) : Int) ≤ 13824) (p7 : 1 ≤ ((n269 : Nat) : Int)) (p8 : c284_fresh.toInt ≤ 1) (p9 : 0 ≤ c284_fresh.toInt) (p10 : c267_total.toInt ≤ ((n269 : Nat) : Int)) (hr_a268 : dz_pt a268 [2, 1]) (hr_a269 : dz_rg a269 n269 0 1023) (hr_a285 : dz_rg a285 601 0 16777215) (hr_a286 : dz_rg a286 5 0 14425) : dz_T (f299_X10_build fu c248_pots c261_many c267_total a268 a269 n269 c284_fresh a285 a286 a287) (fun r => r.1.toInt ≤ 1 ∧ 1 ≤ r.1.toInt ∧ dz_rg r.2.1 601 0 16777215 ∧ dz_rg r.2.2.1 5 0 14425 ∧ dz_pm r.2.2.2 2) :=
  t299_X10_build_E_g22 fu hfu c248_pots c261_many c267_total a268 a269 n269 c284_fresh a285 a286 a287 p0 p1 p2 p3 p4 p5 p6 p7 p8 p9 p10 hr_a268 hr_a269 hr_a285 hr_a286 fu hfu
set_option maxHeartbeats 1000000 in
set_option maxRecDepth 10000 in
theorem t299_X10_build_E_g23 (fu : Nat) (hfu : 1000000000000 ≤ fu) (c248_pots : Int32) (c261_many : Int32) (c267_total : Int32) (a268 : Nat → Int32) (a269 : Nat → Int32) (n269 : Nat) (c284_fresh : Int32) (a285 : Nat → Int32) (a286 : Nat → Int32) (a287 : Nat → Int32) (p0 : c248_pots.toInt ≤ 3) (p1 : 3 ≤ c248_pots.toInt) (p2 : c261_many.toInt ≤ 2) (p3 : 2 ≤ c261_many.toInt) (p4 : c267_total.toInt ≤ 8) (p5 : 8 ≤ c267_total.toInt) (p6 : ((n269 : Nat) : Int) ≤ 13824) (p7 : 1 ≤ ((n269 : Nat) : Int)) (p8 : c284_fresh.toInt ≤ 1) (p9 : 0 ≤ c284_fresh.toInt) (p10 : c267_total.toInt ≤ ((n269 : Nat) : Int)) (hr_a268 : dz_pt a268 [4, 2, 1]) (hr_a269 : dz_rg a269 n269 0 1023) (hr_a285 : dz_rg a285 601 0 16777215) (hr_a286 : dz_rg a286 5 0 14425) (kv : Nat) (hkv : 1000000000000 ≤ kv) : dz_T (s299_X10_build_0 fu c248_pots c261_many c267_total a268 a269 n269 (F299_X10_build fu c248_pots c261_many c267_total a268 a269 n269 kv).1  c284_fresh a285 a286 a287) (fun r => r.1.toInt ≤ 1 ∧ 1 ≤ r.1.toInt ∧ dz_rg r.2.1 601 0 16777215 ∧ dz_rg r.2.2.1 5 0 14425 ∧ dz_pm r.2.2.2 3) := by
  unfold s299_X10_build_0
  have e1 := dz_l0
  refine dz_Tng (by omega) ?_
  refine dz_Tng (by omega) ?_
  have e2 := dz_l4
  refine dz_Tng (by omega) ?_
  have e3 := dz_tn (0 : Int32)
  have e4 := dz_tn (4 : Int32)
  refine dz_Tg (by omega) ?_
  refine dz_Tg (by omega) ?_
  refine dz_Tin (by omega) (by omega) ?_
  obtain ⟨k1, rfl⟩ : ∃ x, kv = x + 1 := ⟨kv - 1, by omega⟩
  show dz_T (s299_X10_build_1 fu c248_pots c261_many c267_total a268 a269 n269 (F299_X10_build fu c248_pots c261_many c267_total a268 a269 n269 k1).1 (F299_X10_build fu c248_pots c261_many c267_total a268 a269 n269 k1).2.1 c248_pots (1 : Int32) (0 : Int32) c284_fresh a285 (upd a286 (0 : Int32).toNatClampNeg (0 : Int32)) (va_cpy jw_s0 a287 (0 : Int32).toNatClampNeg (0 : Int32).toNatClampNeg (4 : Int32).toNatClampNeg)) _
  unfold s299_X10_build_1
  refine dz_Tle (fun h5 => ?_) (fun h5 => ?_)
  · skip
    exfalso; omega
  · skip
    refine dz_Tin (by omega) (by omega) ?_
    have e6 := dz_l1
    have e7 := dz_add (a := (0 : Int32)) (b := (1 : Int32)) (by omega) (by omega)
    refine dz_Tin (by omega) (by omega) ?_
    obtain ⟨k2, rfl⟩ : ∃ x, k1 = x + 1 := ⟨k1 - 1, by omega⟩
    show dz_T (s299_X10_build_1 fu c248_pots c261_many c267_total a268 a269 n269 (F299_X10_build fu c248_pots c261_many c267_total a268 a269 n269 k2).1 (F299_X10_build fu c248_pots c261_many c267_total a268 a269 n269 k2).2.1 c248_pots ((1 : Int32) * c261_many) ((0 : Int32) + (1 : Int32)) c284_fresh a285 (upd (upd a286 (0 : Int32).toNatClampNeg (0 : Int32)) ((0 : Int32) + (1 : Int32)).toNatClampNeg (((upd a286 (0 : Int32).toNatClampNeg (0 : Int32)) (0 : Int32).toNatClampNeg) + (1 : Int32))) (va_cpy jw_s0 a287 (0 : Int32).toNatClampNeg (0 : Int32).toNatClampNeg (4 : Int32).toNatClampNeg)) _
    unfold s299_X10_build_1
    refine dz_Tle (fun h8 => ?_) (fun h8 => ?_)
    · skip
      exfalso; omega
    · skip
      refine dz_Tin (by omega) (by omega) ?_
      have e9 := dz_add (a := ((0 : Int32) + (1 : Int32))) (b := (1 : Int32)) (by omega) (by omega)
      refine dz_Tin (by omega) (by omega) ?_
      obtain ⟨k3, rfl⟩ : ∃ x, k2 = x + 1 := ⟨k2 - 1, by omega⟩
      show dz_T (s299_X10_build_1 fu c248_pots c261_many c267_total a268 a269 n269 (F299_X10_build fu c248_pots c261_many c267_total a268 a269 n269 k3).1 (F299_X10_build fu c248_pots c261_many c267_total a268 a269 n269 k3).2.1 c248_pots (((1 : Int32) * c261_many) * c261_many) (((0 : Int32) + (1 : Int32)) + (1 : Int32)) c284_fresh a285 (upd (upd (upd a286 (0 : Int32).toNatClampNeg (0 : Int32)) ((0 : Int32) + (1 : Int32)).toNatClampNeg (((upd a286 (0 : Int32).toNatClampNeg (0 : Int32)) (0 : Int32).toNatClampNeg) + (1 : Int32))) (((0 : Int32) + (1 : Int32)) + (1 : Int32)).toNatClampNeg (((upd (upd a286 (0 : Int32).toNatClampNeg (0 : Int32)) ((0 : Int32) + (1 : Int32)).toNatClampNeg (((upd a286 (0 : Int32).toNatClampNeg (0 : Int32)) (0 : Int32).toNatClampNeg) + (1 : Int32))) ((0 : Int32) + (1 : Int32)).toNatClampNeg) + ((1 : Int32) * c261_many))) (va_cpy jw_s0 a287 (0 : Int32).toNatClampNeg (0 : Int32).toNatClampNeg (4 : Int32).toNatClampNeg)) _
      unfold s299_X10_build_1
      refine dz_Tle (fun h10 => ?_) (fun h10 => ?_)
      · skip
        exfalso; omega
      · skip
        refine dz_Tin (by omega) (by omega) ?_
        have e11 := dz_add (a := (((0 : Int32) + (1 : Int32)) + (1 : Int32))) (b := (1 : Int32)) (by omega) (by omega)
        refine dz_Tin (by omega) (by omega) ?_
        obtain ⟨k4, rfl⟩ : ∃ x, k3 = x + 1 := ⟨k3 - 1, by omega⟩
        show dz_T (s299_X10_build_1 fu c248_pots c261_many c267_total a268 a269 n269 (F299_X10_build fu c248_pots c261_many c267_total a268 a269 n269 k4).1 (F299_X10_build fu c248_pots c261_many c267_total a268 a269 n269 k4).2.1 c248_pots ((((1 : Int32) * c261_many) * c261_many) * c261_many) ((((0 : Int32) + (1 : Int32)) + (1 : Int32)) + (1 : Int32)) c284_fresh a285 (upd (upd (upd (upd a286 (0 : Int32).toNatClampNeg (0 : Int32)) ((0 : Int32) + (1 : Int32)).toNatClampNeg (((upd a286 (0 : Int32).toNatClampNeg (0 : Int32)) (0 : Int32).toNatClampNeg) + (1 : Int32))) (((0 : Int32) + (1 : Int32)) + (1 : Int32)).toNatClampNeg (((upd (upd a286 (0 : Int32).toNatClampNeg (0 : Int32)) ((0 : Int32) + (1 : Int32)).toNatClampNeg (((upd a286 (0 : Int32).toNatClampNeg (0 : Int32)) (0 : Int32).toNatClampNeg) + (1 : Int32))) ((0 : Int32) + (1 : Int32)).toNatClampNeg) + ((1 : Int32) * c261_many))) ((((0 : Int32) + (1 : Int32)) + (1 : Int32)) + (1 : Int32)).toNatClampNeg (((upd (upd (upd a286 (0 : Int32).toNatClampNeg (0 : Int32)) ((0 : Int32) + (1 : Int32)).toNatClampNeg (((upd a286 (0 : Int32).toNatClampNeg (0 : Int32)) (0 : Int32).toNatClampNeg) + (1 : Int32))) (((0 : Int32) + (1 : Int32)) + (1 : Int32)).toNatClampNeg (((upd (upd a286 (0 : Int32).toNatClampNeg (0 : Int32)) ((0 : Int32) + (1 : Int32)).toNatClampNeg (((upd a286 (0 : Int32).toNatClampNeg (0 : Int32)) (0 : Int32).toNatClampNeg) + (1 : Int32))) ((0 : Int32) + (1 : Int32)).toNatClampNeg) + ((1 : Int32) * c261_many))) (((0 : Int32) + (1 : Int32)) + (1 : Int32)).toNatClampNeg) + (((1 : Int32) * c261_many) * c261_many))) (va_cpy jw_s0 a287 (0 : Int32).toNatClampNeg (0 : Int32).toNatClampNeg (4 : Int32).toNatClampNeg)) _
        unfold s299_X10_build_1
        refine dz_Tle (fun h12 => ?_) (fun h12 => ?_)
        · skip
          refine dz_Tle (fun h13 => ?_) (fun h13 => ?_)
          · skip
            exfalso; omega
          · skip
            have e14 := dz_ups (a := a286) (v := (0 : Int32)) (i := (0 : Int32)) (j := (0 : Int32)) (by omega)
            have e15 := dz_add (a := ((upd a286 (0 : Int32).toNatClampNeg (0 : Int32)) (0 : Int32).toNatClampNeg)) (b := (1 : Int32)) (by omega) (by omega)
            have e16 := dz_ups (a := (upd a286 (0 : Int32).toNatClampNeg (0 : Int32))) (v := (((upd a286 (0 : Int32).toNatClampNeg (0 : Int32)) (0 : Int32).toNatClampNeg) + (1 : Int32))) (i := ((0 : Int32) + (1 : Int32))) (j := ((0 : Int32) + (1 : Int32))) (by omega)
            have e17 := dz_mull (a := (1 : Int32)) (b := c261_many) 1 (by omega) (by omega) (by omega)
            have e18 := dz_add (a := ((upd (upd a286 (0 : Int32).toNatClampNeg (0 : Int32)) ((0 : Int32) + (1 : Int32)).toNatClampNeg (((upd a286 (0 : Int32).toNatClampNeg (0 : Int32)) (0 : Int32).toNatClampNeg) + (1 : Int32))) ((0 : Int32) + (1 : Int32)).toNatClampNeg)) (b := ((1 : Int32) * c261_many)) (by omega) (by omega)
            have e19 := dz_ups (a := (upd (upd a286 (0 : Int32).toNatClampNeg (0 : Int32)) ((0 : Int32) + (1 : Int32)).toNatClampNeg (((upd a286 (0 : Int32).toNatClampNeg (0 : Int32)) (0 : Int32).toNatClampNeg) + (1 : Int32)))) (v := (((upd (upd a286 (0 : Int32).toNatClampNeg (0 : Int32)) ((0 : Int32) + (1 : Int32)).toNatClampNeg (((upd a286 (0 : Int32).toNatClampNeg (0 : Int32)) (0 : Int32).toNatClampNeg) + (1 : Int32))) ((0 : Int32) + (1 : Int32)).toNatClampNeg) + ((1 : Int32) * c261_many))) (i := (((0 : Int32) + (1 : Int32)) + (1 : Int32))) (j := (((0 : Int32) + (1 : Int32)) + (1 : Int32))) (by omega)
            have e20 := dz_mull (a := ((1 : Int32) * c261_many)) (b := c261_many) 2 (by omega) (by omega) (by omega)
            have e21 := dz_add (a := ((upd (upd (upd a286 (0 : Int32).toNatClampNeg (0 : Int32)) ((0 : Int32) + (1 : Int32)).toNatClampNeg (((upd a286 (0 : Int32).toNatClampNeg (0 : Int32)) (0 : Int32).toNatClampNeg) + (1 : Int32))) (((0 : Int32) + (1 : Int32)) + (1 : Int32)).toNatClampNeg (((upd (upd a286 (0 : Int32).toNatClampNeg (0 : Int32)) ((0 : Int32) + (1 : Int32)).toNatClampNeg (((upd a286 (0 : Int32).toNatClampNeg (0 : Int32)) (0 : Int32).toNatClampNeg) + (1 : Int32))) ((0 : Int32) + (1 : Int32)).toNatClampNeg) + ((1 : Int32) * c261_many))) (((0 : Int32) + (1 : Int32)) + (1 : Int32)).toNatClampNeg)) (b := (((1 : Int32) * c261_many) * c261_many)) (by omega) (by omega)
            refine dz_Tb (t172_X10_fillLast_g23 fu hfu _ _ _ _ _ _ _ _ _ p0 p1 p2 p3 p4 p5 p6 p7 p10 (hr_a268) (hr_a269) (dz_ptmk4 ((dz_upo (j := ((((0 : Int32) + (1 : Int32)) + (1 : Int32)) + (1 : Int32))) 0 (by omega)).trans ((dz_upo (j := (((0 : Int32) + (1 : Int32)) + (1 : Int32))) 0 (by omega)).trans ((dz_upo (j := ((0 : Int32) + (1 : Int32))) 0 (by omega)).trans ((dz_upk (j := (0 : Int32)) 0 (by omega)).trans (by omega))))) ((dz_upo (j := ((((0 : Int32) + (1 : Int32)) + (1 : Int32)) + (1 : Int32))) 1 (by omega)).trans ((dz_upo (j := (((0 : Int32) + (1 : Int32)) + (1 : Int32))) 1 (by omega)).trans ((dz_upk (j := ((0 : Int32) + (1 : Int32))) 1 (by omega)).trans (by omega)))) ((dz_upo (j := ((((0 : Int32) + (1 : Int32)) + (1 : Int32)) + (1 : Int32))) 2 (by omega)).trans ((dz_upk (j := (((0 : Int32) + (1 : Int32)) + (1 : Int32))) 2 (by omega)).trans (by omega))) ((dz_upk (j := ((((0 : Int32) + (1 : Int32)) + (1 : Int32)) + (1 : Int32))) 3 (by omega)).trans (by omega))) (dz_pms3) (hr_a285) (by first | assumption | omega)) (fun r1 q => ?_)
            have qa1_0 := q
            obtain ⟨k5, rfl⟩ : ∃ x, k4 = x + 1 := ⟨k4 - 1, by omega⟩
            show dz_T (s299_X10_build_2 fu c248_pots c261_many c267_total a268 a269 n269 (F299_X10_build fu c248_pots c261_many c267_total a268 a269 n269 k5).2.2 c248_pots c284_fresh r1 (upd (upd (upd (upd a286 (0 : Int32).toNatClampNeg (0 : Int32)) ((0 : Int32) + (1 : Int32)).toNatClampNeg (((upd a286 (0 : Int32).toNatClampNeg (0 : Int32)) (0 : Int32).toNatClampNeg) + (1 : Int32))) (((0 : Int32) + (1 : Int32)) + (1 : Int32)).toNatClampNeg (((upd (upd a286 (0 : Int32).toNatClampNeg (0 : Int32)) ((0 : Int32) + (1 : Int32)).toNatClampNeg (((upd a286 (0 : Int32).toNatClampNeg (0 : Int32)) (0 : Int32).toNatClampNeg) + (1 : Int32))) ((0 : Int32) + (1 : Int32)).toNatClampNeg) + ((1 : Int32) * c261_many))) ((((0 : Int32) + (1 : Int32)) + (1 : Int32)) + (1 : Int32)).toNatClampNeg (((upd (upd (upd a286 (0 : Int32).toNatClampNeg (0 : Int32)) ((0 : Int32) + (1 : Int32)).toNatClampNeg (((upd a286 (0 : Int32).toNatClampNeg (0 : Int32)) (0 : Int32).toNatClampNeg) + (1 : Int32))) (((0 : Int32) + (1 : Int32)) + (1 : Int32)).toNatClampNeg (((upd (upd a286 (0 : Int32).toNatClampNeg (0 : Int32)) ((0 : Int32) + (1 : Int32)).toNatClampNeg (((upd a286 (0 : Int32).toNatClampNeg (0 : Int32)) (0 : Int32).toNatClampNeg) + (1 : Int32))) ((0 : Int32) + (1 : Int32)).toNatClampNeg) + ((1 : Int32) * c261_many))) (((0 : Int32) + (1 : Int32)) + (1 : Int32)).toNatClampNeg) + (((1 : Int32) * c261_many) * c261_many))) (va_cpy jw_s0 a287 (0 : Int32).toNatClampNeg (0 : Int32).toNatClampNeg (4 : Int32).toNatClampNeg)) _
            unfold s299_X10_build_2
            have e22 := dz_l2
            have e23 := dz_sub (a := c248_pots) (b := (2 : Int32)) (by omega) (by omega)
            generalize (c248_pots - (2 : Int32)) = zz10 at *
            obtain ⟨k6, rfl⟩ : ∃ x, k5 = x + 1 := ⟨k5 - 1, by omega⟩
            show dz_T (s299_X10_build_3 fu c248_pots c261_many c267_total a268 a269 n269 (F299_X10_build fu c248_pots c261_many c267_total a268 a269 n269 k6).2.2 zz10 c284_fresh r1 (upd (upd (upd (upd a286 (0 : Int32).toNatClampNeg (0 : Int32)) ((0 : Int32) + (1 : Int32)).toNatClampNeg (((upd a286 (0 : Int32).toNatClampNeg (0 : Int32)) (0 : Int32).toNatClampNeg) + (1 : Int32))) (((0 : Int32) + (1 : Int32)) + (1 : Int32)).toNatClampNeg (((upd (upd a286 (0 : Int32).toNatClampNeg (0 : Int32)) ((0 : Int32) + (1 : Int32)).toNatClampNeg (((upd a286 (0 : Int32).toNatClampNeg (0 : Int32)) (0 : Int32).toNatClampNeg) + (1 : Int32))) ((0 : Int32) + (1 : Int32)).toNatClampNeg) + ((1 : Int32) * c261_many))) ((((0 : Int32) + (1 : Int32)) + (1 : Int32)) + (1 : Int32)).toNatClampNeg (((upd (upd (upd a286 (0 : Int32).toNatClampNeg (0 : Int32)) ((0 : Int32) + (1 : Int32)).toNatClampNeg (((upd a286 (0 : Int32).toNatClampNeg (0 : Int32)) (0 : Int32).toNatClampNeg) + (1 : Int32))) (((0 : Int32) + (1 : Int32)) + (1 : Int32)).toNatClampNeg (((upd (upd a286 (0 : Int32).toNatClampNeg (0 : Int32)) ((0 : Int32) + (1 : Int32)).toNatClampNeg (((upd a286 (0 : Int32).toNatClampNeg (0 : Int32)) (0 : Int32).toNatClampNeg) + (1 : Int32))) ((0 : Int32) + (1 : Int32)).toNatClampNeg) + ((1 : Int32) * c261_many))) (((0 : Int32) + (1 : Int32)) + (1 : Int32)).toNatClampNeg) + (((1 : Int32) * c261_many) * c261_many))) (va_cpy jw_s0 a287 (0 : Int32).toNatClampNeg (0 : Int32).toNatClampNeg (4 : Int32).toNatClampNeg)) _
            unfold s299_X10_build_3
            refine dz_Tlt (fun h24 => ?_) (fun h24 => ?_)
            · skip
              exfalso; omega
            · skip
              refine dz_Tb (t173_X10_fillFromNext_g23 fu hfu _ _ _ _ p2 p3 (by first | assumption | omega) (by first | assumption | omega) (dz_ptmk4 ((dz_upo (j := ((((0 : Int32) + (1 : Int32)) + (1 : Int32)) + (1 : Int32))) 0 (by omega)).trans ((dz_upo (j := (((0 : Int32) + (1 : Int32)) + (1 : Int32))) 0 (by omega)).trans ((dz_upo (j := ((0 : Int32) + (1 : Int32))) 0 (by omega)).trans ((dz_upk (j := (0 : Int32)) 0 (by omega)).trans (by omega))))) ((dz_upo (j := ((((0 : Int32) + (1 : Int32)) + (1 : Int32)) + (1 : Int32))) 1 (by omega)).trans ((dz_upo (j := (((0 : Int32) + (1 : Int32)) + (1 : Int32))) 1 (by omega)).trans ((dz_upk (j := ((0 : Int32) + (1 : Int32))) 1 (by omega)).trans (by omega)))) ((dz_upo (j := ((((0 : Int32) + (1 : Int32)) + (1 : Int32)) + (1 : Int32))) 2 (by omega)).trans ((dz_upk (j := (((0 : Int32) + (1 : Int32)) + (1 : Int32))) 2 (by omega)).trans (by omega))) ((dz_upk (j := ((((0 : Int32) + (1 : Int32)) + (1 : Int32)) + (1 : Int32))) 3 (by omega)).trans (by omega))) (qa1_0)) (fun r2 q => ?_)
              have qa2_0 := q
              have e25 := dz_lm1
              have e26 := dz_add (a := zz10) (b := (-(1 : Int32))) (by omega) (by omega)
              generalize (zz10 + (-(1 : Int32))) = zz11 at *
              obtain ⟨k7, rfl⟩ : ∃ x, k6 = x + 1 := ⟨k6 - 1, by omega⟩
              show dz_T (s299_X10_build_3 fu c248_pots c261_many c267_total a268 a269 n269 (F299_X10_build fu c248_pots c261_many c267_total a268 a269 n269 k7).2.2 zz11 c284_fresh r2 (upd (upd (upd (upd a286 (0 : Int32).toNatClampNeg (0 : Int32)) ((0 : Int32) + (1 : Int32)).toNatClampNeg (((upd a286 (0 : Int32).toNatClampNeg (0 : Int32)) (0 : Int32).toNatClampNeg) + (1 : Int32))) (((0 : Int32) + (1 : Int32)) + (1 : Int32)).toNatClampNeg (((upd (upd a286 (0 : Int32).toNatClampNeg (0 : Int32)) ((0 : Int32) + (1 : Int32)).toNatClampNeg (((upd a286 (0 : Int32).toNatClampNeg (0 : Int32)) (0 : Int32).toNatClampNeg) + (1 : Int32))) ((0 : Int32) + (1 : Int32)).toNatClampNeg) + ((1 : Int32) * c261_many))) ((((0 : Int32) + (1 : Int32)) + (1 : Int32)) + (1 : Int32)).toNatClampNeg (((upd (upd (upd a286 (0 : Int32).toNatClampNeg (0 : Int32)) ((0 : Int32) + (1 : Int32)).toNatClampNeg (((upd a286 (0 : Int32).toNatClampNeg (0 : Int32)) (0 : Int32).toNatClampNeg) + (1 : Int32))) (((0 : Int32) + (1 : Int32)) + (1 : Int32)).toNatClampNeg (((upd (upd a286 (0 : Int32).toNatClampNeg (0 : Int32)) ((0 : Int32) + (1 : Int32)).toNatClampNeg (((upd a286 (0 : Int32).toNatClampNeg (0 : Int32)) (0 : Int32).toNatClampNeg) + (1 : Int32))) ((0 : Int32) + (1 : Int32)).toNatClampNeg) + ((1 : Int32) * c261_many))) (((0 : Int32) + (1 : Int32)) + (1 : Int32)).toNatClampNeg) + (((1 : Int32) * c261_many) * c261_many))) (va_cpy jw_s0 a287 (0 : Int32).toNatClampNeg (0 : Int32).toNatClampNeg (4 : Int32).toNatClampNeg)) _
              unfold s299_X10_build_3
              refine dz_Tlt (fun h27 => ?_) (fun h27 => ?_)
              · skip
                exfalso; omega
              · skip
                refine dz_Tb (t173_X10_fillFromNext_g23 fu hfu _ _ _ _ p2 p3 (by first | assumption | omega) (by first | assumption | omega) (dz_ptmk4 ((dz_upo (j := ((((0 : Int32) + (1 : Int32)) + (1 : Int32)) + (1 : Int32))) 0 (by omega)).trans ((dz_upo (j := (((0 : Int32) + (1 : Int32)) + (1 : Int32))) 0 (by omega)).trans ((dz_upo (j := ((0 : Int32) + (1 : Int32))) 0 (by omega)).trans ((dz_upk (j := (0 : Int32)) 0 (by omega)).trans (by omega))))) ((dz_upo (j := ((((0 : Int32) + (1 : Int32)) + (1 : Int32)) + (1 : Int32))) 1 (by omega)).trans ((dz_upo (j := (((0 : Int32) + (1 : Int32)) + (1 : Int32))) 1 (by omega)).trans ((dz_upk (j := ((0 : Int32) + (1 : Int32))) 1 (by omega)).trans (by omega)))) ((dz_upo (j := ((((0 : Int32) + (1 : Int32)) + (1 : Int32)) + (1 : Int32))) 2 (by omega)).trans ((dz_upk (j := (((0 : Int32) + (1 : Int32)) + (1 : Int32))) 2 (by omega)).trans (by omega))) ((dz_upk (j := ((((0 : Int32) + (1 : Int32)) + (1 : Int32)) + (1 : Int32))) 3 (by omega)).trans (by omega))) (qa2_0)) (fun r3 q => ?_)
                have qa3_0 := q
                have e28 := dz_add (a := zz11) (b := (-(1 : Int32))) (by omega) (by omega)
                generalize (zz11 + (-(1 : Int32))) = zz12 at *
                obtain ⟨k8, rfl⟩ : ∃ x, k7 = x + 1 := ⟨k7 - 1, by omega⟩
                show dz_T (s299_X10_build_3 fu c248_pots c261_many c267_total a268 a269 n269 (F299_X10_build fu c248_pots c261_many c267_total a268 a269 n269 k8).2.2 zz12 c284_fresh r3 (upd (upd (upd (upd a286 (0 : Int32).toNatClampNeg (0 : Int32)) ((0 : Int32) + (1 : Int32)).toNatClampNeg (((upd a286 (0 : Int32).toNatClampNeg (0 : Int32)) (0 : Int32).toNatClampNeg) + (1 : Int32))) (((0 : Int32) + (1 : Int32)) + (1 : Int32)).toNatClampNeg (((upd (upd a286 (0 : Int32).toNatClampNeg (0 : Int32)) ((0 : Int32) + (1 : Int32)).toNatClampNeg (((upd a286 (0 : Int32).toNatClampNeg (0 : Int32)) (0 : Int32).toNatClampNeg) + (1 : Int32))) ((0 : Int32) + (1 : Int32)).toNatClampNeg) + ((1 : Int32) * c261_many))) ((((0 : Int32) + (1 : Int32)) + (1 : Int32)) + (1 : Int32)).toNatClampNeg (((upd (upd (upd a286 (0 : Int32).toNatClampNeg (0 : Int32)) ((0 : Int32) + (1 : Int32)).toNatClampNeg (((upd a286 (0 : Int32).toNatClampNeg (0 : Int32)) (0 : Int32).toNatClampNeg) + (1 : Int32))) (((0 : Int32) + (1 : Int32)) + (1 : Int32)).toNatClampNeg (((upd (upd a286 (0 : Int32).toNatClampNeg (0 : Int32)) ((0 : Int32) + (1 : Int32)).toNatClampNeg (((upd a286 (0 : Int32).toNatClampNeg (0 : Int32)) (0 : Int32).toNatClampNeg) + (1 : Int32))) ((0 : Int32) + (1 : Int32)).toNatClampNeg) + ((1 : Int32) * c261_many))) (((0 : Int32) + (1 : Int32)) + (1 : Int32)).toNatClampNeg) + (((1 : Int32) * c261_many) * c261_many))) (va_cpy jw_s0 a287 (0 : Int32).toNatClampNeg (0 : Int32).toNatClampNeg (4 : Int32).toNatClampNeg)) _
                unfold s299_X10_build_3
                refine dz_Tlt (fun h29 => ?_) (fun h29 => ?_)
                · skip
                  refine dz_Ts ?_
                  dsimp only
                  exact ⟨(by omega), (by omega), (qa3_0), (dz_rgu (dz_rgu (dz_rgu (dz_rgu (hr_a286) (by omega) (by omega)) (by omega) (by omega)) (by omega) (by omega)) (by omega) (by omega)), (dz_pms3)⟩
                · skip
                  exfalso; omega
        · skip
          exfalso; omega
theorem t299_X10_build_g23 (fu : Nat) (hfu : 1000000000000 ≤ fu) (c248_pots : Int32) (c261_many : Int32) (c267_total : Int32) (a268 : Nat → Int32) (a269 : Nat → Int32) (n269 : Nat) (c284_fresh : Int32) (a285 : Nat → Int32) (a286 : Nat → Int32) (a287 : Nat → Int32) (p0 : c248_pots.toInt ≤ 3) (p1 : 3 ≤ c248_pots.toInt) (p2 : c261_many.toInt ≤ 2) (p3 : 2 ≤ c261_many.toInt) (p4 : c267_total.toInt ≤ 8) (p5 : 8 ≤ c267_total.toInt) (p6 : ((n269 : Nat) : Int) ≤ 13824) (p7 : 1 ≤ ((n269 : Nat) : Int)) (p8 : c284_fresh.toInt ≤ 1) (p9 : 0 ≤ c284_fresh.toInt) (p10 : c267_total.toInt ≤ ((n269 : Nat) : Int)) (hr_a268 : dz_pt a268 [4, 2, 1]) (hr_a269 : dz_rg a269 n269 0 1023) (hr_a285 : dz_rg a285 601 0 16777215) (hr_a286 : dz_rg a286 5 0 14425) : dz_T (f299_X10_build fu c248_pots c261_many c267_total a268 a269 n269 c284_fresh a285 a286 a287) (fun r => r.1.toInt ≤ 1 ∧ 1 ≤ r.1.toInt ∧ dz_rg r.2.1 601 0 16777215 ∧ dz_rg r.2.2.1 5 0 14425 ∧ dz_pm r.2.2.2 3) :=
  t299_X10_build_E_g23 fu hfu c248_pots c261_many c267_total a268 a269 n269 c284_fresh a285 a286 a287 p0 p1 p2 p3 p4 p5 p6 p7 p8 p9 p10 hr_a268 hr_a269 hr_a285 hr_a286 fu hfu
set_option maxHeartbeats 1000000 in
set_option maxRecDepth 10000 in
theorem t299_X10_build_E_g24 (fu : Nat) (hfu : 1000000000000 ≤ fu) (c248_pots : Int32) (c261_many : Int32) (c267_total : Int32) (a268 : Nat → Int32) (a269 : Nat → Int32) (n269 : Nat) (c284_fresh : Int32) (a285 : Nat → Int32) (a286 : Nat → Int32) (a287 : Nat → Int32) (p0 : c248_pots.toInt ≤ 4) (p1 : 4 ≤ c248_pots.toInt) (p2 : c261_many.toInt ≤ 2) (p3 : 2 ≤ c261_many.toInt) (p4 : c267_total.toInt ≤ 16) (p5 : 16 ≤ c267_total.toInt) (p6 : ((n269 : Nat) : Int) ≤ 13824) (p7 : 1 ≤ ((n269 : Nat) : Int)) (p8 : c284_fresh.toInt ≤ 1) (p9 : 0 ≤ c284_fresh.toInt) (p10 : c267_total.toInt ≤ ((n269 : Nat) : Int)) (hr_a268 : dz_pt a268 [8, 4, 2, 1]) (hr_a269 : dz_rg a269 n269 0 1023) (hr_a285 : dz_rg a285 601 0 16777215) (hr_a286 : dz_rg a286 5 0 14425) (kv : Nat) (hkv : 1000000000000 ≤ kv) : dz_T (s299_X10_build_0 fu c248_pots c261_many c267_total a268 a269 n269 (F299_X10_build fu c248_pots c261_many c267_total a268 a269 n269 kv).1  c284_fresh a285 a286 a287) (fun r => r.1.toInt ≤ 1 ∧ 1 ≤ r.1.toInt ∧ dz_rg r.2.1 601 0 16777215 ∧ dz_rg r.2.2.1 5 0 14425 ∧ dz_pm r.2.2.2 4) := by
  unfold s299_X10_build_0
  have e1 := dz_l0
  refine dz_Tng (by omega) ?_
  refine dz_Tng (by omega) ?_
  have e2 := dz_l4
  refine dz_Tng (by omega) ?_
  have e3 := dz_tn (0 : Int32)
  have e4 := dz_tn (4 : Int32)
  refine dz_Tg (by omega) ?_
  refine dz_Tg (by omega) ?_
  refine dz_Tin (by omega) (by omega) ?_
  obtain ⟨k1, rfl⟩ : ∃ x, kv = x + 1 := ⟨kv - 1, by omega⟩
  show dz_T (s299_X10_build_1 fu c248_pots c261_many c267_total a268 a269 n269 (F299_X10_build fu c248_pots c261_many c267_total a268 a269 n269 k1).1 (F299_X10_build fu c248_pots c261_many c267_total a268 a269 n269 k1).2.1 c248_pots (1 : Int32) (0 : Int32) c284_fresh a285 (upd a286 (0 : Int32).toNatClampNeg (0 : Int32)) (va_cpy jw_s0 a287 (0 : Int32).toNatClampNeg (0 : Int32).toNatClampNeg (4 : Int32).toNatClampNeg)) _
  unfold s299_X10_build_1
  refine dz_Tle (fun h5 => ?_) (fun h5 => ?_)
  · skip
    exfalso; omega
  · skip
    refine dz_Tin (by omega) (by omega) ?_
    have e6 := dz_l1
    have e7 := dz_add (a := (0 : Int32)) (b := (1 : Int32)) (by omega) (by omega)
    refine dz_Tin (by omega) (by omega) ?_
    obtain ⟨k2, rfl⟩ : ∃ x, k1 = x + 1 := ⟨k1 - 1, by omega⟩
    show dz_T (s299_X10_build_1 fu c248_pots c261_many c267_total a268 a269 n269 (F299_X10_build fu c248_pots c261_many c267_total a268 a269 n269 k2).1 (F299_X10_build fu c248_pots c261_many c267_total a268 a269 n269 k2).2.1 c248_pots ((1 : Int32) * c261_many) ((0 : Int32) + (1 : Int32)) c284_fresh a285 (upd (upd a286 (0 : Int32).toNatClampNeg (0 : Int32)) ((0 : Int32) + (1 : Int32)).toNatClampNeg (((upd a286 (0 : Int32).toNatClampNeg (0 : Int32)) (0 : Int32).toNatClampNeg) + (1 : Int32))) (va_cpy jw_s0 a287 (0 : Int32).toNatClampNeg (0 : Int32).toNatClampNeg (4 : Int32).toNatClampNeg)) _
    unfold s299_X10_build_1
    refine dz_Tle (fun h8 => ?_) (fun h8 => ?_)
    · skip
      exfalso; omega
    · skip
      refine dz_Tin (by omega) (by omega) ?_
      have e9 := dz_add (a := ((0 : Int32) + (1 : Int32))) (b := (1 : Int32)) (by omega) (by omega)
      refine dz_Tin (by omega) (by omega) ?_
      obtain ⟨k3, rfl⟩ : ∃ x, k2 = x + 1 := ⟨k2 - 1, by omega⟩
      show dz_T (s299_X10_build_1 fu c248_pots c261_many c267_total a268 a269 n269 (F299_X10_build fu c248_pots c261_many c267_total a268 a269 n269 k3).1 (F299_X10_build fu c248_pots c261_many c267_total a268 a269 n269 k3).2.1 c248_pots (((1 : Int32) * c261_many) * c261_many) (((0 : Int32) + (1 : Int32)) + (1 : Int32)) c284_fresh a285 (upd (upd (upd a286 (0 : Int32).toNatClampNeg (0 : Int32)) ((0 : Int32) + (1 : Int32)).toNatClampNeg (((upd a286 (0 : Int32).toNatClampNeg (0 : Int32)) (0 : Int32).toNatClampNeg) + (1 : Int32))) (((0 : Int32) + (1 : Int32)) + (1 : Int32)).toNatClampNeg (((upd (upd a286 (0 : Int32).toNatClampNeg (0 : Int32)) ((0 : Int32) + (1 : Int32)).toNatClampNeg (((upd a286 (0 : Int32).toNatClampNeg (0 : Int32)) (0 : Int32).toNatClampNeg) + (1 : Int32))) ((0 : Int32) + (1 : Int32)).toNatClampNeg) + ((1 : Int32) * c261_many))) (va_cpy jw_s0 a287 (0 : Int32).toNatClampNeg (0 : Int32).toNatClampNeg (4 : Int32).toNatClampNeg)) _
      unfold s299_X10_build_1
      refine dz_Tle (fun h10 => ?_) (fun h10 => ?_)
      · skip
        exfalso; omega
      · skip
        refine dz_Tin (by omega) (by omega) ?_
        have e11 := dz_add (a := (((0 : Int32) + (1 : Int32)) + (1 : Int32))) (b := (1 : Int32)) (by omega) (by omega)
        refine dz_Tin (by omega) (by omega) ?_
        obtain ⟨k4, rfl⟩ : ∃ x, k3 = x + 1 := ⟨k3 - 1, by omega⟩
        show dz_T (s299_X10_build_1 fu c248_pots c261_many c267_total a268 a269 n269 (F299_X10_build fu c248_pots c261_many c267_total a268 a269 n269 k4).1 (F299_X10_build fu c248_pots c261_many c267_total a268 a269 n269 k4).2.1 c248_pots ((((1 : Int32) * c261_many) * c261_many) * c261_many) ((((0 : Int32) + (1 : Int32)) + (1 : Int32)) + (1 : Int32)) c284_fresh a285 (upd (upd (upd (upd a286 (0 : Int32).toNatClampNeg (0 : Int32)) ((0 : Int32) + (1 : Int32)).toNatClampNeg (((upd a286 (0 : Int32).toNatClampNeg (0 : Int32)) (0 : Int32).toNatClampNeg) + (1 : Int32))) (((0 : Int32) + (1 : Int32)) + (1 : Int32)).toNatClampNeg (((upd (upd a286 (0 : Int32).toNatClampNeg (0 : Int32)) ((0 : Int32) + (1 : Int32)).toNatClampNeg (((upd a286 (0 : Int32).toNatClampNeg (0 : Int32)) (0 : Int32).toNatClampNeg) + (1 : Int32))) ((0 : Int32) + (1 : Int32)).toNatClampNeg) + ((1 : Int32) * c261_many))) ((((0 : Int32) + (1 : Int32)) + (1 : Int32)) + (1 : Int32)).toNatClampNeg (((upd (upd (upd a286 (0 : Int32).toNatClampNeg (0 : Int32)) ((0 : Int32) + (1 : Int32)).toNatClampNeg (((upd a286 (0 : Int32).toNatClampNeg (0 : Int32)) (0 : Int32).toNatClampNeg) + (1 : Int32))) (((0 : Int32) + (1 : Int32)) + (1 : Int32)).toNatClampNeg (((upd (upd a286 (0 : Int32).toNatClampNeg (0 : Int32)) ((0 : Int32) + (1 : Int32)).toNatClampNeg (((upd a286 (0 : Int32).toNatClampNeg (0 : Int32)) (0 : Int32).toNatClampNeg) + (1 : Int32))) ((0 : Int32) + (1 : Int32)).toNatClampNeg) + ((1 : Int32) * c261_many))) (((0 : Int32) + (1 : Int32)) + (1 : Int32)).toNatClampNeg) + (((1 : Int32) * c261_many) * c261_many))) (va_cpy jw_s0 a287 (0 : Int32).toNatClampNeg (0 : Int32).toNatClampNeg (4 : Int32).toNatClampNeg)) _
        unfold s299_X10_build_1
        refine dz_Tle (fun h12 => ?_) (fun h12 => ?_)
        · skip
          exfalso; omega
        · skip
          refine dz_Tin (by omega) (by omega) ?_
          have e13 := dz_add (a := ((((0 : Int32) + (1 : Int32)) + (1 : Int32)) + (1 : Int32))) (b := (1 : Int32)) (by omega) (by omega)
          refine dz_Tin (by omega) (by omega) ?_
          obtain ⟨k5, rfl⟩ : ∃ x, k4 = x + 1 := ⟨k4 - 1, by omega⟩
          show dz_T (s299_X10_build_1 fu c248_pots c261_many c267_total a268 a269 n269 (F299_X10_build fu c248_pots c261_many c267_total a268 a269 n269 k5).1 (F299_X10_build fu c248_pots c261_many c267_total a268 a269 n269 k5).2.1 c248_pots (((((1 : Int32) * c261_many) * c261_many) * c261_many) * c261_many) (((((0 : Int32) + (1 : Int32)) + (1 : Int32)) + (1 : Int32)) + (1 : Int32)) c284_fresh a285 (upd (upd (upd (upd (upd a286 (0 : Int32).toNatClampNeg (0 : Int32)) ((0 : Int32) + (1 : Int32)).toNatClampNeg (((upd a286 (0 : Int32).toNatClampNeg (0 : Int32)) (0 : Int32).toNatClampNeg) + (1 : Int32))) (((0 : Int32) + (1 : Int32)) + (1 : Int32)).toNatClampNeg (((upd (upd a286 (0 : Int32).toNatClampNeg (0 : Int32)) ((0 : Int32) + (1 : Int32)).toNatClampNeg (((upd a286 (0 : Int32).toNatClampNeg (0 : Int32)) (0 : Int32).toNatClampNeg) + (1 : Int32))) ((0 : Int32) + (1 : Int32)).toNatClampNeg) + ((1 : Int32) * c261_many))) ((((0 : Int32) + (1 : Int32)) + (1 : Int32)) + (1 : Int32)).toNatClampNeg (((upd (upd (upd a286 (0 : Int32).toNatClampNeg (0 : Int32)) ((0 : Int32) + (1 : Int32)).toNatClampNeg (((upd a286 (0 : Int32).toNatClampNeg (0 : Int32)) (0 : Int32).toNatClampNeg) + (1 : Int32))) (((0 : Int32) + (1 : Int32)) + (1 : Int32)).toNatClampNeg (((upd (upd a286 (0 : Int32).toNatClampNeg (0 : Int32)) ((0 : Int32) + (1 : Int32)).toNatClampNeg (((upd a286 (0 : Int32).toNatClampNeg (0 : Int32)) (0 : Int32).toNatClampNeg) + (1 : Int32))) ((0 : Int32) + (1 : Int32)).toNatClampNeg) + ((1 : Int32) * c261_many))) (((0 : Int32) + (1 : Int32)) + (1 : Int32)).toNatClampNeg) + (((1 : Int32) * c261_many) * c261_many))) (((((0 : Int32) + (1 : Int32)) + (1 : Int32)) + (1 : Int32)) + (1 : Int32)).toNatClampNeg (((upd (upd (upd (upd a286 (0 : Int32).toNatClampNeg (0 : Int32)) ((0 : Int32) + (1 : Int32)).toNatClampNeg (((upd a286 (0 : Int32).toNatClampNeg (0 : Int32)) (0 : Int32).toNatClampNeg) + (1 : Int32))) (((0 : Int32) + (1 : Int32)) + (1 : Int32)).toNatClampNeg (((upd (upd a286 (0 : Int32).toNatClampNeg (0 : Int32)) ((0 : Int32) + (1 : Int32)).toNatClampNeg (((upd a286 (0 : Int32).toNatClampNeg (0 : Int32)) (0 : Int32).toNatClampNeg) + (1 : Int32))) ((0 : Int32) + (1 : Int32)).toNatClampNeg) + ((1 : Int32) * c261_many))) ((((0 : Int32) + (1 : Int32)) + (1 : Int32)) + (1 : Int32)).toNatClampNeg (((upd (upd (upd a286 (0 : Int32).toNatClampNeg (0 : Int32)) ((0 : Int32) + (1 : Int32)).toNatClampNeg (((upd a286 (0 : Int32).toNatClampNeg (0 : Int32)) (0 : Int32).toNatClampNeg) + (1 : Int32))) (((0 : Int32) + (1 : Int32)) + (1 : Int32)).toNatClampNeg (((upd (upd a286 (0 : Int32).toNatClampNeg (0 : Int32)) ((0 : Int32) + (1 : Int32)).toNatClampNeg (((upd a286 (0 : Int32).toNatClampNeg (0 : Int32)) (0 : Int32).toNatClampNeg) + (1 : Int32))) ((0 : Int32) + (1 : Int32)).toNatClampNeg) + ((1 : Int32) * c261_many))) (((0 : Int32) + (1 : Int32)) + (1 : Int32)).toNatClampNeg) + (((1 : Int32) * c261_many) * c261_many))) ((((0 : Int32) + (1 : Int32)) + (1 : Int32)) + (1 : Int32)).toNatClampNeg) + ((((1 : Int32) * c261_many) * c261_many) * c261_many))) (va_cpy jw_s0 a287 (0 : Int32).toNatClampNeg (0 : Int32).toNatClampNeg (4 : Int32).toNatClampNeg)) _
          unfold s299_X10_build_1
          refine dz_Tle (fun h14 => ?_) (fun h14 => ?_)
          · skip
            refine dz_Tle (fun h15 => ?_) (fun h15 => ?_)
            · skip
              exfalso; omega
            · skip
              have e16 := dz_ups (a := a286) (v := (0 : Int32)) (i := (0 : Int32)) (j := (0 : Int32)) (by omega)
              have e17 := dz_add (a := ((upd a286 (0 : Int32).toNatClampNeg (0 : Int32)) (0 : Int32).toNatClampNeg)) (b := (1 : Int32)) (by omega) (by omega)
              have e18 := dz_ups (a := (upd a286 (0 : Int32).toNatClampNeg (0 : Int32))) (v := (((upd a286 (0 : Int32).toNatClampNeg (0 : Int32)) (0 : Int32).toNatClampNeg) + (1 : Int32))) (i := ((0 : Int32) + (1 : Int32))) (j := ((0 : Int32) + (1 : Int32))) (by omega)
              have e19 := dz_mull (a := (1 : Int32)) (b := c261_many) 1 (by omega) (by omega) (by omega)
              have e20 := dz_add (a := ((upd (upd a286 (0 : Int32).toNatClampNeg (0 : Int32)) ((0 : Int32) + (1 : Int32)).toNatClampNeg (((upd a286 (0 : Int32).toNatClampNeg (0 : Int32)) (0 : Int32).toNatClampNeg) + (1 : Int32))) ((0 : Int32) + (1 : Int32)).toNatClampNeg)) (b := ((1 : Int32) * c261_many)) (by omega) (by omega)
              have e21 := dz_ups (a := (upd (upd a286 (0 : Int32).toNatClampNeg (0 : Int32)) ((0 : Int32) + (1 : Int32)).toNatClampNeg (((upd a286 (0 : Int32).toNatClampNeg (0 : Int32)) (0 : Int32).toNatClampNeg) + (1 : Int32)))) (v := (((upd (upd a286 (0 : Int32).toNatClampNeg (0 : Int32)) ((0 : Int32) + (1 : Int32)).toNatClampNeg (((upd a286 (0 : Int32).toNatClampNeg (0 : Int32)) (0 : Int32).toNatClampNeg) + (1 : Int32))) ((0 : Int32) + (1 : Int32)).toNatClampNeg) + ((1 : Int32) * c261_many))) (i := (((0 : Int32) + (1 : Int32)) + (1 : Int32))) (j := (((0 : Int32) + (1 : Int32)) + (1 : Int32))) (by omega)
              have e22 := dz_mull (a := ((1 : Int32) * c261_many)) (b := c261_many) 2 (by omega) (by omega) (by omega)
              have e23 := dz_add (a := ((upd (upd (upd a286 (0 : Int32).toNatClampNeg (0 : Int32)) ((0 : Int32) + (1 : Int32)).toNatClampNeg (((upd a286 (0 : Int32).toNatClampNeg (0 : Int32)) (0 : Int32).toNatClampNeg) + (1 : Int32))) (((0 : Int32) + (1 : Int32)) + (1 : Int32)).toNatClampNeg (((upd (upd a286 (0 : Int32).toNatClampNeg (0 : Int32)) ((0 : Int32) + (1 : Int32)).toNatClampNeg (((upd a286 (0 : Int32).toNatClampNeg (0 : Int32)) (0 : Int32).toNatClampNeg) + (1 : Int32))) ((0 : Int32) + (1 : Int32)).toNatClampNeg) + ((1 : Int32) * c261_many))) (((0 : Int32) + (1 : Int32)) + (1 : Int32)).toNatClampNeg)) (b := (((1 : Int32) * c261_many) * c261_many)) (by omega) (by omega)
              have e24 := dz_ups (a := (upd (upd (upd a286 (0 : Int32).toNatClampNeg (0 : Int32)) ((0 : Int32) + (1 : Int32)).toNatClampNeg (((upd a286 (0 : Int32).toNatClampNeg (0 : Int32)) (0 : Int32).toNatClampNeg) + (1 : Int32))) (((0 : Int32) + (1 : Int32)) + (1 : Int32)).toNatClampNeg (((upd (upd a286 (0 : Int32).toNatClampNeg (0 : Int32)) ((0 : Int32) + (1 : Int32)).toNatClampNeg (((upd a286 (0 : Int32).toNatClampNeg (0 : Int32)) (0 : Int32).toNatClampNeg) + (1 : Int32))) ((0 : Int32) + (1 : Int32)).toNatClampNeg) + ((1 : Int32) * c261_many)))) (v := (((upd (upd (upd a286 (0 : Int32).toNatClampNeg (0 : Int32)) ((0 : Int32) + (1 : Int32)).toNatClampNeg (((upd a286 (0 : Int32).toNatClampNeg (0 : Int32)) (0 : Int32).toNatClampNeg) + (1 : Int32))) (((0 : Int32) + (1 : Int32)) + (1 : Int32)).toNatClampNeg (((upd (upd a286 (0 : Int32).toNatClampNeg (0 : Int32)) ((0 : Int32) + (1 : Int32)).toNatClampNeg (((upd a286 (0 : Int32).toNatClampNeg (0 : Int32)) (0 : Int32).toNatClampNeg) + (1 : Int32))) ((0 : Int32) + (1 : Int32)).toNatClampNeg) + ((1 : Int32) * c261_many))) (((0 : Int32) + (1 : Int32)) + (1 : Int32)).toNatClampNeg) + (((1 : Int32) * c261_many) * c261_many))) (i := ((((0 : Int32) + (1 : Int32)) + (1 : Int32)) + (1 : Int32))) (j := ((((0 : Int32) + (1 : Int32)) + (1 : Int32)) + (1 : Int32))) (by omega)
              have e25 := dz_mull (a := (((1 : Int32) * c261_many) * c261_many)) (b := c261_many) 4 (by omega) (by omega) (by omega)
              have e26 := dz_add (a := ((upd (upd (upd (upd a286 (0 : Int32).toNatClampNeg (0 : Int32)) ((0 : Int32) + (1 : Int32)).toNatClampNeg (((upd a286 (0 : Int32).toNatClampNeg (0 : Int32)) (0 : Int32).toNatClampNeg) + (1 : Int32))) (((0 : Int32) + (1 : Int32)) + (1 : Int32)).toNatClampNeg (((upd (upd a286 (0 : Int32).toNatClampNeg (0 : Int32)) ((0 : Int32) + (1 : Int32)).toNatClampNeg (((upd a286 (0 : Int32).toNatClampNeg (0 : Int32)) (0 : Int32).toNatClampNeg) + (1 : Int32))) ((0 : Int32) + (1 : Int32)).toNatClampNeg) + ((1 : Int32) * c261_many))) ((((0 : Int32) + (1 : Int32)) + (1 : Int32)) + (1 : Int32)).toNatClampNeg (((upd (upd (upd a286 (0 : Int32).toNatClampNeg (0 : Int32)) ((0 : Int32) + (1 : Int32)).toNatClampNeg (((upd a286 (0 : Int32).toNatClampNeg (0 : Int32)) (0 : Int32).toNatClampNeg) + (1 : Int32))) (((0 : Int32) + (1 : Int32)) + (1 : Int32)).toNatClampNeg (((upd (upd a286 (0 : Int32).toNatClampNeg (0 : Int32)) ((0 : Int32) + (1 : Int32)).toNatClampNeg (((upd a286 (0 : Int32).toNatClampNeg (0 : Int32)) (0 : Int32).toNatClampNeg) + (1 : Int32))) ((0 : Int32) + (1 : Int32)).toNatClampNeg) + ((1 : Int32) * c261_many))) (((0 : Int32) + (1 : Int32)) + (1 : Int32)).toNatClampNeg) + (((1 : Int32) * c261_many) * c261_many))) ((((0 : Int32) + (1 : Int32)) + (1 : Int32)) + (1 : Int32)).toNatClampNeg)) (b := ((((1 : Int32) * c261_many) * c261_many) * c261_many)) (by omega) (by omega)
              refine dz_Tb (t172_X10_fillLast_g24 fu hfu _ _ _ _ _ _ _ _ _ p0 p1 p2 p3 p4 p5 p6 p7 p10 (hr_a268) (hr_a269) (dz_ptmk5 ((dz_upo (j := (((((0 : Int32) + (1 : Int32)) + (1 : Int32)) + (1 : Int32)) + (1 : Int32))) 0 (by omega)).trans ((dz_upo (j := ((((0 : Int32) + (1 : Int32)) + (1 : Int32)) + (1 : Int32))) 0 (by omega)).trans ((dz_upo (j := (((0 : Int32) + (1 : Int32)) + (1 : Int32))) 0 (by omega)).trans ((dz_upo (j := ((0 : Int32) + (1 : Int32))) 0 (by omega)).trans ((dz_upk (j := (0 : Int32)) 0 (by omega)).trans (by omega)))))) ((dz_upo (j := (((((0 : Int32) + (1 : Int32)) + (1 : Int32)) + (1 : Int32)) + (1 : Int32))) 1 (by omega)).trans ((dz_upo (j := ((((0 : Int32) + (1 : Int32)) + (1 : Int32)) + (1 : Int32))) 1 (by omega)).trans ((dz_upo (j := (((0 : Int32) + (1 : Int32)) + (1 : Int32))) 1 (by omega)).trans ((dz_upk (j := ((0 : Int32) + (1 : Int32))) 1 (by omega)).trans (by omega))))) ((dz_upo (j := (((((0 : Int32) + (1 : Int32)) + (1 : Int32)) + (1 : Int32)) + (1 : Int32))) 2 (by omega)).trans ((dz_upo (j := ((((0 : Int32) + (1 : Int32)) + (1 : Int32)) + (1 : Int32))) 2 (by omega)).trans ((dz_upk (j := (((0 : Int32) + (1 : Int32)) + (1 : Int32))) 2 (by omega)).trans (by omega)))) ((dz_upo (j := (((((0 : Int32) + (1 : Int32)) + (1 : Int32)) + (1 : Int32)) + (1 : Int32))) 3 (by omega)).trans ((dz_upk (j := ((((0 : Int32) + (1 : Int32)) + (1 : Int32)) + (1 : Int32))) 3 (by omega)).trans (by omega))) ((dz_upk (j := (((((0 : Int32) + (1 : Int32)) + (1 : Int32)) + (1 : Int32)) + (1 : Int32))) 4 (by omega)).trans (by omega))) (dz_pms4) (hr_a285) (by first | assumption | omega)) (fun r1 q => ?_)
              have qa1_0 := q
              obtain ⟨k6, rfl⟩ : ∃ x, k5 = x + 1 := ⟨k5 - 1, by omega⟩
              show dz_T (s299_X10_build_2 fu c248_pots c261_many c267_total a268 a269 n269 (F299_X10_build fu c248_pots c261_many c267_total a268 a269 n269 k6).2.2 c248_pots c284_fresh r1 (upd (upd (upd (upd (upd a286 (0 : Int32).toNatClampNeg (0 : Int32)) ((0 : Int32) + (1 : Int32)).toNatClampNeg (((upd a286 (0 : Int32).toNatClampNeg (0 : Int32)) (0 : Int32).toNatClampNeg) + (1 : Int32))) (((0 : Int32) + (1 : Int32)) + (1 : Int32)).toNatClampNeg (((upd (upd a286 (0 : Int32).toNatClampNeg (0 : Int32)) ((0 : Int32) + (1 : Int32)).toNatClampNeg (((upd a286 (0 : Int32).toNatClampNeg (0 : Int32)) (0 : Int32).toNatClampNeg) + (1 : Int32))) ((0 : Int32) + (1 : Int32)).toNatClampNeg) + ((1 : Int32) * c261_many))) ((((0 : Int32) + (1 : Int32)) + (1 : Int32)) + (1 : Int32)).toNatClampNeg (((upd (upd (upd a286 (0 : Int32).toNatClampNeg (0 : Int32)) ((0 : Int32) + (1 : Int32)).toNatClampNeg (((upd a286 (0 : Int32).toNatClampNeg (0 : Int32)) (0 : Int32).toNatClampNeg) + (1 : Int32))) (((0 : Int32) + (1 : Int32)) + (1 : Int32)).toNatClampNeg (((upd (upd a286 (0 : Int32).toNatClampNeg (0 : Int32)) ((0 : Int32) + (1 : Int32)).toNatClampNeg (((upd a286 (0 : Int32).toNatClampNeg (0 : Int32)) (0 : Int32).toNatClampNeg) + (1 : Int32))) ((0 : Int32) + (1 : Int32)).toNatClampNeg) + ((1 : Int32) * c261_many))) (((0 : Int32) + (1 : Int32)) + (1 : Int32)).toNatClampNeg) + (((1 : Int32) * c261_many) * c261_many))) (((((0 : Int32) + (1 : Int32)) + (1 : Int32)) + (1 : Int32)) + (1 : Int32)).toNatClampNeg (((upd (upd (upd (upd a286 (0 : Int32).toNatClampNeg (0 : Int32)) ((0 : Int32) + (1 : Int32)).toNatClampNeg (((upd a286 (0 : Int32).toNatClampNeg (0 : Int32)) (0 : Int32).toNatClampNeg) + (1 : Int32))) (((0 : Int32) + (1 : Int32)) + (1 : Int32)).toNatClampNeg (((upd (upd a286 (0 : Int32).toNatClampNeg (0 : Int32)) ((0 : Int32) + (1 : Int32)).toNatClampNeg (((upd a286 (0 : Int32).toNatClampNeg (0 : Int32)) (0 : Int32).toNatClampNeg) + (1 : Int32))) ((0 : Int32) + (1 : Int32)).toNatClampNeg) + ((1 : Int32) * c261_many))) ((((0 : Int32) + (1 : Int32)) + (1 : Int32)) + (1 : Int32)).toNatClampNeg (((upd (upd (upd a286 (0 : Int32).toNatClampNeg (0 : Int32)) ((0 : Int32) + (1 : Int32)).toNatClampNeg (((upd a286 (0 : Int32).toNatClampNeg (0 : Int32)) (0 : Int32).toNatClampNeg) + (1 : Int32))) (((0 : Int32) + (1 : Int32)) + (1 : Int32)).toNatClampNeg (((upd (upd a286 (0 : Int32).toNatClampNeg (0 : Int32)) ((0 : Int32) + (1 : Int32)).toNatClampNeg (((upd a286 (0 : Int32).toNatClampNeg (0 : Int32)) (0 : Int32).toNatClampNeg) + (1 : Int32))) ((0 : Int32) + (1 : Int32)).toNatClampNeg) + ((1 : Int32) * c261_many))) (((0 : Int32) + (1 : Int32)) + (1 : Int32)).toNatClampNeg) + (((1 : Int32) * c261_many) * c261_many))) ((((0 : Int32) + (1 : Int32)) + (1 : Int32)) + (1 : Int32)).toNatClampNeg) + ((((1 : Int32) * c261_many) * c261_many) * c261_many))) (va_cpy jw_s0 a287 (0 : Int32).toNatClampNeg (0 : Int32).toNatClampNeg (4 : Int32).toNatClampNeg)) _
              unfold s299_X10_build_2
              have e27 := dz_l2
              have e28 := dz_sub (a := c248_pots) (b := (2 : Int32)) (by omega) (by omega)
              generalize (c248_pots - (2 : Int32)) = zz13 at *
              obtain ⟨k7, rfl⟩ : ∃ x, k6 = x + 1 := ⟨k6 - 1, by omega⟩
              show dz_T (s299_X10_build_3 fu c248_pots c261_many c267_total a268 a269 n269 (F299_X10_build fu c248_pots c261_many c267_total a268 a269 n269 k7).2.2 zz13 c284_fresh r1 (upd (upd (upd (upd (upd a286 (0 : Int32).toNatClampNeg (0 : Int32)) ((0 : Int32) + (1 : Int32)).toNatClampNeg (((upd a286 (0 : Int32).toNatClampNeg (0 : Int32)) (0 : Int32).toNatClampNeg) + (1 : Int32))) (((0 : Int32) + (1 : Int32)) + (1 : Int32)).toNatClampNeg (((upd (upd a286 (0 : Int32).toNatClampNeg (0 : Int32)) ((0 : Int32) + (1 : Int32)).toNatClampNeg (((upd a286 (0 : Int32).toNatClampNeg (0 : Int32)) (0 : Int32).toNatClampNeg) + (1 : Int32))) ((0 : Int32) + (1 : Int32)).toNatClampNeg) + ((1 : Int32) * c261_many))) ((((0 : Int32) + (1 : Int32)) + (1 : Int32)) + (1 : Int32)).toNatClampNeg (((upd (upd (upd a286 (0 : Int32).toNatClampNeg (0 : Int32)) ((0 : Int32) + (1 : Int32)).toNatClampNeg (((upd a286 (0 : Int32).toNatClampNeg (0 : Int32)) (0 : Int32).toNatClampNeg) + (1 : Int32))) (((0 : Int32) + (1 : Int32)) + (1 : Int32)).toNatClampNeg (((upd (upd a286 (0 : Int32).toNatClampNeg (0 : Int32)) ((0 : Int32) + (1 : Int32)).toNatClampNeg (((upd a286 (0 : Int32).toNatClampNeg (0 : Int32)) (0 : Int32).toNatClampNeg) + (1 : Int32))) ((0 : Int32) + (1 : Int32)).toNatClampNeg) + ((1 : Int32) * c261_many))) (((0 : Int32) + (1 : Int32)) + (1 : Int32)).toNatClampNeg) + (((1 : Int32) * c261_many) * c261_many))) (((((0 : Int32) + (1 : Int32)) + (1 : Int32)) + (1 : Int32)) + (1 : Int32)).toNatClampNeg (((upd (upd (upd (upd a286 (0 : Int32).toNatClampNeg (0 : Int32)) ((0 : Int32) + (1 : Int32)).toNatClampNeg (((upd a286 (0 : Int32).toNatClampNeg (0 : Int32)) (0 : Int32).toNatClampNeg) + (1 : Int32))) (((0 : Int32) + (1 : Int32)) + (1 : Int32)).toNatClampNeg (((upd (upd a286 (0 : Int32).toNatClampNeg (0 : Int32)) ((0 : Int32) + (1 : Int32)).toNatClampNeg (((upd a286 (0 : Int32).toNatClampNeg (0 : Int32)) (0 : Int32).toNatClampNeg) + (1 : Int32))) ((0 : Int32) + (1 : Int32)).toNatClampNeg) + ((1 : Int32) * c261_many))) ((((0 : Int32) + (1 : Int32)) + (1 : Int32)) + (1 : Int32)).toNatClampNeg (((upd (upd (upd a286 (0 : Int32).toNatClampNeg (0 : Int32)) ((0 : Int32) + (1 : Int32)).toNatClampNeg (((upd a286 (0 : Int32).toNatClampNeg (0 : Int32)) (0 : Int32).toNatClampNeg) + (1 : Int32))) (((0 : Int32) + (1 : Int32)) + (1 : Int32)).toNatClampNeg (((upd (upd a286 (0 : Int32).toNatClampNeg (0 : Int32)) ((0 : Int32) + (1 : Int32)).toNatClampNeg (((upd a286 (0 : Int32).toNatClampNeg (0 : Int32)) (0 : Int32).toNatClampNeg) + (1 : Int32))) ((0 : Int32) + (1 : Int32)).toNatClampNeg) + ((1 : Int32) * c261_many))) (((0 : Int32) + (1 : Int32)) + (1 : Int32)).toNatClampNeg) + (((1 : Int32) * c261_many) * c261_many))) ((((0 : Int32) + (1 : Int32)) + (1 : Int32)) + (1 : Int32)).toNatClampNeg) + ((((1 : Int32) * c261_many) * c261_many) * c261_many))) (va_cpy jw_s0 a287 (0 : Int32).toNatClampNeg (0 : Int32).toNatClampNeg (4 : Int32).toNatClampNeg)) _
              unfold s299_X10_build_3
              refine dz_Tlt (fun h29 => ?_) (fun h29 => ?_)
              · skip
                exfalso; omega
              · skip
                refine dz_Tb (t173_X10_fillFromNext_g24 fu hfu _ _ _ _ p2 p3 (by first | assumption | omega) (by first | assumption | omega) (dz_ptmk5 ((dz_upo (j := (((((0 : Int32) + (1 : Int32)) + (1 : Int32)) + (1 : Int32)) + (1 : Int32))) 0 (by omega)).trans ((dz_upo (j := ((((0 : Int32) + (1 : Int32)) + (1 : Int32)) + (1 : Int32))) 0 (by omega)).trans ((dz_upo (j := (((0 : Int32) + (1 : Int32)) + (1 : Int32))) 0 (by omega)).trans ((dz_upo (j := ((0 : Int32) + (1 : Int32))) 0 (by omega)).trans ((dz_upk (j := (0 : Int32)) 0 (by omega)).trans (by omega)))))) ((dz_upo (j := (((((0 : Int32) + (1 : Int32)) + (1 : Int32)) + (1 : Int32)) + (1 : Int32))) 1 (by omega)).trans ((dz_upo (j := ((((0 : Int32) + (1 : Int32)) + (1 : Int32)) + (1 : Int32))) 1 (by omega)).trans ((dz_upo (j := (((0 : Int32) + (1 : Int32)) + (1 : Int32))) 1 (by omega)).trans ((dz_upk (j := ((0 : Int32) + (1 : Int32))) 1 (by omega)).trans (by omega))))) ((dz_upo (j := (((((0 : Int32) + (1 : Int32)) + (1 : Int32)) + (1 : Int32)) + (1 : Int32))) 2 (by omega)).trans ((dz_upo (j := ((((0 : Int32) + (1 : Int32)) + (1 : Int32)) + (1 : Int32))) 2 (by omega)).trans ((dz_upk (j := (((0 : Int32) + (1 : Int32)) + (1 : Int32))) 2 (by omega)).trans (by omega)))) ((dz_upo (j := (((((0 : Int32) + (1 : Int32)) + (1 : Int32)) + (1 : Int32)) + (1 : Int32))) 3 (by omega)).trans ((dz_upk (j := ((((0 : Int32) + (1 : Int32)) + (1 : Int32)) + (1 : Int32))) 3 (by omega)).trans (by omega))) ((dz_upk (j := (((((0 : Int32) + (1 : Int32)) + (1 : Int32)) + (1 : Int32)) + (1 : Int32))) 4 (by omega)).trans (by omega))) (qa1_0)) (fun r2 q => ?_)
                have qa2_0 := q
                have e30 := dz_lm1
                have e31 := dz_add (a := zz13) (b := (-(1 : Int32))) (by omega) (by omega)
                generalize (zz13 + (-(1 : Int32))) = zz14 at *
                obtain ⟨k8, rfl⟩ : ∃ x, k7 = x + 1 := ⟨k7 - 1, by omega⟩
                show dz_T (s299_X10_build_3 fu c248_pots c261_many c267_total a268 a269 n269 (F299_X10_build fu c248_pots c261_many c267_total a268 a269 n269 k8).2.2 zz14 c284_fresh r2 (upd (upd (upd (upd (upd a286 (0 : Int32).toNatClampNeg (0 : Int32)) ((0 : Int32) + (1 : Int32)).toNatClampNeg (((upd a286 (0 : Int32).toNatClampNeg (0 : Int32)) (0 : Int32).toNatClampNeg) + (1 : Int32))) (((0 : Int32) + (1 : Int32)) + (1 : Int32)).toNatClampNeg (((upd (upd a286 (0 : Int32).toNatClampNeg (0 : Int32)) ((0 : Int32) + (1 : Int32)).toNatClampNeg (((upd a286 (0 : Int32).toNatClampNeg (0 : Int32)) (0 : Int32).toNatClampNeg) + (1 : Int32))) ((0 : Int32) + (1 : Int32)).toNatClampNeg) + ((1 : Int32) * c261_many))) ((((0 : Int32) + (1 : Int32)) + (1 : Int32)) + (1 : Int32)).toNatClampNeg (((upd (upd (upd a286 (0 : Int32).toNatClampNeg (0 : Int32)) ((0 : Int32) + (1 : Int32)).toNatClampNeg (((upd a286 (0 : Int32).toNatClampNeg (0 : Int32)) (0 : Int32).toNatClampNeg) + (1 : Int32))) (((0 : Int32) + (1 : Int32)) + (1 : Int32)).toNatClampNeg (((upd (upd a286 (0 : Int32).toNatClampNeg (0 : Int32)) ((0 : Int32) + (1 : Int32)).toNatClampNeg (((upd a286 (0 : Int32).toNatClampNeg (0 : Int32)) (0 : Int32).toNatClampNeg) + (1 : Int32))) ((0 : Int32) + (1 : Int32)).toNatClampNeg) + ((1 : Int32) * c261_many))) (((0 : Int32) + (1 : Int32)) + (1 : Int32)).toNatClampNeg) + (((1 : Int32) * c261_many) * c261_many))) (((((0 : Int32) + (1 : Int32)) + (1 : Int32)) + (1 : Int32)) + (1 : Int32)).toNatClampNeg (((upd (upd (upd (upd a286 (0 : Int32).toNatClampNeg (0 : Int32)) ((0 : Int32) + (1 : Int32)).toNatClampNeg (((upd a286 (0 : Int32).toNatClampNeg (0 : Int32)) (0 : Int32).toNatClampNeg) + (1 : Int32))) (((0 : Int32) + (1 : Int32)) + (1 : Int32)).toNatClampNeg (((upd (upd a286 (0 : Int32).toNatClampNeg (0 : Int32)) ((0 : Int32) + (1 : Int32)).toNatClampNeg (((upd a286 (0 : Int32).toNatClampNeg (0 : Int32)) (0 : Int32).toNatClampNeg) + (1 : Int32))) ((0 : Int32) + (1 : Int32)).toNatClampNeg) + ((1 : Int32) * c261_many))) ((((0 : Int32) + (1 : Int32)) + (1 : Int32)) + (1 : Int32)).toNatClampNeg (((upd (upd (upd a286 (0 : Int32).toNatClampNeg (0 : Int32)) ((0 : Int32) + (1 : Int32)).toNatClampNeg (((upd a286 (0 : Int32).toNatClampNeg (0 : Int32)) (0 : Int32).toNatClampNeg) + (1 : Int32))) (((0 : Int32) + (1 : Int32)) + (1 : Int32)).toNatClampNeg (((upd (upd a286 (0 : Int32).toNatClampNeg (0 : Int32)) ((0 : Int32) + (1 : Int32)).toNatClampNeg (((upd a286 (0 : Int32).toNatClampNeg (0 : Int32)) (0 : Int32).toNatClampNeg) + (1 : Int32))) ((0 : Int32) + (1 : Int32)).toNatClampNeg) + ((1 : Int32) * c261_many))) (((0 : Int32) + (1 : Int32)) + (1 : Int32)).toNatClampNeg) + (((1 : Int32) * c261_many) * c261_many))) ((((0 : Int32) + (1 : Int32)) + (1 : Int32)) + (1 : Int32)).toNatClampNeg) + ((((1 : Int32) * c261_many) * c261_many) * c261_many))) (va_cpy jw_s0 a287 (0 : Int32).toNatClampNeg (0 : Int32).toNatClampNeg (4 : Int32).toNatClampNeg)) _
                unfold s299_X10_build_3
                refine dz_Tlt (fun h32 => ?_) (fun h32 => ?_)
                · skip
                  exfalso; omega
                · skip
                  refine dz_Tb (t173_X10_fillFromNext_g24 fu hfu _ _ _ _ p2 p3 (by first | assumption | omega) (by first | assumption | omega) (dz_ptmk5 ((dz_upo (j := (((((0 : Int32) + (1 : Int32)) + (1 : Int32)) + (1 : Int32)) + (1 : Int32))) 0 (by omega)).trans ((dz_upo (j := ((((0 : Int32) + (1 : Int32)) + (1 : Int32)) + (1 : Int32))) 0 (by omega)).trans ((dz_upo (j := (((0 : Int32) + (1 : Int32)) + (1 : Int32))) 0 (by omega)).trans ((dz_upo (j := ((0 : Int32) + (1 : Int32))) 0 (by omega)).trans ((dz_upk (j := (0 : Int32)) 0 (by omega)).trans (by omega)))))) ((dz_upo (j := (((((0 : Int32) + (1 : Int32)) + (1 : Int32)) + (1 : Int32)) + (1 : Int32))) 1 (by omega)).trans ((dz_upo (j := ((((0 : Int32) + (1 : Int32)) + (1 : Int32)) + (1 : Int32))) 1 (by omega)).trans ((dz_upo (j := (((0 : Int32) + (1 : Int32)) + (1 : Int32))) 1 (by omega)).trans ((dz_upk (j := ((0 : Int32) + (1 : Int32))) 1 (by omega)).trans (by omega))))) ((dz_upo (j := (((((0 : Int32) + (1 : Int32)) + (1 : Int32)) + (1 : Int32)) + (1 : Int32))) 2 (by omega)).trans ((dz_upo (j := ((((0 : Int32) + (1 : Int32)) + (1 : Int32)) + (1 : Int32))) 2 (by omega)).trans ((dz_upk (j := (((0 : Int32) + (1 : Int32)) + (1 : Int32))) 2 (by omega)).trans (by omega)))) ((dz_upo (j := (((((0 : Int32) + (1 : Int32)) + (1 : Int32)) + (1 : Int32)) + (1 : Int32))) 3 (by omega)).trans ((dz_upk (j := ((((0 : Int32) + (1 : Int32)) + (1 : Int32)) + (1 : Int32))) 3 (by omega)).trans (by omega))) ((dz_upk (j := (((((0 : Int32) + (1 : Int32)) + (1 : Int32)) + (1 : Int32)) + (1 : Int32))) 4 (by omega)).trans (by omega))) (qa2_0)) (fun r3 q => ?_)
                  have qa3_0 := q
                  have e33 := dz_add (a := zz14) (b := (-(1 : Int32))) (by omega) (by omega)
                  generalize (zz14 + (-(1 : Int32))) = zz15 at *
                  obtain ⟨k9, rfl⟩ : ∃ x, k8 = x + 1 := ⟨k8 - 1, by omega⟩
                  show dz_T (s299_X10_build_3 fu c248_pots c261_many c267_total a268 a269 n269 (F299_X10_build fu c248_pots c261_many c267_total a268 a269 n269 k9).2.2 zz15 c284_fresh r3 (upd (upd (upd (upd (upd a286 (0 : Int32).toNatClampNeg (0 : Int32)) ((0 : Int32) + (1 : Int32)).toNatClampNeg (((upd a286 (0 : Int32).toNatClampNeg (0 : Int32)) (0 : Int32).toNatClampNeg) + (1 : Int32))) (((0 : Int32) + (1 : Int32)) + (1 : Int32)).toNatClampNeg (((upd (upd a286 (0 : Int32).toNatClampNeg (0 : Int32)) ((0 : Int32) + (1 : Int32)).toNatClampNeg (((upd a286 (0 : Int32).toNatClampNeg (0 : Int32)) (0 : Int32).toNatClampNeg) + (1 : Int32))) ((0 : Int32) + (1 : Int32)).toNatClampNeg) + ((1 : Int32) * c261_many))) ((((0 : Int32) + (1 : Int32)) + (1 : Int32)) + (1 : Int32)).toNatClampNeg (((upd (upd (upd a286 (0 : Int32).toNatClampNeg (0 : Int32)) ((0 : Int32) + (1 : Int32)).toNatClampNeg (((upd a286 (0 : Int32).toNatClampNeg (0 : Int32)) (0 : Int32).toNatClampNeg) + (1 : Int32))) (((0 : Int32) + (1 : Int32)) + (1 : Int32)).toNatClampNeg (((upd (upd a286 (0 : Int32).toNatClampNeg (0 : Int32)) ((0 : Int32) + (1 : Int32)).toNatClampNeg (((upd a286 (0 : Int32).toNatClampNeg (0 : Int32)) (0 : Int32).toNatClampNeg) + (1 : Int32))) ((0 : Int32) + (1 : Int32)).toNatClampNeg) + ((1 : Int32) * c261_many))) (((0 : Int32) + (1 : Int32)) + (1 : Int32)).toNatClampNeg) + (((1 : Int32) * c261_many) * c261_many))) (((((0 : Int32) + (1 : Int32)) + (1 : Int32)) + (1 : Int32)) + (1 : Int32)).toNatClampNeg (((upd (upd (upd (upd a286 (0 : Int32).toNatClampNeg (0 : Int32)) ((0 : Int32) + (1 : Int32)).toNatClampNeg (((upd a286 (0 : Int32).toNatClampNeg (0 : Int32)) (0 : Int32).toNatClampNeg) + (1 : Int32))) (((0 : Int32) + (1 : Int32)) + (1 : Int32)).toNatClampNeg (((upd (upd a286 (0 : Int32).toNatClampNeg (0 : Int32)) ((0 : Int32) + (1 : Int32)).toNatClampNeg (((upd a286 (0 : Int32).toNatClampNeg (0 : Int32)) (0 : Int32).toNatClampNeg) + (1 : Int32))) ((0 : Int32) + (1 : Int32)).toNatClampNeg) + ((1 : Int32) * c261_many))) ((((0 : Int32) + (1 : Int32)) + (1 : Int32)) + (1 : Int32)).toNatClampNeg (((upd (upd (upd a286 (0 : Int32).toNatClampNeg (0 : Int32)) ((0 : Int32) + (1 : Int32)).toNatClampNeg (((upd a286 (0 : Int32).toNatClampNeg (0 : Int32)) (0 : Int32).toNatClampNeg) + (1 : Int32))) (((0 : Int32) + (1 : Int32)) + (1 : Int32)).toNatClampNeg (((upd (upd a286 (0 : Int32).toNatClampNeg (0 : Int32)) ((0 : Int32) + (1 : Int32)).toNatClampNeg (((upd a286 (0 : Int32).toNatClampNeg (0 : Int32)) (0 : Int32).toNatClampNeg) + (1 : Int32))) ((0 : Int32) + (1 : Int32)).toNatClampNeg) + ((1 : Int32) * c261_many))) (((0 : Int32) + (1 : Int32)) + (1 : Int32)).toNatClampNeg) + (((1 : Int32) * c261_many) * c261_many))) ((((0 : Int32) + (1 : Int32)) + (1 : Int32)) + (1 : Int32)).toNatClampNeg) + ((((1 : Int32) * c261_many) * c261_many) * c261_many))) (va_cpy jw_s0 a287 (0 : Int32).toNatClampNeg (0 : Int32).toNatClampNeg (4 : Int32).toNatClampNeg)) _
                  unfold s299_X10_build_3
                  refine dz_Tlt (fun h34 => ?_) (fun h34 => ?_)
                  · skip
                    exfalso; omega
                  · skip
                    refine dz_Tb (t173_X10_fillFromNext_g24 fu hfu _ _ _ _ p2 p3 (by first | assumption | omega) (by first | assumption | omega) (dz_ptmk5 ((dz_upo (j := (((((0 : Int32) + (1 : Int32)) + (1 : Int32)) + (1 : Int32)) + (1 : Int32))) 0 (by omega)).trans ((dz_upo (j := ((((0 : Int32) + (1 : Int32)) + (1 : Int32)) + (1 : Int32))) 0 (by omega)).trans ((dz_upo (j := (((0 : Int32) + (1 : Int32)) + (1 : Int32))) 0 (by omega)).trans ((dz_upo (j := ((0 : Int32) + (1 : Int32))) 0 (by omega)).trans ((dz_upk (j := (0 : Int32)) 0 (by omega)).trans (by omega)))))) ((dz_upo (j := (((((0 : Int32) + (1 : Int32)) + (1 : Int32)) + (1 : Int32)) + (1 : Int32))) 1 (by omega)).trans ((dz_upo (j := ((((0 : Int32) + (1 : Int32)) + (1 : Int32)) + (1 : Int32))) 1 (by omega)).trans ((dz_upo (j := (((0 : Int32) + (1 : Int32)) + (1 : Int32))) 1 (by omega)).trans ((dz_upk (j := ((0 : Int32) + (1 : Int32))) 1 (by omega)).trans (by omega))))) ((dz_upo (j := (((((0 : Int32) + (1 : Int32)) + (1 : Int32)) + (1 : Int32)) + (1 : Int32))) 2 (by omega)).trans ((dz_upo (j := ((((0 : Int32) + (1 : Int32)) + (1 : Int32)) + (1 : Int32))) 2 (by omega)).trans ((dz_upk (j := (((0 : Int32) + (1 : Int32)) + (1 : Int32))) 2 (by omega)).trans (by omega)))) ((dz_upo (j := (((((0 : Int32) + (1 : Int32)) + (1 : Int32)) + (1 : Int32)) + (1 : Int32))) 3 (by omega)).trans ((dz_upk (j := ((((0 : Int32) + (1 : Int32)) + (1 : Int32)) + (1 : Int32))) 3 (by omega)).trans (by omega))) ((dz_upk (j := (((((0 : Int32) + (1 : Int32)) + (1 : Int32)) + (1 : Int32)) + (1 : Int32))) 4 (by omega)).trans (by omega))) (qa3_0)) (fun r4 q => ?_)
                    have qa4_0 := q
                    have e35 := dz_add (a := zz15) (b := (-(1 : Int32))) (by omega) (by omega)
                    generalize (zz15 + (-(1 : Int32))) = zz16 at *
                    obtain ⟨k10, rfl⟩ : ∃ x, k9 = x + 1 := ⟨k9 - 1, by omega⟩
                    show dz_T (s299_X10_build_3 fu c248_pots c261_many c267_total a268 a269 n269 (F299_X10_build fu c248_pots c261_many c267_total a268 a269 n269 k10).2.2 zz16 c284_fresh r4 (upd (upd (upd (upd (upd a286 (0 : Int32).toNatClampNeg (0 : Int32)) ((0 : Int32) + (1 : Int32)).toNatClampNeg (((upd a286 (0 : Int32).toNatClampNeg (0 : Int32)) (0 : Int32).toNatClampNeg) + (1 : Int32))) (((0 : Int32) + (1 : Int32)) + (1 : Int32)).toNatClampNeg (((upd (upd a286 (0 : Int32).toNatClampNeg (0 : Int32)) ((0 : Int32) + (1 : Int32)).toNatClampNeg (((upd a286 (0 : Int32).toNatClampNeg (0 : Int32)) (0 : Int32).toNatClampNeg) + (1 : Int32))) ((0 : Int32) + (1 : Int32)).toNatClampNeg) + ((1 : Int32) * c261_many))) ((((0 : Int32) + (1 : Int32)) + (1 : Int32)) + (1 : Int32)).toNatClampNeg (((upd (upd (upd a286 (0 : Int32).toNatClampNeg (0 : Int32)) ((0 : Int32) + (1 : Int32)).toNatClampNeg (((upd a286 (0 : Int32).toNatClampNeg (0 : Int32)) (0 : Int32).toNatClampNeg) + (1 : Int32))) (((0 : Int32) + (1 : Int32)) + (1 : Int32)).toNatClampNeg (((upd (upd a286 (0 : Int32).toNatClampNeg (0 : Int32)) ((0 : Int32) + (1 : Int32)).toNatClampNeg (((upd a286 (0 : Int32).toNatClampNeg (0 : Int32)) (0 : Int32).toNatClampNeg) + (1 : Int32))) ((0 : Int32) + (1 : Int32)).toNatClampNeg) + ((1 : Int32) * c261_many))) (((0 : Int32) + (1 : Int32)) + (1 : Int32)).toNatClampNeg) + (((1 : Int32) * c261_many) * c261_many))) (((((0 : Int32) + (1 : Int32)) + (1 : Int32)) + (1 : Int32)) + (1 : Int32)).toNatClampNeg (((upd (upd (upd (upd a286 (0 : Int32).toNatClampNeg (0 : Int32)) ((0 : Int32) + (1 : Int32)).toNatClampNeg (((upd a286 (0 : Int32).toNatClampNeg (0 : Int32)) (0 : Int32).toNatClampNeg) + (1 : Int32))) (((0 : Int32) + (1 : Int32)) + (1 : Int32)).toNatClampNeg (((upd (upd a286 (0 : Int32).toNatClampNeg (0 : Int32)) ((0 : Int32) + (1 : Int32)).toNatClampNeg (((upd a286 (0 : Int32).toNatClampNeg (0 : Int32)) (0 : Int32).toNatClampNeg) + (1 : Int32))) ((0 : Int32) + (1 : Int32)).toNatClampNeg) + ((1 : Int32) * c261_many))) ((((0 : Int32) + (1 : Int32)) + (1 : Int32)) + (1 : Int32)).toNatClampNeg (((upd (upd (upd a286 (0 : Int32).toNatClampNeg (0 : Int32)) ((0 : Int32) + (1 : Int32)).toNatClampNeg (((upd a286 (0 : Int32).toNatClampNeg (0 : Int32)) (0 : Int32).toNatClampNeg) + (1 : Int32))) (((0 : Int32) + (1 : Int32)) + (1 : Int32)).toNatClampNeg (((upd (upd a286 (0 : Int32).toNatClampNeg (0 : Int32)) ((0 : Int32) + (1 : Int32)).toNatClampNeg (((upd a286 (0 : Int32).toNatClampNeg (0 : Int32)) (0 : Int32).toNatClampNeg) + (1 : Int32))) ((0 : Int32) + (1 : Int32)).toNatClampNeg) + ((1 : Int32) * c261_many))) (((0 : Int32) + (1 : Int32)) + (1 : Int32)).toNatClampNeg) + (((1 : Int32) * c261_many) * c261_many))) ((((0 : Int32) + (1 : Int32)) + (1 : Int32)) + (1 : Int32)).toNatClampNeg) + ((((1 : Int32) * c261_many) * c261_many) * c261_many))) (va_cpy jw_s0 a287 (0 : Int32).toNatClampNeg (0 : Int32).toNatClampNeg (4 : Int32).toNatClampNeg)) _
                    unfold s299_X10_build_3
                    refine dz_Tlt (fun h36 => ?_) (fun h36 => ?_)
                    · skip
                      refine dz_Ts ?_
                      dsimp only
                      exact ⟨(by omega), (by omega), (qa4_0), (dz_rgu (dz_rgu (dz_rgu (dz_rgu (dz_rgu (hr_a286) (by omega) (by omega)) (by omega) (by omega)) (by omega) (by omega)) (by omega) (by omega)) (by omega) (by omega)), (dz_pms4)⟩
                    · skip
                      exfalso; omega
          · skip
            exfalso; omega
theorem t299_X10_build_g24 (fu : Nat) (hfu : 1000000000000 ≤ fu) (c248_pots : Int32) (c261_many : Int32) (c267_total : Int32) (a268 : Nat → Int32) (a269 : Nat → Int32) (n269 : Nat) (c284_fresh : Int32) (a285 : Nat → Int32) (a286 : Nat → Int32) (a287 : Nat → Int32) (p0 : c248_pots.toInt ≤ 4) (p1 : 4 ≤ c248_pots.toInt) (p2 : c261_many.toInt ≤ 2) (p3 : 2 ≤ c261_many.toInt) (p4 : c267_total.toInt ≤ 16) (p5 : 16 ≤ c267_total.toInt) (p6 : ((n269 : Nat) : Int) ≤ 13824) (p7 : 1 ≤ ((n269 : Nat) : Int)) (p8 : c284_fresh.toInt ≤ 1) (p9 : 0 ≤ c284_fresh.toInt) (p10 : c267_total.toInt ≤ ((n269 : Nat) : Int)) (hr_a268 : dz_pt a268 [8, 4, 2, 1]) (hr_a269 : dz_rg a269 n269 0 1023) (hr_a285 : dz_rg a285 601 0 16777215) (hr_a286 : dz_rg a286 5 0 14425) : dz_T (f299_X10_build fu c248_pots c261_many c267_total a268 a269 n269 c284_fresh a285 a286 a287) (fun r => r.1.toInt ≤ 1 ∧ 1 ≤ r.1.toInt ∧ dz_rg r.2.1 601 0 16777215 ∧ dz_rg r.2.2.1 5 0 14425 ∧ dz_pm r.2.2.2 4) :=
  t299_X10_build_E_g24 fu hfu c248_pots c261_many c267_total a268 a269 n269 c284_fresh a285 a286 a287 p0 p1 p2 p3 p4 p5 p6 p7 p8 p9 p10 hr_a268 hr_a269 hr_a285 hr_a286 fu hfu
set_option maxHeartbeats 1000000 in
set_option maxRecDepth 10000 in
theorem t299_X10_build_E_g30 (fu : Nat) (hfu : 1000000000000 ≤ fu) (c248_pots : Int32) (c261_many : Int32) (c267_total : Int32) (a268 : Nat → Int32) (a269 : Nat → Int32) (n269 : Nat) (c284_fresh : Int32) (a285 : Nat → Int32) (a286 : Nat → Int32) (a287 : Nat → Int32) (p0 : c248_pots.toInt ≤ 0) (p1 : 0 ≤ c248_pots.toInt) (p2 : c261_many.toInt ≤ 6) (p3 : 6 ≤ c261_many.toInt) (p4 : c267_total.toInt ≤ 1) (p5 : 1 ≤ c267_total.toInt) (p6 : ((n269 : Nat) : Int) ≤ 13824) (p7 : 1 ≤ ((n269 : Nat) : Int)) (p8 : c284_fresh.toInt ≤ 1) (p9 : 0 ≤ c284_fresh.toInt) (p10 : c267_total.toInt ≤ ((n269 : Nat) : Int)) (hr_a269 : dz_rg a269 n269 0 1023) (hr_a285 : dz_rg a285 601 0 16777215) (hr_a286 : dz_rg a286 5 0 14425) (kv : Nat) (hkv : 1000000000000 ≤ kv) : dz_T (s299_X10_build_0 fu c248_pots c261_many c267_total a268 a269 n269 (F299_X10_build fu c248_pots c261_many c267_total a268 a269 n269 kv).1  c284_fresh a285 a286 a287) (fun r => r.1.toInt ≤ 1 ∧ 1 ≤ r.1.toInt ∧ dz_rg r.2.1 601 0 16777215 ∧ dz_rg r.2.2.1 5 0 14425 ∧ dz_pm r.2.2.2 0) := by
  unfold s299_X10_build_0
  have e1 := dz_l0
  refine dz_Tng (by omega) ?_
  refine dz_Tng (by omega) ?_
  have e2 := dz_l4
  refine dz_Tng (by omega) ?_
  have e3 := dz_tn (0 : Int32)
  have e4 := dz_tn (4 : Int32)
  refine dz_Tg (by omega) ?_
  refine dz_Tg (by omega) ?_
  refine dz_Tin (by omega) (by omega) ?_
  obtain ⟨k1, rfl⟩ : ∃ x, kv = x + 1 := ⟨kv - 1, by omega⟩
  show dz_T (s299_X10_build_1 fu c248_pots c261_many c267_total a268 a269 n269 (F299_X10_build fu c248_pots c261_many c267_total a268 a269 n269 k1).1 (F299_X10_build fu c248_pots c261_many c267_total a268 a269 n269 k1).2.1 c248_pots (1 : Int32) (0 : Int32) c284_fresh a285 (upd a286 (0 : Int32).toNatClampNeg (0 : Int32)) (va_cpy jw_s0 a287 (0 : Int32).toNatClampNeg (0 : Int32).toNatClampNeg (4 : Int32).toNatClampNeg)) _
  unfold s299_X10_build_1
  refine dz_Tle (fun h5 => ?_) (fun h5 => ?_)
  · skip
    refine dz_Tle (fun h6 => ?_) (fun h6 => ?_)
    · skip
      obtain ⟨k2, rfl⟩ : ∃ x, k1 = x + 1 := ⟨k1 - 1, by omega⟩
      show dz_T (s299_X10_build_2 fu c248_pots c261_many c267_total a268 a269 n269 (F299_X10_build fu c248_pots c261_many c267_total a268 a269 n269 k2).2.2 c248_pots c284_fresh a285 (upd a286 (0 : Int32).toNatClampNeg (0 : Int32)) (va_cpy jw_s0 a287 (0 : Int32).toNatClampNeg (0 : Int32).toNatClampNeg (4 : Int32).toNatClampNeg)) _
      unfold s299_X10_build_2
      have e7 := dz_l2
      have e8 := dz_sub (a := c248_pots) (b := (2 : Int32)) (by omega) (by omega)
      generalize (c248_pots - (2 : Int32)) = zz4 at *
      obtain ⟨k3, rfl⟩ : ∃ x, k2 = x + 1 := ⟨k2 - 1, by omega⟩
      show dz_T (s299_X10_build_3 fu c248_pots c261_many c267_total a268 a269 n269 (F299_X10_build fu c248_pots c261_many c267_total a268 a269 n269 k3).2.2 zz4 c284_fresh a285 (upd a286 (0 : Int32).toNatClampNeg (0 : Int32)) (va_cpy jw_s0 a287 (0 : Int32).toNatClampNeg (0 : Int32).toNatClampNeg (4 : Int32).toNatClampNeg)) _
      unfold s299_X10_build_3
      refine dz_Tlt (fun h9 => ?_) (fun h9 => ?_)
      · skip
        have e10 := dz_l1
        refine dz_Ts ?_
        dsimp only
        exact ⟨(by omega), (by omega), (hr_a285), (dz_rgu (hr_a286) (by omega) (by omega)), (dz_pms0)⟩
      · skip
        exfalso; omega
    · skip
      exfalso; omega
  · skip
    exfalso; omega
theorem t299_X10_build_g30 (fu : Nat) (hfu : 1000000000000 ≤ fu) (c248_pots : Int32) (c261_many : Int32) (c267_total : Int32) (a268 : Nat → Int32) (a269 : Nat → Int32) (n269 : Nat) (c284_fresh : Int32) (a285 : Nat → Int32) (a286 : Nat → Int32) (a287 : Nat → Int32) (p0 : c248_pots.toInt ≤ 0) (p1 : 0 ≤ c248_pots.toInt) (p2 : c261_many.toInt ≤ 6) (p3 : 6 ≤ c261_many.toInt) (p4 : c267_total.toInt ≤ 1) (p5 : 1 ≤ c267_total.toInt) (p6 : ((n269 : Nat) : Int) ≤ 13824) (p7 : 1 ≤ ((n269 : Nat) : Int)) (p8 : c284_fresh.toInt ≤ 1) (p9 : 0 ≤ c284_fresh.toInt) (p10 : c267_total.toInt ≤ ((n269 : Nat) : Int)) (hr_a269 : dz_rg a269 n269 0 1023) (hr_a285 : dz_rg a285 601 0 16777215) (hr_a286 : dz_rg a286 5 0 14425) : dz_T (f299_X10_build fu c248_pots c261_many c267_total a268 a269 n269 c284_fresh a285 a286 a287) (fun r => r.1.toInt ≤ 1 ∧ 1 ≤ r.1.toInt ∧ dz_rg r.2.1 601 0 16777215 ∧ dz_rg r.2.2.1 5 0 14425 ∧ dz_pm r.2.2.2 0) :=
  t299_X10_build_E_g30 fu hfu c248_pots c261_many c267_total a268 a269 n269 c284_fresh a285 a286 a287 p0 p1 p2 p3 p4 p5 p6 p7 p8 p9 p10 hr_a269 hr_a285 hr_a286 fu hfu
set_option maxHeartbeats 1000000 in
set_option maxRecDepth 10000 in
theorem t299_X10_build_E_g31 (fu : Nat) (hfu : 1000000000000 ≤ fu) (c248_pots : Int32) (c261_many : Int32) (c267_total : Int32) (a268 : Nat → Int32) (a269 : Nat → Int32) (n269 : Nat) (c284_fresh : Int32) (a285 : Nat → Int32) (a286 : Nat → Int32) (a287 : Nat → Int32) (p0 : c248_pots.toInt ≤ 1) (p1 : 1 ≤ c248_pots.toInt) (p2 : c261_many.toInt ≤ 6) (p3 : 6 ≤ c261_many.toInt) (p4 : c267_total.toInt ≤ 6) (p5 : 6 ≤ c267_total.toInt) (p6 : ((n269 : Nat) : Int) ≤ 13824) (p7 : 1 ≤ ((n269 : Nat) : Int)) (p8 : c284_fresh.toInt ≤ 1) (p9 : 0 ≤ c284_fresh.toInt) (p10 : c267_total.toInt ≤ ((n269 : Nat) : Int)) (hr_a268 : dz_pt a268 [1]) (hr_a269 : dz_rg a269 n269 0 1023) (hr_a285 : dz_rg a285 601 0 16777215) (hr_a286 : dz_rg a286 5 0 14425) (kv : Nat) (hkv : 1000000000000 ≤ kv) : dz_T (s299_X10_build_0 fu c248_pots c261_many c267_total a268 a269 n269 (F299_X10_build fu c248_pots c261_many c267_total a268 a269 n269 kv).1  c284_fresh a285 a286 a287) (fun r => r.1.toInt ≤ 1 ∧ 1 ≤ r.1.toInt ∧ dz_rg r.2.1 601 0 16777215 ∧ dz_rg r.2.2.1 5 0 14425 ∧ dz_pm r.2.2.2 1) := by
  unfold s299_X10_build_0
  have e1 := dz_l0
  refine dz_Tng (by omega) ?_
  refine dz_Tng (by omega) ?_
  have e2 := dz_l4
  refine dz_Tng (by omega) ?_
  have e3 := dz_tn (0 : Int32)
  have e4 := dz_tn (4 : Int32)
  refine dz_Tg (by omega) ?_
  refine dz_Tg (by omega) ?_
  refine dz_Tin (by omega) (by omega) ?_
  obtain ⟨k1, rfl⟩ : ∃ x, kv = x + 1 := ⟨kv - 1, by omega⟩
  show dz_T (s299_X10_build_1 fu c248_pots c261_many c267_total a268 a269 n269 (F299_X10_build fu c248_pots c261_many c267_total a268 a269 n269 k1).1 (F299_X10_build fu c248_pots c261_many c267_total a268 a269 n269 k1).2.1 c248_pots (1 : Int32) (0 : Int32) c284_fresh a285 (upd a286 (0 : Int32).toNatClampNeg (0 : Int32)) (va_cpy jw_s0 a287 (0 : Int32).toNatClampNeg (0 : Int32).toNatClampNeg (4 : Int32).toNatClampNeg)) _
  unfold s299_X10_build_1
  refine dz_Tle (fun h5 => ?_) (fun h5 => ?_)
  · skip
    exfalso; omega
  · skip
    refine dz_Tin (by omega) (by omega) ?_
    have e6 := dz_l1
    have e7 := dz_add (a := (0 : Int32)) (b := (1 : Int32)) (by omega) (by omega)
    refine dz_Tin (by omega) (by omega) ?_
    obtain ⟨k2, rfl⟩ : ∃ x, k1 = x + 1 := ⟨k1 - 1, by omega⟩
    show dz_T (s299_X10_build_1 fu c248_pots c261_many c267_total a268 a269 n269 (F299_X10_build fu c248_pots c261_many c267_total a268 a269 n269 k2).1 (F299_X10_build fu c248_pots c261_many c267_total a268 a269 n269 k2).2.1 c248_pots ((1 : Int32) * c261_many) ((0 : Int32) + (1 : Int32)) c284_fresh a285 (upd (upd a286 (0 : Int32).toNatClampNeg (0 : Int32)) ((0 : Int32) + (1 : Int32)).toNatClampNeg (((upd a286 (0 : Int32).toNatClampNeg (0 : Int32)) (0 : Int32).toNatClampNeg) + (1 : Int32))) (va_cpy jw_s0 a287 (0 : Int32).toNatClampNeg (0 : Int32).toNatClampNeg (4 : Int32).toNatClampNeg)) _
    unfold s299_X10_build_1
    refine dz_Tle (fun h8 => ?_) (fun h8 => ?_)
    · skip
      refine dz_Tle (fun h9 => ?_) (fun h9 => ?_)
      · skip
        exfalso; omega
      · skip
        have e10 := dz_ups (a := a286) (v := (0 : Int32)) (i := (0 : Int32)) (j := (0 : Int32)) (by omega)
        have e11 := dz_add (a := ((upd a286 (0 : Int32).toNatClampNeg (0 : Int32)) (0 : Int32).toNatClampNeg)) (b := (1 : Int32)) (by omega) (by omega)
        refine dz_Tb (t172_X10_fillLast_g31 fu hfu _ _ _ _ _ _ _ _ _ p0 p1 p2 p3 p4 p5 p6 p7 p10 (hr_a268) (hr_a269) (dz_ptmk2 ((dz_upo (j := ((0 : Int32) + (1 : Int32))) 0 (by omega)).trans ((dz_upk (j := (0 : Int32)) 0 (by omega)).trans (by omega))) ((dz_upk (j := ((0 : Int32) + (1 : Int32))) 1 (by omega)).trans (by omega))) (dz_pms1) (hr_a285) (by first | assumption | omega)) (fun r1 q => ?_)
        have qa1_0 := q
        obtain ⟨k3, rfl⟩ : ∃ x, k2 = x + 1 := ⟨k2 - 1, by omega⟩
        show dz_T (s299_X10_build_2 fu c248_pots c261_many c267_total a268 a269 n269 (F299_X10_build fu c248_pots c261_many c267_total a268 a269 n269 k3).2.2 c248_pots c284_fresh r1 (upd (upd a286 (0 : Int32).toNatClampNeg (0 : Int32)) ((0 : Int32) + (1 : Int32)).toNatClampNeg (((upd a286 (0 : Int32).toNatClampNeg (0 : Int32)) (0 : Int32).toNatClampNeg) + (1 : Int32))) (va_cpy jw_s0 a287 (0 : Int32).toNatClampNeg (0 : Int32).toNatClampNeg (4 : Int32).toNatClampNeg)) _
        unfold s299_X10_build_2
        have e12 := dz_l2
        have e13 := dz_sub (a := c248_pots) (b := (2 : Int32)) (by omega) (by omega)
        generalize (c248_pots - (2 : Int32)) = zz4 at *
        obtain ⟨k4, rfl⟩ : ∃ x, k3 = x + 1 := ⟨k3 - 1, by omega⟩
        show dz_T (s299_X10_build_3 fu c248_pots c261_many c267_total a268 a269 n269 (F299_X10_build fu c248_pots c261_many c267_total a268 a269 n269 k4).2.2 zz4 c284_fresh r1 (upd (upd a286 (0 : Int32).toNatClampNeg (0 : Int32)) ((0 : Int32) + (1 : Int32)).toNatClampNeg (((upd a286 (0 : Int32).toNatClampNeg (0 : Int32)) (0 : Int32).toNatClampNeg) + (1 : Int32))) (va_cpy jw_s0 a287 (0 : Int32).toNatClampNeg (0 : Int32).toNatClampNeg (4 : Int32).toNatClampNeg)) _
        unfold s299_X10_build_3
        refine dz_Tlt (fun h14 => ?_) (fun h14 => ?_)
        · skip
          refine dz_Ts ?_
          dsimp only
          exact ⟨(by omega), (by omega), (qa1_0), (dz_rgu (dz_rgu (hr_a286) (by omega) (by omega)) (by omega) (by omega)), (dz_pms1)⟩
        · skip
          exfalso; omega
    · skip
      exfalso; omega
theorem t299_X10_build_g31 (fu : Nat) (hfu : 1000000000000 ≤ fu) (c248_pots : Int32) (c261_many : Int32) (c267_total : Int32) (a268 : Nat → Int32) (a269 : Nat → Int32) (n269 : Nat) (c284_fresh : Int32) (a285 : Nat → Int32) (a286 : Nat → Int32) (a287 : Nat → Int32) (p0 : c248_pots.toInt ≤ 1) (p1 : 1 ≤ c248_pots.toInt) (p2 : c261_many.toInt ≤ 6) (p3 : 6 ≤ c261_many.toInt) (p4 : c267_total.toInt ≤ 6) (p5 : 6 ≤ c267_total.toInt) (p6 : ((n269 : Nat) : Int) ≤ 13824) (p7 : 1 ≤ ((n269 : Nat) : Int)) (p8 : c284_fresh.toInt ≤ 1) (p9 : 0 ≤ c284_fresh.toInt) (p10 : c267_total.toInt ≤ ((n269 : Nat) : Int)) (hr_a268 : dz_pt a268 [1]) (hr_a269 : dz_rg a269 n269 0 1023) (hr_a285 : dz_rg a285 601 0 16777215) (hr_a286 : dz_rg a286 5 0 14425) : dz_T (f299_X10_build fu c248_pots c261_many c267_total a268 a269 n269 c284_fresh a285 a286 a287) (fun r => r.1.toInt ≤ 1 ∧ 1 ≤ r.1.toInt ∧ dz_rg r.2.1 601 0 16777215 ∧ dz_rg r.2.2.1 5 0 14425 ∧ dz_pm r.2.2.2 1) :=
  t299_X10_build_E_g31 fu hfu c248_pots c261_many c267_total a268 a269 n269 c284_fresh a285 a286 a287 p0 p1 p2 p3 p4 p5 p6 p7 p8 p9 p10 hr_a268 hr_a269 hr_a285 hr_a286 fu hfu
set_option maxHeartbeats 1000000 in
set_option maxRecDepth 10000 in
theorem t299_X10_build_E_g32 (fu : Nat) (hfu : 1000000000000 ≤ fu) (c248_pots : Int32) (c261_many : Int32) (c267_total : Int32) (a268 : Nat → Int32) (a269 : Nat → Int32) (n269 : Nat) (c284_fresh : Int32) (a285 : Nat → Int32) (a286 : Nat → Int32) (a287 : Nat → Int32) (p0 : c248_pots.toInt ≤ 2) (p1 : 2 ≤ c248_pots.toInt) (p2 : c261_many.toInt ≤ 6) (p3 : 6 ≤ c261_many.toInt) (p4 : c267_total.toInt ≤ 36) (p5 : 36 ≤ c267_total.toInt) (p6 : ((n269 : Nat) : Int) ≤ 13824) (p7 : 1 ≤ ((n269 : Nat) : Int)) (p8 : c284_fresh.toInt ≤ 1) (p9 : 0 ≤ c284_fresh.toInt) (p10 : c267_total.toInt ≤ ((n269 : Nat) : Int)) (hr_a268 : dz_pt a268 [6, 1]) (hr_a269 : dz_rg a269 n269 0 1023) (hr_a285 : dz_rg a285 601 0 16777215) (hr_a286 : dz_rg a286 5 0 14425) (kv : Nat) (hkv : 1000000000000 ≤ kv) : dz_T (s299_X10_build_0 fu c248_pots c261_many c267_total a268 a269 n269 (F299_X10_build fu c248_pots c261_many c267_total a268 a269 n269 kv).1  c284_fresh a285 a286 a287) (fun r => r.1.toInt ≤ 1 ∧ 1 ≤ r.1.toInt ∧ dz_rg r.2.1 601 0 16777215 ∧ dz_rg r.2.2.1 5 0 14425 ∧ dz_pm r.2.2.2 2) := by
  unfold s299_X10_build_0
  have e1 := dz_l0
  refine dz_Tng (by omega) ?_
  refine dz_Tng (by omega) ?_
  have e2 := dz_l4
  refine dz_Tng (by omega) ?_
  have e3 := dz_tn (0 : Int32)
  have e4 := dz_tn (4 : Int32)
  refine dz_Tg (by omega) ?_
  refine dz_Tg (by omega) ?_
  refine dz_Tin (by omega) (by omega) ?_
  obtain ⟨k1, rfl⟩ : ∃ x, kv = x + 1 := ⟨kv - 1, by omega⟩
  show dz_T (s299_X10_build_1 fu c248_pots c261_many c267_total a268 a269 n269 (F299_X10_build fu c248_pots c261_many c267_total a268 a269 n269 k1).1 (F299_X10_build fu c248_pots c261_many c267_total a268 a269 n269 k1).2.1 c248_pots (1 : Int32) (0 : Int32) c284_fresh a285 (upd a286 (0 : Int32).toNatClampNeg (0 : Int32)) (va_cpy jw_s0 a287 (0 : Int32).toNatClampNeg (0 : Int32).toNatClampNeg (4 : Int32).toNatClampNeg)) _
  unfold s299_X10_build_1
  refine dz_Tle (fun h5 => ?_) (fun h5 => ?_)
  · skip
    exfalso; omega
  · skip
    refine dz_Tin (by omega) (by omega) ?_
    have e6 := dz_l1
    have e7 := dz_add (a := (0 : Int32)) (b := (1 : Int32)) (by omega) (by omega)
    refine dz_Tin (by omega) (by omega) ?_
    obtain ⟨k2, rfl⟩ : ∃ x, k1 = x + 1 := ⟨k1 - 1, by omega⟩
    show dz_T (s299_X10_build_1 fu c248_pots c261_many c267_total a268 a269 n269 (F299_X10_build fu c248_pots c261_many c267_total a268 a269 n269 k2).1 (F299_X10_build fu c248_pots c261_many c267_total a268 a269 n269 k2).2.1 c248_pots ((1 : Int32) * c261_many) ((0 : Int32) + (1 : Int32)) c284_fresh a285 (upd (upd a286 (0 : Int32).toNatClampNeg (0 : Int32)) ((0 : Int32) + (1 : Int32)).toNatClampNeg (((upd a286 (0 : Int32).toNatClampNeg (0 : Int32)) (0 : Int32).toNatClampNeg) + (1 : Int32))) (va_cpy jw_s0 a287 (0 : Int32).toNatClampNeg (0 : Int32).toNatClampNeg (4 : Int32).toNatClampNeg)) _
    unfold s299_X10_build_1
    refine dz_Tle (fun h8 => ?_) (fun h8 => ?_)
    · skip
      exfalso; omega
    · skip
      refine dz_Tin (by omega) (by omega) ?_
      have e9 := dz_add (a := ((0 : Int32) + (1 : Int32))) (b := (1 : Int32)) (by omega) (by omega)
      refine dz_Tin (by omega) (by omega) ?_
      obtain ⟨k3, rfl⟩ : ∃ x, k2 = x + 1 := ⟨k2 - 1, by omega⟩
      show dz_T (s299_X10_build_1 fu c248_pots c261_many c267_total a268 a269 n269 (F299_X10_build fu c248_pots c261_many c267_total a268 a269 n269 k3).1 (F299_X10_build fu c248_pots c261_many c267_total a268 a269 n269 k3).2.1 c248_pots (((1 : Int32) * c261_many) * c261_many) (((0 : Int32) + (1 : Int32)) + (1 : Int32)) c284_fresh a285 (upd (upd (upd a286 (0 : Int32).toNatClampNeg (0 : Int32)) ((0 : Int32) + (1 : Int32)).toNatClampNeg (((upd a286 (0 : Int32).toNatClampNeg (0 : Int32)) (0 : Int32).toNatClampNeg) + (1 : Int32))) (((0 : Int32) + (1 : Int32)) + (1 : Int32)).toNatClampNeg (((upd (upd a286 (0 : Int32).toNatClampNeg (0 : Int32)) ((0 : Int32) + (1 : Int32)).toNatClampNeg (((upd a286 (0 : Int32).toNatClampNeg (0 : Int32)) (0 : Int32).toNatClampNeg) + (1 : Int32))) ((0 : Int32) + (1 : Int32)).toNatClampNeg) + ((1 : Int32) * c261_many))) (va_cpy jw_s0 a287 (0 : Int32).toNatClampNeg (0 : Int32).toNatClampNeg (4 : Int32).toNatClampNeg)) _
      unfold s299_X10_build_1
      refine dz_Tle (fun h10 => ?_) (fun h10 => ?_)
      · skip
        refine dz_Tle (fun h11 => ?_) (fun h11 => ?_)
        · skip
          exfalso; omega
        · skip
          have e12 := dz_ups (a := a286) (v := (0 : Int32)) (i := (0 : Int32)) (j := (0 : Int32)) (by omega)
          have e13 := dz_add (a := ((upd a286 (0 : Int32).toNatClampNeg (0 : Int32)) (0 : Int32).toNatClampNeg)) (b := (1 : Int32)) (by omega) (by omega)
          have e14 := dz_ups (a := (upd a286 (0 : Int32).toNatClampNeg (0 : Int32))) (v := (((upd a286 (0 : Int32).toNatClampNeg (0 : Int32)) (0 : Int32).toNatClampNeg) + (1 : Int32))) (i := ((0 : Int32) + (1 : Int32))) (j := ((0 : Int32) + (1 : Int32))) (by omega)
          have e15 := dz_mull (a := (1 : Int32)) (b := c261_many) 1 (by omega) (by omega) (by omega)
          have e16 := dz_add (a := ((upd (upd a286 (0 : Int32).toNatClampNeg (0 : Int32)) ((0 : Int32) + (1 : Int32)).toNatClampNeg (((upd a286 (0 : Int32).toNatClampNeg (0 : Int32)) (0 : Int32).toNatClampNeg) + (1 : Int32))) ((0 : Int32) + (1 : Int32)).toNatClampNeg)) (b := ((1 : Int32) * c261_many)) (by omega) (by omega)
          refine dz_Tb (t172_X10_fillLast_g32 fu hfu _ _ _ _ _ _ _ _ _ p0 p1 p2 p3 p4 p5 p6 p7 p10 (hr_a268) (hr_a269) (dz_ptmk3 ((dz_upo (j := (((0 : Int32) + (1 : Int32)) + (1 : Int32))) 0 (by omega)).trans ((dz_upo (j := ((0 : Int32) + (1 : Int32))) 0 (by omega)).trans ((dz_upk (j := (0 : Int32)) 0 (by omega)).trans (by omega)))) ((dz_upo (j := (((0 : Int32) + (1 : Int32)) + (1 : Int32))) 1 (by omega)).trans ((dz_upk (j := ((0 : Int32) + (1 : Int32))) 1 (by omega)).trans (by omega))) ((dz_upk (j := (((0 : Int32) + (1 : Int32)) + (1 : Int32))) 2 (by omega)).trans (by omega))) (dz_pms2) (hr_a285) (by first | assumption | omega)) (fun r1 q => ?_)
          have qa1_0 := q
          obtain ⟨k4, rfl⟩ : ∃ x, k3 = x + 1 := ⟨k3 - 1, by omega⟩
          show dz_T (s299_X10_build_2 fu c248_pots c261_many c267_total a268 a269 n269 (F299_X10_build fu c248_pots c261_many c267_total a268 a269 n269 k4).2.2 c248_pots c284_fresh r1 (upd (upd (upd a286 (0 : Int32).toNatClampNeg (0 : Int32)) ((0 : Int32) + (1 : Int32)).toNatClampNeg (((upd a286 (0 : Int32).toNatClampNeg (0 : Int32)) (0 : Int32).toNatClampNeg) + (1 : Int32))) (((0 : Int32) + (1 : Int32)) + (1 : Int32)).toNatClampNeg (((upd (upd a286 (0 : Int32).toNatClampNeg (0 : Int32)) ((0 : Int32) + (1 : Int32)).toNatClampNeg (((upd a286 (0 : Int32).toNatClampNeg (0 : Int32)) (0 : Int32).toNatClampNeg) + (1 : Int32))) ((0 : Int32) + (1 : Int32)).toNatClampNeg) + ((1 : Int32) * c261_many))) (va_cpy jw_s0 a287 (0 : Int32).toNatClampNeg (0 : Int32).toNatClampNeg (4 : Int32).toNatClampNeg)) _
          unfold s299_X10_build_2
          have e17 := dz_l2
          have e18 := dz_sub (a := c248_pots) (b := (2 : Int32)) (by omega) (by omega)
          generalize (c248_pots - (2 : Int32)) = zz7 at *
          obtain ⟨k5, rfl⟩ : ∃ x, k4 = x + 1 := ⟨k4 - 1, by omega⟩
          show dz_T (s299_X10_build_3 fu c248_pots c261_many c267_total a268 a269 n269 (F299_X10_build fu c248_pots c261_many c267_total a268 a269 n269 k5).2.2 zz7 c284_fresh r1 (upd (upd (upd a286 (0 : Int32).toNatClampNeg (0 : Int32)) ((0 : Int32) + (1 : Int32)).toNatClampNeg (((upd a286 (0 : Int32).toNatClampNeg (0 : Int32)) (0 : Int32).toNatClampNeg) + (1 : Int32))) (((0 : Int32) + (1 : Int32)) + (1 : Int32)).toNatClampNeg (((upd (upd a286 (0 : Int32).toNatClampNeg (0 : Int32)) ((0 : Int32) + (1 : Int32)).toNatClampNeg (((upd a286 (0 : Int32).toNatClampNeg (0 : Int32)) (0 : Int32).toNatClampNeg) + (1 : Int32))) ((0 : Int32) + (1 : Int32)).toNatClampNeg) + ((1 : Int32) * c261_many))) (va_cpy jw_s0 a287 (0 : Int32).toNatClampNeg (0 : Int32).toNatClampNeg (4 : Int32).toNatClampNeg)) _
          unfold s299_X10_build_3
          refine dz_Tlt (fun h19 => ?_) (fun h19 => ?_)
          · skip
            exfalso; omega
          · skip
            refine dz_Tb (t173_X10_fillFromNext_g32 fu hfu _ _ _ _ p2 p3 (by first | assumption | omega) (by first | assumption | omega) (dz_ptmk3 ((dz_upo (j := (((0 : Int32) + (1 : Int32)) + (1 : Int32))) 0 (by omega)).trans ((dz_upo (j := ((0 : Int32) + (1 : Int32))) 0 (by omega)).trans ((dz_upk (j := (0 : Int32)) 0 (by omega)).trans (by omega)))) ((dz_upo (j := (((0 : Int32) + (1 : Int32)) + (1 : Int32))) 1 (by omega)).trans ((dz_upk (j := ((0 : Int32) + (1 : Int32))) 1 (by omega)).trans (by omega))) ((dz_upk (j := (((0 : Int32) + (1 : Int32)) + (1 : Int32))) 2 (by omega)).trans (by omega))) (qa1_0)) (fun r2 q => ?_)
            have qa2_0 := q
            have e20 := dz_lm1
            have e21 := dz_add (a := zz7) (b := (-(1 : Int32))) (by omega) (by omega)
            generalize (zz7 + (-(1 : Int32))) = zz8 at *
            obtain ⟨k6, rfl⟩ : ∃ x, k5 = x + 1 := ⟨k5 - 1, by omega⟩
            show dz_T (s299_X10_build_3 fu c248_pots c261_many c267_total a268 a269 n269 (F299_X10_build fu c248_pots c261_many c267_total a268 a269 n269 k6).2.2 zz8 c284_fresh r2 (upd (upd (upd a286 (0 : Int32).toNatClampNeg (0 : Int32)) ((0 : Int32) + (1 : Int32)).toNatClampNeg (((upd a286 (0 : Int32).toNatClampNeg (0 : Int32)) (0 : Int32).toNatClampNeg) + (1 : Int32))) (((0 : Int32) + (1 : Int32)) + (1 : Int32)).toNatClampNeg (((upd (upd a286 (0 : Int32).toNatClampNeg (0 : Int32)) ((0 : Int32) + (1 : Int32)).toNatClampNeg (((upd a286 (0 : Int32).toNatClampNeg (0 : Int32)) (0 : Int32).toNatClampNeg) + (1 : Int32))) ((0 : Int32) + (1 : Int32)).toNatClampNeg) + ((1 : Int32) * c261_many))) (va_cpy jw_s0 a287 (0 : Int32).toNatClampNeg (0 : Int32).toNatClampNeg (4 : Int32).toNatClampNeg)) _
            unfold s299_X10_build_3
            refine dz_Tlt (fun h22 => ?_) (fun h22 => ?_)
            · skip
              refine dz_Ts ?_
              dsimp only
              exact ⟨(by omega), (by omega), (qa2_0), (dz_rgu (dz_rgu (dz_rgu (hr_a286) (by omega) (by omega)) (by omega) (by omega)) (by omega) (by omega)), (dz_pms2)⟩
            · skip
              exfalso; omega
      · skip
        exfalso; omega
theorem t299_X10_build_g32 (fu : Nat) (hfu : 1000000000000 ≤ fu) (c248_pots : Int32) (c261_many : Int32) (c267_total : Int32) (a268 : Nat → Int32) (a269 : Nat → Int32) (n269 : Nat) (c284_fresh : Int32) (a285 : Nat → Int32) (a286 : Nat → Int32) (a287 : Nat → Int32) (p0 : c248_pots.toInt ≤ 2) (p1 : 2 ≤ c248_pots.toInt) (p2 : c261_many.toInt ≤ 6) (p3 : 6 ≤ c261_many.toInt) (p4 : c267_total.toInt ≤ 36) (p5 : 36 ≤ c267_total.toInt) (p6 : ((n269 : Nat) : Int) ≤ 13824) (p7 : 1 ≤ ((n269 : Nat) : Int)) (p8 : c284_fresh.toInt ≤ 1) (p9 : 0 ≤ c284_fresh.toInt) (p10 : c267_total.toInt ≤ ((n269 : Nat) : Int)) (hr_a268 : dz_pt a268 [6, 1]) (hr_a269 : dz_rg a269 n269 0 1023) (hr_a285 : dz_rg a285 601 0 16777215) (hr_a286 : dz_rg a286 5 0 14425) : dz_T (f299_X10_build fu c248_pots c261_many c267_total a268 a269 n269 c284_fresh a285 a286 a287) (fun r => r.1.toInt ≤ 1 ∧ 1 ≤ r.1.toInt ∧ dz_rg r.2.1 601 0 16777215 ∧ dz_rg r.2.2.1 5 0 14425 ∧ dz_pm r.2.2.2 2) :=
  t299_X10_build_E_g32 fu hfu c248_pots c261_many c267_total a268 a269 n269 c284_fresh a285 a286 a287 p0 p1 p2 p3 p4 p5 p6 p7 p8 p9 p10 hr_a268 hr_a269 hr_a285 hr_a286 fu hfu
set_option maxHeartbeats 1000000 in
set_option maxRecDepth 10000 in
theorem t299_X10_build_E_g33 (fu : Nat) (hfu : 1000000000000 ≤ fu) (c248_pots : Int32) (c261_many : Int32) (c267_total : Int32) (a268 : Nat → Int32) (a269 : Nat → Int32) (n269 : Nat) (c284_fresh : Int32) (a285 : Nat → Int32) (a286 : Nat → Int32) (a287 : Nat → Int32) (p0 : c248_pots.toInt ≤ 3) (p1 : 3 ≤ c248_pots.toInt) (p2 : c261_many.toInt ≤ 6) (p3 : 6 ≤ c261_many.toInt) (p4 : c267_total.toInt ≤ 216) (p5 : 216 ≤ c267_total.toInt) (p6 : ((n269 : Nat) : Int) ≤ 13824) (p7 : 1 ≤ ((n269 : Nat) : Int)) (p8 : c284_fresh.toInt ≤ 1) (p9 : 0 ≤ c284_fresh.toInt) (p10 : c267_total.toInt ≤ ((n269 : Nat) : Int)) (hr_a268 : dz_pt a268 [36, 6, 1]) (hr_a269 : dz_rg a269 n269 0 1023) (hr_a285 : dz_rg a285 601 0 16777215) (hr_a286 : dz_rg a286 5 0 14425) (kv : Nat) (hkv : 1000000000000 ≤ kv) : dz_T (s299_X10_build_0 fu c248_pots c261_many c267_total a268 a269 n269 (F299_X10_build fu c248_pots c261_many c267_total a268 a269 n269 kv).1  c284_fresh a285 a286 a287) (fun r => r.1.toInt ≤ 1 ∧ 1 ≤ r.1.toInt ∧ dz_rg r.2.1 601 0 16777215 ∧ dz_rg r.2.2.1 5 0 14425 ∧ dz_pm r.2.2.2 3) := by
  unfold s299_X10_build_0
  have e1 := dz_l0
  refine dz_Tng (by omega) ?_
  refine dz_Tng (by omega) ?_
  have e2 := dz_l4
  refine dz_Tng (by omega) ?_
  have e3 := dz_tn (0 : Int32)
  have e4 := dz_tn (4 : Int32)
  refine dz_Tg (by omega) ?_
  refine dz_Tg (by omega) ?_
  refine dz_Tin (by omega) (by omega) ?_
  obtain ⟨k1, rfl⟩ : ∃ x, kv = x + 1 := ⟨kv - 1, by omega⟩
  show dz_T (s299_X10_build_1 fu c248_pots c261_many c267_total a268 a269 n269 (F299_X10_build fu c248_pots c261_many c267_total a268 a269 n269 k1).1 (F299_X10_build fu c248_pots c261_many c267_total a268 a269 n269 k1).2.1 c248_pots (1 : Int32) (0 : Int32) c284_fresh a285 (upd a286 (0 : Int32).toNatClampNeg (0 : Int32)) (va_cpy jw_s0 a287 (0 : Int32).toNatClampNeg (0 : Int32).toNatClampNeg (4 : Int32).toNatClampNeg)) _
  unfold s299_X10_build_1
  refine dz_Tle (fun h5 => ?_) (fun h5 => ?_)
  · skip
    exfalso; omega
  · skip
    refine dz_Tin (by omega) (by omega) ?_
    have e6 := dz_l1
    have e7 := dz_add (a := (0 : Int32)) (b := (1 : Int32)) (by omega) (by omega)
    refine dz_Tin (by omega) (by omega) ?_
    obtain ⟨k2, rfl⟩ : ∃ x, k1 = x + 1 := ⟨k1 - 1, by omega⟩
    show dz_T (s299_X10_build_1 fu c248_pots c261_many c267_total a268 a269 n269 (F299_X10_build fu c248_pots c261_many c267_total a268 a269 n269 k2).1 (F299_X10_build fu c248_pots c261_many c267_total a268 a269 n269 k2).2.1 c248_pots ((1 : Int32) * c261_many) ((0 : Int32) + (1 : Int32)) c284_fresh a285 (upd (upd a286 (0 : Int32).toNatClampNeg (0 : Int32)) ((0 : Int32) + (1 : Int32)).toNatClampNeg (((upd a286 (0 : Int32).toNatClampNeg (0 : Int32)) (0 : Int32).toNatClampNeg) + (1 : Int32))) (va_cpy jw_s0 a287 (0 : Int32).toNatClampNeg (0 : Int32).toNatClampNeg (4 : Int32).toNatClampNeg)) _
    unfold s299_X10_build_1
    refine dz_Tle (fun h8 => ?_) (fun h8 => ?_)
    · skip
      exfalso; omega
    · skip
      refine dz_Tin (by omega) (by omega) ?_
      have e9 := dz_add (a := ((0 : Int32) + (1 : Int32))) (b := (1 : Int32)) (by omega) (by omega)
      refine dz_Tin (by omega) (by omega) ?_
      obtain ⟨k3, rfl⟩ : ∃ x, k2 = x + 1 := ⟨k2 - 1, by omega⟩
      show dz_T (s299_X10_build_1 fu c248_pots c261_many c267_total a268 a269 n269 (F299_X10_build fu c248_pots c261_many c267_total a268 a269 n269 k3).1 (F299_X10_build fu c248_pots c261_many c267_total a268 a269 n269 k3).2.1 c248_pots (((1 : Int32) * c261_many) * c261_many) (((0 : Int32) + (1 : Int32)) + (1 : Int32)) c284_fresh a285 (upd (upd (upd a286 (0 : Int32).toNatClampNeg (0 : Int32)) ((0 : Int32) + (1 : Int32)).toNatClampNeg (((upd a286 (0 : Int32).toNatClampNeg (0 : Int32)) (0 : Int32).toNatClampNeg) + (1 : Int32))) (((0 : Int32) + (1 : Int32)) + (1 : Int32)).toNatClampNeg (((upd (upd a286 (0 : Int32).toNatClampNeg (0 : Int32)) ((0 : Int32) + (1 : Int32)).toNatClampNeg (((upd a286 (0 : Int32).toNatClampNeg (0 : Int32)) (0 : Int32).toNatClampNeg) + (1 : Int32))) ((0 : Int32) + (1 : Int32)).toNatClampNeg) + ((1 : Int32) * c261_many))) (va_cpy jw_s0 a287 (0 : Int32).toNatClampNeg (0 : Int32).toNatClampNeg (4 : Int32).toNatClampNeg)) _
      unfold s299_X10_build_1
      refine dz_Tle (fun h10 => ?_) (fun h10 => ?_)
      · skip
        exfalso; omega
      · skip
        refine dz_Tin (by omega) (by omega) ?_
        have e11 := dz_add (a := (((0 : Int32) + (1 : Int32)) + (1 : Int32))) (b := (1 : Int32)) (by omega) (by omega)
        refine dz_Tin (by omega) (by omega) ?_
        obtain ⟨k4, rfl⟩ : ∃ x, k3 = x + 1 := ⟨k3 - 1, by omega⟩
        show dz_T (s299_X10_build_1 fu c248_pots c261_many c267_total a268 a269 n269 (F299_X10_build fu c248_pots c261_many c267_total a268 a269 n269 k4).1 (F299_X10_build fu c248_pots c261_many c267_total a268 a269 n269 k4).2.1 c248_pots ((((1 : Int32) * c261_many) * c261_many) * c261_many) ((((0 : Int32) + (1 : Int32)) + (1 : Int32)) + (1 : Int32)) c284_fresh a285 (upd (upd (upd (upd a286 (0 : Int32).toNatClampNeg (0 : Int32)) ((0 : Int32) + (1 : Int32)).toNatClampNeg (((upd a286 (0 : Int32).toNatClampNeg (0 : Int32)) (0 : Int32).toNatClampNeg) + (1 : Int32))) (((0 : Int32) + (1 : Int32)) + (1 : Int32)).toNatClampNeg (((upd (upd a286 (0 : Int32).toNatClampNeg (0 : Int32)) ((0 : Int32) + (1 : Int32)).toNatClampNeg (((upd a286 (0 : Int32).toNatClampNeg (0 : Int32)) (0 : Int32).toNatClampNeg) + (1 : Int32))) ((0 : Int32) + (1 : Int32)).toNatClampNeg) + ((1 : Int32) * c261_many))) ((((0 : Int32) + (1 : Int32)) + (1 : Int32)) + (1 : Int32)).toNatClampNeg (((upd (upd (upd a286 (0 : Int32).toNatClampNeg (0 : Int32)) ((0 : Int32) + (1 : Int32)).toNatClampNeg (((upd a286 (0 : Int32).toNatClampNeg (0 : Int32)) (0 : Int32).toNatClampNeg) + (1 : Int32))) (((0 : Int32) + (1 : Int32)) + (1 : Int32)).toNatClampNeg (((upd (upd a286 (0 : Int32).toNatClampNeg (0 : Int32)) ((0 : Int32) + (1 : Int32)).toNatClampNeg (((upd a286 (0 : Int32).toNatClampNeg (0 : Int32)) (0 : Int32).toNatClampNeg) + (1 : Int32))) ((0 : Int32) + (1 : Int32)).toNatClampNeg) + ((1 : Int32) * c261_many))) (((0 : Int32) + (1 : Int32)) + (1 : Int32)).toNatClampNeg) + (((1 : Int32) * c261_many) * c261_many))) (va_cpy jw_s0 a287 (0 : Int32).toNatClampNeg (0 : Int32).toNatClampNeg (4 : Int32).toNatClampNeg)) _
        unfold s299_X10_build_1
        refine dz_Tle (fun h12 => ?_) (fun h12 => ?_)
        · skip
          refine dz_Tle (fun h13 => ?_) (fun h13 => ?_)
          · skip
            exfalso; omega
          · skip
            have e14 := dz_ups (a := a286) (v := (0 : Int32)) (i := (0 : Int32)) (j := (0 : Int32)) (by omega)
            have e15 := dz_add (a := ((upd a286 (0 : Int32).toNatClampNeg (0 : Int32)) (0 : Int32).toNatClampNeg)) (b := (1 : Int32)) (by omega) (by omega)
            have e16 := dz_ups (a := (upd a286 (0 : Int32).toNatClampNeg (0 : Int32))) (v := (((upd a286 (0 : Int32).toNatClampNeg (0 : Int32)) (0 : Int32).toNatClampNeg) + (1 : Int32))) (i := ((0 : Int32) + (1 : Int32))) (j := ((0 : Int32) + (1 : Int32))) (by omega)
            have e17 := dz_mull (a := (1 : Int32)) (b := c261_many) 1 (by omega) (by omega) (by omega)
            have e18 := dz_add (a := ((upd (upd a286 (0 : Int32).toNatClampNeg (0 : Int32)) ((0 : Int32) + (1 : Int32)).toNatClampNeg (((upd a286 (0 : Int32).toNatClampNeg (0 : Int32)) (0 : Int32).toNatClampNeg) + (1 : Int32))) ((0 : Int32) + (1 : Int32)).toNatClampNeg)) (b := ((1 : Int32) * c261_many)) (by omega) (by omega)
            have e19 := dz_ups (a := (upd (upd a286 (0 : Int32).toNatClampNeg (0 : Int32)) ((0 : Int32) + (1 : Int32)).toNatClampNeg (((upd a286 (0 : Int32).toNatClampNeg (0 : Int32)) (0 : Int32).toNatClampNeg) + (1 : Int32)))) (v := (((upd (upd a286 (0 : Int32).toNatClampNeg (0 : Int32)) ((0 : Int32) + (1 : Int32)).toNatClampNeg (((upd a286 (0 : Int32).toNatClampNeg (0 : Int32)) (0 : Int32).toNatClampNeg) + (1 : Int32))) ((0 : Int32) + (1 : Int32)).toNatClampNeg) + ((1 : Int32) * c261_many))) (i := (((0 : Int32) + (1 : Int32)) + (1 : Int32))) (j := (((0 : Int32) + (1 : Int32)) + (1 : Int32))) (by omega)
            have e20 := dz_mull (a := ((1 : Int32) * c261_many)) (b := c261_many) 6 (by omega) (by omega) (by omega)
            have e21 := dz_add (a := ((upd (upd (upd a286 (0 : Int32).toNatClampNeg (0 : Int32)) ((0 : Int32) + (1 : Int32)).toNatClampNeg (((upd a286 (0 : Int32).toNatClampNeg (0 : Int32)) (0 : Int32).toNatClampNeg) + (1 : Int32))) (((0 : Int32) + (1 : Int32)) + (1 : Int32)).toNatClampNeg (((upd (upd a286 (0 : Int32).toNatClampNeg (0 : Int32)) ((0 : Int32) + (1 : Int32)).toNatClampNeg (((upd a286 (0 : Int32).toNatClampNeg (0 : Int32)) (0 : Int32).toNatClampNeg) + (1 : Int32))) ((0 : Int32) + (1 : Int32)).toNatClampNeg) + ((1 : Int32) * c261_many))) (((0 : Int32) + (1 : Int32)) + (1 : Int32)).toNatClampNeg)) (b := (((1 : Int32) * c261_many) * c261_many)) (by omega) (by omega)
            refine dz_Tb (t172_X10_fillLast_g33 fu hfu _ _ _ _ _ _ _ _ _ p0 p1 p2 p3 p4 p5 p6 p7 p10 (hr_a268) (hr_a269) (dz_ptmk4 ((dz_upo (j := ((((0 : Int32) + (1 : Int32)) + (1 : Int32)) + (1 : Int32))) 0 (by omega)).trans ((dz_upo (j := (((0 : Int32) + (1 : Int32)) + (1 : Int32))) 0 (by omega)).trans ((dz_upo (j := ((0 : Int32) + (1 : Int32))) 0 (by omega)).trans ((dz_upk (j := (0 : Int32)) 0 (by omega)).trans (by omega))))) ((dz_upo (j := ((((0 : Int32) + (1 : Int32)) + (1 : Int32)) + (1 : Int32))) 1 (by omega)).trans ((dz_upo (j := (((0 : Int32) + (1 : Int32)) + (1 : Int32))) 1 (by omega)).trans ((dz_upk (j := ((0 : Int32) + (1 : Int32))) 1 (by omega)).trans (by omega)))) ((dz_upo (j := ((((0 : Int32) + (1 : Int32)) + (1 : Int32)) + (1 : Int32))) 2 (by omega)).trans ((dz_upk (j := (((0 : Int32) + (1 : Int32)) + (1 : Int32))) 2 (by omega)).trans (by omega))) ((dz_upk (j := ((((0 : Int32) + (1 : Int32)) + (1 : Int32)) + (1 : Int32))) 3 (by omega)).trans (by omega))) (dz_pms3) (hr_a285) (by first | assumption | omega)) (fun r1 q => ?_)
            have qa1_0 := q
            obtain ⟨k5, rfl⟩ : ∃ x, k4 = x + 1 := ⟨k4 - 1, by omega⟩
            show dz_T (s299_X10_build_2 fu c248_pots c261_many c267_total a268 a269 n269 (F299_X10_build fu c248_pots c261_many c267_total a268 a269 n269 k5).2.2 c248_pots c284_fresh r1 (upd (upd (upd (upd a286 (0 : Int32).toNatClampNeg (0 : Int32)) ((0 : Int32) + (1 : Int32)).toNatClampNeg (((upd a286 (0 : Int32).toNatClampNeg (0 : Int32)) (0 : Int32).toNatClampNeg) + (1 : Int32))) (((0 : Int32) + (1 : Int32)) + (1 : Int32)).toNatClampNeg (((upd (upd a286 (0 : Int32).toNatClampNeg (0 : Int32)) ((0 : Int32) + (1 : Int32)).toNatClampNeg (((upd a286 (0 : Int32).toNatClampNeg (0 : Int32)) (0 : Int32).toNatClampNeg) + (1 : Int32))) ((0 : Int32) + (1 : Int32)).toNatClampNeg) + ((1 : Int32) * c261_many))) ((((0 : Int32) + (1 : Int32)) + (1 : Int32)) + (1 : Int32)).toNatClampNeg (((upd (upd (upd a286 (0 : Int32).toNatClampNeg (0 : Int32)) ((0 : Int32) + (1 : Int32)).toNatClampNeg (((upd a286 (0 : Int32).toNatClampNeg (0 : Int32)) (0 : Int32).toNatClampNeg) + (1 : Int32))) (((0 : Int32) + (1 : Int32)) + (1 : Int32)).toNatClampNeg (((upd (upd a286 (0 : Int32).toNatClampNeg (0 : Int32)) ((0 : Int32) + (1 : Int32)).toNatClampNeg (((upd a286 (0 : Int32).toNatClampNeg (0 : Int32)) (0 : Int32).toNatClampNeg) + (1 : Int32))) ((0 : Int32) + (1 : Int32)).toNatClampNeg) + ((1 : Int32) * c261_many))) (((0 : Int32) + (1 : Int32)) + (1 : Int32)).toNatClampNeg) + (((1 : Int32) * c261_many) * c261_many))) (va_cpy jw_s0 a287 (0 : Int32).toNatClampNeg (0 : Int32).toNatClampNeg (4 : Int32).toNatClampNeg)) _
            unfold s299_X10_build_2
            have e22 := dz_l2
            have e23 := dz_sub (a := c248_pots) (b := (2 : Int32)) (by omega) (by omega)
            generalize (c248_pots - (2 : Int32)) = zz10 at *
            obtain ⟨k6, rfl⟩ : ∃ x, k5 = x + 1 := ⟨k5 - 1, by omega⟩
            show dz_T (s299_X10_build_3 fu c248_pots c261_many c267_total a268 a269 n269 (F299_X10_build fu c248_pots c261_many c267_total a268 a269 n269 k6).2.2 zz10 c284_fresh r1 (upd (upd (upd (upd a286 (0 : Int32).toNatClampNeg (0 : Int32)) ((0 : Int32) + (1 : Int32)).toNatClampNeg (((upd a286 (0 : Int32).toNatClampNeg (0 : Int32)) (0 : Int32).toNatClampNeg) + (1 : Int32))) (((0 : Int32) + (1 : Int32)) + (1 : Int32)).toNatClampNeg (((upd (upd a286 (0 : Int32).toNatClampNeg (0 : Int32)) ((0 : Int32) + (1 : Int32)).toNatClampNeg (((upd a286 (0 : Int32).toNatClampNeg (0 : Int32)) (0 : Int32).toNatClampNeg) + (1 : Int32))) ((0 : Int32) + (1 : Int32)).toNatClampNeg) + ((1 : Int32) * c261_many))) ((((0 : Int32) + (1 : Int32)) + (1 : Int32)) + (1 : Int32)).toNatClampNeg (((upd (upd (upd a286 (0 : Int32).toNatClampNeg (0 : Int32)) ((0 : Int32) + (1 : Int32)).toNatClampNeg (((upd a286 (0 : Int32).toNatClampNeg (0 : Int32)) (0 : Int32).toNatClampNeg) + (1 : Int32))) (((0 : Int32) + (1 : Int32)) + (1 : Int32)).toNatClampNeg (((upd (upd a286 (0 : Int32).toNatClampNeg (0 : Int32)) ((0 : Int32) + (1 : Int32)).toNatClampNeg (((upd a286 (0 : Int32).toNatClampNeg (0 : Int32)) (0 : Int32).toNatClampNeg) + (1 : Int32))) ((0 : Int32) + (1 : Int32)).toNatClampNeg) + ((1 : Int32) * c261_many))) (((0 : Int32) + (1 : Int32)) + (1 : Int32)).toNatClampNeg) + (((1 : Int32) * c261_many) * c261_many))) (va_cpy jw_s0 a287 (0 : Int32).toNatClampNeg (0 : Int32).toNatClampNeg (4 : Int32).toNatClampNeg)) _
            unfold s299_X10_build_3
            refine dz_Tlt (fun h24 => ?_) (fun h24 => ?_)
            · skip
              exfalso; omega
            · skip
              refine dz_Tb (t173_X10_fillFromNext_g33 fu hfu _ _ _ _ p2 p3 (by first | assumption | omega) (by first | assumption | omega) (dz_ptmk4 ((dz_upo (j := ((((0 : Int32) + (1 : Int32)) + (1 : Int32)) + (1 : Int32))) 0 (by omega)).trans ((dz_upo (j := (((0 : Int32) + (1 : Int32)) + (1 : Int32))) 0 (by omega)).trans ((dz_upo (j := ((0 : Int32) + (1 : Int32))) 0 (by omega)).trans ((dz_upk (j := (0 : Int32)) 0 (by omega)).trans (by omega))))) ((dz_upo (j := ((((0 : Int32) + (1 : Int32)) + (1 : Int32)) + (1 : Int32))) 1 (by omega)).trans ((dz_upo (j := (((0 : Int32) + (1 : Int32)) + (1 : Int32))) 1 (by omega)).trans ((dz_upk (j := ((0 : Int32) + (1 : Int32))) 1 (by omega)).trans (by omega)))) ((dz_upo (j := ((((0 : Int32) + (1 : Int32)) + (1 : Int32)) + (1 : Int32))) 2 (by omega)).trans ((dz_upk (j := (((0 : Int32) + (1 : Int32)) + (1 : Int32))) 2 (by omega)).trans (by omega))) ((dz_upk (j := ((((0 : Int32) + (1 : Int32)) + (1 : Int32)) + (1 : Int32))) 3 (by omega)).trans (by omega))) (qa1_0)) (fun r2 q => ?_)
              have qa2_0 := q
              have e25 := dz_lm1
              have e26 := dz_add (a := zz10) (b := (-(1 : Int32))) (by omega) (by omega)
              generalize (zz10 + (-(1 : Int32))) = zz11 at *
              obtain ⟨k7, rfl⟩ : ∃ x, k6 = x + 1 := ⟨k6 - 1, by omega⟩
              show dz_T (s299_X10_build_3 fu c248_pots c261_many c267_total a268 a269 n269 (F299_X10_build fu c248_pots c261_many c267_total a268 a269 n269 k7).2.2 zz11 c284_fresh r2 (upd (upd (upd (upd a286 (0 : Int32).toNatClampNeg (0 : Int32)) ((0 : Int32) + (1 : Int32)).toNatClampNeg (((upd a286 (0 : Int32).toNatClampNeg (0 : Int32)) (0 : Int32).toNatClampNeg) + (1 : Int32))) (((0 : Int32) + (1 : Int32)) + (1 : Int32)).toNatClampNeg (((upd (upd a286 (0 : Int32).toNatClampNeg (0 : Int32)) ((0 : Int32) + (1 : Int32)).toNatClampNeg (((upd a286 (0 : Int32).toNatClampNeg (0 : Int32)) (0 : Int32).toNatClampNeg) + (1 : Int32))) ((0 : Int32) + (1 : Int32)).toNatClampNeg) + ((1 : Int32) * c261_many))) ((((0 : Int32) + (1 : Int32)) + (1 : Int32)) + (1 : Int32)).toNatClampNeg (((upd (upd (upd a286 (0 : Int32).toNatClampNeg (0 : Int32)) ((0 : Int32) + (1 : Int32)).toNatClampNeg (((upd a286 (0 : Int32).toNatClampNeg (0 : Int32)) (0 : Int32).toNatClampNeg) + (1 : Int32))) (((0 : Int32) + (1 : Int32)) + (1 : Int32)).toNatClampNeg (((upd (upd a286 (0 : Int32).toNatClampNeg (0 : Int32)) ((0 : Int32) + (1 : Int32)).toNatClampNeg (((upd a286 (0 : Int32).toNatClampNeg (0 : Int32)) (0 : Int32).toNatClampNeg) + (1 : Int32))) ((0 : Int32) + (1 : Int32)).toNatClampNeg) + ((1 : Int32) * c261_many))) (((0 : Int32) + (1 : Int32)) + (1 : Int32)).toNatClampNeg) + (((1 : Int32) * c261_many) * c261_many))) (va_cpy jw_s0 a287 (0 : Int32).toNatClampNeg (0 : Int32).toNatClampNeg (4 : Int32).toNatClampNeg)) _
              unfold s299_X10_build_3
              refine dz_Tlt (fun h27 => ?_) (fun h27 => ?_)
              · skip
                exfalso; omega
              · skip
                refine dz_Tb (t173_X10_fillFromNext_g33 fu hfu _ _ _ _ p2 p3 (by first | assumption | omega) (by first | assumption | omega) (dz_ptmk4 ((dz_upo (j := ((((0 : Int32) + (1 : Int32)) + (1 : Int32)) + (1 : Int32))) 0 (by omega)).trans ((dz_upo (j := (((0 : Int32) + (1 : Int32)) + (1 : Int32))) 0 (by omega)).trans ((dz_upo (j := ((0 : Int32) + (1 : Int32))) 0 (by omega)).trans ((dz_upk (j := (0 : Int32)) 0 (by omega)).trans (by omega))))) ((dz_upo (j := ((((0 : Int32) + (1 : Int32)) + (1 : Int32)) + (1 : Int32))) 1 (by omega)).trans ((dz_upo (j := (((0 : Int32) + (1 : Int32)) + (1 : Int32))) 1 (by omega)).trans ((dz_upk (j := ((0 : Int32) + (1 : Int32))) 1 (by omega)).trans (by omega)))) ((dz_upo (j := ((((0 : Int32) + (1 : Int32)) + (1 : Int32)) + (1 : Int32))) 2 (by omega)).trans ((dz_upk (j := (((0 : Int32) + (1 : Int32)) + (1 : Int32))) 2 (by omega)).trans (by omega))) ((dz_upk (j := ((((0 : Int32) + (1 : Int32)) + (1 : Int32)) + (1 : Int32))) 3 (by omega)).trans (by omega))) (qa2_0)) (fun r3 q => ?_)
                have qa3_0 := q
                have e28 := dz_add (a := zz11) (b := (-(1 : Int32))) (by omega) (by omega)
                generalize (zz11 + (-(1 : Int32))) = zz12 at *
                obtain ⟨k8, rfl⟩ : ∃ x, k7 = x + 1 := ⟨k7 - 1, by omega⟩
                show dz_T (s299_X10_build_3 fu c248_pots c261_many c267_total a268 a269 n269 (F299_X10_build fu c248_pots c261_many c267_total a268 a269 n269 k8).2.2 zz12 c284_fresh r3 (upd (upd (upd (upd a286 (0 : Int32).toNatClampNeg (0 : Int32)) ((0 : Int32) + (1 : Int32)).toNatClampNeg (((upd a286 (0 : Int32).toNatClampNeg (0 : Int32)) (0 : Int32).toNatClampNeg) + (1 : Int32))) (((0 : Int32) + (1 : Int32)) + (1 : Int32)).toNatClampNeg (((upd (upd a286 (0 : Int32).toNatClampNeg (0 : Int32)) ((0 : Int32) + (1 : Int32)).toNatClampNeg (((upd a286 (0 : Int32).toNatClampNeg (0 : Int32)) (0 : Int32).toNatClampNeg) + (1 : Int32))) ((0 : Int32) + (1 : Int32)).toNatClampNeg) + ((1 : Int32) * c261_many))) ((((0 : Int32) + (1 : Int32)) + (1 : Int32)) + (1 : Int32)).toNatClampNeg (((upd (upd (upd a286 (0 : Int32).toNatClampNeg (0 : Int32)) ((0 : Int32) + (1 : Int32)).toNatClampNeg (((upd a286 (0 : Int32).toNatClampNeg (0 : Int32)) (0 : Int32).toNatClampNeg) + (1 : Int32))) (((0 : Int32) + (1 : Int32)) + (1 : Int32)).toNatClampNeg (((upd (upd a286 (0 : Int32).toNatClampNeg (0 : Int32)) ((0 : Int32) + (1 : Int32)).toNatClampNeg (((upd a286 (0 : Int32).toNatClampNeg (0 : Int32)) (0 : Int32).toNatClampNeg) + (1 : Int32))) ((0 : Int32) + (1 : Int32)).toNatClampNeg) + ((1 : Int32) * c261_many))) (((0 : Int32) + (1 : Int32)) + (1 : Int32)).toNatClampNeg) + (((1 : Int32) * c261_many) * c261_many))) (va_cpy jw_s0 a287 (0 : Int32).toNatClampNeg (0 : Int32).toNatClampNeg (4 : Int32).toNatClampNeg)) _
                unfold s299_X10_build_3
                refine dz_Tlt (fun h29 => ?_) (fun h29 => ?_)
                · skip
                  refine dz_Ts ?_
                  dsimp only
                  exact ⟨(by omega), (by omega), (qa3_0), (dz_rgu (dz_rgu (dz_rgu (dz_rgu (hr_a286) (by omega) (by omega)) (by omega) (by omega)) (by omega) (by omega)) (by omega) (by omega)), (dz_pms3)⟩
                · skip
                  exfalso; omega
        · skip
          exfalso; omega
theorem t299_X10_build_g33 (fu : Nat) (hfu : 1000000000000 ≤ fu) (c248_pots : Int32) (c261_many : Int32) (c267_total : Int32) (a268 : Nat → Int32) (a269 : Nat → Int32) (n269 : Nat) (c284_fresh : Int32) (a285 : Nat → Int32) (a286 : Nat → Int32) (a287 : Nat → Int32) (p0 : c248_pots.toInt ≤ 3) (p1 : 3 ≤ c248_pots.toInt) (p2 : c261_many.toInt ≤ 6) (p3 : 6 ≤ c261_many.toInt) (p4 : c267_total.toInt ≤ 216) (p5 : 216 ≤ c267_total.toInt) (p6 : ((n269 : Nat) : Int) ≤ 13824) (p7 : 1 ≤ ((n269 : Nat) : Int)) (p8 : c284_fresh.toInt ≤ 1) (p9 : 0 ≤ c284_fresh.toInt) (p10 : c267_total.toInt ≤ ((n269 : Nat) : Int)) (hr_a268 : dz_pt a268 [36, 6, 1]) (hr_a269 : dz_rg a269 n269 0 1023) (hr_a285 : dz_rg a285 601 0 16777215) (hr_a286 : dz_rg a286 5 0 14425) : dz_T (f299_X10_build fu c248_pots c261_many c267_total a268 a269 n269 c284_fresh a285 a286 a287) (fun r => r.1.toInt ≤ 1 ∧ 1 ≤ r.1.toInt ∧ dz_rg r.2.1 601 0 16777215 ∧ dz_rg r.2.2.1 5 0 14425 ∧ dz_pm r.2.2.2 3) :=
  t299_X10_build_E_g33 fu hfu c248_pots c261_many c267_total a268 a269 n269 c284_fresh a285 a286 a287 p0 p1 p2 p3 p4 p5 p6 p7 p8 p9 p10 hr_a268 hr_a269 hr_a285 hr_a286 fu hfu
