set_option maxHeartbeats 1000000 in
set_option maxRecDepth 10000 in
theorem t299_X10_build_E_g34 (fu : Nat) (hfu : 1000000000000 ≤ fu) (c248_pots : Int32) (c261_many : Int32) (c267_total : Int32) (a268 : Nat → Int32) (a269 : Nat → Int32) (n269 : Nat) (c284_fresh : Int32) (a285 : Nat → Int32) (a286 : Nat → Int32) (a287 : Nat → Int32) (p0 : c248_pots.toInt ≤ 4) (p1 : 4 ≤ c248_pots.toInt) (p2 : c261_many.toInt ≤ 6) (p3 : 6 ≤ c261_many.toInt) (p4 : c267_total.toInt ≤ 1296) (p5 : 1296 ≤ c267_total.toInt) (p6 : ((n269 : Nat) : Int) ≤ 13824) (p7 : 1 ≤ ((n269 : Nat) : Int)) (p8 : c284_fresh.toInt ≤ 1) (p9 : 0 ≤ c284_fresh.toInt) (p10 : c267_total.toInt ≤ ((n269 : Nat) : Int)) (hr_a268 : dz_pt a268 [216, 36, 6, 1]) (hr_a269 : dz_rg a269 n269 0 1023) (hr_a285 : dz_rg a285 601 0 16777215) (hr_a286 : dz_rg a286 5 0 14425) (kv : Nat) (hkv : 1000000000000 ≤ kv) : dz_T (s299_X10_build_0 fu c248_pots c261_many c267_total a268 a269 n269 (F299_X10_build fu c248_pots c261_many c267_total a268 a269 n269 kv).1  c284_fresh a285 a286 a287) (fun r => r.1.toInt ≤ 1 ∧ 1 ≤ r.1.toInt ∧ dz_rg r.2.1 601 0 16777215 ∧ dz_rg r.2.2.1 5 0 14425 ∧ dz_pm r.2.2.2 4) := by
  unfold s299_X10_build_0
  have e1 := dz_l0
  refine dz_Tng (by omega) ?_
  refine dz_Tng (by omega) ?_
  have e2 := dz_l4
  refine dz_Tng (by omega) ?_
  have e3 := dz_tn (0 : Int32)
  have e4 := dz_tn (4 : Int32)
  refine dz_Tg (by omega) ?_
  refine dz_Tg (by omega) ?_
  refine dz_Tin (by omega) (by omega) ?_
  obtain ⟨k1, rfl⟩ : ∃ x, kv = x + 1 := ⟨kv - 1, by omega⟩
  show dz_T (s299_X10_build_1 fu c248_pots c261_many c267_total a268 a269 n269 (F299_X10_build fu c248_pots c261_many c267_total a268 a269 n269 k1).1 (F299_X10_build fu c248_pots c261_many c267_total a268 a269 n269 k1).2.1 c248_pots (1 : Int32) (0 : Int32) c284_fresh a285 (upd a286 (0 : Int32).toNatClampNeg (0 : Int32)) (va_cpy jw_s0 a287 (0 : Int32).toNatClampNeg (0 : Int32).toNatClampNeg (4 : Int32).toNatClampNeg)) _
  unfold s299_X10_build_1
  refine dz_Tle (fun h5 => ?_) (fun h5 => ?_)
  · skip
    exfalso; omega
  · skip
    refine dz_Tin (by omega) (by omega) ?_
    have e6 := dz_l1
    have e7 := dz_add (a := (0 : Int32)) (b := (1 : Int32)) (by omega) (by omega)
    refine dz_Tin (by omega) (by omega) ?_
    obtain ⟨k2, rfl⟩ : ∃ x, k1 = x + 1 := ⟨k1 - 1, by omega⟩
    show dz_T (s299_X10_build_1 fu c248_pots c261_many c267_total a268 a269 n269 (F299_X10_build fu c248_pots c261_many c267_total a268 a269 n269 k2).1 (F299_X10_build fu c248_pots c261_many c267_total a268 a269 n269 k2).2.1 c248_pots ((1 : Int32) * c261_many) ((0 : Int32) + (1 : Int32)) c284_fresh a285 (upd (upd a286 (0 : Int32).toNatClampNeg (0 : Int32)) ((0 : Int32) + (1 : Int32)).toNatClampNeg (((upd a286 (0 : Int32).toNatClampNeg (0 : Int32)) (0 : Int32).toNatClampNeg) + (1 : Int32))) (va_cpy jw_s0 a287 (0 : Int32).toNatClampNeg (0 : Int32).toNatClampNeg (4 : Int32).toNatClampNeg)) _
    unfold s299_X10_build_1
    refine dz_Tle (fun h8 => ?_) (fun h8 => ?_)
    · skip
      exfalso; omega
    · skip
      refine dz_Tin (by omega) (by omega) ?_
      have e9 := dz_add (a := ((0 : Int32) + (1 : Int32))) (b := (1 : Int32)) (by omega) (by omega)
      refine dz_Tin (by omega) (by omega) ?_
      obtain ⟨k3, rfl⟩ : ∃ x, k2 = x + 1 := ⟨k2 - 1, by omega⟩
      show dz_T (s299_X10_build_1 fu c248_pots c261_many c267_total a268 a269 n269 (F299_X10_build fu c248_pots c261_many c267_total a268 a269 n269 k3).1 (F299_X10_build fu c248_pots c261_many c267_total a268 a269 n269 k3).2.1 c248_pots (((1 : Int32) * c261_many) * c261_many) (((0 : Int32) + (1 : Int32)) + (1 : Int32)) c284_fresh a285 (upd (upd (upd a286 (0 : Int32).toNatClampNeg (0 : Int32)) ((0 : Int32) + (1 : Int32)).toNatClampNeg (((upd a286 (0 : Int32).toNatClampNeg (0 : Int32)) (0 : Int32).toNatClampNeg) + (1 : Int32))) (((0 : Int32) + (1 : Int32)) + (1 : Int32)).toNatClampNeg (((upd (upd a286 (0 : Int32).toNatClampNeg (0 : Int32)) ((0 : Int32) + (1 : Int32)).toNatClampNeg (((upd a286 (0 : Int32).toNatClampNeg (0 : Int32)) (0 : Int32).toNatClampNeg) + (1 : Int32))) ((0 : Int32) + (1 : Int32)).toNatClampNeg) + ((1 : Int32) * c261_many))) (va_cpy jw_s0 a287 (0 : Int32).toNatClampNeg (0 : Int32).toNatClampNeg (4 : Int32).toNatClampNeg)) _
      unfold s299_X10_build_1
      refine dz_Tle (fun h10 => ?_) (fun h10 => ?_)
      · skip
        exfalso; omega
      · skip
        refine dz_Tin (by omega) (by omega) ?_
        have e11 := dz_add (a := (((0 : Int32) + (1 : Int32)) + (1 : Int32))) (b := (1 : Int32)) (by omega) (by omega)
        refine dz_Tin (by omega) (by omega) ?_
        obtain ⟨k4, rfl⟩ : ∃ x, k3 = x + 1 := ⟨k3 - 1, by omega⟩
        show dz_T (s299_X10_build_1 fu c248_pots c261_many c267_total a268 a269 n269 (F299_X10_build fu c248_pots c261_many c267_total a268 a269 n269 k4).1 (F299_X10_build fu c248_pots c261_many c267_total a268 a269 n269 k4).2.1 c248_pots ((((1 : Int32) * c261_many) * c261_many) * c261_many) ((((0 : Int32) + (1 : Int32)) + (1 : Int32)) + (1 : Int32)) c284_fresh a285 (upd (upd (upd (upd a286 (0 : Int32).toNatClampNeg (0 : Int32)) ((0 : Int32) + (1 : Int32)).toNatClampNeg (((upd a286 (0 : Int32).toNatClampNeg (0 : Int32)) (0 : Int32).toNatClampNeg) + (1 : Int32))) (((0 : Int32) + (1 : Int32)) + (1 : Int32)).toNatClampNeg (((upd (upd a286 (0 : Int32).toNatClampNeg (0 : Int32)) ((0 : Int32) + (1 : Int32)).toNatClampNeg (((upd a286 (0 : Int32).toNatClampNeg (0 : Int32)) (0 : Int32).toNatClampNeg) + (1 : Int32))) ((0 : Int32) + (1 : Int32)).toNatClampNeg) + ((1 : Int32) * c261_many))) ((((0 : Int32) + (1 : Int32)) + (1 : Int32)) + (1 : Int32)).toNatClampNeg (((upd (upd (upd a286 (0 : Int32).toNatClampNeg (0 : Int32)) ((0 : Int32) + (1 : Int32)).toNatClampNeg (((upd a286 (0 : Int32).toNatClampNeg (0 : Int32)) (0 : Int32).toNatClampNeg) + (1 : Int32))) (((0 : Int32) + (1 : Int32)) + (1 : Int32)).toNatClampNeg (((upd (upd a286 (0 : Int32).toNatClampNeg (0 : Int32)) ((0 : Int32) + (1 : Int32)).toNatClampNeg (((upd a286 (0 : Int32).toNatClampNeg (0 : Int32)) (0 : Int32).toNatClampNeg) + (1 : Int32))) ((0 : Int32) + (1 : Int32)).toNatClampNeg) + ((1 : Int32) * c261_many))) (((0 : Int32) + (1 : Int32)) + (1 : Int32)).toNatClampNeg) + (((1 : Int32) * c261_many) * c261_many))) (va_cpy jw_s0 a287 (0 : Int32).toNatClampNeg (0 : Int32).toNatClampNeg (4 : Int32).toNatClampNeg)) _
        unfold s299_X10_build_1
        refine dz_Tle (fun h12 => ?_) (fun h12 => ?_)
        · skip
          exfalso; omega
        · skip
          refine dz_Tin (by omega) (by omega) ?_
          have e13 := dz_add (a := ((((0 : Int32) + (1 : Int32)) + (1 : Int32)) + (1 : Int32))) (b := (1 : Int32)) (by omega) (by omega)
          refine dz_Tin (by omega) (by omega) ?_
          obtain ⟨k5, rfl⟩ : ∃ x, k4 = x + 1 := ⟨k4 - 1, by omega⟩
          show dz_T (s299_X10_build_1 fu c248_pots c261_many c267_total a268 a269 n269 (F299_X10_build fu c248_pots c261_many c267_total a268 a269 n269 k5).1 (F299_X10_build fu c248_pots c261_many c267_total a268 a269 n269 k5).2.1 c248_pots (((((1 : Int32) * c261_many) * c261_many) * c261_many) * c261_many) (((((0 : Int32) + (1 : Int32)) + (1 : Int32)) + (1 : Int32)) + (1 : Int32)) c284_fresh a285 (upd (upd (upd (upd (upd a286 (0 : Int32).toNatClampNeg (0 : Int32)) ((0 : Int32) + (1 : Int32)).toNatClampNeg (((upd a286 (0 : Int32).toNatClampNeg (0 : Int32)) (0 : Int32).toNatClampNeg) + (1 : Int32))) (((0 : Int32) + (1 : Int32)) + (1 : Int32)).toNatClampNeg (((upd (upd a286 (0 : Int32).toNatClampNeg (0 : Int32)) ((0 : Int32) + (1 : Int32)).toNatClampNeg (((upd a286 (0 : Int32).toNatClampNeg (0 : Int32)) (0 : Int32).toNatClampNeg) + (1 : Int32))) ((0 : Int32) + (1 : Int32)).toNatClampNeg) + ((1 : Int32) * c261_many))) ((((0 : Int32) + (1 : Int32)) + (1 : Int32)) + (1 : Int32)).toNatClampNeg (((upd (upd (upd a286 (0 : Int32).toNatClampNeg (0 : Int32)) ((0 : Int32) + (1 : Int32)).toNatClampNeg (((upd a286 (0 : Int32).toNatClampNeg (0 : Int32)) (0 : Int32).toNatClampNeg) + (1 : Int32))) (((0 : Int32) + (1 : Int32)) + (1 : Int32)).toNatClampNeg (((upd (upd a286 (0 : Int32).toNatClampNeg (0 : Int32)) ((0 : Int32) + (1 : Int32)).toNatClampNeg (((upd a286 (0 : Int32).toNatClampNeg (0 : Int32)) (0 : Int32).toNatClampNeg) + (1 : Int32))) ((0 : Int32) + (1 : Int32)).toNatClampNeg) + ((1 : Int32) * c261_many))) (((0 : Int32) + (1 : Int32)) + (1 : Int32)).toNatClampNeg) + (((1 : Int32) * c261_many) * c261_many))) (((((0 : Int32) + (1 : Int32)) + (1 : Int32)) + (1 : Int32)) + (1 : Int32)).toNatClampNeg (((upd (upd (upd (upd a286 (0 : Int32).toNatClampNeg (0 : Int32)) ((0 : Int32) + (1 : Int32)).toNatClampNeg (((upd a286 (0 : Int32).toNatClampNeg (0 : Int32)) (0 : Int32).toNatClampNeg) + (1 : Int32))) (((0 : Int32) + (1 : Int32)) + (1 : Int32)).toNatClampNeg (((upd (upd a286 (0 : Int32).toNatClampNeg (0 : Int32)) ((0 : Int32) + (1 : Int32)).toNatClampNeg (((upd a286 (0 : Int32).toNatClampNeg (0 : Int32)) (0 : Int32).toNatClampNeg) + (1 : Int32))) ((0 : Int32) + (1 : Int32)).toNatClampNeg) + ((1 : Int32) * c261_many))) ((((0 : Int32) + (1 : Int32)) + (1 : Int32)) + (1 : Int32)).toNatClampNeg (((upd (upd (upd a286 (0 : Int32).toNatClampNeg (0 : Int32)) ((0 : Int32) + (1 : Int32)).toNatClampNeg (((upd a286 (0 : Int32).toNatClampNeg (0 : Int32)) (0 : Int32).toNatClampNeg) + (1 : Int32))) (((0 : Int32) + (1 : Int32)) + (1 : Int32)).toNatClampNeg (((upd (upd a286 (0 : Int32).toNatClampNeg (0 : Int32)) ((0 : Int32) + (1 : Int32)).toNatClampNeg (((upd a286 (0 : Int32).toNatClampNeg (0 : Int32)) (0 : Int32).toNatClampNeg) + (1 : Int32))) ((0 : Int32) + (1 : Int32)).toNatClampNeg) + ((1 : Int32) * c261_many))) (((0 : Int32) + (1 : Int32)) + (1 : Int32)).toNatClampNeg) + (((1 : Int32) * c261_many) * c261_many))) ((((0 : Int32) + (1 : Int32)) + (1 : Int32)) + (1 : Int32)).toNatClampNeg) + ((((1 : Int32) * c261_many) * c261_many) * c261_many))) (va_cpy jw_s0 a287 (0 : Int32).toNatClampNeg (0 : Int32).toNatClampNeg (4 : Int32).toNatClampNeg)) _
          unfold s299_X10_build_1
          refine dz_Tle (fun h14 => ?_) (fun h14 => ?_)
          · skip
            refine dz_Tle (fun h15 => ?_) (fun h15 => ?_)
            · skip
              exfalso; omega
            · skip
              have e16 := dz_ups (a := a286) (v := (0 : Int32)) (i := (0 : Int32)) (j := (0 : Int32)) (by omega)
              have e17 := dz_add (a := ((upd a286 (0 : Int32).toNatClampNeg (0 : Int32)) (0 : Int32).toNatClampNeg)) (b := (1 : Int32)) (by omega) (by omega)
              have e18 := dz_ups (a := (upd a286 (0 : Int32).toNatClampNeg (0 : Int32))) (v := (((upd a286 (0 : Int32).toNatClampNeg (0 : Int32)) (0 : Int32).toNatClampNeg) + (1 : Int32))) (i := ((0 : Int32) + (1 : Int32))) (j := ((0 : Int32) + (1 : Int32))) (by omega)
              have e19 := dz_mull (a := (1 : Int32)) (b := c261_many) 1 (by omega) (by omega) (by omega)
              have e20 := dz_add (a := ((upd (upd a286 (0 : Int32).toNatClampNeg (0 : Int32)) ((0 : Int32) + (1 : Int32)).toNatClampNeg (((upd a286 (0 : Int32).toNatClampNeg (0 : Int32)) (0 : Int32).toNatClampNeg) + (1 : Int32))) ((0 : Int32) + (1 : Int32)).toNatClampNeg)) (b := ((1 : Int32) * c261_many)) (by omega) (by omega)
              have e21 := dz_ups (a := (upd (upd a286 (0 : Int32).toNatClampNeg (0 : Int32)) ((0 : Int32) + (1 : Int32)).toNatClampNeg (((upd a286 (0 : Int32).toNatClampNeg (0 : Int32)) (0 : Int32).toNatClampNeg) + (1 : Int32)))) (v := (((upd (upd a286 (0 : Int32).toNatClampNeg (0 : Int32)) ((0 : Int32) + (1 : Int32)).toNatClampNeg (((upd a286 (0 : Int32).toNatClampNeg (0 : Int32)) (0 : Int32).toNatClampNeg) + (1 : Int32))) ((0 : Int32) + (1 : Int32)).toNatClampNeg) + ((1 : Int32) * c261_many))) (i := (((0 : Int32) + (1 : Int32)) + (1 : Int32))) (j := (((0 : Int32) + (1 : Int32)) + (1 : Int32))) (by omega)
              have e22 := dz_mull (a := ((1 : Int32) * c261_many)) (b := c261_many) 6 (by omega) (by omega) (by omega)
              have e23 := dz_add (a := ((upd (upd (upd a286 (0 : Int32).toNatClampNeg (0 : Int32)) ((0 : Int32) + (1 : Int32)).toNatClampNeg (((upd a286 (0 : Int32).toNatClampNeg (0 : Int32)) (0 : Int32).toNatClampNeg) + (1 : Int32))) (((0 : Int32) + (1 : Int32)) + (1 : Int32)).toNatClampNeg (((upd (upd a286 (0 : Int32).toNatClampNeg (0 : Int32)) ((0 : Int32) + (1 : Int32)).toNatClampNeg (((upd a286 (0 : Int32).toNatClampNeg (0 : Int32)) (0 : Int32).toNatClampNeg) + (1 : Int32))) ((0 : Int32) + (1 : Int32)).toNatClampNeg) + ((1 : Int32) * c261_many))) (((0 : Int32) + (1 : Int32)) + (1 : Int32)).toNatClampNeg)) (b := (((1 : Int32) * c261_many) * c261_many)) (by omega) (by omega)
              have e24 := dz_ups (a := (upd (upd (upd a286 (0 : Int32).toNatClampNeg (0 : Int32)) ((0 : Int32) + (1 : Int32)).toNatClampNeg (((upd a286 (0 : Int32).toNatClampNeg (0 : Int32)) (0 : Int32).toNatClampNeg) + (1 : Int32))) (((0 : Int32) + (1 : Int32)) + (1 : Int32)).toNatClampNeg (((upd (upd a286 (0 : Int32).toNatClampNeg (0 : Int32)) ((0 : Int32) + (1 : Int32)).toNatClampNeg (((upd a286 (0 : Int32).toNatClampNeg (0 : Int32)) (0 : Int32).toNatClampNeg) + (1 : Int32))) ((0 : Int32) + (1 : Int32)).toNatClampNeg) + ((1 : Int32) * c261_many)))) (v := (((upd (upd (upd a286 (0 : Int32).toNatClampNeg (0 : Int32)) ((0 : Int32) + (1 : Int32)).toNatClampNeg (((upd a286 (0 : Int32).toNatClampNeg (0 : Int32)) (0 : Int32).toNatClampNeg) + (1 : Int32))) (((0 : Int32) + (1 : Int32)) + (1 : Int32)).toNatClampNeg (((upd (upd a286 (0 : Int32).toNatClampNeg (0 : Int32)) ((0 : Int32) + (1 : Int32)).toNatClampNeg (((upd a286 (0 : Int32).toNatClampNeg (0 : Int32)) (0 : Int32).toNatClampNeg) + (1 : Int32))) ((0 : Int32) + (1 : Int32)).toNatClampNeg) + ((1 : Int32) * c261_many))) (((0 : Int32) + (1 : Int32)) + (1 : Int32)).toNatClampNeg) + (((1 : Int32) * c261_many) * c261_many))) (i := ((((0 : Int32) + (1 : Int32)) + (1 : Int32)) + (1 : Int32))) (j := ((((0 : Int32) + (1 : Int32)) + (1 : Int32)) + (1 : Int32))) (by omega)
              have e25 := dz_mull (a := (((1 : Int32) * c261_many) * c261_many)) (b := c261_many) 36 (by omega) (by omega) (by omega)
              have e26 := dz_add (a := ((upd (upd (upd (upd a286 (0 : Int32).toNatClampNeg (0 : Int32)) ((0 : Int32) + (1 : Int32)).toNatClampNeg (((upd a286 (0 : Int32).toNatClampNeg (0 : Int32)) (0 : Int32).toNatClampNeg) + (1 : Int32))) (((0 : Int32) + (1 : Int32)) + (1 : Int32)).toNatClampNeg (((upd (upd a286 (0 : Int32).toNatClampNeg (0 : Int32)) ((0 : Int32) + (1 : Int32)).toNatClampNeg (((upd a286 (0 : Int32).toNatClampNeg (0 : Int32)) (0 : Int32).toNatClampNeg) + (1 : Int32))) ((0 : Int32) + (1 : Int32)).toNatClampNeg) + ((1 : Int32) * c261_many))) ((((0 : Int32) + (1 : Int32)) + (1 : Int32)) + (1 : Int32)).toNatClampNeg (((upd (upd (upd a286 (0 : Int32).toNatClampNeg (0 : Int32)) ((0 : Int32) + (1 : Int32)).toNatClampNeg (((upd a286 (0 : Int32).toNatClampNeg (0 : Int32)) (0 : Int32).toNatClampNeg) + (1 : Int32))) (((0 : Int32) + (1 : Int32)) + (1 : Int32)).toNatClampNeg (((upd (upd a286 (0 : Int32).toNatClampNeg (0 : Int32)) ((0 : Int32) + (1 : Int32)).toNatClampNeg (((upd a286 (0 : Int32).toNatClampNeg (0 : Int32)) (0 : Int32).toNatClampNeg) + (1 : Int32))) ((0 : Int32) + (1 : Int32)).toNatClampNeg) + ((1 : Int32) * c261_many))) (((0 : Int32) + (1 : Int32)) + (1 : Int32)).toNatClampNeg) + (((1 : Int32) * c261_many) * c261_many))) ((((0 : Int32) + (1 : Int32)) + (1 : Int32)) + (1 : Int32)).toNatClampNeg)) (b := ((((1 : Int32) * c261_many) * c261_many) * c261_many)) (by omega) (by omega)
              refine dz_Tb (t172_X10_fillLast_g34 fu hfu _ _ _ _ _ _ _ _ _ p0 p1 p2 p3 p4 p5 p6 p7 p10 (hr_a268) (hr_a269) (dz_ptmk5 ((dz_upo (j := (((((0 : Int32) + (1 : Int32)) + (1 : Int32)) + (1 : Int32)) + (1 : Int32))) 0 (by omega)).trans ((dz_upo (j := ((((0 : Int32) + (1 : Int32)) + (1 : Int32)) + (1 : Int32))) 0 (by omega)).trans ((dz_upo (j := (((0 : Int32) + (1 : Int32)) + (1 : Int32))) 0 (by omega)).trans ((dz_upo (j := ((0 : Int32) + (1 : Int32))) 0 (by omega)).trans ((dz_upk (j := (0 : Int32)) 0 (by omega)).trans (by omega)))))) ((dz_upo (j := (((((0 : Int32) + (1 : Int32)) + (1 : Int32)) + (1 : Int32)) + (1 : Int32))) 1 (by omega)).trans ((dz_upo (j := ((((0 : Int32) + (1 : Int32)) + (1 : Int32)) + (1 : Int32))) 1 (by omega)).trans ((dz_upo (j := (((0 : Int32) + (1 : Int32)) + (1 : Int32))) 1 (by omega)).trans ((dz_upk (j := ((0 : Int32) + (1 : Int32))) 1 (by omega)).trans (by omega))))) ((dz_upo (j := (((((0 : Int32) + (1 : Int32)) + (1 : Int32)) + (1 : Int32)) + (1 : Int32))) 2 (by omega)).trans ((dz_upo (j := ((((0 : Int32) + (1 : Int32)) + (1 : Int32)) + (1 : Int32))) 2 (by omega)).trans ((dz_upk (j := (((0 : Int32) + (1 : Int32)) + (1 : Int32))) 2 (by omega)).trans (by omega)))) ((dz_upo (j := (((((0 : Int32) + (1 : Int32)) + (1 : Int32)) + (1 : Int32)) + (1 : Int32))) 3 (by omega)).trans ((dz_upk (j := ((((0 : Int32) + (1 : Int32)) + (1 : Int32)) + (1 : Int32))) 3 (by omega)).trans (by omega))) ((dz_upk (j := (((((0 : Int32) + (1 : Int32)) + (1 : Int32)) + (1 : Int32)) + (1 : Int32))) 4 (by omega)).trans (by omega))) (dz_pms4) (hr_a285) (by first | assumption | omega)) (fun r1 q => ?_)
              have qa1_0 := q
              obtain ⟨k6, rfl⟩ : ∃ x, k5 = x + 1 := ⟨k5 - 1, by omega⟩
              show dz_T (s299_X10_build_2 fu c248_pots c261_many c267_total a268 a269 n269 (F299_X10_build fu c248_pots c261_many c267_total a268 a269 n269 k6).2.2 c248_pots c284_fresh r1 (upd (upd (upd (upd (upd a286 (0 : Int32).toNatClampNeg (0 : Int32)) ((0 : Int32) + (1 : Int32)).toNatClampNeg (((upd a286 (0 : Int32).toNatClampNeg (0 : Int32)) (0 : Int32).toNatClampNeg) + (1 : Int32))) (((0 : Int32) + (1 : Int32)) + (1 : Int32)).toNatClampNeg (((upd (upd a286 (0 : Int32).toNatClampNeg (0 : Int32)) ((0 : Int32) + (1 : Int32)).toNatClampNeg (((upd a286 (0 : Int32).toNatClampNeg (0 : Int32)) (0 : Int32).toNatClampNeg) + (1 : Int32))) ((0 : Int32) + (1 : Int32)).toNatClampNeg) + ((1 : Int32) * c261_many))) ((((0 : Int32) + (1 : Int32)) + (1 : Int32)) + (1 : Int32)).toNatClampNeg (((upd (upd (upd a286 (0 : Int32).toNatClampNeg (0 : Int32)) ((0 : Int32) + (1 : Int32)).toNatClampNeg (((upd a286 (0 : Int32).toNatClampNeg (0 : Int32)) (0 : Int32).toNatClampNeg) + (1 : Int32))) (((0 : Int32) + (1 : Int32)) + (1 : Int32)).toNatClampNeg (((upd (upd a286 (0 : Int32).toNatClampNeg (0 : Int32)) ((0 : Int32) + (1 : Int32)).toNatClampNeg (((upd a286 (0 : Int32).toNatClampNeg (0 : Int32)) (0 : Int32).toNatClampNeg) + (1 : Int32))) ((0 : Int32) + (1 : Int32)).toNatClampNeg) + ((1 : Int32) * c261_many))) (((0 : Int32) + (1 : Int32)) + (1 : Int32)).toNatClampNeg) + (((1 : Int32) * c261_many) * c261_many))) (((((0 : Int32) + (1 : Int32)) + (1 : Int32)) + (1 : Int32)) + (1 : Int32)).toNatClampNeg (((upd (upd (upd (upd a286 (0 : Int32).toNatClampNeg (0 : Int32)) ((0 : Int32) + (1 : Int32)).toNatClampNeg (((upd a286 (0 : Int32).toNatClampNeg (0 : Int32)) (0 : Int32).toNatClampNeg) + (1 : Int32))) (((0 : Int32) + (1 : Int32)) + (1 : Int32)).toNatClampNeg (((upd (upd a286 (0 : Int32).toNatClampNeg (0 : Int32)) ((0 : Int32) + (1 : Int32)).toNatClampNeg (((upd a286 (0 : Int32).toNatClampNeg (0 : Int32)) (0 : Int32).toNatClampNeg) + (1 : Int32))) ((0 : Int32) + (1 : Int32)).toNatClampNeg) + ((1 : Int32) * c261_many))) ((((0 : Int32) + (1 : Int32)) + (1 : Int32)) + (1 : Int32)).toNatClampNeg (((upd (upd (upd a286 (0 : Int32).toNatClampNeg (0 : Int32)) ((0 : Int32) + (1 : Int32)).toNatClampNeg (((upd a286 (0 : Int32).toNatClampNeg (0 : Int32)) (0 : Int32).toNatClampNeg) + (1 : Int32))) (((0 : Int32) + (1 : Int32)) + (1 : Int32)).toNatClampNeg (((upd (upd a286 (0 : Int32).toNatClampNeg (0 : Int32)) ((0 : Int32) + (1 : Int32)).toNatClampNeg (((upd a286 (0 : Int32).toNatClampNeg (0 : Int32)) (0 : Int32).toNatClampNeg) + (1 : Int32))) ((0 : Int32) + (1 : Int32)).toNatClampNeg) + ((1 : Int32) * c261_many))) (((0 : Int32) + (1 : Int32)) + (1 : Int32)).toNatClampNeg) + (((1 : Int32) * c261_many) * c261_many))) ((((0 : Int32) + (1 : Int32)) + (1 : Int32)) + (1 : Int32)).toNatClampNeg) + ((((1 : Int32) * c261_many) * c261_many) * c261_many))) (va_cpy jw_s0 a287 (0 : Int32).toNatClampNeg (0 : Int32).toNatClampNeg (4 : Int32).toNatClampNeg)) _
              unfold s299_X10_build_2
              have e27 := dz_l2
              have e28 := dz_sub (a := c248_pots) (b := (2 : Int32)) (by omega) (by omega)
              generalize (c248_pots - (2 : Int32)) = zz13 at *
              obtain ⟨k7, rfl⟩ : ∃ x, k6 = x + 1 := ⟨k6 - 1, by omega⟩
              show dz_T (s299_X10_build_3 fu c248_pots c261_many c267_total a268 a269 n269 (F299_X10_build fu c248_pots c261_many c267_total a268 a269 n269 k7).2.2 zz13 c284_fresh r1 (upd (upd (upd (upd (upd a286 (0 : Int32).toNatClampNeg (0 : Int32)) ((0 : Int32) + (1 : Int32)).toNatClampNeg (((upd a286 (0 : Int32).toNatClampNeg (0 : Int32)) (0 : Int32).toNatClampNeg) + (1 : Int32))) (((0 : Int32) + (1 : Int32)) + (1 : Int32)).toNatClampNeg (((upd (upd a286 (0 : Int32).toNatClampNeg (0 : Int32)) ((0 : Int32) + (1 : Int32)).toNatClampNeg (((upd a286 (0 : Int32).toNatClampNeg (0 : Int32)) (0 : Int32).toNatClampNeg) + (1 : Int32))) ((0 : Int32) + (1 : Int32)).toNatClampNeg) + ((1 : Int32) * c261_many))) ((((0 : Int32) + (1 : Int32)) + (1 : Int32)) + (1 : Int32)).toNatClampNeg (((upd (upd (upd a286 (0 : Int32).toNatClampNeg (0 : Int32)) ((0 : Int32) + (1 : Int32)).toNatClampNeg (((upd a286 (0 : Int32).toNatClampNeg (0 : Int32)) (0 : Int32).toNatClampNeg) + (1 : Int32))) (((0 : Int32) + (1 : Int32)) + (1 : Int32)).toNatClampNeg (((upd (upd a286 (0 : Int32).toNatClampNeg (0 : Int32)) ((0 : Int32) + (1 : Int32)).toNatClampNeg (((upd a286 (0 : Int32).toNatClampNeg (0 : Int32)) (0 : Int32).toNatClampNeg) + (1 : Int32))) ((0 : Int32) + (1 : Int32)).toNatClampNeg) + ((1 : Int32) * c261_many))) (((0 : Int32) + (1 : Int32)) + (1 : Int32)).toNatClampNeg) + (((1 : Int32) * c261_many) * c261_many))) (((((0 : Int32) + (1 : Int32)) + (1 : Int32)) + (1 : Int32)) + (1 : Int32)).toNatClampNeg (((upd (upd (upd (upd a286 (0 : Int32).toNatClampNeg (0 : Int32)) ((0 : Int32) + (1 : Int32)).toNatClampNeg (((upd a286 (0 : Int32).toNatClampNeg (0 : Int32)) (0 : Int32).toNatClampNeg) + (1 : Int32))) (((0 : Int32) + (1 : Int32)) + (1 : Int32)).toNatClampNeg (((upd (upd a286 (0 : Int32).toNatClampNeg (0 : Int32)) ((0 : Int32) + (1 : Int32)).toNatClampNeg (((upd a286 (0 : Int32).toNatClampNeg (0 : Int32)) (0 : Int32).toNatClampNeg) + (1 : Int32))) ((0 : Int32) + (1 : Int32)).toNatClampNeg) + ((1 : Int32) * c261_many))) ((((0 : Int32) + (1 : Int32)) + (1 : Int32)) + (1 : Int32)).toNatClampNeg (((upd (upd (upd a286 (0 : Int32).toNatClampNeg (0 : Int32)) ((0 : Int32) + (1 : Int32)).toNatClampNeg (((upd a286 (0 : Int32).toNatClampNeg (0 : Int32)) (0 : Int32).toNatClampNeg) + (1 : Int32))) (((0 : Int32) + (1 : Int32)) + (1 : Int32)).toNatClampNeg (((upd (upd a286 (0 : Int32).toNatClampNeg (0 : Int32)) ((0 : Int32) + (1 : Int32)).toNatClampNeg (((upd a286 (0 : Int32).toNatClampNeg (0 : Int32)) (0 : Int32).toNatClampNeg) + (1 : Int32))) ((0 : Int32) + (1 : Int32)).toNatClampNeg) + ((1 : Int32) * c261_many))) (((0 : Int32) + (1 : Int32)) + (1 : Int32)).toNatClampNeg) + (((1 : Int32) * c261_many) * c261_many))) ((((0 : Int32) + (1 : Int32)) + (1 : Int32)) + (1 : Int32)).toNatClampNeg) + ((((1 : Int32) * c261_many) * c261_many) * c261_many))) (va_cpy jw_s0 a287 (0 : Int32).toNatClampNeg (0 : Int32).toNatClampNeg (4 : Int32).toNatClampNeg)) _
              unfold s299_X10_build_3
              refine dz_Tlt (fun h29 => ?_) (fun h29 => ?_)
              · skip
                exfalso; omega
              · skip
                refine dz_Tb (t173_X10_fillFromNext_g34 fu hfu _ _ _ _ p2 p3 (by first | assumption | omega) (by first | assumption | omega) (dz_ptmk5 ((dz_upo (j := (((((0 : Int32) + (1 : Int32)) + (1 : Int32)) + (1 : Int32)) + (1 : Int32))) 0 (by omega)).trans ((dz_upo (j := ((((0 : Int32) + (1 : Int32)) + (1 : Int32)) + (1 : Int32))) 0 (by omega)).trans ((dz_upo (j := (((0 : Int32) + (1 : Int32)) + (1 : Int32))) 0 (by omega)).trans ((dz_upo (j := ((0 : Int32) + (1 : Int32))) 0 (by omega)).trans ((dz_upk (j := (0 : Int32)) 0 (by omega)).trans (by omega)))))) ((dz_upo (j := (((((0 : Int32) + (1 : Int32)) + (1 : Int32)) + (1 : Int32)) + (1 : Int32))) 1 (by omega)).trans ((dz_upo (j := ((((0 : Int32) + (1 : Int32)) + (1 : Int32)) + (1 : Int32))) 1 (by omega)).trans ((dz_upo (j := (((0 : Int32) + (1 : Int32)) + (1 : Int32))) 1 (by omega)).trans ((dz_upk (j := ((0 : Int32) + (1 : Int32))) 1 (by omega)).trans (by omega))))) ((dz_upo (j := (((((0 : Int32) + (1 : Int32)) + (1 : Int32)) + (1 : Int32)) + (1 : Int32))) 2 (by omega)).trans ((dz_upo (j := ((((0 : Int32) + (1 : Int32)) + (1 : Int32)) + (1 : Int32))) 2 (by omega)).trans ((dz_upk (j := (((0 : Int32) + (1 : Int32)) + (1 : Int32))) 2 (by omega)).trans (by omega)))) ((dz_upo (j := (((((0 : Int32) + (1 : Int32)) + (1 : Int32)) + (1 : Int32)) + (1 : Int32))) 3 (by omega)).trans ((dz_upk (j := ((((0 : Int32) + (1 : Int32)) + (1 : Int32)) + (1 : Int32))) 3 (by omega)).trans (by omega))) ((dz_upk (j := (((((0 : Int32) + (1 : Int32)) + (1 : Int32)) + (1 : Int32)) + (1 : Int32))) 4 (by omega)).trans (by omega))) (qa1_0)) (fun r2 q => ?_)
                have qa2_0 := q
                have e30 := dz_lm1
                have e31 := dz_add (a := zz13) (b := (-(1 : Int32))) (by omega) (by omega)
                generalize (zz13 + (-(1 : Int32))) = zz14 at *
                obtain ⟨k8, rfl⟩ : ∃ x, k7 = x + 1 := ⟨k7 - 1, by omega⟩
                show dz_T (s299_X10_build_3 fu c248_pots c261_many c267_total a268 a269 n269 (F299_X10_build fu c248_pots c261_many c267_total a268 a269 n269 k8).2.2 zz14 c284_fresh r2 (upd (upd (upd (upd (upd a286 (0 : Int32).toNatClampNeg (0 : Int32)) ((0 : Int32) + (1 : Int32)).toNatClampNeg (((upd a286 (0 : Int32).toNatClampNeg (0 : Int32)) (0 : Int32).toNatClampNeg) + (1 : Int32))) (((0 : Int32) + (1 : Int32)) + (1 : Int32)).toNatClampNeg (((upd (upd a286 (0 : Int32).toNatClampNeg (0 : Int32)) ((0 : Int32) + (1 : Int32)).toNatClampNeg (((upd a286 (0 : Int32).toNatClampNeg (0 : Int32)) (0 : Int32).toNatClampNeg) + (1 : Int32))) ((0 : Int32) + (1 : Int32)).toNatClampNeg) + ((1 : Int32) * c261_many))) ((((0 : Int32) + (1 : Int32)) + (1 : Int32)) + (1 : Int32)).toNatClampNeg (((upd (upd (upd a286 (0 : Int32).toNatClampNeg (0 : Int32)) ((0 : Int32) + (1 : Int32)).toNatClampNeg (((upd a286 (0 : Int32).toNatClampNeg (0 : Int32)) (0 : Int32).toNatClampNeg) + (1 : Int32))) (((0 : Int32) + (1 : Int32)) + (1 : Int32)).toNatClampNeg (((upd (upd a286 (0 : Int32).toNatClampNeg (0 : Int32)) ((0 : Int32) + (1 : Int32)).toNatClampNeg (((upd a286 (0 : Int32).toNatClampNeg (0 : Int32)) (0 : Int32).toNatClampNeg) + (1 : Int32))) ((0 : Int32) + (1 : Int32)).toNatClampNeg) + ((1 : Int32) * c261_many))) (((0 : Int32) + (1 : Int32)) + (1 : Int32)).toNatClampNeg) + (((1 : Int32) * c261_many) * c261_many))) (((((0 : Int32) + (1 : Int32)) + (1 : Int32)) + (1 : Int32)) + (1 : Int32)).toNatClampNeg (((upd (upd (upd (upd a286 (0 : Int32).toNatClampNeg (0 : Int32)) ((0 : Int32) + (1 : Int32)).toNatClampNeg (((upd a286 (0 : Int32).toNatClampNeg (0 : Int32)) (0 : Int32).toNatClampNeg) + (1 : Int32))) (((0 : Int32) + (1 : Int32)) + (1 : Int32)).toNatClampNeg (((upd (upd a286 (0 : Int32).toNatClampNeg (0 : Int32)) ((0 : Int32) + (1 : Int32)).toNatClampNeg (((upd a286 (0 : Int32).toNatClampNeg (0 : Int32)) (0 : Int32).toNatClampNeg) + (1 : Int32))) ((0 : Int32) + (1 : Int32)).toNatClampNeg) + ((1 : Int32) * c261_many))) ((((0 : Int32) + (1 : Int32)) + (1 : Int32)) + (1 : Int32)).toNatClampNeg (((upd (upd (upd a286 (0 : Int32).toNatClampNeg (0 : Int32)) ((0 : Int32) + (1 : Int32)).toNatClampNeg (((upd a286 (0 : Int32).toNatClampNeg (0 : Int32)) (0 : Int32).toNatClampNeg) + (1 : Int32))) (((0 : Int32) + (1 : Int32)) + (1 : Int32)).toNatClampNeg (((upd (upd a286 (0 : Int32).toNatClampNeg (0 : Int32)) ((0 : Int32) + (1 : Int32)).toNatClampNeg (((upd a286 (0 : Int32).toNatClampNeg (0 : Int32)) (0 : Int32).toNatClampNeg) + (1 : Int32))) ((0 : Int32) + (1 : Int32)).toNatClampNeg) + ((1 : Int32) * c261_many))) (((0 : Int32) + (1 : Int32)) + (1 : Int32)).toNatClampNeg) + (((1 : Int32) * c261_many) * c261_many))) ((((0 : Int32) + (1 : Int32)) + (1 : Int32)) + (1 : Int32)).toNatClampNeg) + ((((1 : Int32) * c261_many) * c261_many) * c261_many))) (va_cpy jw_s0 a287 (0 : Int32).toNatClampNeg (0 : Int32).toNatClampNeg (4 : Int32).toNatClampNeg)) _
                unfold s299_X10_build_3
                refine dz_Tlt (fun h32 => ?_) (fun h32 => ?_)
                · skip
                  exfalso; omega
                · skip
                  refine dz_Tb (t173_X10_fillFromNext_g34 fu hfu _ _ _ _ p2 p3 (by first | assumption | omega) (by first | assumption | omega) (dz_ptmk5 ((dz_upo (j := (((((0 : Int32) + (1 : Int32)) + (1 : Int32)) + (1 : Int32)) + (1 : Int32))) 0 (by omega)).trans ((dz_upo (j := ((((0 : Int32) + (1 : Int32)) + (1 : Int32)) + (1 : Int32))) 0 (by omega)).trans ((dz_upo (j := (((0 : Int32) + (1 : Int32)) + (1 : Int32))) 0 (by omega)).trans ((dz_upo (j := ((0 : Int32) + (1 : Int32))) 0 (by omega)).trans ((dz_upk (j := (0 : Int32)) 0 (by omega)).trans (by omega)))))) ((dz_upo (j := (((((0 : Int32) + (1 : Int32)) + (1 : Int32)) + (1 : Int32)) + (1 : Int32))) 1 (by omega)).trans ((dz_upo (j := ((((0 : Int32) + (1 : Int32)) + (1 : Int32)) + (1 : Int32))) 1 (by omega)).trans ((dz_upo (j := (((0 : Int32) + (1 : Int32)) + (1 : Int32))) 1 (by omega)).trans ((dz_upk (j := ((0 : Int32) + (1 : Int32))) 1 (by omega)).trans (by omega))))) ((dz_upo (j := (((((0 : Int32) + (1 : Int32)) + (1 : Int32)) + (1 : Int32)) + (1 : Int32))) 2 (by omega)).trans ((dz_upo (j := ((((0 : Int32) + (1 : Int32)) + (1 : Int32)) + (1 : Int32))) 2 (by omega)).trans ((dz_upk (j := (((0 : Int32) + (1 : Int32)) + (1 : Int32))) 2 (by omega)).trans (by omega)))) ((dz_upo (j := (((((0 : Int32) + (1 : Int32)) + (1 : Int32)) + (1 : Int32)) + (1 : Int32))) 3 (by omega)).trans ((dz_upk (j := ((((0 : Int32) + (1 : Int32)) + (1 : Int32)) + (1 : Int32))) 3 (by omega)).trans (by omega))) ((dz_upk (j := (((((0 : Int32) + (1 : Int32)) + (1 : Int32)) + (1 : Int32)) + (1 : Int32))) 4 (by omega)).trans (by omega))) (qa2_0)) (fun r3 q => ?_)
                  have qa3_0 := q
                  have e33 := dz_add (a := zz14) (b := (-(1 : Int32))) (by omega) (by omega)
                  generalize (zz14 + (-(1 : Int32))) = zz15 at *
                  obtain ⟨k9, rfl⟩ : ∃ x, k8 = x + 1 := ⟨k8 - 1, by omega⟩
                  show dz_T (s299_X10_build_3 fu c248_pots c261_many c267_total a268 a269 n269 (F299_X10_build fu c248_pots c261_many c267_total a268 a269 n269 k9).2.2 zz15 c284_fresh r3 (upd (upd (upd (upd (upd a286 (0 : Int32).toNatClampNeg (0 : Int32)) ((0 : Int32) + (1 : Int32)).toNatClampNeg (((upd a286 (0 : Int32).toNatClampNeg (0 : Int32)) (0 : Int32).toNatClampNeg) + (1 : Int32))) (((0 : Int32) + (1 : Int32)) + (1 : Int32)).toNatClampNeg (((upd (upd a286 (0 : Int32).toNatClampNeg (0 : Int32)) ((0 : Int32) + (1 : Int32)).toNatClampNeg (((upd a286 (0 : Int32).toNatClampNeg (0 : Int32)) (0 : Int32).toNatClampNeg) + (1 : Int32))) ((0 : Int32) + (1 : Int32)).toNatClampNeg) + ((1 : Int32) * c261_many))) ((((0 : Int32) + (1 : Int32)) + (1 : Int32)) + (1 : Int32)).toNatClampNeg (((upd (upd (upd a286 (0 : Int32).toNatClampNeg (0 : Int32)) ((0 : Int32) + (1 : Int32)).toNatClampNeg (((upd a286 (0 : Int32).toNatClampNeg (0 : Int32)) (0 : Int32).toNatClampNeg) + (1 : Int32))) (((0 : Int32) + (1 : Int32)) + (1 : Int32)).toNatClampNeg (((upd (upd a286 (0 : Int32).toNatClampNeg (0 : Int32)) ((0 : Int32) + (1 : Int32)).toNatClampNeg (((upd a286 (0 : Int32).toNatClampNeg (0 : Int32)) (0 : Int32).toNatClampNeg) + (1 : Int32))) ((0 : Int32) + (1 : Int32)).toNatClampNeg) + ((1 : Int32) * c261_many))) (((0 : Int32) + (1 : Int32)) + (1 : Int32)).toNatClampNeg) + (((1 : Int32) * c261_many) * c261_many))) (((((0 : Int32) + (1 : Int32)) + (1 : Int32)) + (1 : Int32)) + (1 : Int32)).toNatClampNeg (((upd (upd (upd (upd a286 (0 : Int32).toNatClampNeg (0 : Int32)) ((0 : Int32) + (1 : Int32)).toNatClampNeg (((upd a286 (0 : Int32).toNatClampNeg (0 : Int32)) (0 : Int32).toNatClampNeg) + (1 : Int32))) (((0 : Int32) + (1 : Int32)) + (1 : Int32)).toNatClampNeg (((upd (upd a286 (0 : Int32).toNatClampNeg (0 : Int32)) ((0 : Int32) + (1 : Int32)).toNatClampNeg (((upd a286 (0 : Int32).toNatClampNeg (0 : Int32)) (0 : Int32).toNatClampNeg) + (1 : Int32))) ((0 : Int32) + (1 : Int32)).toNatClampNeg) + ((1 : Int32) * c261_many))) ((((0 : Int32) + (1 : Int32)) + (1 : Int32)) + (1 : Int32)).toNatClampNeg (((upd (upd (upd a286 (0 : Int32).toNatClampNeg (0 : Int32)) ((0 : Int32) + (1 : Int32)).toNatClampNeg (((upd a286 (0 : Int32).toNatClampNeg (0 : Int32)) (0 : Int32).toNatClampNeg) + (1 : Int32))) (((0 : Int32) + (1 : Int32)) + (1 : Int32)).toNatClampNeg (((upd (upd a286 (0 : Int32).toNatClampNeg (0 : Int32)) ((0 : Int32) + (1 : Int32)).toNatClampNeg (((upd a286 (0 : Int32).toNatClampNeg (0 : Int32)) (0 : Int32).toNatClampNeg) + (1 : Int32))) ((0 : Int32) + (1 : Int32)).toNatClampNeg) + ((1 : Int32) * c261_many))) (((0 : Int32) + (1 : Int32)) + (1 : Int32)).toNatClampNeg) + (((1 : Int32) * c261_many) * c261_many))) ((((0 : Int32) + (1 : Int32)) + (1 : Int32)) + (1 : Int32)).toNatClampNeg) + ((((1 : Int32) * c261_many) * c261_many) * c261_many))) (va_cpy jw_s0 a287 (0 : Int32).toNatClampNeg (0 : Int32).toNatClampNeg (4 : Int32).toNatClampNeg)) _
                  unfold s299_X10_build_3
                  refine dz_Tlt (fun h34 => ?_) (fun h34 => ?_)
                  · skip
                    exfalso; omega
                  · skip
                    refine dz_Tb (t173_X10_fillFromNext_g34 fu hfu _ _ _ _ p2 p3 (by first | assumption | omega) (by first | assumption | omega) (dz_ptmk5 ((dz_upo (j := (((((0 : Int32) + (1 : Int32)) + (1 : Int32)) + (1 : Int32)) + (1 : Int32))) 0 (by omega)).trans ((dz_upo (j := ((((0 : Int32) + (1 : Int32)) + (1 : Int32)) + (1 : Int32))) 0 (by omega)).trans ((dz_upo (j := (((0 : Int32) + (1 : Int32)) + (1 : Int32))) 0 (by omega)).trans ((dz_upo (j := ((0 : Int32) + (1 : Int32))) 0 (by omega)).trans ((dz_upk (j := (0 : Int32)) 0 (by omega)).trans (by omega)))))) ((dz_upo (j := (((((0 : Int32) + (1 : Int32)) + (1 : Int32)) + (1 : Int32)) + (1 : Int32))) 1 (by omega)).trans ((dz_upo (j := ((((0 : Int32) + (1 : Int32)) + (1 : Int32)) + (1 : Int32))) 1 (by omega)).trans ((dz_upo (j := (((0 : Int32) + (1 : Int32)) + (1 : Int32))) 1 (by omega)).trans ((dz_upk (j := ((0 : Int32) + (1 : Int32))) 1 (by omega)).trans (by omega))))) ((dz_upo (j := (((((0 : Int32) + (1 : Int32)) + (1 : Int32)) + (1 : Int32)) + (1 : Int32))) 2 (by omega)).trans ((dz_upo (j := ((((0 : Int32) + (1 : Int32)) + (1 : Int32)) + (1 : Int32))) 2 (by omega)).trans ((dz_upk (j := (((0 : Int32) + (1 : Int32)) + (1 : Int32))) 2 (by omega)).trans (by omega)))) ((dz_upo (j := (((((0 : Int32) + (1 : Int32)) + (1 : Int32)) + (1 : Int32)) + (1 : Int32))) 3 (by omega)).trans ((dz_upk (j := ((((0 : Int32) + (1 : Int32)) + (1 : Int32)) + (1 : Int32))) 3 (by omega)).trans (by omega))) ((dz_upk (j := (((((0 : Int32) + (1 : Int32)) + (1 : Int32)) + (1 : Int32)) + (1 : Int32))) 4 (by omega)).trans (by omega))) (qa3_0)) (fun r4 q => ?_)
                    have qa4_0 := q
                    have e35 := dz_add (a := zz15) (b := (-(1 : Int32))) (by omega) (by omega)
                    generalize (zz15 + (-(1 : Int32))) = zz16 at *
                    obtain ⟨k10, rfl⟩ : ∃ x, k9 = x + 1 := ⟨k9 - 1, by omega⟩
                    show dz_T (s299_X10_build_3 fu c248_pots c261_many c267_total a268 a269 n269 (F299_X10_build fu c248_pots c261_many c267_total a268 a269 n269 k10).2.2 zz16 c284_fresh r4 (upd (upd (upd (upd (upd a286 (0 : Int32).toNatClampNeg (0 : Int32)) ((0 : Int32) + (1 : Int32)).toNatClampNeg (((upd a286 (0 : Int32).toNatClampNeg (0 : Int32)) (0 : Int32).toNatClampNeg) + (1 : Int32))) (((0 : Int32) + (1 : Int32)) + (1 : Int32)).toNatClampNeg (((upd (upd a286 (0 : Int32).toNatClampNeg (0 : Int32)) ((0 : Int32) + (1 : Int32)).toNatClampNeg (((upd a286 (0 : Int32).toNatClampNeg (0 : Int32)) (0 : Int32).toNatClampNeg) + (1 : Int32))) ((0 : Int32) + (1 : Int32)).toNatClampNeg) + ((1 : Int32) * c261_many))) ((((0 : Int32) + (1 : Int32)) + (1 : Int32)) + (1 : Int32)).toNatClampNeg (((upd (upd (upd a286 (0 : Int32).toNatClampNeg (0 : Int32)) ((0 : Int32) + (1 : Int32)).toNatClampNeg (((upd a286 (0 : Int32).toNatClampNeg (0 : Int32)) (0 : Int32).toNatClampNeg) + (1 : Int32))) (((0 : Int32) + (1 : Int32)) + (1 : Int32)).toNatClampNeg (((upd (upd a286 (0 : Int32).toNatClampNeg (0 : Int32)) ((0 : Int32) + (1 : Int32)).toNatClampNeg (((upd a286 (0 : Int32).toNatClampNeg (0 : Int32)) (0 : Int32).toNatClampNeg) + (1 : Int32))) ((0 : Int32) + (1 : Int32)).toNatClampNeg) + ((1 : Int32) * c261_many))) (((0 : Int32) + (1 : Int32)) + (1 : Int32)).toNatClampNeg) + (((1 : Int32) * c261_many) * c261_many))) (((((0 : Int32) + (1 : Int32)) + (1 : Int32)) + (1 : Int32)) + (1 : Int32)).toNatClampNeg (((upd (upd (upd (upd a286 (0 : Int32).toNatClampNeg (0 : Int32)) ((0 : Int32) + (1 : Int32)).toNatClampNeg (((upd a286 (0 : Int32).toNatClampNeg (0 : Int32)) (0 : Int32).toNatClampNeg) + (1 : Int32))) (((0 : Int32) + (1 : Int32)) + (1 : Int32)).toNatClampNeg (((upd (upd a286 (0 : Int32).toNatClampNeg (0 : Int32)) ((0 : Int32) + (1 : Int32)).toNatClampNeg (((upd a286 (0 : Int32).toNatClampNeg (0 : Int32)) (0 : Int32).toNatClampNeg) + (1 : Int32))) ((0 : Int32) + (1 : Int32)).toNatClampNeg) + ((1 : Int32) * c261_many))) ((((0 : Int32) + (1 : Int32)) + (1 : Int32)) + (1 : Int32)).toNatClampNeg (((upd (upd (upd a286 (0 : Int32).toNatClampNeg (0 : Int32)) ((0 : Int32) + (1 : Int32)).toNatClampNeg (((upd a286 (0 : Int32).toNatClampNeg (0 : Int32)) (0 : Int32).toNatClampNeg) + (1 : Int32))) (((0 : Int32) + (1 : Int32)) + (1 : Int32)).toNatClampNeg (((upd (upd a286 (0 : Int32).toNatClampNeg (0 : Int32)) ((0 : Int32) + (1 : Int32)).toNatClampNeg (((upd a286 (0 : Int32).toNatClampNeg (0 : Int32)) (0 : Int32).toNatClampNeg) + (1 : Int32))) ((0 : Int32) + (1 : Int32)).toNatClampNeg) + ((1 : Int32) * c261_many))) (((0 : Int32) + (1 : Int32)) + (1 : Int32)).toNatClampNeg) + (((1 : Int32) * c261_many) * c261_many))) ((((0 : Int32) + (1 : Int32)) + (1 : Int32)) + (1 : Int32)).toNatClampNeg) + ((((1 : Int32) * c261_many) * c261_many) * c261_many))) (va_cpy jw_s0 a287 (0 : Int32).toNatClampNeg (0 : Int32).toNatClampNeg (4 : Int32).toNatClampNeg)) _
                    unfold s299_X10_build_3
                    refine dz_Tlt (fun h36 => ?_) (fun h36 => ?_)
                    · skip
                      refine dz_Ts ?_
                      dsimp only
                      exact ⟨(by omega), (by omega), (qa4_0), (dz_rgu (dz_rgu (dz_rgu (dz_rgu (dz_rgu (hr_a286) (by omega) (by omega)) (by omega) (by omega)) (by omega) (by omega)) (by omega) (by omega)) (by omega) (by omega)), (dz_pms4)⟩
                    · skip
                      exfalso; omega
          · skip
            exfalso; omega
theorem t299_X10_build_g34 (fu : Nat) (hfu : 1000000000000 ≤ fu) (c248_pots : Int32) (c261_many : Int32) (c267_total : Int32) (a268 : Nat → Int32) (a269 : Nat → Int32) (n269 : Nat) (c284_fresh : Int32) (a285 : Nat → Int32) (a286 : Nat → Int32) (a287 : Nat → Int32) (p0 : c248_pots.toInt ≤ 4) (p1 : 4 ≤ c248_pots.toInt) (p2 : c261_many.toInt ≤ 6) (p3 : 6 ≤ c261_many.toInt) (p4 : c267_total.toInt ≤ 1296) (p5 : 1296 ≤ c267_total.toInt) (p6 : ((n269 : Nat) : Int) ≤ 13824) (p7 : 1 ≤ ((n269 : Nat) : Int)) (p8 : c284_fresh.toInt ≤ 1) (p9 : 0 ≤ c284_fresh.toInt) (p10 : c267_total.toInt ≤ ((n269 : Nat) : Int)) (hr_a268 : dz_pt a268 [216, 36, 6, 1]) (hr_a269 : dz_rg a269 n269 0 1023) (hr_a285 : dz_rg a285 601 0 16777215) (hr_a286 : dz_rg a286 5 0 14425) : dz_T (f299_X10_build fu c248_pots c261_many c267_total a268 a269 n269 c284_fresh a285 a286 a287) (fun r => r.1.toInt ≤ 1 ∧ 1 ≤ r.1.toInt ∧ dz_rg r.2.1 601 0 16777215 ∧ dz_rg r.2.2.1 5 0 14425 ∧ dz_pm r.2.2.2 4) :=
  t299_X10_build_E_g34 fu hfu c248_pots c261_many c267_total a268 a269 n269 c284_fresh a285 a286 a287 p0 p1 p2 p3 p4 p5 p6 p7 p8 p9 p10 hr_a268 hr_a269 hr_a285 hr_a286 fu hfu
set_option maxHeartbeats 1000000 in
set_option maxRecDepth 10000 in
theorem t299_X10_build_E_g40 (fu : Nat) (hfu : 1000000000000 ≤ fu) (c248_pots : Int32) (c261_many : Int32) (c267_total : Int32) (a268 : Nat → Int32) (a269 : Nat → Int32) (n269 : Nat) (c284_fresh : Int32) (a285 : Nat → Int32) (a286 : Nat → Int32) (a287 : Nat → Int32) (p0 : c248_pots.toInt ≤ 0) (p1 : 0 ≤ c248_pots.toInt) (p2 : c261_many.toInt ≤ 24) (p3 : 24 ≤ c261_many.toInt) (p4 : c267_total.toInt ≤ 1) (p5 : 1 ≤ c267_total.toInt) (p6 : ((n269 : Nat) : Int) ≤ 13824) (p7 : 1 ≤ ((n269 : Nat) : Int)) (p8 : c284_fresh.toInt ≤ 1) (p9 : 0 ≤ c284_fresh.toInt) (p10 : c267_total.toInt ≤ ((n269 : Nat) : Int)) (hr_a269 : dz_rg a269 n269 0 1023) (hr_a285 : dz_rg a285 601 0 16777215) (hr_a286 : dz_rg a286 5 0 14425) (kv : Nat) (hkv : 1000000000000 ≤ kv) : dz_T (s299_X10_build_0 fu c248_pots c261_many c267_total a268 a269 n269 (F299_X10_build fu c248_pots c261_many c267_total a268 a269 n269 kv).1  c284_fresh a285 a286 a287) (fun r => r.1.toInt ≤ 1 ∧ 1 ≤ r.1.toInt ∧ dz_rg r.2.1 601 0 16777215 ∧ dz_rg r.2.2.1 5 0 14425 ∧ dz_pm r.2.2.2 0) := by
  unfold s299_X10_build_0
  have e1 := dz_l0
  refine dz_Tng (by omega) ?_
  refine dz_Tng (by omega) ?_
  have e2 := dz_l4
  refine dz_Tng (by omega) ?_
  have e3 := dz_tn (0 : Int32)
  have e4 := dz_tn (4 : Int32)
  refine dz_Tg (by omega) ?_
  refine dz_Tg (by omega) ?_
  refine dz_Tin (by omega) (by omega) ?_
  obtain ⟨k1, rfl⟩ : ∃ x, kv = x + 1 := ⟨kv - 1, by omega⟩
  show dz_T (s299_X10_build_1 fu c248_pots c261_many c267_total a268 a269 n269 (F299_X10_build fu c248_pots c261_many c267_total a268 a269 n269 k1).1 (F299_X10_build fu c248_pots c261_many c267_total a268 a269 n269 k1).2.1 c248_pots (1 : Int32) (0 : Int32) c284_fresh a285 (upd a286 (0 : Int32).toNatClampNeg (0 : Int32)) (va_cpy jw_s0 a287 (0 : Int32).toNatClampNeg (0 : Int32).toNatClampNeg (4 : Int32).toNatClampNeg)) _
  unfold s299_X10_build_1
  refine dz_Tle (fun h5 => ?_) (fun h5 => ?_)
  · skip
    refine dz_Tle (fun h6 => ?_) (fun h6 => ?_)
    · skip
      obtain ⟨k2, rfl⟩ : ∃ x, k1 = x + 1 := ⟨k1 - 1, by omega⟩
      show dz_T (s299_X10_build_2 fu c248_pots c261_many c267_total a268 a269 n269 (F299_X10_build fu c248_pots c261_many c267_total a268 a269 n269 k2).2.2 c248_pots c284_fresh a285 (upd a286 (0 : Int32).toNatClampNeg (0 : Int32)) (va_cpy jw_s0 a287 (0 : Int32).toNatClampNeg (0 : Int32).toNatClampNeg (4 : Int32).toNatClampNeg)) _
      unfold s299_X10_build_2
      have e7 := dz_l2
      have e8 := dz_sub (a := c248_pots) (b := (2 : Int32)) (by omega) (by omega)
      generalize (c248_pots - (2 : Int32)) = zz4 at *
      obtain ⟨k3, rfl⟩ : ∃ x, k2 = x + 1 := ⟨k2 - 1, by omega⟩
      show dz_T (s299_X10_build_3 fu c248_pots c261_many c267_total a268 a269 n269 (F299_X10_build fu c248_pots c261_many c267_total a268 a269 n269 k3).2.2 zz4 c284_fresh a285 (upd a286 (0 : Int32).toNatClampNeg (0 : Int32)) (va_cpy jw_s0 a287 (0 : Int32).toNatClampNeg (0 : Int32).toNatClampNeg (4 : Int32).toNatClampNeg)) _
      unfold s299_X10_build_3
      refine dz_Tlt (fun h9 => ?_) (fun h9 => ?_)
      · skip
        have e10 := dz_l1
        refine dz_Ts ?_
        dsimp only
        exact ⟨(by omega), (by omega), (hr_a285), (dz_rgu (hr_a286) (by omega) (by omega)), (dz_pms0)⟩
      · skip
        exfalso; omega
    · skip
      exfalso; omega
  · skip
    exfalso; omega
theorem t299_X10_build_g40 (fu : Nat) (hfu : 1000000000000 ≤ fu) (c248_pots : Int32) (c261_many : Int32) (c267_total : Int32) (a268 : Nat → Int32) (a269 : Nat → Int32) (n269 : Nat) (c284_fresh : Int32) (a285 : Nat → Int32) (a286 : Nat → Int32) (a287 : Nat → Int32) (p0 : c248_pots.toInt ≤ 0) (p1 : 0 ≤ c248_pots.toInt) (p2 : c261_many.toInt ≤ 24) (p3 : 24 ≤ c261_many.toInt) (p4 : c267_total.toInt ≤ 1) (p5 : 1 ≤ c267_total.toInt) (p6 : ((n269 : Nat) : Int) ≤ 13824) (p7 : 1 ≤ ((n269 : Nat) : Int)) (p8 : c284_fresh.toInt ≤ 1) (p9 : 0 ≤ c284_fresh.toInt) (p10 : c267_total.toInt ≤ ((n269 : Nat) : Int)) (hr_a269 : dz_rg a269 n269 0 1023) (hr_a285 : dz_rg a285 601 0 16777215) (hr_a286 : dz_rg a286 5 0 14425) : dz_T (f299_X10_build fu c248_pots c261_many c267_total a268 a269 n269 c284_fresh a285 a286 a287) (fun r => r.1.toInt ≤ 1 ∧ 1 ≤ r.1.toInt ∧ dz_rg r.2.1 601 0 16777215 ∧ dz_rg r.2.2.1 5 0 14425 ∧ dz_pm r.2.2.2 0) :=
  t299_X10_build_E_g40 fu hfu c248_pots c261_many c267_total a268 a269 n269 c284_fresh a285 a286 a287 p0 p1 p2 p3 p4 p5 p6 p7 p8 p9 p10 hr_a269 hr_a285 hr_a286 fu hfu
set_option maxHeartbeats 1000000 in
set_option maxRecDepth 10000 in
theorem t299_X10_build_E_g41 (fu : Nat) (hfu : 1000000000000 ≤ fu) (c248_pots : Int32) (c261_many : Int32) (c267_total : Int32) (a268 : Nat → Int32) (a269 : Nat → Int32) (n269 : Nat) (c284_fresh : Int32) (a285 : Nat → Int32) (a286 : Nat → Int32) (a287 : Nat → Int32) (p0 : c248_pots.toInt ≤ 1) (p1 : 1 ≤ c248_pots.toInt) (p2 : c261_many.toInt ≤ 24) (p3 : 24 ≤ c261_many.toInt) (p4 : c267_total.toInt ≤ 24) (p5 : 24 ≤ c267_total.toInt) (p6 : ((n269 : Nat) : Int) ≤ 13824) (p7 : 1 ≤ ((n269 : Nat) : Int)) (p8 : c284_fresh.toInt ≤ 1) (p9 : 0 ≤ c284_fresh.toInt) (p10 : c267_total.toInt ≤ ((n269 : Nat) : Int)) (hr_a268 : dz_pt a268 [1]) (hr_a269 : dz_rg a269 n269 0 1023) (hr_a285 : dz_rg a285 601 0 16777215) (hr_a286 : dz_rg a286 5 0 14425) (kv : Nat) (hkv : 1000000000000 ≤ kv) : dz_T (s299_X10_build_0 fu c248_pots c261_many c267_total a268 a269 n269 (F299_X10_build fu c248_pots c261_many c267_total a268 a269 n269 kv).1  c284_fresh a285 a286 a287) (fun r => r.1.toInt ≤ 1 ∧ 1 ≤ r.1.toInt ∧ dz_rg r.2.1 601 0 16777215 ∧ dz_rg r.2.2.1 5 0 14425 ∧ dz_pm r.2.2.2 1) := by
  unfold s299_X10_build_0
  have e1 := dz_l0
  refine dz_Tng (by omega) ?_
  refine dz_Tng (by omega) ?_
  have e2 := dz_l4
  refine dz_Tng (by omega) ?_
  have e3 := dz_tn (0 : Int32)
  have e4 := dz_tn (4 : Int32)
  refine dz_Tg (by omega) ?_
  refine dz_Tg (by omega) ?_
  refine dz_Tin (by omega) (by omega) ?_
  obtain ⟨k1, rfl⟩ : ∃ x, kv = x + 1 := ⟨kv - 1, by omega⟩
  show dz_T (s299_X10_build_1 fu c248_pots c261_many c267_total a268 a269 n269 (F299_X10_build fu c248_pots c261_many c267_total a268 a269 n269 k1).1 (F299_X10_build fu c248_pots c261_many c267_total a268 a269 n269 k1).2.1 c248_pots (1 : Int32) (0 : Int32) c284_fresh a285 (upd a286 (0 : Int32).toNatClampNeg (0 : Int32)) (va_cpy jw_s0 a287 (0 : Int32).toNatClampNeg (0 : Int32).toNatClampNeg (4 : Int32).toNatClampNeg)) _
  unfold s299_X10_build_1
  refine dz_Tle (fun h5 => ?_) (fun h5 => ?_)
  · skip
    exfalso; omega
  · skip
    refine dz_Tin (by omega) (by omega) ?_
    have e6 := dz_l1
    have e7 := dz_add (a := (0 : Int32)) (b := (1 : Int32)) (by omega) (by omega)
    refine dz_Tin (by omega) (by omega) ?_
    obtain ⟨k2, rfl⟩ : ∃ x, k1 = x + 1 := ⟨k1 - 1, by omega⟩
    show dz_T (s299_X10_build_1 fu c248_pots c261_many c267_total a268 a269 n269 (F299_X10_build fu c248_pots c261_many c267_total a268 a269 n269 k2).1 (F299_X10_build fu c248_pots c261_many c267_total a268 a269 n269 k2).2.1 c248_pots ((1 : Int32) * c261_many) ((0 : Int32) + (1 : Int32)) c284_fresh a285 (upd (upd a286 (0 : Int32).toNatClampNeg (0 : Int32)) ((0 : Int32) + (1 : Int32)).toNatClampNeg (((upd a286 (0 : Int32).toNatClampNeg (0 : Int32)) (0 : Int32).toNatClampNeg) + (1 : Int32))) (va_cpy jw_s0 a287 (0 : Int32).toNatClampNeg (0 : Int32).toNatClampNeg (4 : Int32).toNatClampNeg)) _
    unfold s299_X10_build_1
    refine dz_Tle (fun h8 => ?_) (fun h8 => ?_)
    · skip
      refine dz_Tle (fun h9 => ?_) (fun h9 => ?_)
      · skip
        exfalso; omega
      · skip
        have e10 := dz_ups (a := a286) (v := (0 : Int32)) (i := (0 : Int32)) (j := (0 : Int32)) (by omega)
        have e11 := dz_add (a := ((upd a286 (0 : Int32).toNatClampNeg (0 : Int32)) (0 : Int32).toNatClampNeg)) (b := (1 : Int32)) (by omega) (by omega)
        refine dz_Tb (t172_X10_fillLast_g41 fu hfu _ _ _ _ _ _ _ _ _ p0 p1 p2 p3 p4 p5 p6 p7 p10 (hr_a268) (hr_a269) (dz_ptmk2 ((dz_upo (j := ((0 : Int32) + (1 : Int32))) 0 (by omega)).trans ((dz_upk (j := (0 : Int32)) 0 (by omega)).trans (by omega))) ((dz_upk (j := ((0 : Int32) + (1 : Int32))) 1 (by omega)).trans (by omega))) (dz_pms1) (hr_a285) (by first | assumption | omega)) (fun r1 q => ?_)
        have qa1_0 := q
        obtain ⟨k3, rfl⟩ : ∃ x, k2 = x + 1 := ⟨k2 - 1, by omega⟩
        show dz_T (s299_X10_build_2 fu c248_pots c261_many c267_total a268 a269 n269 (F299_X10_build fu c248_pots c261_many c267_total a268 a269 n269 k3).2.2 c248_pots c284_fresh r1 (upd (upd a286 (0 : Int32).toNatClampNeg (0 : Int32)) ((0 : Int32) + (1 : Int32)).toNatClampNeg (((upd a286 (0 : Int32).toNatClampNeg (0 : Int32)) (0 : Int32).toNatClampNeg) + (1 : Int32))) (va_cpy jw_s0 a287 (0 : Int32).toNatClampNeg (0 : Int32).toNatClampNeg (4 : Int32).toNatClampNeg)) _
        unfold s299_X10_build_2
        have e12 := dz_l2
        have e13 := dz_sub (a := c248_pots) (b := (2 : Int32)) (by omega) (by omega)
        generalize (c248_pots - (2 : Int32)) = zz4 at *
        obtain ⟨k4, rfl⟩ : ∃ x, k3 = x + 1 := ⟨k3 - 1, by omega⟩
        show dz_T (s299_X10_build_3 fu c248_pots c261_many c267_total a268 a269 n269 (F299_X10_build fu c248_pots c261_many c267_total a268 a269 n269 k4).2.2 zz4 c284_fresh r1 (upd (upd a286 (0 : Int32).toNatClampNeg (0 : Int32)) ((0 : Int32) + (1 : Int32)).toNatClampNeg (((upd a286 (0 : Int32).toNatClampNeg (0 : Int32)) (0 : Int32).toNatClampNeg) + (1 : Int32))) (va_cpy jw_s0 a287 (0 : Int32).toNatClampNeg (0 : Int32).toNatClampNeg (4 : Int32).toNatClampNeg)) _
        unfold s299_X10_build_3
        refine dz_Tlt (fun h14 => ?_) (fun h14 => ?_)
        · skip
          refine dz_Ts ?_
          dsimp only
          exact ⟨(by omega), (by omega), (qa1_0), (dz_rgu (dz_rgu (hr_a286) (by omega) (by omega)) (by omega) (by omega)), (dz_pms1)⟩
        · skip
          exfalso; omega
    · skip
      exfalso; omega
theorem t299_X10_build_g41 (fu : Nat) (hfu : 1000000000000 ≤ fu) (c248_pots : Int32) (c261_many : Int32) (c267_total : Int32) (a268 : Nat → Int32) (a269 : Nat → Int32) (n269 : Nat) (c284_fresh : Int32) (a285 : Nat → Int32) (a286 : Nat → Int32) (a287 : Nat → Int32) (p0 : c248_pots.toInt ≤ 1) (p1 : 1 ≤ c248_pots.toInt) (p2 : c261_many.toInt ≤ 24) (p3 : 24 ≤ c261_many.toInt) (p4 : c267_total.toInt ≤ 24) (p5 : 24 ≤ c267_total.toInt) (p6 : ((n269 : Nat) : Int) ≤ 13824) (p7 : 1 ≤ ((n269 : Nat) : Int)) (p8 : c284_fresh.toInt ≤ 1) (p9 : 0 ≤ c284_fresh.toInt) (p10 : c267_total.toInt ≤ ((n269 : Nat) : Int)) (hr_a268 : dz_pt a268 [1]) (hr_a269 : dz_rg a269 n269 0 1023) (hr_a285 : dz_rg a285 601 0 16777215) (hr_a286 : dz_rg a286 5 0 14425) : dz_T (f299_X10_build fu c248_pots c261_many c267_total a268 a269 n269 c284_fresh a285 a286 a287) (fun r => r.1.toInt ≤ 1 ∧ 1 ≤ r.1.toInt ∧ dz_rg r.2.1 601 0 16777215 ∧ dz_rg r.2.2.1 5 0 14425 ∧ dz_pm r.2.2.2 1) :=
  t299_X10_build_E_g41 fu hfu c248_pots c261_many c267_total a268 a269 n269 c284_fresh a285 a286 a287 p0 p1 p2 p3 p4 p5 p6 p7 p8 p9 p10 hr_a268 hr_a269 hr_a285 hr_a286 fu hfu
set_option maxHeartbeats 1000000 in
set_option maxRecDepth 10000 in
theorem t299_X10_build_E_g42 (fu : Nat) (hfu : 1000000000000 ≤ fu) (c248_pots : Int32) (c261_many : Int32) (c267_total : Int32) (a268 : Nat → Int32) (a269 : Nat → Int32) (n269 : Nat) (c284_fresh : Int32) (a285 : Nat → Int32) (a286 : Nat → Int32) (a287 : Nat → Int32) (p0 : c248_pots.toInt ≤ 2) (p1 : 2 ≤ c248_pots.toInt) (p2 : c261_many.toInt ≤ 24) (p3 : 24 ≤ c261_many.toInt) (p4 : c267_total.toInt ≤ 576) (p5 : 576 ≤ c267_total.toInt) (p6 : ((n269 : Nat) : Int) ≤ 13824) (p7 : 1 ≤ ((n269 : Nat) : Int)) (p8 : c284_fresh.toInt ≤ 1) (p9 : 0 ≤ c284_fresh.toInt) (p10 : c267_total.toInt ≤ ((n269 : Nat) : Int)) (hr_a268 : dz_pt a268 [24, 1]) (hr_a269 : dz_rg a269 n269 0 1023) (hr_a285 : dz_rg a285 601 0 16777215) (hr_a286 : dz_rg a286 5 0 14425) (kv : Nat) (hkv : 1000000000000 ≤ kv) : dz_T (s299_X10_build_0 fu c248_pots c261_many c267_total a268 a269 n269 (F299_X10_build fu c248_pots c261_many c267_total a268 a269 n269 kv).1  c284_fresh a285 a286 a287) (fun r => r.1.toInt ≤ 1 ∧ 1 ≤ r.1.toInt ∧ dz_rg r.2.1 601 0 16777215 ∧ dz_rg r.2.2.1 5 0 14425 ∧ dz_pm r.2.2.2 2) := by
  unfold s299_X10_build_0
  have e1 := dz_l0
  refine dz_Tng (by omega) ?_
  refine dz_Tng (by omega) ?_
  have e2 := dz_l4
  refine dz_Tng (by omega) ?_
  have e3 := dz_tn (0 : Int32)
  have e4 := dz_tn (4 : Int32)
  refine dz_Tg (by omega) ?_
  refine dz_Tg (by omega) ?_
  refine dz_Tin (by omega) (by omega) ?_
  obtain ⟨k1, rfl⟩ : ∃ x, kv = x + 1 := ⟨kv - 1, by omega⟩
  show dz_T (s299_X10_build_1 fu c248_pots c261_many c267_total a268 a269 n269 (F299_X10_build fu c248_pots c261_many c267_total a268 a269 n269 k1).1 (F299_X10_build fu c248_pots c261_many c267_total a268 a269 n269 k1).2.1 c248_pots (1 : Int32) (0 : Int32) c284_fresh a285 (upd a286 (0 : Int32).toNatClampNeg (0 : Int32)) (va_cpy jw_s0 a287 (0 : Int32).toNatClampNeg (0 : Int32).toNatClampNeg (4 : Int32).toNatClampNeg)) _
  unfold s299_X10_build_1
  refine dz_Tle (fun h5 => ?_) (fun h5 => ?_)
  · skip
    exfalso; omega
  · skip
    refine dz_Tin (by omega) (by omega) ?_
    have e6 := dz_l1
    have e7 := dz_add (a := (0 : Int32)) (b := (1 : Int32)) (by omega) (by omega)
    refine dz_Tin (by omega) (by omega) ?_
    obtain ⟨k2, rfl⟩ : ∃ x, k1 = x + 1 := ⟨k1 - 1, by omega⟩
    show dz_T (s299_X10_build_1 fu c248_pots c261_many c267_total a268 a269 n269 (F299_X10_build fu c248_pots c261_many c267_total a268 a269 n269 k2).1 (F299_X10_build fu c248_pots c261_many c267_total a268 a269 n269 k2).2.1 c248_pots ((1 : Int32) * c261_many) ((0 : Int32) + (1 : Int32)) c284_fresh a285 (upd (upd a286 (0 : Int32).toNatClampNeg (0 : Int32)) ((0 : Int32) + (1 : Int32)).toNatClampNeg (((upd a286 (0 : Int32).toNatClampNeg (0 : Int32)) (0 : Int32).toNatClampNeg) + (1 : Int32))) (va_cpy jw_s0 a287 (0 : Int32).toNatClampNeg (0 : Int32).toNatClampNeg (4 : Int32).toNatClampNeg)) _
    unfold s299_X10_build_1
    refine dz_Tle (fun h8 => ?_) (fun h8 => ?_)
    · skip
      exfalso; omega
    · skip
      refine dz_Tin (by omega) (by omega) ?_
      have e9 := dz_add (a := ((0 : Int32) + (1 : Int32))) (b := (1 : Int32)) (by omega) (by omega)
      refine dz_Tin (by omega) (by omega) ?_
      obtain ⟨k3, rfl⟩ : ∃ x, k2 = x + 1 := ⟨k2 - 1, by omega⟩
      show dz_T (s299_X10_build_1 fu c248_pots c261_many c267_total a268 a269 n269 (F299_X10_build fu c248_pots c261_many c267_total a268 a269 n269 k3).1 (F299_X10_build fu c248_pots c261_many c267_total a268 a269 n269 k3).2.1 c248_pots (((1 : Int32) * c261_many) * c261_many) (((0 : Int32) + (1 : Int32)) + (1 : Int32)) c284_fresh a285 (upd (upd (upd a286 (0 : Int32).toNatClampNeg (0 : Int32)) ((0 : Int32) + (1 : Int32)).toNatClampNeg (((upd a286 (0 : Int32).toNatClampNeg (0 : Int32)) (0 : Int32).toNatClampNeg) + (1 : Int32))) (((0 : Int32) + (1 : Int32)) + (1 : Int32)).toNatClampNeg (((upd (upd a286 (0 : Int32).toNatClampNeg (0 : Int32)) ((0 : Int32) + (1 : Int32)).toNatClampNeg (((upd a286 (0 : Int32).toNatClampNeg (0 : Int32)) (0 : Int32).toNatClampNeg) + (1 : Int32))) ((0 : Int32) + (1 : Int32)).toNatClampNeg) + ((1 : Int32) * c261_many))) (va_cpy jw_s0 a287 (0 : Int32).toNatClampNeg (0 : Int32).toNatClampNeg (4 : Int32).toNatClampNeg)) _
      unfold s299_X10_build_1
      refine dz_Tle (fun h10 => ?_) (fun h10 => ?_)
      · skip
        refine dz_Tle (fun h11 => ?_) (fun h11 => ?_)
        · skip
          exfalso; omega
        · skip
          have e12 := dz_ups (a := a286) (v := (0 : Int32)) (i := (0 : Int32)) (j := (0 : Int32)) (by omega)
          have e13 := dz_add (a := ((upd a286 (0 : Int32).toNatClampNeg (0 : Int32)) (0 : Int32).toNatClampNeg)) (b := (1 : Int32)) (by omega) (by omega)
          have e14 := dz_ups (a := (upd a286 (0 : Int32).toNatClampNeg (0 : Int32))) (v := (((upd a286 (0 : Int32).toNatClampNeg (0 : Int32)) (0 : Int32).toNatClampNeg) + (1 : Int32))) (i := ((0 : Int32) + (1 : Int32))) (j := ((0 : Int32) + (1 : Int32))) (by omega)
          have e15 := dz_mull (a := (1 : Int32)) (b := c261_many) 1 (by omega) (by omega) (by omega)
          have e16 := dz_add (a := ((upd (upd a286 (0 : Int32).toNatClampNeg (0 : Int32)) ((0 : Int32) + (1 : Int32)).toNatClampNeg (((upd a286 (0 : Int32).toNatClampNeg (0 : Int32)) (0 : Int32).toNatClampNeg) + (1 : Int32))) ((0 : Int32) + (1 : Int32)).toNatClampNeg)) (b := ((1 : Int32) * c261_many)) (by omega) (by omega)
          refine dz_Tb (t172_X10_fillLast_g42 fu hfu _ _ _ _ _ _ _ _ _ p0 p1 p2 p3 p4 p5 p6 p7 p10 (hr_a268) (hr_a269) (dz_ptmk3 ((dz_upo (j := (((0 : Int32) + (1 : Int32)) + (1 : Int32))) 0 (by omega)).trans ((dz_upo (j := ((0 : Int32) + (1 : Int32))) 0 (by omega)).trans ((dz_upk (j := (0 : Int32)) 0 (by omega)).trans (by omega)))) ((dz_upo (j := (((0 : Int32) + (1 : Int32)) + (1 : Int32))) 1 (by omega)).trans ((dz_upk (j := ((0 : Int32) + (1 : Int32))) 1 (by omega)).trans (by omega))) ((dz_upk (j := (((0 : Int32) + (1 : Int32)) + (1 : Int32))) 2 (by omega)).trans (by omega))) (dz_pms2) (hr_a285) (by first | assumption | omega)) (fun r1 q => ?_)
          have qa1_0 := q
          obtain ⟨k4, rfl⟩ : ∃ x, k3 = x + 1 := ⟨k3 - 1, by omega⟩
          show dz_T (s299_X10_build_2 fu c248_pots c261_many c267_total a268 a269 n269 (F299_X10_build fu c248_pots c261_many c267_total a268 a269 n269 k4).2.2 c248_pots c284_fresh r1 (upd (upd (upd a286 (0 : Int32).toNatClampNeg (0 : Int32)) ((0 : Int32) + (1 : Int32)).toNatClampNeg (((upd a286 (0 : Int32).toNatClampNeg (0 : Int32)) (0 : Int32).toNatClampNeg) + (1 : Int32))) (((0 : Int32) + (1 : Int32)) + (1 : Int32)).toNatClampNeg (((upd (upd a286 (0 : Int32).toNatClampNeg (0 : Int32)) ((0 : Int32) + (1 : Int32)).toNatClampNeg (((upd a286 (0 : Int32).toNatClampNeg (0 : Int32)) (0 : Int32).toNatClampNeg) + (1 : Int32))) ((0 : Int32) + (1 : Int32)).toNatClampNeg) + ((1 : Int32) * c261_many))) (va_cpy jw_s0 a287 (0 : Int32).toNatClampNeg (0 : Int32).toNatClampNeg (4 : Int32).toNatClampNeg)) _
          unfold s299_X10_build_2
          have e17 := dz_l2
          have e18 := dz_sub (a := c248_pots) (b := (2 : Int32)) (by omega) (by omega)
          generalize (c248_pots - (2 : Int32)) = zz7 at *
          obtain ⟨k5, rfl⟩ : ∃ x, k4 = x + 1 := ⟨k4 - 1, by omega⟩
          show dz_T (s299_X10_build_3 fu c248_pots c261_many c267_total a268 a269 n269 (F299_X10_build fu c248_pots c261_many c267_total a268 a269 n269 k5).2.2 zz7 c284_fresh r1 (upd (upd (upd a286 (0 : Int32).toNatClampNeg (0 : Int32)) ((0 : Int32) + (1 : Int32)).toNatClampNeg (((upd a286 (0 : Int32).toNatClampNeg (0 : Int32)) (0 : Int32).toNatClampNeg) + (1 : Int32))) (((0 : Int32) + (1 : Int32)) + (1 : Int32)).toNatClampNeg (((upd (upd a286 (0 : Int32).toNatClampNeg (0 : Int32)) ((0 : Int32) + (1 : Int32)).toNatClampNeg (((upd a286 (0 : Int32).toNatClampNeg (0 : Int32)) (0 : Int32).toNatClampNeg) + (1 : Int32))) ((0 : Int32) + (1 : Int32)).toNatClampNeg) + ((1 : Int32) * c261_many))) (va_cpy jw_s0 a287 (0 : Int32).toNatClampNeg (0 : Int32).toNatClampNeg (4 : Int32).toNatClampNeg)) _
          unfold s299_X10_build_3
          refine dz_Tlt (fun h19 => ?_) (fun h19 => ?_)
          · skip
            exfalso; omega
          · skip
            refine dz_Tb (t173_X10_fillFromNext_g42 fu hfu _ _ _ _ p2 p3 (by first | assumption | omega) (by first | assumption | omega) (dz_ptmk3 ((dz_upo (j := (((0 : Int32) + (1 : Int32)) + (1 : Int32))) 0 (by omega)).trans ((dz_upo (j := ((0 : Int32) + (1 : Int32))) 0 (by omega)).trans ((dz_upk (j := (0 : Int32)) 0 (by omega)).trans (by omega)))) ((dz_upo (j := (((0 : Int32) + (1 : Int32)) + (1 : Int32))) 1 (by omega)).trans ((dz_upk (j := ((0 : Int32) + (1 : Int32))) 1 (by omega)).trans (by omega))) ((dz_upk (j := (((0 : Int32) + (1 : Int32)) + (1 : Int32))) 2 (by omega)).trans (by omega))) (qa1_0)) (fun r2 q => ?_)
            have qa2_0 := q
            have e20 := dz_lm1
            have e21 := dz_add (a := zz7) (b := (-(1 : Int32))) (by omega) (by omega)
            generalize (zz7 + (-(1 : Int32))) = zz8 at *
            obtain ⟨k6, rfl⟩ : ∃ x, k5 = x + 1 := ⟨k5 - 1, by omega⟩
            show dz_T (s299_X10_build_3 fu c248_pots c261_many c267_total a268 a269 n269 (F299_X10_build fu c248_pots c261_many c267_total a268 a269 n269 k6).2.2 zz8 c284_fresh r2 (upd (upd (upd a286 (0 : Int32).toNatClampNeg (0 : Int32)) ((0 : Int32) + (1 : Int32)).toNatClampNeg (((upd a286 (0 : Int32).toNatClampNeg (0 : Int32)) (0 : Int32).toNatClampNeg) + (1 : Int32))) (((0 : Int32) + (1 : Int32)) + (1 : Int32)).toNatClampNeg (((upd (upd a286 (0 : Int32).toNatClampNeg (0 : Int32)) ((0 : Int32) + (1 : Int32)).toNatClampNeg (((upd a286 (0 : Int32).toNatClampNeg (0 : Int32)) (0 : Int32).toNatClampNeg) + (1 : Int32))) ((0 : Int32) + (1 : Int32)).toNatClampNeg) + ((1 : Int32) * c261_many))) (va_cpy jw_s0 a287 (0 : Int32).toNatClampNeg (0 : Int32).toNatClampNeg (4 : Int32).toNatClampNeg)) _
            unfold s299_X10_build_3
            refine dz_Tlt (fun h22 => ?_) (fun h22 => ?_)
            · skip
              refine dz_Ts ?_
              dsimp only
              exact ⟨(by omega), (by omega), (qa2_0), (dz_rgu (dz_rgu (dz_rgu (hr_a286) (by omega) (by omega)) (by omega) (by omega)) (by omega) (by omega)), (dz_pms2)⟩
            · skip
              exfalso; omega
      · skip
        exfalso; omega
theorem t299_X10_build_g42 (fu : Nat) (hfu : 1000000000000 ≤ fu) (c248_pots : Int32) (c261_many : Int32) (c267_total : Int32) (a268 : Nat → Int32) (a269 : Nat → Int32) (n269 : Nat) (c284_fresh : Int32) (a285 : Nat → Int32) (a286 : Nat → Int32) (a287 : Nat → Int32) (p0 : c248_pots.toInt ≤ 2) (p1 : 2 ≤ c248_pots.toInt) (p2 : c261_many.toInt ≤ 24) (p3 : 24 ≤ c261_many.toInt) (p4 : c267_total.toInt ≤ 576) (p5 : 576 ≤ c267_total.toInt) (p6 : ((n269 : Nat) : Int) ≤ 13824) (p7 : 1 ≤ ((n269 : Nat) : Int)) (p8 : c284_fresh.toInt ≤ 1) (p9 : 0 ≤ c284_fresh.toInt) (p10 : c267_total.toInt ≤ ((n269 : Nat) : Int)) (hr_a268 : dz_pt a268 [24, 1]) (hr_a269 : dz_rg a269 n269 0 1023) (hr_a285 : dz_rg a285 601 0 16777215) (hr_a286 : dz_rg a286 5 0 14425) : dz_T (f299_X10_build fu c248_pots c261_many c267_total a268 a269 n269 c284_fresh a285 a286 a287) (fun r => r.1.toInt ≤ 1 ∧ 1 ≤ r.1.toInt ∧ dz_rg r.2.1 601 0 16777215 ∧ dz_rg r.2.2.1 5 0 14425 ∧ dz_pm r.2.2.2 2) :=
  t299_X10_build_E_g42 fu hfu c248_pots c261_many c267_total a268 a269 n269 c284_fresh a285 a286 a287 p0 p1 p2 p3 p4 p5 p6 p7 p8 p9 p10 hr_a268 hr_a269 hr_a285 hr_a286 fu hfu
set_option maxHeartbeats 1000000 in
set_option maxRecDepth 10000 in
theorem t299_X10_build_E_g43 (fu : Nat) (hfu : 1000000000000 ≤ fu) (c248_pots : Int32) (c261_many : Int32) (c267_total : Int32) (a268 : Nat → Int32) (a269 : Nat → Int32) (n269 : Nat) (c284_fresh : Int32) (a285 : Nat → Int32) (a286 : Nat → Int32) (a287 : Nat → Int32) (p0 : c248_pots.toInt ≤ 3) (p1 : 3 ≤ c248_pots.toInt) (p2 : c261_many.toInt ≤ 24) (p3 : 24 ≤ c261_many.toInt) (p4 : c267_total.toInt ≤ 13824) (p5 : 13824 ≤ c267_total.toInt) (p6 : ((n269 : Nat) : Int) ≤ 13824) (p7 : 1 ≤ ((n269 : Nat) : Int)) (p8 : c284_fresh.toInt ≤ 1) (p9 : 0 ≤ c284_fresh.toInt) (p10 : c267_total.toInt ≤ ((n269 : Nat) : Int)) (hr_a268 : dz_pt a268 [576, 24, 1]) (hr_a269 : dz_rg a269 n269 0 1023) (hr_a285 : dz_rg a285 601 0 16777215) (hr_a286 : dz_rg a286 5 0 14425) (kv : Nat) (hkv : 1000000000000 ≤ kv) : dz_T (s299_X10_build_0 fu c248_pots c261_many c267_total a268 a269 n269 (F299_X10_build fu c248_pots c261_many c267_total a268 a269 n269 kv).1  c284_fresh a285 a286 a287) (fun r => r.1.toInt ≤ 1 ∧ 1 ≤ r.1.toInt ∧ dz_rg r.2.1 601 0 16777215 ∧ dz_rg r.2.2.1 5 0 14425 ∧ dz_pm r.2.2.2 3) := by
  unfold s299_X10_build_0
  have e1 := dz_l0
  refine dz_Tng (by omega) ?_
  refine dz_Tng (by omega) ?_
  have e2 := dz_l4
  refine dz_Tng (by omega) ?_
  have e3 := dz_tn (0 : Int32)
  have e4 := dz_tn (4 : Int32)
  refine dz_Tg (by omega) ?_
  refine dz_Tg (by omega) ?_
  refine dz_Tin (by omega) (by omega) ?_
  obtain ⟨k1, rfl⟩ : ∃ x, kv = x + 1 := ⟨kv - 1, by omega⟩
  show dz_T (s299_X10_build_1 fu c248_pots c261_many c267_total a268 a269 n269 (F299_X10_build fu c248_pots c261_many c267_total a268 a269 n269 k1).1 (F299_X10_build fu c248_pots c261_many c267_total a268 a269 n269 k1).2.1 c248_pots (1 : Int32) (0 : Int32) c284_fresh a285 (upd a286 (0 : Int32).toNatClampNeg (0 : Int32)) (va_cpy jw_s0 a287 (0 : Int32).toNatClampNeg (0 : Int32).toNatClampNeg (4 : Int32).toNatClampNeg)) _
  unfold s299_X10_build_1
  refine dz_Tle (fun h5 => ?_) (fun h5 => ?_)
  · skip
    exfalso; omega
  · skip
    refine dz_Tin (by omega) (by omega) ?_
    have e6 := dz_l1
    have e7 := dz_add (a := (0 : Int32)) (b := (1 : Int32)) (by omega) (by omega)
    refine dz_Tin (by omega) (by omega) ?_
    obtain ⟨k2, rfl⟩ : ∃ x, k1 = x + 1 := ⟨k1 - 1, by omega⟩
    show dz_T (s299_X10_build_1 fu c248_pots c261_many c267_total a268 a269 n269 (F299_X10_build fu c248_pots c261_many c267_total a268 a269 n269 k2).1 (F299_X10_build fu c248_pots c261_many c267_total a268 a269 n269 k2).2.1 c248_pots ((1 : Int32) * c261_many) ((0 : Int32) + (1 : Int32)) c284_fresh a285 (upd (upd a286 (0 : Int32).toNatClampNeg (0 : Int32)) ((0 : Int32) + (1 : Int32)).toNatClampNeg (((upd a286 (0 : Int32).toNatClampNeg (0 : Int32)) (0 : Int32).toNatClampNeg) + (1 : Int32))) (va_cpy jw_s0 a287 (0 : Int32).toNatClampNeg (0 : Int32).toNatClampNeg (4 : Int32).toNatClampNeg)) _
    unfold s299_X10_build_1
    refine dz_Tle (fun h8 => ?_) (fun h8 => ?_)
    · skip
      exfalso; omega
    · skip
      refine dz_Tin (by omega) (by omega) ?_
      have e9 := dz_add (a := ((0 : Int32) + (1 : Int32))) (b := (1 : Int32)) (by omega) (by omega)
      refine dz_Tin (by omega) (by omega) ?_
      obtain ⟨k3, rfl⟩ : ∃ x, k2 = x + 1 := ⟨k2 - 1, by omega⟩
      show dz_T (s299_X10_build_1 fu c248_pots c261_many c267_total a268 a269 n269 (F299_X10_build fu c248_pots c261_many c267_total a268 a269 n269 k3).1 (F299_X10_build fu c248_pots c261_many c267_total a268 a269 n269 k3).2.1 c248_pots (((1 : Int32) * c261_many) * c261_many) (((0 : Int32) + (1 : Int32)) + (1 : Int32)) c284_fresh a285 (upd (upd (upd a286 (0 : Int32).toNatClampNeg (0 : Int32)) ((0 : Int32) + (1 : Int32)).toNatClampNeg (((upd a286 (0 : Int32).toNatClampNeg (0 : Int32)) (0 : Int32).toNatClampNeg) + (1 : Int32))) (((0 : Int32) + (1 : Int32)) + (1 : Int32)).toNatClampNeg (((upd (upd a286 (0 : Int32).toNatClampNeg (0 : Int32)) ((0 : Int32) + (1 : Int32)).toNatClampNeg (((upd a286 (0 : Int32).toNatClampNeg (0 : Int32)) (0 : Int32).toNatClampNeg) + (1 : Int32))) ((0 : Int32) + (1 : Int32)).toNatClampNeg) + ((1 : Int32) * c261_many))) (va_cpy jw_s0 a287 (0 : Int32).toNatClampNeg (0 : Int32).toNatClampNeg (4 : Int32).toNatClampNeg)) _
      unfold s299_X10_build_1
      refine dz_Tle (fun h10 => ?_) (fun h10 => ?_)
      · skip
        exfalso; omega
      · skip
        refine dz_Tin (by omega) (by omega) ?_
        have e11 := dz_add (a := (((0 : Int32) + (1 : Int32)) + (1 : Int32))) (b := (1 : Int32)) (by omega) (by omega)
        refine dz_Tin (by omega) (by omega) ?_
        obtain ⟨k4, rfl⟩ : ∃ x, k3 = x + 1 := ⟨k3 - 1, by omega⟩
        show dz_T (s299_X10_build_1 fu c248_pots c261_many c267_total a268 a269 n269 (F299_X10_build fu c248_pots c261_many c267_total a268 a269 n269 k4).1 (F299_X10_build fu c248_pots c261_many c267_total a268 a269 n269 k4).2.1 c248_pots ((((1 : Int32) * c261_many) * c261_many) * c261_many) ((((0 : Int32) + (1 : Int32)) + (1 : Int32)) + (1 : Int32)) c284_fresh a285 (upd (upd (upd (upd a286 (0 : Int32).toNatClampNeg (0 : Int32)) ((0 : Int32) + (1 : Int32)).toNatClampNeg (((upd a286 (0 : Int32).toNatClampNeg (0 : Int32)) (0 : Int32).toNatClampNeg) + (1 : Int32))) (((0 : Int32) + (1 : Int32)) + (1 : Int32)).toNatClampNeg (((upd (upd a286 (0 : Int32).toNatClampNeg (0 : Int32)) ((0 : Int32) + (1 : Int32)).toNatClampNeg (((upd a286 (0 : Int32).toNatClampNeg (0 : Int32)) (0 : Int32).toNatClampNeg) + (1 : Int32))) ((0 : Int32) + (1 : Int32)).toNatClampNeg) + ((1 : Int32) * c261_many))) ((((0 : Int32) + (1 : Int32)) + (1 : Int32)) + (1 : Int32)).toNatClampNeg (((upd (upd (upd a286 (0 : Int32).toNatClampNeg (0 : Int32)) ((0 : Int32) + (1 : Int32)).toNatClampNeg (((upd a286 (0 : Int32).toNatClampNeg (0 : Int32)) (0 : Int32).toNatClampNeg) + (1 : Int32))) (((0 : Int32) + (1 : Int32)) + (1 : Int32)).toNatClampNeg (((upd (upd a286 (0 : Int32).toNatClampNeg (0 : Int32)) ((0 : Int32) + (1 : Int32)).toNatClampNeg (((upd a286 (0 : Int32).toNatClampNeg (0 : Int32)) (0 : Int32).toNatClampNeg) + (1 : Int32))) ((0 : Int32) + (1 : Int32)).toNatClampNeg) + ((1 : Int32) * c261_many))) (((0 : Int32) + (1 : Int32)) + (1 : Int32)).toNatClampNeg) + (((1 : Int32) * c261_many) * c261_many))) (va_cpy jw_s0 a287 (0 : Int32).toNatClampNeg (0 : Int32).toNatClampNeg (4 : Int32).toNatClampNeg)) _
        unfold s299_X10_build_1
        refine dz_Tle (fun h12 => ?_) (fun h12 => ?_)
        · skip
          refine dz_Tle (fun h13 => ?_) (fun h13 => ?_)
          · skip
            exfalso; omega
          · skip
            have e14 := dz_ups (a := a286) (v := (0 : Int32)) (i := (0 : Int32)) (j := (0 : Int32)) (by omega)
            have e15 := dz_add (a := ((upd a286 (0 : Int32).toNatClampNeg (0 : Int32)) (0 : Int32).toNatClampNeg)) (b := (1 : Int32)) (by omega) (by omega)
            have e16 := dz_ups (a := (upd a286 (0 : Int32).toNatClampNeg (0 : Int32))) (v := (((upd a286 (0 : Int32).toNatClampNeg (0 : Int32)) (0 : Int32).toNatClampNeg) + (1 : Int32))) (i := ((0 : Int32) + (1 : Int32))) (j := ((0 : Int32) + (1 : Int32))) (by omega)
            have e17 := dz_mull (a := (1 : Int32)) (b := c261_many) 1 (by omega) (by omega) (by omega)
            have e18 := dz_add (a := ((upd (upd a286 (0 : Int32).toNatClampNeg (0 : Int32)) ((0 : Int32) + (1 : Int32)).toNatClampNeg (((upd a286 (0 : Int32).toNatClampNeg (0 : Int32)) (0 : Int32).toNatClampNeg) + (1 : Int32))) ((0 : Int32) + (1 : Int32)).toNatClampNeg)) (b := ((1 : Int32) * c261_many)) (by omega) (by omega)
            have e19 := dz_ups (a := (upd (upd a286 (0 : Int32).toNatClampNeg (0 : Int32)) ((0 : Int32) + (1 : Int32)).toNatClampNeg (((upd a286 (0 : Int32).toNatClampNeg (0 : Int32)) (0 : Int32).toNatClampNeg) + (1 : Int32)))) (v := (((upd (upd a286 (0 : Int32).toNatClampNeg (0 : Int32)) ((0 : Int32) + (1 : Int32)).toNatClampNeg (((upd a286 (0 : Int32).toNatClampNeg (0 : Int32)) (0 : Int32).toNatClampNeg) + (1 : Int32))) ((0 : Int32) + (1 : Int32)).toNatClampNeg) + ((1 : Int32) * c261_many))) (i := (((0 : Int32) + (1 : Int32)) + (1 : Int32))) (j := (((0 : Int32) + (1 : Int32)) + (1 : Int32))) (by omega)
            have e20 := dz_mull (a := ((1 : Int32) * c261_many)) (b := c261_many) 24 (by omega) (by omega) (by omega)
            have e21 := dz_add (a := ((upd (upd (upd a286 (0 : Int32).toNatClampNeg (0 : Int32)) ((0 : Int32) + (1 : Int32)).toNatClampNeg (((upd a286 (0 : Int32).toNatClampNeg (0 : Int32)) (0 : Int32).toNatClampNeg) + (1 : Int32))) (((0 : Int32) + (1 : Int32)) + (1 : Int32)).toNatClampNeg (((upd (upd a286 (0 : Int32).toNatClampNeg (0 : Int32)) ((0 : Int32) + (1 : Int32)).toNatClampNeg (((upd a286 (0 : Int32).toNatClampNeg (0 : Int32)) (0 : Int32).toNatClampNeg) + (1 : Int32))) ((0 : Int32) + (1 : Int32)).toNatClampNeg) + ((1 : Int32) * c261_many))) (((0 : Int32) + (1 : Int32)) + (1 : Int32)).toNatClampNeg)) (b := (((1 : Int32) * c261_many) * c261_many)) (by omega) (by omega)
            refine dz_Tb (t172_X10_fillLast_g43 fu hfu _ _ _ _ _ _ _ _ _ p0 p1 p2 p3 p4 p5 p6 p7 p10 (hr_a268) (hr_a269) (dz_ptmk4 ((dz_upo (j := ((((0 : Int32) + (1 : Int32)) + (1 : Int32)) + (1 : Int32))) 0 (by omega)).trans ((dz_upo (j := (((0 : Int32) + (1 : Int32)) + (1 : Int32))) 0 (by omega)).trans ((dz_upo (j := ((0 : Int32) + (1 : Int32))) 0 (by omega)).trans ((dz_upk (j := (0 : Int32)) 0 (by omega)).trans (by omega))))) ((dz_upo (j := ((((0 : Int32) + (1 : Int32)) + (1 : Int32)) + (1 : Int32))) 1 (by omega)).trans ((dz_upo (j := (((0 : Int32) + (1 : Int32)) + (1 : Int32))) 1 (by omega)).trans ((dz_upk (j := ((0 : Int32) + (1 : Int32))) 1 (by omega)).trans (by omega)))) ((dz_upo (j := ((((0 : Int32) + (1 : Int32)) + (1 : Int32)) + (1 : Int32))) 2 (by omega)).trans ((dz_upk (j := (((0 : Int32) + (1 : Int32)) + (1 : Int32))) 2 (by omega)).trans (by omega))) ((dz_upk (j := ((((0 : Int32) + (1 : Int32)) + (1 : Int32)) + (1 : Int32))) 3 (by omega)).trans (by omega))) (dz_pms3) (hr_a285) (by first | assumption | omega)) (fun r1 q => ?_)
            have qa1_0 := q
            obtain ⟨k5, rfl⟩ : ∃ x, k4 = x + 1 := ⟨k4 - 1, by omega⟩
            show dz_T (s299_X10_build_2 fu c248_pots c261_many c267_total a268 a269 n269 (F299_X10_build fu c248_pots c261_many c267_total a268 a269 n269 k5).2.2 c248_pots c284_fresh r1 (upd (upd (upd (upd a286 (0 : Int32).toNatClampNeg (0 : Int32)) ((0 : Int32) + (1 : Int32)).toNatClampNeg (((upd a286 (0 : Int32).toNatClampNeg (0 : Int32)) (0 : Int32).toNatClampNeg) + (1 : Int32))) (((0 : Int32) + (1 : Int32)) + (1 : Int32)).toNatClampNeg (((upd (upd a286 (0 : Int32).toNatClampNeg (0 : Int32)) ((0 : Int32) + (1 : Int32)).toNatClampNeg (((upd a286 (0 : Int32).toNatClampNeg (0 : Int32)) (0 : Int32).toNatClampNeg) + (1 : Int32))) ((0 : Int32) + (1 : Int32)).toNatClampNeg) + ((1 : Int32) * c261_many))) ((((0 : Int32) + (1 : Int32)) + (1 : Int32)) + (1 : Int32)).toNatClampNeg (((upd (upd (upd a286 (0 : Int32).toNatClampNeg (0 : Int32)) ((0 : Int32) + (1 : Int32)).toNatClampNeg (((upd a286 (0 : Int32).toNatClampNeg (0 : Int32)) (0 : Int32).toNatClampNeg) + (1 : Int32))) (((0 : Int32) + (1 : Int32)) + (1 : Int32)).toNatClampNeg (((upd (upd a286 (0 : Int32).toNatClampNeg (0 : Int32)) ((0 : Int32) + (1 : Int32)).toNatClampNeg (((upd a286 (0 : Int32).toNatClampNeg (0 : Int32)) (0 : Int32).toNatClampNeg) + (1 : Int32))) ((0 : Int32) + (1 : Int32)).toNatClampNeg) + ((1 : Int32) * c261_many))) (((0 : Int32) + (1 : Int32)) + (1 : Int32)).toNatClampNeg) + (((1 : Int32) * c261_many) * c261_many))) (va_cpy jw_s0 a287 (0 : Int32).toNatClampNeg (0 : Int32).toNatClampNeg (4 : Int32).toNatClampNeg)) _
            unfold s299_X10_build_2
            have e22 := dz_l2
            have e23 := dz_sub (a := c248_pots) (b := (2 : Int32)) (by omega) (by omega)
            generalize (c248_pots - (2 : Int32)) = zz10 at *
            obtain ⟨k6, rfl⟩ : ∃ x, k5 = x + 1 := ⟨k5 - 1, by omega⟩
            show dz_T (s299_X10_build_3 fu c248_pots c261_many c267_total a268 a269 n269 (F299_X10_build fu c248_pots c261_many c267_total a268 a269 n269 k6).2.2 zz10 c284_fresh r1 (upd (upd (upd (upd a286 (0 : Int32).toNatClampNeg (0 : Int32)) ((0 : Int32) + (1 : Int32)).toNatClampNeg (((upd a286 (0 : Int32).toNatClampNeg (0 : Int32)) (0 : Int32).toNatClampNeg) + (1 : Int32))) (((0 : Int32) + (1 : Int32)) + (1 : Int32)).toNatClampNeg (((upd (upd a286 (0 : Int32).toNatClampNeg (0 : Int32)) ((0 : Int32) + (1 : Int32)).toNatClampNeg (((upd a286 (0 : Int32).toNatClampNeg (0 : Int32)) (0 : Int32).toNatClampNeg) + (1 : Int32))) ((0 : Int32) + (1 : Int32)).toNatClampNeg) + ((1 : Int32) * c261_many))) ((((0 : Int32) + (1 : Int32)) + (1 : Int32)) + (1 : Int32)).toNatClampNeg (((upd (upd (upd a286 (0 : Int32).toNatClampNeg (0 : Int32)) ((0 : Int32) + (1 : Int32)).toNatClampNeg (((upd a286 (0 : Int32).toNatClampNeg (0 : Int32)) (0 : Int32).toNatClampNeg) + (1 : Int32))) (((0 : Int32) + (1 : Int32)) + (1 : Int32)).toNatClampNeg (((upd (upd a286 (0 : Int32).toNatClampNeg (0 : Int32)) ((0 : Int32) + (1 : Int32)).toNatClampNeg (((upd a286 (0 : Int32).toNatClampNeg (0 : Int32)) (0 : Int32).toNatClampNeg) + (1 : Int32))) ((0 : Int32) + (1 : Int32)).toNatClampNeg) + ((1 : Int32) * c261_many))) (((0 : Int32) + (1 : Int32)) + (1 : Int32)).toNatClampNeg) + (((1 : Int32) * c261_many) * c261_many))) (va_cpy jw_s0 a287 (0 : Int32).toNatClampNeg (0 : Int32).toNatClampNeg (4 : Int32).toNatClampNeg)) _
            unfold s299_X10_build_3
            refine dz_Tlt (fun h24 => ?_) (fun h24 => ?_)
            · skip
              exfalso; omega
            · skip
              refine dz_Tb (t173_X10_fillFromNext_g43 fu hfu _ _ _ _ p2 p3 (by first | assumption | omega) (by first | assumption | omega) (dz_ptmk4 ((dz_upo (j := ((((0 : Int32) + (1 : Int32)) + (1 : Int32)) + (1 : Int32))) 0 (by omega)).trans ((dz_upo (j := (((0 : Int32) + (1 : Int32)) + (1 : Int32))) 0 (by omega)).trans ((dz_upo (j := ((0 : Int32) + (1 : Int32))) 0 (by omega)).trans ((dz_upk (j := (0 : Int32)) 0 (by omega)).trans (by omega))))) ((dz_upo (j := ((((0 : Int32) + (1 : Int32)) + (1 : Int32)) + (1 : Int32))) 1 (by omega)).trans ((dz_upo (j := (((0 : Int32) + (1 : Int32)) + (1 : Int32))) 1 (by omega)).trans ((dz_upk (j := ((0 : Int32) + (1 : Int32))) 1 (by omega)).trans (by omega)))) ((dz_upo (j := ((((0 : Int32) + (1 : Int32)) + (1 : Int32)) + (1 : Int32))) 2 (by omega)).trans ((dz_upk (j := (((0 : Int32) + (1 : Int32)) + (1 : Int32))) 2 (by omega)).trans (by omega))) ((dz_upk (j := ((((0 : Int32) + (1 : Int32)) + (1 : Int32)) + (1 : Int32))) 3 (by omega)).trans (by omega))) (qa1_0)) (fun r2 q => ?_)
              have qa2_0 := q
              have e25 := dz_lm1
              have e26 := dz_add (a := zz10) (b := (-(1 : Int32))) (by omega) (by omega)
              generalize (zz10 + (-(1 : Int32))) = zz11 at *
              obtain ⟨k7, rfl⟩ : ∃ x, k6 = x + 1 := ⟨k6 - 1, by omega⟩
              show dz_T (s299_X10_build_3 fu c248_pots c261_many c267_total a268 a269 n269 (F299_X10_build fu c248_pots c261_many c267_total a268 a269 n269 k7).2.2 zz11 c284_fresh r2 (upd (upd (upd (upd a286 (0 : Int32).toNatClampNeg (0 : Int32)) ((0 : Int32) + (1 : Int32)).toNatClampNeg (((upd a286 (0 : Int32).toNatClampNeg (0 : Int32)) (0 : Int32).toNatClampNeg) + (1 : Int32))) (((0 : Int32) + (1 : Int32)) + (1 : Int32)).toNatClampNeg (((upd (upd a286 (0 : Int32).toNatClampNeg (0 : Int32)) ((0 : Int32) + (1 : Int32)).toNatClampNeg (((upd a286 (0 : Int32).toNatClampNeg (0 : Int32)) (0 : Int32).toNatClampNeg) + (1 : Int32))) ((0 : Int32) + (1 : Int32)).toNatClampNeg) + ((1 : Int32) * c261_many))) ((((0 : Int32) + (1 : Int32)) + (1 : Int32)) + (1 : Int32)).toNatClampNeg (((upd (upd (upd a286 (0 : Int32).toNatClampNeg (0 : Int32)) ((0 : Int32) + (1 : Int32)).toNatClampNeg (((upd a286 (0 : Int32).toNatClampNeg (0 : Int32)) (0 : Int32).toNatClampNeg) + (1 : Int32))) (((0 : Int32) + (1 : Int32)) + (1 : Int32)).toNatClampNeg (((upd (upd a286 (0 : Int32).toNatClampNeg (0 : Int32)) ((0 : Int32) + (1 : Int32)).toNatClampNeg (((upd a286 (0 : Int32).toNatClampNeg (0 : Int32)) (0 : Int32).toNatClampNeg) + (1 : Int32))) ((0 : Int32) + (1 : Int32)).toNatClampNeg) + ((1 : Int32) * c261_many))) (((0 : Int32) + (1 : Int32)) + (1 : Int32)).toNatClampNeg) + (((1 : Int32) * c261_many) * c261_many))) (va_cpy jw_s0 a287 (0 : Int32).toNatClampNeg (0 : Int32).toNatClampNeg (4 : Int32).toNatClampNeg)) _
              unfold s299_X10_build_3
              refine dz_Tlt (fun h27 => ?_) (fun h27 => ?_)
              · skip
                exfalso; omega
              · skip
                refine dz_Tb (t173_X10_fillFromNext_g43 fu hfu _ _ _ _ p2 p3 (by first | assumption | omega) (by first | assumption | omega) (dz_ptmk4 ((dz_upo (j := ((((0 : Int32) + (1 : Int32)) + (1 : Int32)) + (1 : Int32))) 0 (by omega)).trans ((dz_upo (j := (((0 : Int32) + (1 : Int32)) + (1 : Int32))) 0 (by omega)).trans ((dz_upo (j := ((0 : Int32) + (1 : Int32))) 0 (by omega)).trans ((dz_upk (j := (0 : Int32)) 0 (by omega)).trans (by omega))))) ((dz_upo (j := ((((0 : Int32) + (1 : Int32)) + (1 : Int32)) + (1 : Int32))) 1 (by omega)).trans ((dz_upo (j := (((0 : Int32) + (1 : Int32)) + (1 : Int32))) 1 (by omega)).trans ((dz_upk (j := ((0 : Int32) + (1 : Int32))) 1 (by omega)).trans (by omega)))) ((dz_upo (j := ((((0 : Int32) + (1 : Int32)) + (1 : Int32)) + (1 : Int32))) 2 (by omega)).trans ((dz_upk (j := (((0 : Int32) + (1 : Int32)) + (1 : Int32))) 2 (by omega)).trans (by omega))) ((dz_upk (j := ((((0 : Int32) + (1 : Int32)) + (1 : Int32)) + (1 : Int32))) 3 (by omega)).trans (by omega))) (qa2_0)) (fun r3 q => ?_)
                have qa3_0 := q
                have e28 := dz_add (a := zz11) (b := (-(1 : Int32))) (by omega) (by omega)
                generalize (zz11 + (-(1 : Int32))) = zz12 at *
                obtain ⟨k8, rfl⟩ : ∃ x, k7 = x + 1 := ⟨k7 - 1, by omega⟩
                show dz_T (s299_X10_build_3 fu c248_pots c261_many c267_total a268 a269 n269 (F299_X10_build fu c248_pots c261_many c267_total a268 a269 n269 k8).2.2 zz12 c284_fresh r3 (upd (upd (upd (upd a286 (0 : Int32).toNatClampNeg (0 : Int32)) ((0 : Int32) + (1 : Int32)).toNatClampNeg (((upd a286 (0 : Int32).toNatClampNeg (0 : Int32)) (0 : Int32).toNatClampNeg) + (1 : Int32))) (((0 : Int32) + (1 : Int32)) + (1 : Int32)).toNatClampNeg (((upd (upd a286 (0 : Int32).toNatClampNeg (0 : Int32)) ((0 : Int32) + (1 : Int32)).toNatClampNeg (((upd a286 (0 : Int32).toNatClampNeg (0 : Int32)) (0 : Int32).toNatClampNeg) + (1 : Int32))) ((0 : Int32) + (1 : Int32)).toNatClampNeg) + ((1 : Int32) * c261_many))) ((((0 : Int32) + (1 : Int32)) + (1 : Int32)) + (1 : Int32)).toNatClampNeg (((upd (upd (upd a286 (0 : Int32).toNatClampNeg (0 : Int32)) ((0 : Int32) + (1 : Int32)).toNatClampNeg (((upd a286 (0 : Int32).toNatClampNeg (0 : Int32)) (0 : Int32).toNatClampNeg) + (1 : Int32))) (((0 : Int32) + (1 : Int32)) + (1 : Int32)).toNatClampNeg (((upd (upd a286 (0 : Int32).toNatClampNeg (0 : Int32)) ((0 : Int32) + (1 : Int32)).toNatClampNeg (((upd a286 (0 : Int32).toNatClampNeg (0 : Int32)) (0 : Int32).toNatClampNeg) + (1 : Int32))) ((0 : Int32) + (1 : Int32)).toNatClampNeg) + ((1 : Int32) * c261_many))) (((0 : Int32) + (1 : Int32)) + (1 : Int32)).toNatClampNeg) + (((1 : Int32) * c261_many) * c261_many))) (va_cpy jw_s0 a287 (0 : Int32).toNatClampNeg (0 : Int32).toNatClampNeg (4 : Int32).toNatClampNeg)) _
                unfold s299_X10_build_3
                refine dz_Tlt (fun h29 => ?_) (fun h29 => ?_)
                · skip
                  refine dz_Ts ?_
                  dsimp only
                  exact ⟨(by omega), (by omega), (qa3_0), (dz_rgu (dz_rgu (dz_rgu (dz_rgu (hr_a286) (by omega) (by omega)) (by omega) (by omega)) (by omega) (by omega)) (by omega) (by omega)), (dz_pms3)⟩
                · skip
                  exfalso; omega
        · skip
          exfalso; omega
theorem t299_X10_build_g43 (fu : Nat) (hfu : 1000000000000 ≤ fu) (c248_pots : Int32) (c261_many : Int32) (c267_total : Int32) (a268 : Nat → Int32) (a269 : Nat → Int32) (n269 : Nat) (c284_fresh : Int32) (a285 : Nat → Int32) (a286 : Nat → Int32) (a287 : Nat → Int32) (p0 : c248_pots.toInt ≤ 3) (p1 : 3 ≤ c248_pots.toInt) (p2 : c261_many.toInt ≤ 24) (p3 : 24 ≤ c261_many.toInt) (p4 : c267_total.toInt ≤ 13824) (p5 : 13824 ≤ c267_total.toInt) (p6 : ((n269 : Nat) : Int) ≤ 13824) (p7 : 1 ≤ ((n269 : Nat) : Int)) (p8 : c284_fresh.toInt ≤ 1) (p9 : 0 ≤ c284_fresh.toInt) (p10 : c267_total.toInt ≤ ((n269 : Nat) : Int)) (hr_a268 : dz_pt a268 [576, 24, 1]) (hr_a269 : dz_rg a269 n269 0 1023) (hr_a285 : dz_rg a285 601 0 16777215) (hr_a286 : dz_rg a286 5 0 14425) : dz_T (f299_X10_build fu c248_pots c261_many c267_total a268 a269 n269 c284_fresh a285 a286 a287) (fun r => r.1.toInt ≤ 1 ∧ 1 ≤ r.1.toInt ∧ dz_rg r.2.1 601 0 16777215 ∧ dz_rg r.2.2.1 5 0 14425 ∧ dz_pm r.2.2.2 3) :=
  t299_X10_build_E_g43 fu hfu c248_pots c261_many c267_total a268 a269 n269 c284_fresh a285 a286 a287 p0 p1 p2 p3 p4 p5 p6 p7 p8 p9 p10 hr_a268 hr_a269 hr_a285 hr_a286 fu hfu
set_option maxHeartbeats 1000000 in
theorem t299_X10_build_s (fu : Nat) (hfu : 1000000000000 ≤ fu) (κ : Nat) (hκ : κ < 14) (c248_pots : Int32) (c261_many : Int32) (c267_total : Int32) (a268 : Nat → Int32) (a269 : Nat → Int32) (n269 : Nat) (c284_fresh : Int32) (a285 : Nat → Int32) (a286 : Nat → Int32) (a287 : Nat → Int32) (p0 : c248_pots.toInt ≤ 4) (p1 : 0 ≤ c248_pots.toInt) (p2 : c261_many.toInt ≤ 24) (p3 : 0 ≤ c261_many.toInt) (p4 : c267_total.toInt ≤ 13824) (p5 : 1 ≤ c267_total.toInt) (p6 : ((n269 : Nat) : Int) ≤ 13824) (p7 : 1 ≤ ((n269 : Nat) : Int)) (p8 : c284_fresh.toInt ≤ 1) (p9 : 0 ≤ c284_fresh.toInt) (p10 : c267_total.toInt ≤ ((n269 : Nat) : Int)) (hr_a268 : dz_pt a268 (dz_kS κ)) (hr_a269 : dz_rg a269 n269 0 1023) (hr_a285 : dz_rg a285 601 0 16777215) (hr_a286 : dz_rg a286 5 0 14425) (o0 : c248_pots.toInt = ((dz_kp κ : Nat) : Int)) (o1 : c261_many.toInt = ((dz_kr κ : Nat) : Int)) (o2 : c267_total.toInt = ((dz_kt κ : Nat) : Int)) : dz_T (f299_X10_build fu c248_pots c261_many c267_total a268 a269 n269 c284_fresh a285 a286 a287) (fun r => r.1.toInt ≤ 1 ∧ 1 ≤ r.1.toInt ∧ dz_rg r.2.1 601 0 16777215 ∧ dz_rg r.2.2.1 5 0 14425 ∧ dz_pm r.2.2.2 (dz_kp κ)) := by
  rcases (show κ = 0 ∨ κ = 1 ∨ κ = 2 ∨ κ = 3 ∨ κ = 4 ∨ κ = 5 ∨ κ = 6 ∨ κ = 7 ∨ κ = 8 ∨ κ = 9 ∨ κ = 10 ∨ κ = 11 ∨ κ = 12 ∨ κ = 13 by omega) with rfl | rfl | rfl | rfl | rfl | rfl | rfl | rfl | rfl | rfl | rfl | rfl | rfl | rfl
  · skip
    have o0 : c248_pots.toInt = (0 : Int) := o0
    have o1 : c261_many.toInt = (2 : Int) := o1
    have o2 : c267_total.toInt = (1 : Int) := o2
    refine dz_Tw (t299_X10_build_g20 fu hfu c248_pots c261_many c267_total a268 a269 n269 c284_fresh a285 a286 a287 (by first | assumption | omega) (by first | assumption | omega) (by first | assumption | omega) (by first | assumption | omega) (by first | assumption | omega) (by first | assumption | omega) (by first | assumption | omega) (by first | assumption | omega) (by first | assumption | omega) (by first | assumption | omega) (by first | assumption | omega) (by first | exact hr_a269 | exact dz_rgm hr_a269 (by omega) (by omega) | exact dz_pmr hr_a269 (by decide) (by omega) (by omega) (by omega) | exact dz_ptr hr_a269 (by decide) (by decide) (by omega) | exact dz_ptr hr_a269 (by decide) (by decide) (by show _ ≤ 0; omega) | exact dz_rgs hr_a269 (by omega)) (by first | exact hr_a285 | exact dz_rgm hr_a285 (by omega) (by omega) | exact dz_pmr hr_a285 (by decide) (by omega) (by omega) (by omega) | exact dz_ptr hr_a285 (by decide) (by decide) (by omega) | exact dz_ptr hr_a285 (by decide) (by decide) (by show _ ≤ 0; omega) | exact dz_rgs hr_a285 (by omega)) (by first | exact hr_a286 | exact dz_rgm hr_a286 (by omega) (by omega) | exact dz_pmr hr_a286 (by decide) (by omega) (by omega) (by omega) | exact dz_ptr hr_a286 (by decide) (by decide) (by omega) | exact dz_ptr hr_a286 (by decide) (by decide) (by show _ ≤ 0; omega) | exact dz_rgs hr_a286 (by omega))) (fun r h => ?_)
    obtain ⟨g0, g1, g2, g3, g4⟩ := h
    exact ⟨(by first | assumption | omega), (by first | assumption | omega), (by first | exact g2 | exact dz_rgm g2 (by omega) (by omega)), (by first | exact g3 | exact dz_rgm g3 (by omega) (by omega)), (by first | exact g4 | exact dz_rgm g4 (by omega) (by omega))⟩
  · skip
    have o0 : c248_pots.toInt = (1 : Int) := o0
    have o1 : c261_many.toInt = (2 : Int) := o1
    have o2 : c267_total.toInt = (2 : Int) := o2
    refine dz_Tw (t299_X10_build_g21 fu hfu c248_pots c261_many c267_total a268 a269 n269 c284_fresh a285 a286 a287 (by first | assumption | omega) (by first | assumption | omega) (by first | assumption | omega) (by first | assumption | omega) (by first | assumption | omega) (by first | assumption | omega) (by first | assumption | omega) (by first | assumption | omega) (by first | assumption | omega) (by first | assumption | omega) (by first | assumption | omega) (by first | exact hr_a268 | exact dz_rgm hr_a268 (by omega) (by omega) | exact dz_pmr hr_a268 (by decide) (by omega) (by omega) (by omega) | exact dz_ptr hr_a268 (by decide) (by decide) (by omega) | exact dz_ptr hr_a268 (by decide) (by decide) (by show _ ≤ 1; omega) | exact dz_rgs hr_a268 (by omega)) (by first | exact hr_a269 | exact dz_rgm hr_a269 (by omega) (by omega) | exact dz_pmr hr_a269 (by decide) (by omega) (by omega) (by omega) | exact dz_ptr hr_a269 (by decide) (by decide) (by omega) | exact dz_ptr hr_a269 (by decide) (by decide) (by show _ ≤ 1; omega) | exact dz_rgs hr_a269 (by omega)) (by first | exact hr_a285 | exact dz_rgm hr_a285 (by omega) (by omega) | exact dz_pmr hr_a285 (by decide) (by omega) (by omega) (by omega) | exact dz_ptr hr_a285 (by decide) (by decide) (by omega) | exact dz_ptr hr_a285 (by decide) (by decide) (by show _ ≤ 1; omega) | exact dz_rgs hr_a285 (by omega)) (by first | exact hr_a286 | exact dz_rgm hr_a286 (by omega) (by omega) | exact dz_pmr hr_a286 (by decide) (by omega) (by omega) (by omega) | exact dz_ptr hr_a286 (by decide) (by decide) (by omega) | exact dz_ptr hr_a286 (by decide) (by decide) (by show _ ≤ 1; omega) | exact dz_rgs hr_a286 (by omega))) (fun r h => ?_)
    obtain ⟨g0, g1, g2, g3, g4⟩ := h
    exact ⟨(by first | assumption | omega), (by first | assumption | omega), (by first | exact g2 | exact dz_rgm g2 (by omega) (by omega)), (by first | exact g3 | exact dz_rgm g3 (by omega) (by omega)), (by first | exact g4 | exact dz_rgm g4 (by omega) (by omega))⟩
  · skip
    have o0 : c248_pots.toInt = (2 : Int) := o0
    have o1 : c261_many.toInt = (2 : Int) := o1
    have o2 : c267_total.toInt = (4 : Int) := o2
    refine dz_Tw (t299_X10_build_g22 fu hfu c248_pots c261_many c267_total a268 a269 n269 c284_fresh a285 a286 a287 (by first | assumption | omega) (by first | assumption | omega) (by first | assumption | omega) (by first | assumption | omega) (by first | assumption | omega) (by first | assumption | omega) (by first | assumption | omega) (by first | assumption | omega) (by first | assumption | omega) (by first | assumption | omega) (by first | assumption | omega) (by first | exact hr_a268 | exact dz_rgm hr_a268 (by omega) (by omega) | exact dz_pmr hr_a268 (by decide) (by omega) (by omega) (by omega) | exact dz_ptr hr_a268 (by decide) (by decide) (by omega) | exact dz_ptr hr_a268 (by decide) (by decide) (by show _ ≤ 2; omega) | exact dz_rgs hr_a268 (by omega)) (by first | exact hr_a269 | exact dz_rgm hr_a269 (by omega) (by omega) | exact dz_pmr hr_a269 (by decide) (by omega) (by omega) (by omega) | exact dz_ptr hr_a269 (by decide) (by decide) (by omega) | exact dz_ptr hr_a269 (by decide) (by decide) (by show _ ≤ 2; omega) | exact dz_rgs hr_a269 (by omega)) (by first | exact hr_a285 | exact dz_rgm hr_a285 (by omega) (by omega) | exact dz_pmr hr_a285 (by decide) (by omega) (by omega) (by omega) | exact dz_ptr hr_a285 (by decide) (by decide) (by omega) | exact dz_ptr hr_a285 (by decide) (by decide) (by show _ ≤ 2; omega) | exact dz_rgs hr_a285 (by omega)) (by first | exact hr_a286 | exact dz_rgm hr_a286 (by omega) (by omega) | exact dz_pmr hr_a286 (by decide) (by omega) (by omega) (by omega) | exact dz_ptr hr_a286 (by decide) (by decide) (by omega) | exact dz_ptr hr_a286 (by decide) (by decide) (by show _ ≤ 2; omega) | exact dz_rgs hr_a286 (by omega))) (fun r h => ?_)
    obtain ⟨g0, g1, g2, g3, g4⟩ := h
    exact ⟨(by first | assumption | omega), (by first | assumption | omega), (by first | exact g2 | exact dz_rgm g2 (by omega) (by omega)), (by first | exact g3 | exact dz_rgm g3 (by omega) (by omega)), (by first | exact g4 | exact dz_rgm g4 (by omega) (by omega))⟩
  · skip
    have o0 : c248_pots.toInt = (3 : Int) := o0
    have o1 : c261_many.toInt = (2 : Int) := o1
    have o2 : c267_total.toInt = (8 : Int) := o2
    refine dz_Tw (t299_X10_build_g23 fu hfu c248_pots c261_many c267_total a268 a269 n269 c284_fresh a285 a286 a287 (by first | assumption | omega) (by first | assumption | omega) (by first | assumption | omega) (by first | assumption | omega) (by first | assumption | omega) (by first | assumption | omega) (by first | assumption | omega) (by first | assumption | omega) (by first | assumption | omega) (by first | assumption | omega) (by first | assumption | omega) (by first | exact hr_a268 | exact dz_rgm hr_a268 (by omega) (by omega) | exact dz_pmr hr_a268 (by decide) (by omega) (by omega) (by omega) | exact dz_ptr hr_a268 (by decide) (by decide) (by omega) | exact dz_ptr hr_a268 (by decide) (by decide) (by show _ ≤ 3; omega) | exact dz_rgs hr_a268 (by omega)) (by first | exact hr_a269 | exact dz_rgm hr_a269 (by omega) (by omega) | exact dz_pmr hr_a269 (by decide) (by omega) (by omega) (by omega) | exact dz_ptr hr_a269 (by decide) (by decide) (by omega) | exact dz_ptr hr_a269 (by decide) (by decide) (by show _ ≤ 3; omega) | exact dz_rgs hr_a269 (by omega)) (by first | exact hr_a285 | exact dz_rgm hr_a285 (by omega) (by omega) | exact dz_pmr hr_a285 (by decide) (by omega) (by omega) (by omega) | exact dz_ptr hr_a285 (by decide) (by decide) (by omega) | exact dz_ptr hr_a285 (by decide) (by decide) (by show _ ≤ 3; omega) | exact dz_rgs hr_a285 (by omega)) (by first | exact hr_a286 | exact dz_rgm hr_a286 (by omega) (by omega) | exact dz_pmr hr_a286 (by decide) (by omega) (by omega) (by omega) | exact dz_ptr hr_a286 (by decide) (by decide) (by omega) | exact dz_ptr hr_a286 (by decide) (by decide) (by show _ ≤ 3; omega) | exact dz_rgs hr_a286 (by omega))) (fun r h => ?_)
    obtain ⟨g0, g1, g2, g3, g4⟩ := h
    exact ⟨(by first | assumption | omega), (by first | assumption | omega), (by first | exact g2 | exact dz_rgm g2 (by omega) (by omega)), (by first | exact g3 | exact dz_rgm g3 (by omega) (by omega)), (by first | exact g4 | exact dz_rgm g4 (by omega) (by omega))⟩
  · skip
    have o0 : c248_pots.toInt = (4 : Int) := o0
    have o1 : c261_many.toInt = (2 : Int) := o1
    have o2 : c267_total.toInt = (16 : Int) := o2
    refine dz_Tw (t299_X10_build_g24 fu hfu c248_pots c261_many c267_total a268 a269 n269 c284_fresh a285 a286 a287 (by first | assumption | omega) (by first | assumption | omega) (by first | assumption | omega) (by first | assumption | omega) (by first | assumption | omega) (by first | assumption | omega) (by first | assumption | omega) (by first | assumption | omega) (by first | assumption | omega) (by first | assumption | omega) (by first | assumption | omega) (by first | exact hr_a268 | exact dz_rgm hr_a268 (by omega) (by omega) | exact dz_pmr hr_a268 (by decide) (by omega) (by omega) (by omega) | exact dz_ptr hr_a268 (by decide) (by decide) (by omega) | exact dz_ptr hr_a268 (by decide) (by decide) (by show _ ≤ 4; omega) | exact dz_rgs hr_a268 (by omega)) (by first | exact hr_a269 | exact dz_rgm hr_a269 (by omega) (by omega) | exact dz_pmr hr_a269 (by decide) (by omega) (by omega) (by omega) | exact dz_ptr hr_a269 (by decide) (by decide) (by omega) | exact dz_ptr hr_a269 (by decide) (by decide) (by show _ ≤ 4; omega) | exact dz_rgs hr_a269 (by omega)) (by first | exact hr_a285 | exact dz_rgm hr_a285 (by omega) (by omega) | exact dz_pmr hr_a285 (by decide) (by omega) (by omega) (by omega) | exact dz_ptr hr_a285 (by decide) (by decide) (by omega) | exact dz_ptr hr_a285 (by decide) (by decide) (by show _ ≤ 4; omega) | exact dz_rgs hr_a285 (by omega)) (by first | exact hr_a286 | exact dz_rgm hr_a286 (by omega) (by omega) | exact dz_pmr hr_a286 (by decide) (by omega) (by omega) (by omega) | exact dz_ptr hr_a286 (by decide) (by decide) (by omega) | exact dz_ptr hr_a286 (by decide) (by decide) (by show _ ≤ 4; omega) | exact dz_rgs hr_a286 (by omega))) (fun r h => ?_)
    obtain ⟨g0, g1, g2, g3, g4⟩ := h
    exact ⟨(by first | assumption | omega), (by first | assumption | omega), (by first | exact g2 | exact dz_rgm g2 (by omega) (by omega)), (by first | exact g3 | exact dz_rgm g3 (by omega) (by omega)), (by first | exact g4 | exact dz_rgm g4 (by omega) (by omega))⟩
  · skip
    have o0 : c248_pots.toInt = (0 : Int) := o0
    have o1 : c261_many.toInt = (6 : Int) := o1
    have o2 : c267_total.toInt = (1 : Int) := o2
    refine dz_Tw (t299_X10_build_g30 fu hfu c248_pots c261_many c267_total a268 a269 n269 c284_fresh a285 a286 a287 (by first | assumption | omega) (by first | assumption | omega) (by first | assumption | omega) (by first | assumption | omega) (by first | assumption | omega) (by first | assumption | omega) (by first | assumption | omega) (by first | assumption | omega) (by first | assumption | omega) (by first | assumption | omega) (by first | assumption | omega) (by first | exact hr_a269 | exact dz_rgm hr_a269 (by omega) (by omega) | exact dz_pmr hr_a269 (by decide) (by omega) (by omega) (by omega) | exact dz_ptr hr_a269 (by decide) (by decide) (by omega) | exact dz_ptr hr_a269 (by decide) (by decide) (by show _ ≤ 0; omega) | exact dz_rgs hr_a269 (by omega)) (by first | exact hr_a285 | exact dz_rgm hr_a285 (by omega) (by omega) | exact dz_pmr hr_a285 (by decide) (by omega) (by omega) (by omega) | exact dz_ptr hr_a285 (by decide) (by decide) (by omega) | exact dz_ptr hr_a285 (by decide) (by decide) (by show _ ≤ 0; omega) | exact dz_rgs hr_a285 (by omega)) (by first | exact hr_a286 | exact dz_rgm hr_a286 (by omega) (by omega) | exact dz_pmr hr_a286 (by decide) (by omega) (by omega) (by omega) | exact dz_ptr hr_a286 (by decide) (by decide) (by omega) | exact dz_ptr hr_a286 (by decide) (by decide) (by show _ ≤ 0; omega) | exact dz_rgs hr_a286 (by omega))) (fun r h => ?_)
    obtain ⟨g0, g1, g2, g3, g4⟩ := h
    exact ⟨(by first | assumption | omega), (by first | assumption | omega), (by first | exact g2 | exact dz_rgm g2 (by omega) (by omega)), (by first | exact g3 | exact dz_rgm g3 (by omega) (by omega)), (by first | exact g4 | exact dz_rgm g4 (by omega) (by omega))⟩
  · skip
    have o0 : c248_pots.toInt = (1 : Int) := o0
    have o1 : c261_many.toInt = (6 : Int) := o1
    have o2 : c267_total.toInt = (6 : Int) := o2
    refine dz_Tw (t299_X10_build_g31 fu hfu c248_pots c261_many c267_total a268 a269 n269 c284_fresh a285 a286 a287 (by first | assumption | omega) (by first | assumption | omega) (by first | assumption | omega) (by first | assumption | omega) (by first | assumption | omega) (by first | assumption | omega) (by first | assumption | omega) (by first | assumption | omega) (by first | assumption | omega) (by first | assumption | omega) (by first | assumption | omega) (by first | exact hr_a268 | exact dz_rgm hr_a268 (by omega) (by omega) | exact dz_pmr hr_a268 (by decide) (by omega) (by omega) (by omega) | exact dz_ptr hr_a268 (by decide) (by decide) (by omega) | exact dz_ptr hr_a268 (by decide) (by decide) (by show _ ≤ 1; omega) | exact dz_rgs hr_a268 (by omega)) (by first | exact hr_a269 | exact dz_rgm hr_a269 (by omega) (by omega) | exact dz_pmr hr_a269 (by decide) (by omega) (by omega) (by omega) | exact dz_ptr hr_a269 (by decide) (by decide) (by omega) | exact dz_ptr hr_a269 (by decide) (by decide) (by show _ ≤ 1; omega) | exact dz_rgs hr_a269 (by omega)) (by first | exact hr_a285 | exact dz_rgm hr_a285 (by omega) (by omega) | exact dz_pmr hr_a285 (by decide) (by omega) (by omega) (by omega) | exact dz_ptr hr_a285 (by decide) (by decide) (by omega) | exact dz_ptr hr_a285 (by decide) (by decide) (by show _ ≤ 1; omega) | exact dz_rgs hr_a285 (by omega)) (by first | exact hr_a286 | exact dz_rgm hr_a286 (by omega) (by omega) | exact dz_pmr hr_a286 (by decide) (by omega) (by omega) (by omega) | exact dz_ptr hr_a286 (by decide) (by decide) (by omega) | exact dz_ptr hr_a286 (by decide) (by decide) (by show _ ≤ 1; omega) | exact dz_rgs hr_a286 (by omega))) (fun r h => ?_)
    obtain ⟨g0, g1, g2, g3, g4⟩ := h
    exact ⟨(by first | assumption | omega), (by first | assumption | omega), (by first | exact g2 | exact dz_rgm g2 (by omega) (by omega)), (by first | exact g3 | exact dz_rgm g3 (by omega) (by omega)), (by first | exact g4 | exact dz_rgm g4 (by omega) (by omega))⟩
  · skip
    have o0 : c248_pots.toInt = (2 : Int) := o0
    have o1 : c261_many.toInt = (6 : Int) := o1
    have o2 : c267_total.toInt = (36 : Int) := o2
    refine dz_Tw (t299_X10_build_g32 fu hfu c248_pots c261_many c267_total a268 a269 n269 c284_fresh a285 a286 a287 (by first | assumption | omega) (by first | assumption | omega) (by first | assumption | omega) (by first | assumption | omega) (by first | assumption | omega) (by first | assumption | omega) (by first | assumption | omega) (by first | assumption | omega) (by first | assumption | omega) (by first | assumption | omega) (by first | assumption | omega) (by first | exact hr_a268 | exact dz_rgm hr_a268 (by omega) (by omega) | exact dz_pmr hr_a268 (by decide) (by omega) (by omega) (by omega) | exact dz_ptr hr_a268 (by decide) (by decide) (by omega) | exact dz_ptr hr_a268 (by decide) (by decide) (by show _ ≤ 2; omega) | exact dz_rgs hr_a268 (by omega)) (by first | exact hr_a269 | exact dz_rgm hr_a269 (by omega) (by omega) | exact dz_pmr hr_a269 (by decide) (by omega) (by omega) (by omega) | exact dz_ptr hr_a269 (by decide) (by decide) (by omega) | exact dz_ptr hr_a269 (by decide) (by decide) (by show _ ≤ 2; omega) | exact dz_rgs hr_a269 (by omega)) (by first | exact hr_a285 | exact dz_rgm hr_a285 (by omega) (by omega) | exact dz_pmr hr_a285 (by decide) (by omega) (by omega) (by omega) | exact dz_ptr hr_a285 (by decide) (by decide) (by omega) | exact dz_ptr hr_a285 (by decide) (by decide) (by show _ ≤ 2; omega) | exact dz_rgs hr_a285 (by omega)) (by first | exact hr_a286 | exact dz_rgm hr_a286 (by omega) (by omega) | exact dz_pmr hr_a286 (by decide) (by omega) (by omega) (by omega) | exact dz_ptr hr_a286 (by decide) (by decide) (by omega) | exact dz_ptr hr_a286 (by decide) (by decide) (by show _ ≤ 2; omega) | exact dz_rgs hr_a286 (by omega))) (fun r h => ?_)
    obtain ⟨g0, g1, g2, g3, g4⟩ := h
    exact ⟨(by first | assumption | omega), (by first | assumption | omega), (by first | exact g2 | exact dz_rgm g2 (by omega) (by omega)), (by first | exact g3 | exact dz_rgm g3 (by omega) (by omega)), (by first | exact g4 | exact dz_rgm g4 (by omega) (by omega))⟩
  · skip
    have o0 : c248_pots.toInt = (3 : Int) := o0
    have o1 : c261_many.toInt = (6 : Int) := o1
    have o2 : c267_total.toInt = (216 : Int) := o2
    refine dz_Tw (t299_X10_build_g33 fu hfu c248_pots c261_many c267_total a268 a269 n269 c284_fresh a285 a286 a287 (by first | assumption | omega) (by first | assumption | omega) (by first | assumption | omega) (by first | assumption | omega) (by first | assumption | omega) (by first | assumption | omega) (by first | assumption | omega) (by first | assumption | omega) (by first | assumption | omega) (by first | assumption | omega) (by first | assumption | omega) (by first | exact hr_a268 | exact dz_rgm hr_a268 (by omega) (by omega) | exact dz_pmr hr_a268 (by decide) (by omega) (by omega) (by omega) | exact dz_ptr hr_a268 (by decide) (by decide) (by omega) | exact dz_ptr hr_a268 (by decide) (by decide) (by show _ ≤ 3; omega) | exact dz_rgs hr_a268 (by omega)) (by first | exact hr_a269 | exact dz_rgm hr_a269 (by omega) (by omega) | exact dz_pmr hr_a269 (by decide) (by omega) (by omega) (by omega) | exact dz_ptr hr_a269 (by decide) (by decide) (by omega) | exact dz_ptr hr_a269 (by decide) (by decide) (by show _ ≤ 3; omega) | exact dz_rgs hr_a269 (by omega)) (by first | exact hr_a285 | exact dz_rgm hr_a285 (by omega) (by omega) | exact dz_pmr hr_a285 (by decide) (by omega) (by omega) (by omega) | exact dz_ptr hr_a285 (by decide) (by decide) (by omega) | exact dz_ptr hr_a285 (by decide) (by decide) (by show _ ≤ 3; omega) | exact dz_rgs hr_a285 (by omega)) (by first | exact hr_a286 | exact dz_rgm hr_a286 (by omega) (by omega) | exact dz_pmr hr_a286 (by decide) (by omega) (by omega) (by omega) | exact dz_ptr hr_a286 (by decide) (by decide) (by omega) | exact dz_ptr hr_a286 (by decide) (by decide) (by show _ ≤ 3; omega) | exact dz_rgs hr_a286 (by omega))) (fun r h => ?_)
    obtain ⟨g0, g1, g2, g3, g4⟩ := h
    exact ⟨(by first | assumption | omega), (by first | assumption | omega), (by first | exact g2 | exact dz_rgm g2 (by omega) (by omega)), (by first | exact g3 | exact dz_rgm g3 (by omega) (by omega)), (by first | exact g4 | exact dz_rgm g4 (by omega) (by omega))⟩
  · skip
    have o0 : c248_pots.toInt = (4 : Int) := o0
    have o1 : c261_many.toInt = (6 : Int) := o1
    have o2 : c267_total.toInt = (1296 : Int) := o2
    refine dz_Tw (t299_X10_build_g34 fu hfu c248_pots c261_many c267_total a268 a269 n269 c284_fresh a285 a286 a287 (by first | assumption | omega) (by first | assumption | omega) (by first | assumption | omega) (by first | assumption | omega) (by first | assumption | omega) (by first | assumption | omega) (by first | assumption | omega) (by first | assumption | omega) (by first | assumption | omega) (by first | assumption | omega) (by first | assumption | omega) (by first | exact hr_a268 | exact dz_rgm hr_a268 (by omega) (by omega) | exact dz_pmr hr_a268 (by decide) (by omega) (by omega) (by omega) | exact dz_ptr hr_a268 (by decide) (by decide) (by omega) | exact dz_ptr hr_a268 (by decide) (by decide) (by show _ ≤ 4; omega) | exact dz_rgs hr_a268 (by omega)) (by first | exact hr_a269 | exact dz_rgm hr_a269 (by omega) (by omega) | exact dz_pmr hr_a269 (by decide) (by omega) (by omega) (by omega) | exact dz_ptr hr_a269 (by decide) (by decide) (by omega) | exact dz_ptr hr_a269 (by decide) (by decide) (by show _ ≤ 4; omega) | exact dz_rgs hr_a269 (by omega)) (by first | exact hr_a285 | exact dz_rgm hr_a285 (by omega) (by omega) | exact dz_pmr hr_a285 (by decide) (by omega) (by omega) (by omega) | exact dz_ptr hr_a285 (by decide) (by decide) (by omega) | exact dz_ptr hr_a285 (by decide) (by decide) (by show _ ≤ 4; omega) | exact dz_rgs hr_a285 (by omega)) (by first | exact hr_a286 | exact dz_rgm hr_a286 (by omega) (by omega) | exact dz_pmr hr_a286 (by decide) (by omega) (by omega) (by omega) | exact dz_ptr hr_a286 (by decide) (by decide) (by omega) | exact dz_ptr hr_a286 (by decide) (by decide) (by show _ ≤ 4; omega) | exact dz_rgs hr_a286 (by omega))) (fun r h => ?_)
    obtain ⟨g0, g1, g2, g3, g4⟩ := h
    exact ⟨(by first | assumption | omega), (by first | assumption | omega), (by first | exact g2 | exact dz_rgm g2 (by omega) (by omega)), (by first | exact g3 | exact dz_rgm g3 (by omega) (by omega)), (by first | exact g4 | exact dz_rgm g4 (by omega) (by omega))⟩
  · skip
    have o0 : c248_pots.toInt = (0 : Int) := o0
    have o1 : c261_many.toInt = (24 : Int) := o1
    have o2 : c267_total.toInt = (1 : Int) := o2
    refine dz_Tw (t299_X10_build_g40 fu hfu c248_pots c261_many c267_total a268 a269 n269 c284_fresh a285 a286 a287 (by first | assumption | omega) (by first | assumption | omega) (by first | assumption | omega) (by first | assumption | omega) (by first | assumption | omega) (by first | assumption | omega) (by first | assumption | omega) (by first | assumption | omega) (by first | assumption | omega) (by first | assumption | omega) (by first | assumption | omega) (by first | exact hr_a269 | exact dz_rgm hr_a269 (by omega) (by omega) | exact dz_pmr hr_a269 (by decide) (by omega) (by omega) (by omega) | exact dz_ptr hr_a269 (by decide) (by decide) (by omega) | exact dz_ptr hr_a269 (by decide) (by decide) (by show _ ≤ 0; omega) | exact dz_rgs hr_a269 (by omega)) (by first | exact hr_a285 | exact dz_rgm hr_a285 (by omega) (by omega) | exact dz_pmr hr_a285 (by decide) (by omega) (by omega) (by omega) | exact dz_ptr hr_a285 (by decide) (by decide) (by omega) | exact dz_ptr hr_a285 (by decide) (by decide) (by show _ ≤ 0; omega) | exact dz_rgs hr_a285 (by omega)) (by first | exact hr_a286 | exact dz_rgm hr_a286 (by omega) (by omega) | exact dz_pmr hr_a286 (by decide) (by omega) (by omega) (by omega) | exact dz_ptr hr_a286 (by decide) (by decide) (by omega) | exact dz_ptr hr_a286 (by decide) (by decide) (by show _ ≤ 0; omega) | exact dz_rgs hr_a286 (by omega))) (fun r h => ?_)
    obtain ⟨g0, g1, g2, g3, g4⟩ := h
    exact ⟨(by first | assumption | omega), (by first | assumption | omega), (by first | exact g2 | exact dz_rgm g2 (by omega) (by omega)), (by first | exact g3 | exact dz_rgm g3 (by omega) (by omega)), (by first | exact g4 | exact dz_rgm g4 (by omega) (by omega))⟩
  · skip
    have o0 : c248_pots.toInt = (1 : Int) := o0
    have o1 : c261_many.toInt = (24 : Int) := o1
    have o2 : c267_total.toInt = (24 : Int) := o2
    refine dz_Tw (t299_X10_build_g41 fu hfu c248_pots c261_many c267_total a268 a269 n269 c284_fresh a285 a286 a287 (by first | assumption | omega) (by first | assumption | omega) (by first | assumption | omega) (by first | assumption | omega) (by first | assumption | omega) (by first | assumption | omega) (by first | assumption | omega) (by first | assumption | omega) (by first | assumption | omega) (by first | assumption | omega) (by first | assumption | omega) (by first | exact hr_a268 | exact dz_rgm hr_a268 (by omega) (by omega) | exact dz_pmr hr_a268 (by decide) (by omega) (by omega) (by omega) | exact dz_ptr hr_a268 (by decide) (by decide) (by omega) | exact dz_ptr hr_a268 (by decide) (by decide) (by show _ ≤ 1; omega) | exact dz_rgs hr_a268 (by omega)) (by first | exact hr_a269 | exact dz_rgm hr_a269 (by omega) (by omega) | exact dz_pmr hr_a269 (by decide) (by omega) (by omega) (by omega) | exact dz_ptr hr_a269 (by decide) (by decide) (by omega) | exact dz_ptr hr_a269 (by decide) (by decide) (by show _ ≤ 1; omega) | exact dz_rgs hr_a269 (by omega)) (by first | exact hr_a285 | exact dz_rgm hr_a285 (by omega) (by omega) | exact dz_pmr hr_a285 (by decide) (by omega) (by omega) (by omega) | exact dz_ptr hr_a285 (by decide) (by decide) (by omega) | exact dz_ptr hr_a285 (by decide) (by decide) (by show _ ≤ 1; omega) | exact dz_rgs hr_a285 (by omega)) (by first | exact hr_a286 | exact dz_rgm hr_a286 (by omega) (by omega) | exact dz_pmr hr_a286 (by decide) (by omega) (by omega) (by omega) | exact dz_ptr hr_a286 (by decide) (by decide) (by omega) | exact dz_ptr hr_a286 (by decide) (by decide) (by show _ ≤ 1; omega) | exact dz_rgs hr_a286 (by omega))) (fun r h => ?_)
    obtain ⟨g0, g1, g2, g3, g4⟩ := h
    exact ⟨(by first | assumption | omega), (by first | assumption | omega), (by first | exact g2 | exact dz_rgm g2 (by omega) (by omega)), (by first | exact g3 | exact dz_rgm g3 (by omega) (by omega)), (by first | exact g4 | exact dz_rgm g4 (by omega) (by omega))⟩
  · skip
    have o0 : c248_pots.toInt = (2 : Int) := o0
    have o1 : c261_many.toInt = (24 : Int) := o1
    have o2 : c267_total.toInt = (576 : Int) := o2
    refine dz_Tw (t299_X10_build_g42 fu hfu c248_pots c261_many c267_total a268 a269 n269 c284_fresh a285 a286 a287 (by first | assumption | omega) (by first | assumption | omega) (by first | assumption | omega) (by first | assumption | omega) (by first | assumption | omega) (by first | assumption | omega) (by first | assumption | omega) (by first | assumption | omega) (by first | assumption | omega) (by first | assumption | omega) (by first | assumption | omega) (by first | exact hr_a268 | exact dz_rgm hr_a268 (by omega) (by omega) | exact dz_pmr hr_a268 (by decide) (by omega) (by omega) (by omega) | exact dz_ptr hr_a268 (by decide) (by decide) (by omega) | exact dz_ptr hr_a268 (by decide) (by decide) (by show _ ≤ 2; omega) | exact dz_rgs hr_a268 (by omega)) (by first | exact hr_a269 | exact dz_rgm hr_a269 (by omega) (by omega) | exact dz_pmr hr_a269 (by decide) (by omega) (by omega) (by omega) | exact dz_ptr hr_a269 (by decide) (by decide) (by omega) | exact dz_ptr hr_a269 (by decide) (by decide) (by show _ ≤ 2; omega) | exact dz_rgs hr_a269 (by omega)) (by first | exact hr_a285 | exact dz_rgm hr_a285 (by omega) (by omega) | exact dz_pmr hr_a285 (by decide) (by omega) (by omega) (by omega) | exact dz_ptr hr_a285 (by decide) (by decide) (by omega) | exact dz_ptr hr_a285 (by decide) (by decide) (by show _ ≤ 2; omega) | exact dz_rgs hr_a285 (by omega)) (by first | exact hr_a286 | exact dz_rgm hr_a286 (by omega) (by omega) | exact dz_pmr hr_a286 (by decide) (by omega) (by omega) (by omega) | exact dz_ptr hr_a286 (by decide) (by decide) (by omega) | exact dz_ptr hr_a286 (by decide) (by decide) (by show _ ≤ 2; omega) | exact dz_rgs hr_a286 (by omega))) (fun r h => ?_)
    obtain ⟨g0, g1, g2, g3, g4⟩ := h
    exact ⟨(by first | assumption | omega), (by first | assumption | omega), (by first | exact g2 | exact dz_rgm g2 (by omega) (by omega)), (by first | exact g3 | exact dz_rgm g3 (by omega) (by omega)), (by first | exact g4 | exact dz_rgm g4 (by omega) (by omega))⟩
  · skip
    have o0 : c248_pots.toInt = (3 : Int) := o0
    have o1 : c261_many.toInt = (24 : Int) := o1
    have o2 : c267_total.toInt = (13824 : Int) := o2
    refine dz_Tw (t299_X10_build_g43 fu hfu c248_pots c261_many c267_total a268 a269 n269 c284_fresh a285 a286 a287 (by first | assumption | omega) (by first | assumption | omega) (by first | assumption | omega) (by first | assumption | omega) (by first | assumption | omega) (by first | assumption | omega) (by first | assumption | omega) (by first | assumption | omega) (by first | assumption | omega) (by first | assumption | omega) (by first | assumption | omega) (by first | exact hr_a268 | exact dz_rgm hr_a268 (by omega) (by omega) | exact dz_pmr hr_a268 (by decide) (by omega) (by omega) (by omega) | exact dz_ptr hr_a268 (by decide) (by decide) (by omega) | exact dz_ptr hr_a268 (by decide) (by decide) (by show _ ≤ 3; omega) | exact dz_rgs hr_a268 (by omega)) (by first | exact hr_a269 | exact dz_rgm hr_a269 (by omega) (by omega) | exact dz_pmr hr_a269 (by decide) (by omega) (by omega) (by omega) | exact dz_ptr hr_a269 (by decide) (by decide) (by omega) | exact dz_ptr hr_a269 (by decide) (by decide) (by show _ ≤ 3; omega) | exact dz_rgs hr_a269 (by omega)) (by first | exact hr_a285 | exact dz_rgm hr_a285 (by omega) (by omega) | exact dz_pmr hr_a285 (by decide) (by omega) (by omega) (by omega) | exact dz_ptr hr_a285 (by decide) (by decide) (by omega) | exact dz_ptr hr_a285 (by decide) (by decide) (by show _ ≤ 3; omega) | exact dz_rgs hr_a285 (by omega)) (by first | exact hr_a286 | exact dz_rgm hr_a286 (by omega) (by omega) | exact dz_pmr hr_a286 (by decide) (by omega) (by omega) (by omega) | exact dz_ptr hr_a286 (by decide) (by decide) (by omega) | exact dz_ptr hr_a286 (by decide) (by decide) (by show _ ≤ 3; omega) | exact dz_rgs hr_a286 (by omega))) (fun r h => ?_)
    obtain ⟨g0, g1, g2, g3, g4⟩ := h
    exact ⟨(by first | assumption | omega), (by first | assumption | omega), (by first | exact g2 | exact dz_rgm g2 (by omega) (by omega)), (by first | exact g3 | exact dz_rgm g3 (by omega) (by omega)), (by first | exact g4 | exact dz_rgm g4 (by omega) (by omega))⟩
set_option maxHeartbeats 1000000 in
set_option maxRecDepth 10000 in
theorem t300_X11_numberAfter (fu : Nat) (hfu : 1000000000000 ≤ fu) (v0 : Int32) : dz_T (f300_X11_numberAfter fu v0) (fun r => 0 ≤ r.toInt) := by
  unfold f300_X11_numberAfter s300_X11_numberAfter_0
  have e1 := dz_l1103515245
  have e2 := dz_rng v0
  have e3 := dz_l12345
  have e4 := dz_rng (v0 * (1103515245 : Int32))
  have e5 := dz_l2147483647
  have e6 := dz_andr (a := ((v0 * (1103515245 : Int32)) + (12345 : Int32))) (b := (2147483647 : Int32)) (by omega)
  exact dz_Ts (by omega)
abbrev p301_X11_nthOf (fu : Nat) (k : Nat) : Prop :=
  (∀ (v0 : Int32) (v1 : Int32) (v2 : Int32) (v3 : Int32), v2.toInt ≤ 4 → 0 ≤ v2.toInt → v3.toInt ≤ 4 → 0 ≤ v3.toInt → v2.toInt ≤ v3.toInt → 0 + 0 + (4 - v3.toInt) * 12 + 6 ≤ ((k : Nat) : Int) → dz_T ((F301_X11_nthOf fu k).1 v0 v1 v2 v3) (fun r => r.toInt ≤ 3 ∧ 0 ≤ r.toInt))
set_option maxHeartbeats 1000000 in
set_option maxRecDepth 10000 in
theorem t301_X11_nthOf_h1 (fu : Nat) (hfu : 1000000000000 ≤ fu) (k : Nat) (ih : ∀ j9, j9 < k → p301_X11_nthOf fu j9) : ∀ (v0 : Int32) (v1 : Int32) (v2 : Int32) (v3 : Int32), v2.toInt ≤ 4 → 0 ≤ v2.toInt → v3.toInt ≤ 4 → 0 ≤ v3.toInt → v2.toInt ≤ v3.toInt → 0 + 0 + (4 - v3.toInt) * 12 + 6 ≤ ((k : Nat) : Int) → dz_T ((F301_X11_nthOf fu k).1 v0 v1 v2 v3) (fun r => r.toInt ≤ 3 ∧ 0 ≤ r.toInt) := by
  intro v0 v1 v2 v3 i0 i1 i2 i3 i4 hm
  obtain ⟨k0, rfl⟩ : ∃ x, k = x + 1 := ⟨k - 1, by omega⟩
  show dz_T (s301_X11_nthOf_1 fu (F301_X11_nthOf fu k0).2  v0 v1 v2 v3) _
  unfold s301_X11_nthOf_1
  have e1 := dz_l4
  refine dz_Tle (fun h2 => ?_) (fun h2 => ?_)
  · skip
    have e3 := dz_l0
    exact dz_Ts ⟨(by omega), (by omega)⟩
  · skip
    have e4 := dz_l1
    have e5 := dz_andr (a := (dz_ush v0 v3)) (b := (1 : Int32)) (by omega)
    have e6 := dz_l0
    refine dz_Teq (fun h7 => ?_) (fun h7 => ?_)
    · skip
      obtain ⟨k1, rfl⟩ : ∃ x, k0 = x + 1 := ⟨k0 - 1, by omega⟩
      show dz_T (s301_X11_nthOf_2 fu (F301_X11_nthOf fu k1).1 v0 v1 v2 v3) _
      unfold s301_X11_nthOf_2
      have e8 := dz_add (a := v3) (b := (1 : Int32)) (by omega) (by omega)
      exact (ih k1 (by omega)) v0 v1 v2 (v3 + (1 : Int32)) i0 i1 (by omega) (by omega) (by omega) (by omega)
    · skip
      refine dz_Teq (fun h9 => ?_) (fun h9 => ?_)
      · skip
        exact dz_Ts ⟨(by first | assumption | omega), i3⟩
      · skip
        obtain ⟨k2, rfl⟩ : ∃ x, k0 = x + 1 := ⟨k0 - 1, by omega⟩
        show dz_T (s301_X11_nthOf_2 fu (F301_X11_nthOf fu k2).1 v0 v1 (v2 + (1 : Int32)) v3) _
        unfold s301_X11_nthOf_2
        have e10 := dz_add (a := v2) (b := (1 : Int32)) (by omega) (by omega)
        have e11 := dz_add (a := v3) (b := (1 : Int32)) (by omega) (by omega)
        exact (ih k2 (by omega)) v0 v1 (v2 + (1 : Int32)) (v3 + (1 : Int32)) (by omega) (by omega) (by omega) (by omega) (by omega) (by omega)
theorem t301_X11_nthOf_I (fu : Nat) (hfu : 1000000000000 ≤ fu) (k : Nat) : p301_X11_nthOf fu k := by
  induction k using Nat.strongRecOn with
  | _ k ih => exact t301_X11_nthOf_h1 fu hfu k ih
set_option maxHeartbeats 1000000 in
set_option maxRecDepth 10000 in
theorem t301_X11_nthOf_E (fu : Nat) (hfu : 1000000000000 ≤ fu) (v0 : Int32) (v1 : Int32) (kv : Nat) (hkv : 1000000000000 ≤ kv) : dz_T (s301_X11_nthOf_0 fu (F301_X11_nthOf fu kv).1  v0 v1) (fun r => r.toInt ≤ 3 ∧ 0 ≤ r.toInt) := by
  unfold s301_X11_nthOf_0
  have e1 := dz_l0
  exact (t301_X11_nthOf_I fu hfu kv) v0 v1 (0 : Int32) (0 : Int32) (by omega) (by omega) (by omega) (by omega) (by omega) (by omega)
theorem t301_X11_nthOf (fu : Nat) (hfu : 1000000000000 ≤ fu) (v0 : Int32) (v1 : Int32) : dz_T (f301_X11_nthOf fu v0 v1) (fun r => r.toInt ≤ 3 ∧ 0 ≤ r.toInt) :=
  t301_X11_nthOf_E fu hfu v0 v1 fu hfu
abbrev p302_X4_firstOpen_s (fu : Nat) (κ : Nat) (c261_groups : Int32) (a264 : Nat → Int32) (k : Nat) : Prop :=
  (∀ (v1 : Int32) (v2 : Int32) (v4 : Int32), v1.toInt ≤ 16777215 → 0 ≤ v1.toInt → v2.toInt ≤ 3 → 0 ≤ v2.toInt → v4.toInt ≤ 4 → 0 ≤ v4.toInt → v4.toInt ≤ c261_groups.toInt → 0 + 0 + (4 - v4.toInt) * 10 + 5 ≤ ((k : Nat) : Int) → dz_T ((F302_X4_firstOpen fu c261_groups a264 k) v1 v2 v4) (fun r => r.toInt ≤ 16777215 ∧ 0 ≤ r.toInt))
set_option maxHeartbeats 1000000 in
set_option maxRecDepth 10000 in
theorem t302_X4_firstOpen_h1_s (fu : Nat) (hfu : 1000000000000 ≤ fu) (κ : Nat) (hκ : κ < 14) (c261_groups : Int32) (a264 : Nat → Int32) (p0 : c261_groups.toInt ≤ 4) (p1 : 0 ≤ c261_groups.toInt) (hr_a264 : dz_rg a264 16 0 16777215) (o0 : c261_groups.toInt = ((dz_kg κ : Nat) : Int)) (k : Nat) (ih : ∀ j9, j9 < k → p302_X4_firstOpen_s fu κ c261_groups a264 j9) : ∀ (v1 : Int32) (v2 : Int32) (v4 : Int32), v1.toInt ≤ 16777215 → 0 ≤ v1.toInt → v2.toInt ≤ 3 → 0 ≤ v2.toInt → v4.toInt ≤ 4 → 0 ≤ v4.toInt → v4.toInt ≤ c261_groups.toInt → 0 + 0 + (4 - v4.toInt) * 10 + 5 ≤ ((k : Nat) : Int) → dz_T ((F302_X4_firstOpen fu c261_groups a264 k) v1 v2 v4) (fun r => r.toInt ≤ 16777215 ∧ 0 ≤ r.toInt) := by
  intro v1 v2 v4 i0 i1 i2 i3 i4 i5 i6 hm
  obtain ⟨k0, rfl⟩ : ∃ x, k = x + 1 := ⟨k - 1, by omega⟩
  show dz_T (s302_X4_firstOpen_1 fu c261_groups a264 (F302_X4_firstOpen fu c261_groups a264 k0)  v1 v2 v4) _
  unfold s302_X4_firstOpen_1
  refine dz_Tle (fun h1 => ?_) (fun h1 => ?_)
  · skip
    have e2 := dz_l0
    exact dz_Ts ⟨(by omega), (by omega)⟩
  · skip
    refine dz_Tin (by omega) (by omega) ?_
    have e3 := dz_l4
    have e4 := dz_mulr (a := v2) (b := (4 : Int32)) 4 (by omega) (by omega) (by omega)
    have e5 := dz_rgat (dz_rs0) (i := v4) (by omega) (by omega)
    have e6 := dz_add (a := (v2 * (4 : Int32))) (b := (jw_s0 v4.toNatClampNeg)) (by omega) (by omega)
    refine dz_Tin (by omega) (by omega) ?_
    have e7 := dz_rgat (hr_a264) (i := ((v2 * (4 : Int32)) + (jw_s0 v4.toNatClampNeg))) (by omega) (by omega)
    have e8 := dz_andr (a := v1) (b := (a264 ((v2 * (4 : Int32)) + (jw_s0 v4.toNatClampNeg)).toNatClampNeg)) (by omega)
    have e9 := dz_andl (a := v1) (b := (a264 ((v2 * (4 : Int32)) + (jw_s0 v4.toNatClampNeg)).toNatClampNeg)) (by omega)
    have e10 := dz_l0
    refine dz_Teq (fun h11 => ?_) (fun h11 => ?_)
    · skip
      have e12 := dz_l1
      have e13 := dz_add (a := v4) (b := (1 : Int32)) (by omega) (by omega)
      exact (ih k0 (by omega)) v1 v2 (v4 + (1 : Int32)) i0 i1 i2 i3 (by omega) (by omega) (by omega) (by omega)
    · skip
      exact dz_Ts ⟨(by omega), (by omega)⟩
theorem t302_X4_firstOpen_I_s (fu : Nat) (hfu : 1000000000000 ≤ fu) (κ : Nat) (hκ : κ < 14) (c261_groups : Int32) (a264 : Nat → Int32) (p0 : c261_groups.toInt ≤ 4) (p1 : 0 ≤ c261_groups.toInt) (hr_a264 : dz_rg a264 16 0 16777215) (o0 : c261_groups.toInt = ((dz_kg κ : Nat) : Int)) (k : Nat) : p302_X4_firstOpen_s fu κ c261_groups a264 k := by
  induction k using Nat.strongRecOn with
  | _ k ih => exact t302_X4_firstOpen_h1_s fu hfu κ hκ c261_groups a264 p0 p1 hr_a264 o0 k ih
set_option maxHeartbeats 1000000 in
set_option maxRecDepth 10000 in
theorem t302_X4_firstOpen_E_s (fu : Nat) (hfu : 1000000000000 ≤ fu) (κ : Nat) (hκ : κ < 14) (c261_groups : Int32) (a264 : Nat → Int32) (v1 : Int32) (v2 : Int32) (p0 : c261_groups.toInt ≤ 4) (p1 : 0 ≤ c261_groups.toInt) (p2 : 0 ≤ v2.toInt) (p3 : v2.toInt ≤ 3) (p4 : 0 ≤ v1.toInt) (p5 : v1.toInt ≤ 16777215) (hr_a264 : dz_rg a264 16 0 16777215) (o0 : c261_groups.toInt = ((dz_kg κ : Nat) : Int)) (kv : Nat) (hkv : 1000000000000 ≤ kv) : dz_T (s302_X4_firstOpen_0 fu c261_groups a264 (F302_X4_firstOpen fu c261_groups a264 kv)  v1 v2) (fun r => r.toInt ≤ 16777215 ∧ 0 ≤ r.toInt) := by
  unfold s302_X4_firstOpen_0
  have e1 := dz_l0
  exact (t302_X4_firstOpen_I_s fu hfu κ hκ c261_groups a264 p0 p1 hr_a264 o0 kv) v1 v2 (0 : Int32) p5 p4 p3 p2 (by omega) (by omega) (by omega) (by omega)
theorem t302_X4_firstOpen_s (fu : Nat) (hfu : 1000000000000 ≤ fu) (κ : Nat) (hκ : κ < 14) (c261_groups : Int32) (a264 : Nat → Int32) (v1 : Int32) (v2 : Int32) (p0 : c261_groups.toInt ≤ 4) (p1 : 0 ≤ c261_groups.toInt) (p2 : 0 ≤ v2.toInt) (p3 : v2.toInt ≤ 3) (p4 : 0 ≤ v1.toInt) (p5 : v1.toInt ≤ 16777215) (hr_a264 : dz_rg a264 16 0 16777215) (o0 : c261_groups.toInt = ((dz_kg κ : Nat) : Int)) : dz_T (f302_X4_firstOpen fu c261_groups a264 v1 v2) (fun r => r.toInt ≤ 16777215 ∧ 0 ≤ r.toInt) :=
  t302_X4_firstOpen_E_s fu hfu κ hκ c261_groups a264 v1 v2 p0 p1 p2 p3 p4 p5 hr_a264 o0 fu hfu
