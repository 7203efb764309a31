set_option maxHeartbeats 1000000 in
set_option maxRecDepth 10000 in
theorem t174_X10_build_E_g43 (fu : Nat) (hfu : 1000000000000 ≤ fu) (c248_pots : Int32) (c261_many : Int32) (c267_total : Int32) (a268 : Nat → Int32) (a269 : Nat → Int32) (n269 : Nat) (a275 : Nat → Int32) (c280_fresh : Int32) (a281 : Nat → Int32) (a282 : Nat → Int32) (a283 : Nat → Int32) (p0 : c248_pots.toInt ≤ 3) (p1 : 3 ≤ c248_pots.toInt) (p2 : c261_many.toInt ≤ 24) (p3 : 24 ≤ c261_many.toInt) (p4 : c267_total.toInt ≤ 13824) (p5 : 13824 ≤ c267_total.toInt) (p6 : ((n269 : Nat) : Int) ≤ 13824) (p7 : 1 ≤ ((n269 : Nat) : Int)) (p8 : c280_fresh.toInt ≤ 1) (p9 : 0 ≤ c280_fresh.toInt) (p10 : c267_total.toInt ≤ ((n269 : Nat) : Int)) (hr_a268 : dz_pt a268 [576, 24, 1]) (hr_a269 : dz_rg a269 n269 0 1023) (hr_a275 : dz_pm a275 3) (hr_a281 : dz_rg a281 601 0 16777215) (hr_a282 : dz_rg a282 5 0 14425) (kv : Nat) (hkv : 1000000000000 ≤ kv) : dz_T (s174_X10_build_0 fu c248_pots c261_many c267_total a268 a269 n269 a275 (F174_X10_build fu c248_pots c261_many c267_total a268 a269 n269 a275 kv).1  c280_fresh a281 a282 a283) (fun r => r.1.toInt ≤ 1 ∧ 1 ≤ r.1.toInt ∧ dz_rg r.2.1 601 0 16777215 ∧ dz_rg r.2.2.1 5 0 14425 ∧ dz_pm r.2.2.2 3) := by
  unfold s174_X10_build_0
  have e1 := dz_l0
  refine dz_Tng (by omega) ?_
  refine dz_Tng (by omega) ?_
  have e2 := dz_l4
  refine dz_Tng (by omega) ?_
  have e3 := dz_tn (0 : Int32)
  have e4 := dz_tn (4 : Int32)
  refine dz_Tg (by omega) ?_
  refine dz_Tg (by omega) ?_
  refine dz_Tin (by omega) (by omega) ?_
  obtain ⟨k1, rfl⟩ : ∃ x, kv = x + 1 := ⟨kv - 1, by omega⟩
  show dz_T (s174_X10_build_1 fu c248_pots c261_many c267_total a268 a269 n269 a275 (F174_X10_build fu c248_pots c261_many c267_total a268 a269 n269 a275 k1).1 (F174_X10_build fu c248_pots c261_many c267_total a268 a269 n269 a275 k1).2.1 c248_pots (1 : Int32) (0 : Int32) c280_fresh a281 (upd a282 (0 : Int32).toNatClampNeg (0 : Int32)) (va_cpy a275 a283 (0 : Int32).toNatClampNeg (0 : Int32).toNatClampNeg (4 : Int32).toNatClampNeg)) _
  unfold s174_X10_build_1
  refine dz_Tle (fun h5 => ?_) (fun h5 => ?_)
  · skip
    exfalso; omega
  · skip
    refine dz_Tin (by omega) (by omega) ?_
    have e6 := dz_l1
    have e7 := dz_add (a := (0 : Int32)) (b := (1 : Int32)) (by omega) (by omega)
    refine dz_Tin (by omega) (by omega) ?_
    obtain ⟨k2, rfl⟩ : ∃ x, k1 = x + 1 := ⟨k1 - 1, by omega⟩
    show dz_T (s174_X10_build_1 fu c248_pots c261_many c267_total a268 a269 n269 a275 (F174_X10_build fu c248_pots c261_many c267_total a268 a269 n269 a275 k2).1 (F174_X10_build fu c248_pots c261_many c267_total a268 a269 n269 a275 k2).2.1 c248_pots ((1 : Int32) * c261_many) ((0 : Int32) + (1 : Int32)) c280_fresh a281 (upd (upd a282 (0 : Int32).toNatClampNeg (0 : Int32)) ((0 : Int32) + (1 : Int32)).toNatClampNeg (((upd a282 (0 : Int32).toNatClampNeg (0 : Int32)) (0 : Int32).toNatClampNeg) + (1 : Int32))) (va_cpy a275 a283 (0 : Int32).toNatClampNeg (0 : Int32).toNatClampNeg (4 : Int32).toNatClampNeg)) _
    unfold s174_X10_build_1
    refine dz_Tle (fun h8 => ?_) (fun h8 => ?_)
    · skip
      exfalso; omega
    · skip
      refine dz_Tin (by omega) (by omega) ?_
      have e9 := dz_add (a := ((0 : Int32) + (1 : Int32))) (b := (1 : Int32)) (by omega) (by omega)
      refine dz_Tin (by omega) (by omega) ?_
      obtain ⟨k3, rfl⟩ : ∃ x, k2 = x + 1 := ⟨k2 - 1, by omega⟩
      show dz_T (s174_X10_build_1 fu c248_pots c261_many c267_total a268 a269 n269 a275 (F174_X10_build fu c248_pots c261_many c267_total a268 a269 n269 a275 k3).1 (F174_X10_build fu c248_pots c261_many c267_total a268 a269 n269 a275 k3).2.1 c248_pots (((1 : Int32) * c261_many) * c261_many) (((0 : Int32) + (1 : Int32)) + (1 : Int32)) c280_fresh a281 (upd (upd (upd a282 (0 : Int32).toNatClampNeg (0 : Int32)) ((0 : Int32) + (1 : Int32)).toNatClampNeg (((upd a282 (0 : Int32).toNatClampNeg (0 : Int32)) (0 : Int32).toNatClampNeg) + (1 : Int32))) (((0 : Int32) + (1 : Int32)) + (1 : Int32)).toNatClampNeg (((upd (upd a282 (0 : Int32).toNatClampNeg (0 : Int32)) ((0 : Int32) + (1 : Int32)).toNatClampNeg (((upd a282 (0 : Int32).toNatClampNeg (0 : Int32)) (0 : Int32).toNatClampNeg) + (1 : Int32))) ((0 : Int32) + (1 : Int32)).toNatClampNeg) + ((1 : Int32) * c261_many))) (va_cpy a275 a283 (0 : Int32).toNatClampNeg (0 : Int32).toNatClampNeg (4 : Int32).toNatClampNeg)) _
      unfold s174_X10_build_1
      refine dz_Tle (fun h10 => ?_) (fun h10 => ?_)
      · skip
        exfalso; omega
      · skip
        refine dz_Tin (by omega) (by omega) ?_
        have e11 := dz_add (a := (((0 : Int32) + (1 : Int32)) + (1 : Int32))) (b := (1 : Int32)) (by omega) (by omega)
        refine dz_Tin (by omega) (by omega) ?_
        obtain ⟨k4, rfl⟩ : ∃ x, k3 = x + 1 := ⟨k3 - 1, by omega⟩
        show dz_T (s174_X10_build_1 fu c248_pots c261_many c267_total a268 a269 n269 a275 (F174_X10_build fu c248_pots c261_many c267_total a268 a269 n269 a275 k4).1 (F174_X10_build fu c248_pots c261_many c267_total a268 a269 n269 a275 k4).2.1 c248_pots ((((1 : Int32) * c261_many) * c261_many) * c261_many) ((((0 : Int32) + (1 : Int32)) + (1 : Int32)) + (1 : Int32)) c280_fresh a281 (upd (upd (upd (upd a282 (0 : Int32).toNatClampNeg (0 : Int32)) ((0 : Int32) + (1 : Int32)).toNatClampNeg (((upd a282 (0 : Int32).toNatClampNeg (0 : Int32)) (0 : Int32).toNatClampNeg) + (1 : Int32))) (((0 : Int32) + (1 : Int32)) + (1 : Int32)).toNatClampNeg (((upd (upd a282 (0 : Int32).toNatClampNeg (0 : Int32)) ((0 : Int32) + (1 : Int32)).toNatClampNeg (((upd a282 (0 : Int32).toNatClampNeg (0 : Int32)) (0 : Int32).toNatClampNeg) + (1 : Int32))) ((0 : Int32) + (1 : Int32)).toNatClampNeg) + ((1 : Int32) * c261_many))) ((((0 : Int32) + (1 : Int32)) + (1 : Int32)) + (1 : Int32)).toNatClampNeg (((upd (upd (upd a282 (0 : Int32).toNatClampNeg (0 : Int32)) ((0 : Int32) + (1 : Int32)).toNatClampNeg (((upd a282 (0 : Int32).toNatClampNeg (0 : Int32)) (0 : Int32).toNatClampNeg) + (1 : Int32))) (((0 : Int32) + (1 : Int32)) + (1 : Int32)).toNatClampNeg (((upd (upd a282 (0 : Int32).toNatClampNeg (0 : Int32)) ((0 : Int32) + (1 : Int32)).toNatClampNeg (((upd a282 (0 : Int32).toNatClampNeg (0 : Int32)) (0 : Int32).toNatClampNeg) + (1 : Int32))) ((0 : Int32) + (1 : Int32)).toNatClampNeg) + ((1 : Int32) * c261_many))) (((0 : Int32) + (1 : Int32)) + (1 : Int32)).toNatClampNeg) + (((1 : Int32) * c261_many) * c261_many))) (va_cpy a275 a283 (0 : Int32).toNatClampNeg (0 : Int32).toNatClampNeg (4 : Int32).toNatClampNeg)) _
        unfold s174_X10_build_1
        refine dz_Tle (fun h12 => ?_) (fun h12 => ?_)
        · skip
          refine dz_Tle (fun h13 => ?_) (fun h13 => ?_)
          · skip
            exfalso; omega
          · skip
            have e14 := dz_ups (a := a282) (v := (0 : Int32)) (i := (0 : Int32)) (j := (0 : Int32)) (by omega)
            have e15 := dz_add (a := ((upd a282 (0 : Int32).toNatClampNeg (0 : Int32)) (0 : Int32).toNatClampNeg)) (b := (1 : Int32)) (by omega) (by omega)
            have e16 := dz_ups (a := (upd a282 (0 : Int32).toNatClampNeg (0 : Int32))) (v := (((upd a282 (0 : Int32).toNatClampNeg (0 : Int32)) (0 : Int32).toNatClampNeg) + (1 : Int32))) (i := ((0 : Int32) + (1 : Int32))) (j := ((0 : Int32) + (1 : Int32))) (by omega)
            have e17 := dz_mull (a := (1 : Int32)) (b := c261_many) 1 (by omega) (by omega) (by omega)
            have e18 := dz_add (a := ((upd (upd a282 (0 : Int32).toNatClampNeg (0 : Int32)) ((0 : Int32) + (1 : Int32)).toNatClampNeg (((upd a282 (0 : Int32).toNatClampNeg (0 : Int32)) (0 : Int32).toNatClampNeg) + (1 : Int32))) ((0 : Int32) + (1 : Int32)).toNatClampNeg)) (b := ((1 : Int32) * c261_many)) (by omega) (by omega)
            have e19 := dz_ups (a := (upd (upd a282 (0 : Int32).toNatClampNeg (0 : Int32)) ((0 : Int32) + (1 : Int32)).toNatClampNeg (((upd a282 (0 : Int32).toNatClampNeg (0 : Int32)) (0 : Int32).toNatClampNeg) + (1 : Int32)))) (v := (((upd (upd a282 (0 : Int32).toNatClampNeg (0 : Int32)) ((0 : Int32) + (1 : Int32)).toNatClampNeg (((upd a282 (0 : Int32).toNatClampNeg (0 : Int32)) (0 : Int32).toNatClampNeg) + (1 : Int32))) ((0 : Int32) + (1 : Int32)).toNatClampNeg) + ((1 : Int32) * c261_many))) (i := (((0 : Int32) + (1 : Int32)) + (1 : Int32))) (j := (((0 : Int32) + (1 : Int32)) + (1 : Int32))) (by omega)
            have e20 := dz_mull (a := ((1 : Int32) * c261_many)) (b := c261_many) 24 (by omega) (by omega) (by omega)
            have e21 := dz_add (a := ((upd (upd (upd a282 (0 : Int32).toNatClampNeg (0 : Int32)) ((0 : Int32) + (1 : Int32)).toNatClampNeg (((upd a282 (0 : Int32).toNatClampNeg (0 : Int32)) (0 : Int32).toNatClampNeg) + (1 : Int32))) (((0 : Int32) + (1 : Int32)) + (1 : Int32)).toNatClampNeg (((upd (upd a282 (0 : Int32).toNatClampNeg (0 : Int32)) ((0 : Int32) + (1 : Int32)).toNatClampNeg (((upd a282 (0 : Int32).toNatClampNeg (0 : Int32)) (0 : Int32).toNatClampNeg) + (1 : Int32))) ((0 : Int32) + (1 : Int32)).toNatClampNeg) + ((1 : Int32) * c261_many))) (((0 : Int32) + (1 : Int32)) + (1 : Int32)).toNatClampNeg)) (b := (((1 : Int32) * c261_many) * c261_many)) (by omega) (by omega)
            refine dz_Tb (t172_X10_fillLast_g43 fu hfu _ _ _ _ _ _ _ _ _ p0 p1 p2 p3 p4 p5 p6 p7 p10 (hr_a268) (hr_a269) (dz_ptmk4 ((dz_upo (j := ((((0 : Int32) + (1 : Int32)) + (1 : Int32)) + (1 : Int32))) 0 (by omega)).trans ((dz_upo (j := (((0 : Int32) + (1 : Int32)) + (1 : Int32))) 0 (by omega)).trans ((dz_upo (j := ((0 : Int32) + (1 : Int32))) 0 (by omega)).trans ((dz_upk (j := (0 : Int32)) 0 (by omega)).trans (by omega))))) ((dz_upo (j := ((((0 : Int32) + (1 : Int32)) + (1 : Int32)) + (1 : Int32))) 1 (by omega)).trans ((dz_upo (j := (((0 : Int32) + (1 : Int32)) + (1 : Int32))) 1 (by omega)).trans ((dz_upk (j := ((0 : Int32) + (1 : Int32))) 1 (by omega)).trans (by omega)))) ((dz_upo (j := ((((0 : Int32) + (1 : Int32)) + (1 : Int32)) + (1 : Int32))) 2 (by omega)).trans ((dz_upk (j := (((0 : Int32) + (1 : Int32)) + (1 : Int32))) 2 (by omega)).trans (by omega))) ((dz_upk (j := ((((0 : Int32) + (1 : Int32)) + (1 : Int32)) + (1 : Int32))) 3 (by omega)).trans (by omega))) (dz_pmc (hr_a275) (by decide)) (hr_a281) (by first | assumption | omega)) (fun r1 q => ?_)
            have qa1_0 := q
            obtain ⟨k5, rfl⟩ : ∃ x, k4 = x + 1 := ⟨k4 - 1, by omega⟩
            show dz_T (s174_X10_build_2 fu c248_pots c261_many c267_total a268 a269 n269 a275 (F174_X10_build fu c248_pots c261_many c267_total a268 a269 n269 a275 k5).2.2 c248_pots c280_fresh r1 (upd (upd (upd (upd a282 (0 : Int32).toNatClampNeg (0 : Int32)) ((0 : Int32) + (1 : Int32)).toNatClampNeg (((upd a282 (0 : Int32).toNatClampNeg (0 : Int32)) (0 : Int32).toNatClampNeg) + (1 : Int32))) (((0 : Int32) + (1 : Int32)) + (1 : Int32)).toNatClampNeg (((upd (upd a282 (0 : Int32).toNatClampNeg (0 : Int32)) ((0 : Int32) + (1 : Int32)).toNatClampNeg (((upd a282 (0 : Int32).toNatClampNeg (0 : Int32)) (0 : Int32).toNatClampNeg) + (1 : Int32))) ((0 : Int32) + (1 : Int32)).toNatClampNeg) + ((1 : Int32) * c261_many))) ((((0 : Int32) + (1 : Int32)) + (1 : Int32)) + (1 : Int32)).toNatClampNeg (((upd (upd (upd a282 (0 : Int32).toNatClampNeg (0 : Int32)) ((0 : Int32) + (1 : Int32)).toNatClampNeg (((upd a282 (0 : Int32).toNatClampNeg (0 : Int32)) (0 : Int32).toNatClampNeg) + (1 : Int32))) (((0 : Int32) + (1 : Int32)) + (1 : Int32)).toNatClampNeg (((upd (upd a282 (0 : Int32).toNatClampNeg (0 : Int32)) ((0 : Int32) + (1 : Int32)).toNatClampNeg (((upd a282 (0 : Int32).toNatClampNeg (0 : Int32)) (0 : Int32).toNatClampNeg) + (1 : Int32))) ((0 : Int32) + (1 : Int32)).toNatClampNeg) + ((1 : Int32) * c261_many))) (((0 : Int32) + (1 : Int32)) + (1 : Int32)).toNatClampNeg) + (((1 : Int32) * c261_many) * c261_many))) (va_cpy a275 a283 (0 : Int32).toNatClampNeg (0 : Int32).toNatClampNeg (4 : Int32).toNatClampNeg)) _
            unfold s174_X10_build_2
            have e22 := dz_l2
            have e23 := dz_sub (a := c248_pots) (b := (2 : Int32)) (by omega) (by omega)
            generalize (c248_pots - (2 : Int32)) = zz10 at *
            obtain ⟨k6, rfl⟩ : ∃ x, k5 = x + 1 := ⟨k5 - 1, by omega⟩
            show dz_T (s174_X10_build_3 fu c248_pots c261_many c267_total a268 a269 n269 a275 (F174_X10_build fu c248_pots c261_many c267_total a268 a269 n269 a275 k6).2.2 zz10 c280_fresh r1 (upd (upd (upd (upd a282 (0 : Int32).toNatClampNeg (0 : Int32)) ((0 : Int32) + (1 : Int32)).toNatClampNeg (((upd a282 (0 : Int32).toNatClampNeg (0 : Int32)) (0 : Int32).toNatClampNeg) + (1 : Int32))) (((0 : Int32) + (1 : Int32)) + (1 : Int32)).toNatClampNeg (((upd (upd a282 (0 : Int32).toNatClampNeg (0 : Int32)) ((0 : Int32) + (1 : Int32)).toNatClampNeg (((upd a282 (0 : Int32).toNatClampNeg (0 : Int32)) (0 : Int32).toNatClampNeg) + (1 : Int32))) ((0 : Int32) + (1 : Int32)).toNatClampNeg) + ((1 : Int32) * c261_many))) ((((0 : Int32) + (1 : Int32)) + (1 : Int32)) + (1 : Int32)).toNatClampNeg (((upd (upd (upd a282 (0 : Int32).toNatClampNeg (0 : Int32)) ((0 : Int32) + (1 : Int32)).toNatClampNeg (((upd a282 (0 : Int32).toNatClampNeg (0 : Int32)) (0 : Int32).toNatClampNeg) + (1 : Int32))) (((0 : Int32) + (1 : Int32)) + (1 : Int32)).toNatClampNeg (((upd (upd a282 (0 : Int32).toNatClampNeg (0 : Int32)) ((0 : Int32) + (1 : Int32)).toNatClampNeg (((upd a282 (0 : Int32).toNatClampNeg (0 : Int32)) (0 : Int32).toNatClampNeg) + (1 : Int32))) ((0 : Int32) + (1 : Int32)).toNatClampNeg) + ((1 : Int32) * c261_many))) (((0 : Int32) + (1 : Int32)) + (1 : Int32)).toNatClampNeg) + (((1 : Int32) * c261_many) * c261_many))) (va_cpy a275 a283 (0 : Int32).toNatClampNeg (0 : Int32).toNatClampNeg (4 : Int32).toNatClampNeg)) _
            unfold s174_X10_build_3
            refine dz_Tlt (fun h24 => ?_) (fun h24 => ?_)
            · skip
              exfalso; omega
            · skip
              refine dz_Tb (t173_X10_fillFromNext_g43 fu hfu _ _ _ _ p2 p3 (by first | assumption | omega) (by first | assumption | omega) (dz_ptmk4 ((dz_upo (j := ((((0 : Int32) + (1 : Int32)) + (1 : Int32)) + (1 : Int32))) 0 (by omega)).trans ((dz_upo (j := (((0 : Int32) + (1 : Int32)) + (1 : Int32))) 0 (by omega)).trans ((dz_upo (j := ((0 : Int32) + (1 : Int32))) 0 (by omega)).trans ((dz_upk (j := (0 : Int32)) 0 (by omega)).trans (by omega))))) ((dz_upo (j := ((((0 : Int32) + (1 : Int32)) + (1 : Int32)) + (1 : Int32))) 1 (by omega)).trans ((dz_upo (j := (((0 : Int32) + (1 : Int32)) + (1 : Int32))) 1 (by omega)).trans ((dz_upk (j := ((0 : Int32) + (1 : Int32))) 1 (by omega)).trans (by omega)))) ((dz_upo (j := ((((0 : Int32) + (1 : Int32)) + (1 : Int32)) + (1 : Int32))) 2 (by omega)).trans ((dz_upk (j := (((0 : Int32) + (1 : Int32)) + (1 : Int32))) 2 (by omega)).trans (by omega))) ((dz_upk (j := ((((0 : Int32) + (1 : Int32)) + (1 : Int32)) + (1 : Int32))) 3 (by omega)).trans (by omega))) (qa1_0)) (fun r2 q => ?_)
              have qa2_0 := q
              have e25 := dz_lm1
              have e26 := dz_add (a := zz10) (b := (-(1 : Int32))) (by omega) (by omega)
              generalize (zz10 + (-(1 : Int32))) = zz11 at *
              obtain ⟨k7, rfl⟩ : ∃ x, k6 = x + 1 := ⟨k6 - 1, by omega⟩
              show dz_T (s174_X10_build_3 fu c248_pots c261_many c267_total a268 a269 n269 a275 (F174_X10_build fu c248_pots c261_many c267_total a268 a269 n269 a275 k7).2.2 zz11 c280_fresh r2 (upd (upd (upd (upd a282 (0 : Int32).toNatClampNeg (0 : Int32)) ((0 : Int32) + (1 : Int32)).toNatClampNeg (((upd a282 (0 : Int32).toNatClampNeg (0 : Int32)) (0 : Int32).toNatClampNeg) + (1 : Int32))) (((0 : Int32) + (1 : Int32)) + (1 : Int32)).toNatClampNeg (((upd (upd a282 (0 : Int32).toNatClampNeg (0 : Int32)) ((0 : Int32) + (1 : Int32)).toNatClampNeg (((upd a282 (0 : Int32).toNatClampNeg (0 : Int32)) (0 : Int32).toNatClampNeg) + (1 : Int32))) ((0 : Int32) + (1 : Int32)).toNatClampNeg) + ((1 : Int32) * c261_many))) ((((0 : Int32) + (1 : Int32)) + (1 : Int32)) + (1 : Int32)).toNatClampNeg (((upd (upd (upd a282 (0 : Int32).toNatClampNeg (0 : Int32)) ((0 : Int32) + (1 : Int32)).toNatClampNeg (((upd a282 (0 : Int32).toNatClampNeg (0 : Int32)) (0 : Int32).toNatClampNeg) + (1 : Int32))) (((0 : Int32) + (1 : Int32)) + (1 : Int32)).toNatClampNeg (((upd (upd a282 (0 : Int32).toNatClampNeg (0 : Int32)) ((0 : Int32) + (1 : Int32)).toNatClampNeg (((upd a282 (0 : Int32).toNatClampNeg (0 : Int32)) (0 : Int32).toNatClampNeg) + (1 : Int32))) ((0 : Int32) + (1 : Int32)).toNatClampNeg) + ((1 : Int32) * c261_many))) (((0 : Int32) + (1 : Int32)) + (1 : Int32)).toNatClampNeg) + (((1 : Int32) * c261_many) * c261_many))) (va_cpy a275 a283 (0 : Int32).toNatClampNeg (0 : Int32).toNatClampNeg (4 : Int32).toNatClampNeg)) _
              unfold s174_X10_build_3
              refine dz_Tlt (fun h27 => ?_) (fun h27 => ?_)
              · skip
                exfalso; omega
              · skip
                refine dz_Tb (t173_X10_fillFromNext_g43 fu hfu _ _ _ _ p2 p3 (by first | assumption | omega) (by first | assumption | omega) (dz_ptmk4 ((dz_upo (j := ((((0 : Int32) + (1 : Int32)) + (1 : Int32)) + (1 : Int32))) 0 (by omega)).trans ((dz_upo (j := (((0 : Int32) + (1 : Int32)) + (1 : Int32))) 0 (by omega)).trans ((dz_upo (j := ((0 : Int32) + (1 : Int32))) 0 (by omega)).trans ((dz_upk (j := (0 : Int32)) 0 (by omega)).trans (by omega))))) ((dz_upo (j := ((((0 : Int32) + (1 : Int32)) + (1 : Int32)) + (1 : Int32))) 1 (by omega)).trans ((dz_upo (j := (((0 : Int32) + (1 : Int32)) + (1 : Int32))) 1 (by omega)).trans ((dz_upk (j := ((0 : Int32) + (1 : Int32))) 1 (by omega)).trans (by omega)))) ((dz_upo (j := ((((0 : Int32) + (1 : Int32)) + (1 : Int32)) + (1 : Int32))) 2 (by omega)).trans ((dz_upk (j := (((0 : Int32) + (1 : Int32)) + (1 : Int32))) 2 (by omega)).trans (by omega))) ((dz_upk (j := ((((0 : Int32) + (1 : Int32)) + (1 : Int32)) + (1 : Int32))) 3 (by omega)).trans (by omega))) (qa2_0)) (fun r3 q => ?_)
                have qa3_0 := q
                have e28 := dz_add (a := zz11) (b := (-(1 : Int32))) (by omega) (by omega)
                generalize (zz11 + (-(1 : Int32))) = zz12 at *
                obtain ⟨k8, rfl⟩ : ∃ x, k7 = x + 1 := ⟨k7 - 1, by omega⟩
                show dz_T (s174_X10_build_3 fu c248_pots c261_many c267_total a268 a269 n269 a275 (F174_X10_build fu c248_pots c261_many c267_total a268 a269 n269 a275 k8).2.2 zz12 c280_fresh r3 (upd (upd (upd (upd a282 (0 : Int32).toNatClampNeg (0 : Int32)) ((0 : Int32) + (1 : Int32)).toNatClampNeg (((upd a282 (0 : Int32).toNatClampNeg (0 : Int32)) (0 : Int32).toNatClampNeg) + (1 : Int32))) (((0 : Int32) + (1 : Int32)) + (1 : Int32)).toNatClampNeg (((upd (upd a282 (0 : Int32).toNatClampNeg (0 : Int32)) ((0 : Int32) + (1 : Int32)).toNatClampNeg (((upd a282 (0 : Int32).toNatClampNeg (0 : Int32)) (0 : Int32).toNatClampNeg) + (1 : Int32))) ((0 : Int32) + (1 : Int32)).toNatClampNeg) + ((1 : Int32) * c261_many))) ((((0 : Int32) + (1 : Int32)) + (1 : Int32)) + (1 : Int32)).toNatClampNeg (((upd (upd (upd a282 (0 : Int32).toNatClampNeg (0 : Int32)) ((0 : Int32) + (1 : Int32)).toNatClampNeg (((upd a282 (0 : Int32).toNatClampNeg (0 : Int32)) (0 : Int32).toNatClampNeg) + (1 : Int32))) (((0 : Int32) + (1 : Int32)) + (1 : Int32)).toNatClampNeg (((upd (upd a282 (0 : Int32).toNatClampNeg (0 : Int32)) ((0 : Int32) + (1 : Int32)).toNatClampNeg (((upd a282 (0 : Int32).toNatClampNeg (0 : Int32)) (0 : Int32).toNatClampNeg) + (1 : Int32))) ((0 : Int32) + (1 : Int32)).toNatClampNeg) + ((1 : Int32) * c261_many))) (((0 : Int32) + (1 : Int32)) + (1 : Int32)).toNatClampNeg) + (((1 : Int32) * c261_many) * c261_many))) (va_cpy a275 a283 (0 : Int32).toNatClampNeg (0 : Int32).toNatClampNeg (4 : Int32).toNatClampNeg)) _
                unfold s174_X10_build_3
                refine dz_Tlt (fun h29 => ?_) (fun h29 => ?_)
                · skip
                  refine dz_Ts ?_
                  dsimp only
                  exact ⟨(by omega), (by omega), (qa3_0), (dz_rgu (dz_rgu (dz_rgu (dz_rgu (hr_a282) (by omega) (by omega)) (by omega) (by omega)) (by omega) (by omega)) (by omega) (by omega)), (dz_pmc (hr_a275) (by decide))⟩
                · skip
                  exfalso; omega
        · skip
          exfalso; omega
theorem t174_X10_build_g43 (fu : Nat) (hfu : 1000000000000 ≤ fu) (c248_pots : Int32) (c261_many : Int32) (c267_total : Int32) (a268 : Nat → Int32) (a269 : Nat → Int32) (n269 : Nat) (a275 : Nat → Int32) (c280_fresh : Int32) (a281 : Nat → Int32) (a282 : Nat → Int32) (a283 : Nat → Int32) (p0 : c248_pots.toInt ≤ 3) (p1 : 3 ≤ c248_pots.toInt) (p2 : c261_many.toInt ≤ 24) (p3 : 24 ≤ c261_many.toInt) (p4 : c267_total.toInt ≤ 13824) (p5 : 13824 ≤ c267_total.toInt) (p6 : ((n269 : Nat) : Int) ≤ 13824) (p7 : 1 ≤ ((n269 : Nat) : Int)) (p8 : c280_fresh.toInt ≤ 1) (p9 : 0 ≤ c280_fresh.toInt) (p10 : c267_total.toInt ≤ ((n269 : Nat) : Int)) (hr_a268 : dz_pt a268 [576, 24, 1]) (hr_a269 : dz_rg a269 n269 0 1023) (hr_a275 : dz_pm a275 3) (hr_a281 : dz_rg a281 601 0 16777215) (hr_a282 : dz_rg a282 5 0 14425) : dz_T (f174_X10_build fu c248_pots c261_many c267_total a268 a269 n269 a275 c280_fresh a281 a282 a283) (fun r => r.1.toInt ≤ 1 ∧ 1 ≤ r.1.toInt ∧ dz_rg r.2.1 601 0 16777215 ∧ dz_rg r.2.2.1 5 0 14425 ∧ dz_pm r.2.2.2 3) :=
  t174_X10_build_E_g43 fu hfu c248_pots c261_many c267_total a268 a269 n269 a275 c280_fresh a281 a282 a283 p0 p1 p2 p3 p4 p5 p6 p7 p8 p9 p10 hr_a268 hr_a269 hr_a275 hr_a281 hr_a282 fu hfu
set_option maxHeartbeats 1000000 in
theorem t174_X10_build_s (fu : Nat) (hfu : 1000000000000 ≤ fu) (κ : Nat) (hκ : κ < 14) (c248_pots : Int32) (c261_many : Int32) (c267_total : Int32) (a268 : Nat → Int32) (a269 : Nat → Int32) (n269 : Nat) (a275 : Nat → Int32) (c280_fresh : Int32) (a281 : Nat → Int32) (a282 : Nat → Int32) (a283 : Nat → Int32) (p0 : c248_pots.toInt ≤ 4) (p1 : 0 ≤ c248_pots.toInt) (p2 : c261_many.toInt ≤ 24) (p3 : 0 ≤ c261_many.toInt) (p4 : c267_total.toInt ≤ 13824) (p5 : 1 ≤ c267_total.toInt) (p6 : ((n269 : Nat) : Int) ≤ 13824) (p7 : 1 ≤ ((n269 : Nat) : Int)) (p8 : c280_fresh.toInt ≤ 1) (p9 : 0 ≤ c280_fresh.toInt) (p10 : c267_total.toInt ≤ ((n269 : Nat) : Int)) (hr_a268 : dz_pt a268 (dz_kS κ)) (hr_a269 : dz_rg a269 n269 0 1023) (hr_a275 : dz_pm a275 (dz_kp κ)) (hr_a281 : dz_rg a281 601 0 16777215) (hr_a282 : dz_rg a282 5 0 14425) (o0 : c248_pots.toInt = ((dz_kp κ : Nat) : Int)) (o1 : c261_many.toInt = ((dz_kr κ : Nat) : Int)) (o2 : c267_total.toInt = ((dz_kt κ : Nat) : Int)) : dz_T (f174_X10_build fu c248_pots c261_many c267_total a268 a269 n269 a275 c280_fresh a281 a282 a283) (fun r => r.1.toInt ≤ 1 ∧ 1 ≤ r.1.toInt ∧ dz_rg r.2.1 601 0 16777215 ∧ dz_rg r.2.2.1 5 0 14425 ∧ dz_pm r.2.2.2 (dz_kp κ)) := by
  rcases (show κ = 0 ∨ κ = 1 ∨ κ = 2 ∨ κ = 3 ∨ κ = 4 ∨ κ = 5 ∨ κ = 6 ∨ κ = 7 ∨ κ = 8 ∨ κ = 9 ∨ κ = 10 ∨ κ = 11 ∨ κ = 12 ∨ κ = 13 by omega) with rfl | rfl | rfl | rfl | rfl | rfl | rfl | rfl | rfl | rfl | rfl | rfl | rfl | rfl
  · skip
    have o0 : c248_pots.toInt = (0 : Int) := o0
    have o1 : c261_many.toInt = (2 : Int) := o1
    have o2 : c267_total.toInt = (1 : Int) := o2
    refine dz_Tw (t174_X10_build_g20 fu hfu c248_pots c261_many c267_total a268 a269 n269 a275 c280_fresh a281 a282 a283 (by first | assumption | omega) (by first | assumption | omega) (by first | assumption | omega) (by first | assumption | omega) (by first | assumption | omega) (by first | assumption | omega) (by first | assumption | omega) (by first | assumption | omega) (by first | assumption | omega) (by first | assumption | omega) (by first | assumption | omega) (by first | exact hr_a269 | exact dz_rgm hr_a269 (by omega) (by omega) | exact dz_pmr hr_a269 (by decide) (by omega) (by omega) (by omega) | exact dz_ptr hr_a269 (by decide) (by decide) (by omega) | exact dz_ptr hr_a269 (by decide) (by decide) (by show _ ≤ 0; omega) | exact dz_rgs hr_a269 (by omega)) (by first | exact hr_a275 | exact dz_rgm hr_a275 (by omega) (by omega) | exact dz_pmr hr_a275 (by decide) (by omega) (by omega) (by omega) | exact dz_ptr hr_a275 (by decide) (by decide) (by omega) | exact dz_ptr hr_a275 (by decide) (by decide) (by show _ ≤ 0; omega) | exact dz_rgs hr_a275 (by omega)) (by first | exact hr_a281 | exact dz_rgm hr_a281 (by omega) (by omega) | exact dz_pmr hr_a281 (by decide) (by omega) (by omega) (by omega) | exact dz_ptr hr_a281 (by decide) (by decide) (by omega) | exact dz_ptr hr_a281 (by decide) (by decide) (by show _ ≤ 0; omega) | exact dz_rgs hr_a281 (by omega)) (by first | exact hr_a282 | exact dz_rgm hr_a282 (by omega) (by omega) | exact dz_pmr hr_a282 (by decide) (by omega) (by omega) (by omega) | exact dz_ptr hr_a282 (by decide) (by decide) (by omega) | exact dz_ptr hr_a282 (by decide) (by decide) (by show _ ≤ 0; omega) | exact dz_rgs hr_a282 (by omega))) (fun r h => ?_)
    obtain ⟨g0, g1, g2, g3, g4⟩ := h
    exact ⟨(by first | assumption | omega), (by first | assumption | omega), (by first | exact g2 | exact dz_rgm g2 (by omega) (by omega)), (by first | exact g3 | exact dz_rgm g3 (by omega) (by omega)), (by first | exact g4 | exact dz_rgm g4 (by omega) (by omega))⟩
  · skip
    have o0 : c248_pots.toInt = (1 : Int) := o0
    have o1 : c261_many.toInt = (2 : Int) := o1
    have o2 : c267_total.toInt = (2 : Int) := o2
    refine dz_Tw (t174_X10_build_g21 fu hfu c248_pots c261_many c267_total a268 a269 n269 a275 c280_fresh a281 a282 a283 (by first | assumption | omega) (by first | assumption | omega) (by first | assumption | omega) (by first | assumption | omega) (by first | assumption | omega) (by first | assumption | omega) (by first | assumption | omega) (by first | assumption | omega) (by first | assumption | omega) (by first | assumption | omega) (by first | assumption | omega) (by first | exact hr_a268 | exact dz_rgm hr_a268 (by omega) (by omega) | exact dz_pmr hr_a268 (by decide) (by omega) (by omega) (by omega) | exact dz_ptr hr_a268 (by decide) (by decide) (by omega) | exact dz_ptr hr_a268 (by decide) (by decide) (by show _ ≤ 1; omega) | exact dz_rgs hr_a268 (by omega)) (by first | exact hr_a269 | exact dz_rgm hr_a269 (by omega) (by omega) | exact dz_pmr hr_a269 (by decide) (by omega) (by omega) (by omega) | exact dz_ptr hr_a269 (by decide) (by decide) (by omega) | exact dz_ptr hr_a269 (by decide) (by decide) (by show _ ≤ 1; omega) | exact dz_rgs hr_a269 (by omega)) (by first | exact hr_a275 | exact dz_rgm hr_a275 (by omega) (by omega) | exact dz_pmr hr_a275 (by decide) (by omega) (by omega) (by omega) | exact dz_ptr hr_a275 (by decide) (by decide) (by omega) | exact dz_ptr hr_a275 (by decide) (by decide) (by show _ ≤ 1; omega) | exact dz_rgs hr_a275 (by omega)) (by first | exact hr_a281 | exact dz_rgm hr_a281 (by omega) (by omega) | exact dz_pmr hr_a281 (by decide) (by omega) (by omega) (by omega) | exact dz_ptr hr_a281 (by decide) (by decide) (by omega) | exact dz_ptr hr_a281 (by decide) (by decide) (by show _ ≤ 1; omega) | exact dz_rgs hr_a281 (by omega)) (by first | exact hr_a282 | exact dz_rgm hr_a282 (by omega) (by omega) | exact dz_pmr hr_a282 (by decide) (by omega) (by omega) (by omega) | exact dz_ptr hr_a282 (by decide) (by decide) (by omega) | exact dz_ptr hr_a282 (by decide) (by decide) (by show _ ≤ 1; omega) | exact dz_rgs hr_a282 (by omega))) (fun r h => ?_)
    obtain ⟨g0, g1, g2, g3, g4⟩ := h
    exact ⟨(by first | assumption | omega), (by first | assumption | omega), (by first | exact g2 | exact dz_rgm g2 (by omega) (by omega)), (by first | exact g3 | exact dz_rgm g3 (by omega) (by omega)), (by first | exact g4 | exact dz_rgm g4 (by omega) (by omega))⟩
  · skip
    have o0 : c248_pots.toInt = (2 : Int) := o0
    have o1 : c261_many.toInt = (2 : Int) := o1
    have o2 : c267_total.toInt = (4 : Int) := o2
    refine dz_Tw (t174_X10_build_g22 fu hfu c248_pots c261_many c267_total a268 a269 n269 a275 c280_fresh a281 a282 a283 (by first | assumption | omega) (by first | assumption | omega) (by first | assumption | omega) (by first | assumption | omega) (by first | assumption | omega) (by first | assumption | omega) (by first | assumption | omega) (by first | assumption | omega) (by first | assumption | omega) (by first | assumption | omega) (by first | assumption | omega) (by first | exact hr_a268 | exact dz_rgm hr_a268 (by omega) (by omega) | exact dz_pmr hr_a268 (by decide) (by omega) (by omega) (by omega) | exact dz_ptr hr_a268 (by decide) (by decide) (by omega) | exact dz_ptr hr_a268 (by decide) (by decide) (by show _ ≤ 2; omega) | exact dz_rgs hr_a268 (by omega)) (by first | exact hr_a269 | exact dz_rgm hr_a269 (by omega) (by omega) | exact dz_pmr hr_a269 (by decide) (by omega) (by omega) (by omega) | exact dz_ptr hr_a269 (by decide) (by decide) (by omega) | exact dz_ptr hr_a269 (by decide) (by decide) (by show _ ≤ 2; omega) | exact dz_rgs hr_a269 (by omega)) (by first | exact hr_a275 | exact dz_rgm hr_a275 (by omega) (by omega) | exact dz_pmr hr_a275 (by decide) (by omega) (by omega) (by omega) | exact dz_ptr hr_a275 (by decide) (by decide) (by omega) | exact dz_ptr hr_a275 (by decide) (by decide) (by show _ ≤ 2; omega) | exact dz_rgs hr_a275 (by omega)) (by first | exact hr_a281 | exact dz_rgm hr_a281 (by omega) (by omega) | exact dz_pmr hr_a281 (by decide) (by omega) (by omega) (by omega) | exact dz_ptr hr_a281 (by decide) (by decide) (by omega) | exact dz_ptr hr_a281 (by decide) (by decide) (by show _ ≤ 2; omega) | exact dz_rgs hr_a281 (by omega)) (by first | exact hr_a282 | exact dz_rgm hr_a282 (by omega) (by omega) | exact dz_pmr hr_a282 (by decide) (by omega) (by omega) (by omega) | exact dz_ptr hr_a282 (by decide) (by decide) (by omega) | exact dz_ptr hr_a282 (by decide) (by decide) (by show _ ≤ 2; omega) | exact dz_rgs hr_a282 (by omega))) (fun r h => ?_)
    obtain ⟨g0, g1, g2, g3, g4⟩ := h
    exact ⟨(by first | assumption | omega), (by first | assumption | omega), (by first | exact g2 | exact dz_rgm g2 (by omega) (by omega)), (by first | exact g3 | exact dz_rgm g3 (by omega) (by omega)), (by first | exact g4 | exact dz_rgm g4 (by omega) (by omega))⟩
  · skip
    have o0 : c248_pots.toInt = (3 : Int) := o0
    have o1 : c261_many.toInt = (2 : Int) := o1
    have o2 : c267_total.toInt = (8 : Int) := o2
    refine dz_Tw (t174_X10_build_g23 fu hfu c248_pots c261_many c267_total a268 a269 n269 a275 c280_fresh a281 a282 a283 (by first | assumption | omega) (by first | assumption | omega) (by first | assumption | omega) (by first | assumption | omega) (by first | assumption | omega) (by first | assumption | omega) (by first | assumption | omega) (by first | assumption | omega) (by first | assumption | omega) (by first | assumption | omega) (by first | assumption | omega) (by first | exact hr_a268 | exact dz_rgm hr_a268 (by omega) (by omega) | exact dz_pmr hr_a268 (by decide) (by omega) (by omega) (by omega) | exact dz_ptr hr_a268 (by decide) (by decide) (by omega) | exact dz_ptr hr_a268 (by decide) (by decide) (by show _ ≤ 3; omega) | exact dz_rgs hr_a268 (by omega)) (by first | exact hr_a269 | exact dz_rgm hr_a269 (by omega) (by omega) | exact dz_pmr hr_a269 (by decide) (by omega) (by omega) (by omega) | exact dz_ptr hr_a269 (by decide) (by decide) (by omega) | exact dz_ptr hr_a269 (by decide) (by decide) (by show _ ≤ 3; omega) | exact dz_rgs hr_a269 (by omega)) (by first | exact hr_a275 | exact dz_rgm hr_a275 (by omega) (by omega) | exact dz_pmr hr_a275 (by decide) (by omega) (by omega) (by omega) | exact dz_ptr hr_a275 (by decide) (by decide) (by omega) | exact dz_ptr hr_a275 (by decide) (by decide) (by show _ ≤ 3; omega) | exact dz_rgs hr_a275 (by omega)) (by first | exact hr_a281 | exact dz_rgm hr_a281 (by omega) (by omega) | exact dz_pmr hr_a281 (by decide) (by omega) (by omega) (by omega) | exact dz_ptr hr_a281 (by decide) (by decide) (by omega) | exact dz_ptr hr_a281 (by decide) (by decide) (by show _ ≤ 3; omega) | exact dz_rgs hr_a281 (by omega)) (by first | exact hr_a282 | exact dz_rgm hr_a282 (by omega) (by omega) | exact dz_pmr hr_a282 (by decide) (by omega) (by omega) (by omega) | exact dz_ptr hr_a282 (by decide) (by decide) (by omega) | exact dz_ptr hr_a282 (by decide) (by decide) (by show _ ≤ 3; omega) | exact dz_rgs hr_a282 (by omega))) (fun r h => ?_)
    obtain ⟨g0, g1, g2, g3, g4⟩ := h
    exact ⟨(by first | assumption | omega), (by first | assumption | omega), (by first | exact g2 | exact dz_rgm g2 (by omega) (by omega)), (by first | exact g3 | exact dz_rgm g3 (by omega) (by omega)), (by first | exact g4 | exact dz_rgm g4 (by omega) (by omega))⟩
  · skip
    have o0 : c248_pots.toInt = (4 : Int) := o0
    have o1 : c261_many.toInt = (2 : Int) := o1
    have o2 : c267_total.toInt = (16 : Int) := o2
    refine dz_Tw (t174_X10_build_g24 fu hfu c248_pots c261_many c267_total a268 a269 n269 a275 c280_fresh a281 a282 a283 (by first | assumption | omega) (by first | assumption | omega) (by first | assumption | omega) (by first | assumption | omega) (by first | assumption | omega) (by first | assumption | omega) (by first | assumption | omega) (by first | assumption | omega) (by first | assumption | omega) (by first | assumption | omega) (by first | assumption | omega) (by first | exact hr_a268 | exact dz_rgm hr_a268 (by omega) (by omega) | exact dz_pmr hr_a268 (by decide) (by omega) (by omega) (by omega) | exact dz_ptr hr_a268 (by decide) (by decide) (by omega) | exact dz_ptr hr_a268 (by decide) (by decide) (by show _ ≤ 4; omega) | exact dz_rgs hr_a268 (by omega)) (by first | exact hr_a269 | exact dz_rgm hr_a269 (by omega) (by omega) | exact dz_pmr hr_a269 (by decide) (by omega) (by omega) (by omega) | exact dz_ptr hr_a269 (by decide) (by decide) (by omega) | exact dz_ptr hr_a269 (by decide) (by decide) (by show _ ≤ 4; omega) | exact dz_rgs hr_a269 (by omega)) (by first | exact hr_a275 | exact dz_rgm hr_a275 (by omega) (by omega) | exact dz_pmr hr_a275 (by decide) (by omega) (by omega) (by omega) | exact dz_ptr hr_a275 (by decide) (by decide) (by omega) | exact dz_ptr hr_a275 (by decide) (by decide) (by show _ ≤ 4; omega) | exact dz_rgs hr_a275 (by omega)) (by first | exact hr_a281 | exact dz_rgm hr_a281 (by omega) (by omega) | exact dz_pmr hr_a281 (by decide) (by omega) (by omega) (by omega) | exact dz_ptr hr_a281 (by decide) (by decide) (by omega) | exact dz_ptr hr_a281 (by decide) (by decide) (by show _ ≤ 4; omega) | exact dz_rgs hr_a281 (by omega)) (by first | exact hr_a282 | exact dz_rgm hr_a282 (by omega) (by omega) | exact dz_pmr hr_a282 (by decide) (by omega) (by omega) (by omega) | exact dz_ptr hr_a282 (by decide) (by decide) (by omega) | exact dz_ptr hr_a282 (by decide) (by decide) (by show _ ≤ 4; omega) | exact dz_rgs hr_a282 (by omega))) (fun r h => ?_)
    obtain ⟨g0, g1, g2, g3, g4⟩ := h
    exact ⟨(by first | assumption | omega), (by first | assumption | omega), (by first | exact g2 | exact dz_rgm g2 (by omega) (by omega)), (by first | exact g3 | exact dz_rgm g3 (by omega) (by omega)), (by first | exact g4 | exact dz_rgm g4 (by omega) (by omega))⟩
  · skip
    have o0 : c248_pots.toInt = (0 : Int) := o0
    have o1 : c261_many.toInt = (6 : Int) := o1
    have o2 : c267_total.toInt = (1 : Int) := o2
    refine dz_Tw (t174_X10_build_g30 fu hfu c248_pots c261_many c267_total a268 a269 n269 a275 c280_fresh a281 a282 a283 (by first | assumption | omega) (by first | assumption | omega) (by first | assumption | omega) (by first | assumption | omega) (by first | assumption | omega) (by first | assumption | omega) (by first | assumption | omega) (by first | assumption | omega) (by first | assumption | omega) (by first | assumption | omega) (by first | assumption | omega) (by first | exact hr_a269 | exact dz_rgm hr_a269 (by omega) (by omega) | exact dz_pmr hr_a269 (by decide) (by omega) (by omega) (by omega) | exact dz_ptr hr_a269 (by decide) (by decide) (by omega) | exact dz_ptr hr_a269 (by decide) (by decide) (by show _ ≤ 0; omega) | exact dz_rgs hr_a269 (by omega)) (by first | exact hr_a275 | exact dz_rgm hr_a275 (by omega) (by omega) | exact dz_pmr hr_a275 (by decide) (by omega) (by omega) (by omega) | exact dz_ptr hr_a275 (by decide) (by decide) (by omega) | exact dz_ptr hr_a275 (by decide) (by decide) (by show _ ≤ 0; omega) | exact dz_rgs hr_a275 (by omega)) (by first | exact hr_a281 | exact dz_rgm hr_a281 (by omega) (by omega) | exact dz_pmr hr_a281 (by decide) (by omega) (by omega) (by omega) | exact dz_ptr hr_a281 (by decide) (by decide) (by omega) | exact dz_ptr hr_a281 (by decide) (by decide) (by show _ ≤ 0; omega) | exact dz_rgs hr_a281 (by omega)) (by first | exact hr_a282 | exact dz_rgm hr_a282 (by omega) (by omega) | exact dz_pmr hr_a282 (by decide) (by omega) (by omega) (by omega) | exact dz_ptr hr_a282 (by decide) (by decide) (by omega) | exact dz_ptr hr_a282 (by decide) (by decide) (by show _ ≤ 0; omega) | exact dz_rgs hr_a282 (by omega))) (fun r h => ?_)
    obtain ⟨g0, g1, g2, g3, g4⟩ := h
    exact ⟨(by first | assumption | omega), (by first | assumption | omega), (by first | exact g2 | exact dz_rgm g2 (by omega) (by omega)), (by first | exact g3 | exact dz_rgm g3 (by omega) (by omega)), (by first | exact g4 | exact dz_rgm g4 (by omega) (by omega))⟩
  · skip
    have o0 : c248_pots.toInt = (1 : Int) := o0
    have o1 : c261_many.toInt = (6 : Int) := o1
    have o2 : c267_total.toInt = (6 : Int) := o2
    refine dz_Tw (t174_X10_build_g31 fu hfu c248_pots c261_many c267_total a268 a269 n269 a275 c280_fresh a281 a282 a283 (by first | assumption | omega) (by first | assumption | omega) (by first | assumption | omega) (by first | assumption | omega) (by first | assumption | omega) (by first | assumption | omega) (by first | assumption | omega) (by first | assumption | omega) (by first | assumption | omega) (by first | assumption | omega) (by first | assumption | omega) (by first | exact hr_a268 | exact dz_rgm hr_a268 (by omega) (by omega) | exact dz_pmr hr_a268 (by decide) (by omega) (by omega) (by omega) | exact dz_ptr hr_a268 (by decide) (by decide) (by omega) | exact dz_ptr hr_a268 (by decide) (by decide) (by show _ ≤ 1; omega) | exact dz_rgs hr_a268 (by omega)) (by first | exact hr_a269 | exact dz_rgm hr_a269 (by omega) (by omega) | exact dz_pmr hr_a269 (by decide) (by omega) (by omega) (by omega) | exact dz_ptr hr_a269 (by decide) (by decide) (by omega) | exact dz_ptr hr_a269 (by decide) (by decide) (by show _ ≤ 1; omega) | exact dz_rgs hr_a269 (by omega)) (by first | exact hr_a275 | exact dz_rgm hr_a275 (by omega) (by omega) | exact dz_pmr hr_a275 (by decide) (by omega) (by omega) (by omega) | exact dz_ptr hr_a275 (by decide) (by decide) (by omega) | exact dz_ptr hr_a275 (by decide) (by decide) (by show _ ≤ 1; omega) | exact dz_rgs hr_a275 (by omega)) (by first | exact hr_a281 | exact dz_rgm hr_a281 (by omega) (by omega) | exact dz_pmr hr_a281 (by decide) (by omega) (by omega) (by omega) | exact dz_ptr hr_a281 (by decide) (by decide) (by omega) | exact dz_ptr hr_a281 (by decide) (by decide) (by show _ ≤ 1; omega) | exact dz_rgs hr_a281 (by omega)) (by first | exact hr_a282 | exact dz_rgm hr_a282 (by omega) (by omega) | exact dz_pmr hr_a282 (by decide) (by omega) (by omega) (by omega) | exact dz_ptr hr_a282 (by decide) (by decide) (by omega) | exact dz_ptr hr_a282 (by decide) (by decide) (by show _ ≤ 1; omega) | exact dz_rgs hr_a282 (by omega))) (fun r h => ?_)
    obtain ⟨g0, g1, g2, g3, g4⟩ := h
    exact ⟨(by first | assumption | omega), (by first | assumption | omega), (by first | exact g2 | exact dz_rgm g2 (by omega) (by omega)), (by first | exact g3 | exact dz_rgm g3 (by omega) (by omega)), (by first | exact g4 | exact dz_rgm g4 (by omega) (by omega))⟩
  · skip
    have o0 : c248_pots.toInt = (2 : Int) := o0
    have o1 : c261_many.toInt = (6 : Int) := o1
    have o2 : c267_total.toInt = (36 : Int) := o2
    refine dz_Tw (t174_X10_build_g32 fu hfu c248_pots c261_many c267_total a268 a269 n269 a275 c280_fresh a281 a282 a283 (by first | assumption | omega) (by first | assumption | omega) (by first | assumption | omega) (by first | assumption | omega) (by first | assumption | omega) (by first | assumption | omega) (by first | assumption | omega) (by first | assumption | omega) (by first | assumption | omega) (by first | assumption | omega) (by first | assumption | omega) (by first | exact hr_a268 | exact dz_rgm hr_a268 (by omega) (by omega) | exact dz_pmr hr_a268 (by decide) (by omega) (by omega) (by omega) | exact dz_ptr hr_a268 (by decide) (by decide) (by omega) | exact dz_ptr hr_a268 (by decide) (by decide) (by show _ ≤ 2; omega) | exact dz_rgs hr_a268 (by omega)) (by first | exact hr_a269 | exact dz_rgm hr_a269 (by omega) (by omega) | exact dz_pmr hr_a269 (by decide) (by omega) (by omega) (by omega) | exact dz_ptr hr_a269 (by decide) (by decide) (by omega) | exact dz_ptr hr_a269 (by decide) (by decide) (by show _ ≤ 2; omega) | exact dz_rgs hr_a269 (by omega)) (by first | exact hr_a275 | exact dz_rgm hr_a275 (by omega) (by omega) | exact dz_pmr hr_a275 (by decide) (by omega) (by omega) (by omega) | exact dz_ptr hr_a275 (by decide) (by decide) (by omega) | exact dz_ptr hr_a275 (by decide) (by decide) (by show _ ≤ 2; omega) | exact dz_rgs hr_a275 (by omega)) (by first | exact hr_a281 | exact dz_rgm hr_a281 (by omega) (by omega) | exact dz_pmr hr_a281 (by decide) (by omega) (by omega) (by omega) | exact dz_ptr hr_a281 (by decide) (by decide) (by omega) | exact dz_ptr hr_a281 (by decide) (by decide) (by show _ ≤ 2; omega) | exact dz_rgs hr_a281 (by omega)) (by first | exact hr_a282 | exact dz_rgm hr_a282 (by omega) (by omega) | exact dz_pmr hr_a282 (by decide) (by omega) (by omega) (by omega) | exact dz_ptr hr_a282 (by decide) (by decide) (by omega) | exact dz_ptr hr_a282 (by decide) (by decide) (by show _ ≤ 2; omega) | exact dz_rgs hr_a282 (by omega))) (fun r h => ?_)
    obtain ⟨g0, g1, g2, g3, g4⟩ := h
    exact ⟨(by first | assumption | omega), (by first | assumption | omega), (by first | exact g2 | exact dz_rgm g2 (by omega) (by omega)), (by first | exact g3 | exact dz_rgm g3 (by omega) (by omega)), (by first | exact g4 | exact dz_rgm g4 (by omega) (by omega))⟩
  · skip
    have o0 : c248_pots.toInt = (3 : Int) := o0
    have o1 : c261_many.toInt = (6 : Int) := o1
    have o2 : c267_total.toInt = (216 : Int) := o2
    refine dz_Tw (t174_X10_build_g33 fu hfu c248_pots c261_many c267_total a268 a269 n269 a275 c280_fresh a281 a282 a283 (by first | assumption | omega) (by first | assumption | omega) (by first | assumption | omega) (by first | assumption | omega) (by first | assumption | omega) (by first | assumption | omega) (by first | assumption | omega) (by first | assumption | omega) (by first | assumption | omega) (by first | assumption | omega) (by first | assumption | omega) (by first | exact hr_a268 | exact dz_rgm hr_a268 (by omega) (by omega) | exact dz_pmr hr_a268 (by decide) (by omega) (by omega) (by omega) | exact dz_ptr hr_a268 (by decide) (by decide) (by omega) | exact dz_ptr hr_a268 (by decide) (by decide) (by show _ ≤ 3; omega) | exact dz_rgs hr_a268 (by omega)) (by first | exact hr_a269 | exact dz_rgm hr_a269 (by omega) (by omega) | exact dz_pmr hr_a269 (by decide) (by omega) (by omega) (by omega) | exact dz_ptr hr_a269 (by decide) (by decide) (by omega) | exact dz_ptr hr_a269 (by decide) (by decide) (by show _ ≤ 3; omega) | exact dz_rgs hr_a269 (by omega)) (by first | exact hr_a275 | exact dz_rgm hr_a275 (by omega) (by omega) | exact dz_pmr hr_a275 (by decide) (by omega) (by omega) (by omega) | exact dz_ptr hr_a275 (by decide) (by decide) (by omega) | exact dz_ptr hr_a275 (by decide) (by decide) (by show _ ≤ 3; omega) | exact dz_rgs hr_a275 (by omega)) (by first | exact hr_a281 | exact dz_rgm hr_a281 (by omega) (by omega) | exact dz_pmr hr_a281 (by decide) (by omega) (by omega) (by omega) | exact dz_ptr hr_a281 (by decide) (by decide) (by omega) | exact dz_ptr hr_a281 (by decide) (by decide) (by show _ ≤ 3; omega) | exact dz_rgs hr_a281 (by omega)) (by first | exact hr_a282 | exact dz_rgm hr_a282 (by omega) (by omega) | exact dz_pmr hr_a282 (by decide) (by omega) (by omega) (by omega) | exact dz_ptr hr_a282 (by decide) (by decide) (by omega) | exact dz_ptr hr_a282 (by decide) (by decide) (by show _ ≤ 3; omega) | exact dz_rgs hr_a282 (by omega))) (fun r h => ?_)
    obtain ⟨g0, g1, g2, g3, g4⟩ := h
    exact ⟨(by first | assumption | omega), (by first | assumption | omega), (by first | exact g2 | exact dz_rgm g2 (by omega) (by omega)), (by first | exact g3 | exact dz_rgm g3 (by omega) (by omega)), (by first | exact g4 | exact dz_rgm g4 (by omega) (by omega))⟩
  · skip
    have o0 : c248_pots.toInt = (4 : Int) := o0
    have o1 : c261_many.toInt = (6 : Int) := o1
    have o2 : c267_total.toInt = (1296 : Int) := o2
    refine dz_Tw (t174_X10_build_g34 fu hfu c248_pots c261_many c267_total a268 a269 n269 a275 c280_fresh a281 a282 a283 (by first | assumption | omega) (by first | assumption | omega) (by first | assumption | omega) (by first | assumption | omega) (by first | assumption | omega) (by first | assumption | omega) (by first | assumption | omega) (by first | assumption | omega) (by first | assumption | omega) (by first | assumption | omega) (by first | assumption | omega) (by first | exact hr_a268 | exact dz_rgm hr_a268 (by omega) (by omega) | exact dz_pmr hr_a268 (by decide) (by omega) (by omega) (by omega) | exact dz_ptr hr_a268 (by decide) (by decide) (by omega) | exact dz_ptr hr_a268 (by decide) (by decide) (by show _ ≤ 4; omega) | exact dz_rgs hr_a268 (by omega)) (by first | exact hr_a269 | exact dz_rgm hr_a269 (by omega) (by omega) | exact dz_pmr hr_a269 (by decide) (by omega) (by omega) (by omega) | exact dz_ptr hr_a269 (by decide) (by decide) (by omega) | exact dz_ptr hr_a269 (by decide) (by decide) (by show _ ≤ 4; omega) | exact dz_rgs hr_a269 (by omega)) (by first | exact hr_a275 | exact dz_rgm hr_a275 (by omega) (by omega) | exact dz_pmr hr_a275 (by decide) (by omega) (by omega) (by omega) | exact dz_ptr hr_a275 (by decide) (by decide) (by omega) | exact dz_ptr hr_a275 (by decide) (by decide) (by show _ ≤ 4; omega) | exact dz_rgs hr_a275 (by omega)) (by first | exact hr_a281 | exact dz_rgm hr_a281 (by omega) (by omega) | exact dz_pmr hr_a281 (by decide) (by omega) (by omega) (by omega) | exact dz_ptr hr_a281 (by decide) (by decide) (by omega) | exact dz_ptr hr_a281 (by decide) (by decide) (by show _ ≤ 4; omega) | exact dz_rgs hr_a281 (by omega)) (by first | exact hr_a282 | exact dz_rgm hr_a282 (by omega) (by omega) | exact dz_pmr hr_a282 (by decide) (by omega) (by omega) (by omega) | exact dz_ptr hr_a282 (by decide) (by decide) (by omega) | exact dz_ptr hr_a282 (by decide) (by decide) (by show _ ≤ 4; omega) | exact dz_rgs hr_a282 (by omega))) (fun r h => ?_)
    obtain ⟨g0, g1, g2, g3, g4⟩ := h
    exact ⟨(by first | assumption | omega), (by first | assumption | omega), (by first | exact g2 | exact dz_rgm g2 (by omega) (by omega)), (by first | exact g3 | exact dz_rgm g3 (by omega) (by omega)), (by first | exact g4 | exact dz_rgm g4 (by omega) (by omega))⟩
  · skip
    have o0 : c248_pots.toInt = (0 : Int) := o0
    have o1 : c261_many.toInt = (24 : Int) := o1
    have o2 : c267_total.toInt = (1 : Int) := o2
    refine dz_Tw (t174_X10_build_g40 fu hfu c248_pots c261_many c267_total a268 a269 n269 a275 c280_fresh a281 a282 a283 (by first | assumption | omega) (by first | assumption | omega) (by first | assumption | omega) (by first | assumption | omega) (by first | assumption | omega) (by first | assumption | omega) (by first | assumption | omega) (by first | assumption | omega) (by first | assumption | omega) (by first | assumption | omega) (by first | assumption | omega) (by first | exact hr_a269 | exact dz_rgm hr_a269 (by omega) (by omega) | exact dz_pmr hr_a269 (by decide) (by omega) (by omega) (by omega) | exact dz_ptr hr_a269 (by decide) (by decide) (by omega) | exact dz_ptr hr_a269 (by decide) (by decide) (by show _ ≤ 0; omega) | exact dz_rgs hr_a269 (by omega)) (by first | exact hr_a275 | exact dz_rgm hr_a275 (by omega) (by omega) | exact dz_pmr hr_a275 (by decide) (by omega) (by omega) (by omega) | exact dz_ptr hr_a275 (by decide) (by decide) (by omega) | exact dz_ptr hr_a275 (by decide) (by decide) (by show _ ≤ 0; omega) | exact dz_rgs hr_a275 (by omega)) (by first | exact hr_a281 | exact dz_rgm hr_a281 (by omega) (by omega) | exact dz_pmr hr_a281 (by decide) (by omega) (by omega) (by omega) | exact dz_ptr hr_a281 (by decide) (by decide) (by omega) | exact dz_ptr hr_a281 (by decide) (by decide) (by show _ ≤ 0; omega) | exact dz_rgs hr_a281 (by omega)) (by first | exact hr_a282 | exact dz_rgm hr_a282 (by omega) (by omega) | exact dz_pmr hr_a282 (by decide) (by omega) (by omega) (by omega) | exact dz_ptr hr_a282 (by decide) (by decide) (by omega) | exact dz_ptr hr_a282 (by decide) (by decide) (by show _ ≤ 0; omega) | exact dz_rgs hr_a282 (by omega))) (fun r h => ?_)
    obtain ⟨g0, g1, g2, g3, g4⟩ := h
    exact ⟨(by first | assumption | omega), (by first | assumption | omega), (by first | exact g2 | exact dz_rgm g2 (by omega) (by omega)), (by first | exact g3 | exact dz_rgm g3 (by omega) (by omega)), (by first | exact g4 | exact dz_rgm g4 (by omega) (by omega))⟩
  · skip
    have o0 : c248_pots.toInt = (1 : Int) := o0
    have o1 : c261_many.toInt = (24 : Int) := o1
    have o2 : c267_total.toInt = (24 : Int) := o2
    refine dz_Tw (t174_X10_build_g41 fu hfu c248_pots c261_many c267_total a268 a269 n269 a275 c280_fresh a281 a282 a283 (by first | assumption | omega) (by first | assumption | omega) (by first | assumption | omega) (by first | assumption | omega) (by first | assumption | omega) (by first | assumption | omega) (by first | assumption | omega) (by first | assumption | omega) (by first | assumption | omega) (by first | assumption | omega) (by first | assumption | omega) (by first | exact hr_a268 | exact dz_rgm hr_a268 (by omega) (by omega) | exact dz_pmr hr_a268 (by decide) (by omega) (by omega) (by omega) | exact dz_ptr hr_a268 (by decide) (by decide) (by omega) | exact dz_ptr hr_a268 (by decide) (by decide) (by show _ ≤ 1; omega) | exact dz_rgs hr_a268 (by omega)) (by first | exact hr_a269 | exact dz_rgm hr_a269 (by omega) (by omega) | exact dz_pmr hr_a269 (by decide) (by omega) (by omega) (by omega) | exact dz_ptr hr_a269 (by decide) (by decide) (by omega) | exact dz_ptr hr_a269 (by decide) (by decide) (by show _ ≤ 1; omega) | exact dz_rgs hr_a269 (by omega)) (by first | exact hr_a275 | exact dz_rgm hr_a275 (by omega) (by omega) | exact dz_pmr hr_a275 (by decide) (by omega) (by omega) (by omega) | exact dz_ptr hr_a275 (by decide) (by decide) (by omega) | exact dz_ptr hr_a275 (by decide) (by decide) (by show _ ≤ 1; omega) | exact dz_rgs hr_a275 (by omega)) (by first | exact hr_a281 | exact dz_rgm hr_a281 (by omega) (by omega) | exact dz_pmr hr_a281 (by decide) (by omega) (by omega) (by omega) | exact dz_ptr hr_a281 (by decide) (by decide) (by omega) | exact dz_ptr hr_a281 (by decide) (by decide) (by show _ ≤ 1; omega) | exact dz_rgs hr_a281 (by omega)) (by first | exact hr_a282 | exact dz_rgm hr_a282 (by omega) (by omega) | exact dz_pmr hr_a282 (by decide) (by omega) (by omega) (by omega) | exact dz_ptr hr_a282 (by decide) (by decide) (by omega) | exact dz_ptr hr_a282 (by decide) (by decide) (by show _ ≤ 1; omega) | exact dz_rgs hr_a282 (by omega))) (fun r h => ?_)
    obtain ⟨g0, g1, g2, g3, g4⟩ := h
    exact ⟨(by first | assumption | omega), (by first | assumption | omega), (by first | exact g2 | exact dz_rgm g2 (by omega) (by omega)), (by first | exact g3 | exact dz_rgm g3 (by omega) (by omega)), (by first | exact g4 | exact dz_rgm g4 (by omega) (by omega))⟩
  · skip
    have o0 : c248_pots.toInt = (2 : Int) := o0
    have o1 : c261_many.toInt = (24 : Int) := o1
    have o2 : c267_total.toInt = (576 : Int) := o2
    refine dz_Tw (t174_X10_build_g42 fu hfu c248_pots c261_many c267_total a268 a269 n269 a275 c280_fresh a281 a282 a283 (by first | assumption | omega) (by first | assumption | omega) (by first | assumption | omega) (by first | assumption | omega) (by first | assumption | omega) (by first | assumption | omega) (by first | assumption | omega) (by first | assumption | omega) (by first | assumption | omega) (by first | assumption | omega) (by first | assumption | omega) (by first | exact hr_a268 | exact dz_rgm hr_a268 (by omega) (by omega) | exact dz_pmr hr_a268 (by decide) (by omega) (by omega) (by omega) | exact dz_ptr hr_a268 (by decide) (by decide) (by omega) | exact dz_ptr hr_a268 (by decide) (by decide) (by show _ ≤ 2; omega) | exact dz_rgs hr_a268 (by omega)) (by first | exact hr_a269 | exact dz_rgm hr_a269 (by omega) (by omega) | exact dz_pmr hr_a269 (by decide) (by omega) (by omega) (by omega) | exact dz_ptr hr_a269 (by decide) (by decide) (by omega) | exact dz_ptr hr_a269 (by decide) (by decide) (by show _ ≤ 2; omega) | exact dz_rgs hr_a269 (by omega)) (by first | exact hr_a275 | exact dz_rgm hr_a275 (by omega) (by omega) | exact dz_pmr hr_a275 (by decide) (by omega) (by omega) (by omega) | exact dz_ptr hr_a275 (by decide) (by decide) (by omega) | exact dz_ptr hr_a275 (by decide) (by decide) (by show _ ≤ 2; omega) | exact dz_rgs hr_a275 (by omega)) (by first | exact hr_a281 | exact dz_rgm hr_a281 (by omega) (by omega) | exact dz_pmr hr_a281 (by decide) (by omega) (by omega) (by omega) | exact dz_ptr hr_a281 (by decide) (by decide) (by omega) | exact dz_ptr hr_a281 (by decide) (by decide) (by show _ ≤ 2; omega) | exact dz_rgs hr_a281 (by omega)) (by first | exact hr_a282 | exact dz_rgm hr_a282 (by omega) (by omega) | exact dz_pmr hr_a282 (by decide) (by omega) (by omega) (by omega) | exact dz_ptr hr_a282 (by decide) (by decide) (by omega) | exact dz_ptr hr_a282 (by decide) (by decide) (by show _ ≤ 2; omega) | exact dz_rgs hr_a282 (by omega))) (fun r h => ?_)
    obtain ⟨g0, g1, g2, g3, g4⟩ := h
    exact ⟨(by first | assumption | omega), (by first | assumption | omega), (by first | exact g2 | exact dz_rgm g2 (by omega) (by omega)), (by first | exact g3 | exact dz_rgm g3 (by omega) (by omega)), (by first | exact g4 | exact dz_rgm g4 (by omega) (by omega))⟩
  · skip
    have o0 : c248_pots.toInt = (3 : Int) := o0
    have o1 : c261_many.toInt = (24 : Int) := o1
    have o2 : c267_total.toInt = (13824 : Int) := o2
    refine dz_Tw (t174_X10_build_g43 fu hfu c248_pots c261_many c267_total a268 a269 n269 a275 c280_fresh a281 a282 a283 (by first | assumption | omega) (by first | assumption | omega) (by first | assumption | omega) (by first | assumption | omega) (by first | assumption | omega) (by first | assumption | omega) (by first | assumption | omega) (by first | assumption | omega) (by first | assumption | omega) (by first | assumption | omega) (by first | assumption | omega) (by first | exact hr_a268 | exact dz_rgm hr_a268 (by omega) (by omega) | exact dz_pmr hr_a268 (by decide) (by omega) (by omega) (by omega) | exact dz_ptr hr_a268 (by decide) (by decide) (by omega) | exact dz_ptr hr_a268 (by decide) (by decide) (by show _ ≤ 3; omega) | exact dz_rgs hr_a268 (by omega)) (by first | exact hr_a269 | exact dz_rgm hr_a269 (by omega) (by omega) | exact dz_pmr hr_a269 (by decide) (by omega) (by omega) (by omega) | exact dz_ptr hr_a269 (by decide) (by decide) (by omega) | exact dz_ptr hr_a269 (by decide) (by decide) (by show _ ≤ 3; omega) | exact dz_rgs hr_a269 (by omega)) (by first | exact hr_a275 | exact dz_rgm hr_a275 (by omega) (by omega) | exact dz_pmr hr_a275 (by decide) (by omega) (by omega) (by omega) | exact dz_ptr hr_a275 (by decide) (by decide) (by omega) | exact dz_ptr hr_a275 (by decide) (by decide) (by show _ ≤ 3; omega) | exact dz_rgs hr_a275 (by omega)) (by first | exact hr_a281 | exact dz_rgm hr_a281 (by omega) (by omega) | exact dz_pmr hr_a281 (by decide) (by omega) (by omega) (by omega) | exact dz_ptr hr_a281 (by decide) (by decide) (by omega) | exact dz_ptr hr_a281 (by decide) (by decide) (by show _ ≤ 3; omega) | exact dz_rgs hr_a281 (by omega)) (by first | exact hr_a282 | exact dz_rgm hr_a282 (by omega) (by omega) | exact dz_pmr hr_a282 (by decide) (by omega) (by omega) (by omega) | exact dz_ptr hr_a282 (by decide) (by decide) (by omega) | exact dz_ptr hr_a282 (by decide) (by decide) (by show _ ≤ 3; omega) | exact dz_rgs hr_a282 (by omega))) (fun r h => ?_)
    obtain ⟨g0, g1, g2, g3, g4⟩ := h
    exact ⟨(by first | assumption | omega), (by first | assumption | omega), (by first | exact g2 | exact dz_rgm g2 (by omega) (by omega)), (by first | exact g3 | exact dz_rgm g3 (by omega) (by omega)), (by first | exact g4 | exact dz_rgm g4 (by omega) (by omega))⟩
set_option maxHeartbeats 1000000 in
set_option maxRecDepth 10000 in
theorem t175_X11_treeOfNow_s (fu : Nat) (hfu : 1000000000000 ≤ fu) (κ : Nat) (hκ : κ < 14) (c248_pots : Int32) (c261_many : Int32) (c267_total : Int32) (a268 : Nat → Int32) (a269 : Nat → Int32) (n269 : Nat) (a275 : Nat → Int32) (c280_fresh : Int32) (a281 : Nat → Int32) (a282 : Nat → Int32) (a283 : Nat → Int32) (p0 : c248_pots.toInt ≤ 4) (p1 : 0 ≤ c248_pots.toInt) (p2 : c261_many.toInt ≤ 24) (p3 : 0 ≤ c261_many.toInt) (p4 : c267_total.toInt ≤ 13824) (p5 : 1 ≤ c267_total.toInt) (p6 : ((n269 : Nat) : Int) ≤ 13824) (p7 : 1 ≤ ((n269 : Nat) : Int)) (p8 : c280_fresh.toInt ≤ 1) (p9 : 0 ≤ c280_fresh.toInt) (p10 : c267_total.toInt ≤ ((n269 : Nat) : Int)) (hr_a268 : dz_pt a268 (dz_kS κ)) (hr_a269 : dz_rg a269 n269 0 1023) (hr_a275 : dz_pm a275 (dz_kp κ)) (hr_a281 : dz_rg a281 601 0 16777215) (hr_a282 : dz_rg a282 5 0 14425) (hr_a283 : (c280_fresh.toInt = 0 ∨ dz_pm a283 (dz_kp κ))) (o0 : c248_pots.toInt = ((dz_kp κ : Nat) : Int)) (o1 : c261_many.toInt = ((dz_kr κ : Nat) : Int)) (o2 : c267_total.toInt = ((dz_kt κ : Nat) : Int)) : dz_T (f175_X11_treeOfNow fu c248_pots c261_many c267_total a268 a269 n269 a275 c280_fresh a281 a282 a283) (fun r => r.1.toInt ≤ 1 ∧ 1 ≤ r.1.toInt ∧ dz_rg r.2.1 601 0 16777215 ∧ dz_rg r.2.2.1 5 0 14425 ∧ dz_pm r.2.2.2 (dz_kp κ)) := by
  unfold f175_X11_treeOfNow s175_X11_treeOfNow_0
  have e1 := dz_l0
  refine dz_Teq (fun h2 => ?_) (fun h2 => ?_)
  · skip
    refine dz_Tb (t174_X10_build_s fu hfu κ hκ _ _ _ _ _ _ _ _ _ _ _ p0 p1 p2 p3 p4 p5 p6 p7 p8 p9 p10 (hr_a268) (hr_a269) (hr_a275) (hr_a281) (hr_a282) o0 o1 o2) (fun r1 q => ?_)
    obtain ⟨q1_0, q1_1, qa1_1, qa1_2, qa1_3⟩ := q
    refine dz_Ts ?_
    dsimp only
    exact ⟨q1_0, q1_1, (qa1_1), (qa1_2), (qa1_3)⟩
  · skip
    refine dz_Ts ?_
    dsimp only
    exact ⟨p8, (by first | assumption | omega), (hr_a281), (hr_a282), ((dz_cnd hr_a283 (by omega)))⟩
abbrev p176_X8_ranksIf_g2 (fu : Nat) (c248_groups : Int32) (c261_everyRank : Int32) (a264 : Nat → Int32) (a277 : Nat → Int32) (k : Nat) : Prop :=
  (∀ (v1 : Int32) (v2 : Int32) (v3 : Int32) (v4 : Int32) (v5 : Int32), v1.toInt ≤ 3 → 0 ≤ v1.toInt → v3.toInt ≤ 3 → (-1) ≤ v3.toInt → v4.toInt ≤ 3 → 0 ≤ v4.toInt → v5.toInt ≤ 2 → 0 ≤ v5.toInt → 0 + 0 + (2 - v5.toInt) * 14 + 7 ≤ ((k : Nat) : Int) → dz_T ((F176_X8_ranksIf fu c248_groups c261_everyRank a264 a277 k).1 v1 v2 v3 v4 v5) (fun r => r.toInt ≤ 3 ∧ 0 ≤ r.toInt))
set_option maxHeartbeats 1000000 in
set_option maxRecDepth 10000 in
theorem t176_X8_ranksIf_h1_g2 (fu : Nat) (hfu : 1000000000000 ≤ fu) (c248_groups : Int32) (c261_everyRank : Int32) (a264 : Nat → Int32) (a277 : Nat → Int32) (p0 : c248_groups.toInt ≤ 2) (p1 : 2 ≤ c248_groups.toInt) (p2 : c261_everyRank.toInt ≤ 3) (p3 : 3 ≤ c261_everyRank.toInt) (hr_a264 : dz_rg a264 16 0 16777215) (hr_a277 : dz_rg a277 12 (-1) 3) (k : Nat) (ih : ∀ j9, j9 < k → p176_X8_ranksIf_g2 fu c248_groups c261_everyRank a264 a277 j9) : ∀ (v1 : Int32) (v2 : Int32) (v3 : Int32) (v4 : Int32) (v5 : Int32), v1.toInt ≤ 3 → 0 ≤ v1.toInt → v3.toInt ≤ 3 → (-1) ≤ v3.toInt → v4.toInt ≤ 3 → 0 ≤ v4.toInt → v5.toInt ≤ 2 → 0 ≤ v5.toInt → 0 + 0 + (2 - v5.toInt) * 14 + 7 ≤ ((k : Nat) : Int) → dz_T ((F176_X8_ranksIf fu c248_groups c261_everyRank a264 a277 k).1 v1 v2 v3 v4 v5) (fun r => r.toInt ≤ 3 ∧ 0 ≤ r.toInt) := by
  intro v1 v2 v3 v4 v5 i0 i1 i2 i3 i4 i5 i6 i7 hm
  obtain ⟨k0, rfl⟩ : ∃ x, k = x + 1 := ⟨k - 1, by omega⟩
  show dz_T (s176_X8_ranksIf_1 fu c248_groups c261_everyRank a264 a277 (F176_X8_ranksIf fu c248_groups c261_everyRank a264 a277 k0).2.1  v1 v2 v3 v4 v5) _
  unfold s176_X8_ranksIf_1
  refine dz_Tle (fun h1 => ?_) (fun h1 => ?_)
  · skip
    exact dz_Ts ⟨i4, i5⟩
  · skip
    have e2 := dz_mulr (a := v1) (b := c248_groups) 2 (by omega) (by omega) (by omega)
    have e3 := dz_add (a := (v1 * c248_groups)) (b := v5) (by omega) (by omega)
    refine dz_Teq (fun h4 => ?_) (fun h4 => ?_)
    · skip
      obtain ⟨k1, rfl⟩ : ∃ x, k0 = x + 1 := ⟨k0 - 1, by omega⟩
      show dz_T (s176_X8_ranksIf_2 fu c248_groups c261_everyRank a264 a277 (F176_X8_ranksIf fu c248_groups c261_everyRank a264 a277 k1).2.2 v1 v2 v3 v4 v5 v3) _
      unfold s176_X8_ranksIf_2
      have e5 := dz_lm1
      refine dz_Teq (fun h6 => ?_) (fun h6 => ?_)
      · skip
        obtain ⟨k2, rfl⟩ : ∃ x, k1 = x + 1 := ⟨k1 - 1, by omega⟩
        show dz_T (s176_X8_ranksIf_3 fu c248_groups c261_everyRank a264 a277 (F176_X8_ranksIf fu c248_groups c261_everyRank a264 a277 k2).1 v1 v2 v3 v4 v5) _
        unfold s176_X8_ranksIf_3
        have e7 := dz_l1
        have e8 := dz_add (a := v5) (b := (1 : Int32)) (by omega) (by omega)
        exact (ih k2 (by omega)) v1 v2 v3 v4 (v5 + (1 : Int32)) i0 i1 i2 i3 i4 i5 (by omega) (by omega) (by omega)
      · skip
        have e9 := dz_l4
        have e10 := dz_mulr (a := v5) (b := (4 : Int32)) 4 (by omega) (by omega) (by omega)
        have e11 := dz_add (a := (v5 * (4 : Int32))) (b := v3) (by omega) (by omega)
        refine dz_Tin (by omega) (by omega) ?_
        obtain ⟨k3, rfl⟩ : ∃ x, k1 = x + 1 := ⟨k1 - 1, by omega⟩
        show dz_T (s176_X8_ranksIf_3 fu c248_groups c261_everyRank a264 a277 (F176_X8_ranksIf fu c248_groups c261_everyRank a264 a277 k3).1 v1 v2 v3 (v4 &&& (a264 ((v5 * (4 : Int32)) + v3).toNatClampNeg)) v5) _
        unfold s176_X8_ranksIf_3
        have e12 := dz_rgat (hr_a264) (i := ((v5 * (4 : Int32)) + v3)) (by omega) (by omega)
        have e13 := dz_andr (a := v4) (b := (a264 ((v5 * (4 : Int32)) + v3).toNatClampNeg)) (by omega)
        have e14 := dz_andl (a := v4) (b := (a264 ((v5 * (4 : Int32)) + v3).toNatClampNeg)) (by omega)
        have e15 := dz_l1
        have e16 := dz_add (a := v5) (b := (1 : Int32)) (by omega) (by omega)
        exact (ih k3 (by omega)) v1 v2 v3 (v4 &&& (a264 ((v5 * (4 : Int32)) + v3).toNatClampNeg)) (v5 + (1 : Int32)) i0 i1 i2 i3 (by omega) (by omega) (by omega) (by omega) (by omega)
    · skip
      refine dz_Tin (by omega) (by omega) ?_
      obtain ⟨k4, rfl⟩ : ∃ x, k0 = x + 1 := ⟨k0 - 1, by omega⟩
      show dz_T (s176_X8_ranksIf_2 fu c248_groups c261_everyRank a264 a277 (F176_X8_ranksIf fu c248_groups c261_everyRank a264 a277 k4).2.2 v1 v2 v3 v4 v5 (a277 ((v1 * c248_groups) + v5).toNatClampNeg)) _
      unfold s176_X8_ranksIf_2
      have e17 := dz_rgat (hr_a277) (i := ((v1 * c248_groups) + v5)) (by omega) (by omega)
      have e18 := dz_lm1
      refine dz_Teq (fun h19 => ?_) (fun h19 => ?_)
      · skip
        obtain ⟨k5, rfl⟩ : ∃ x, k4 = x + 1 := ⟨k4 - 1, by omega⟩
        show dz_T (s176_X8_ranksIf_3 fu c248_groups c261_everyRank a264 a277 (F176_X8_ranksIf fu c248_groups c261_everyRank a264 a277 k5).1 v1 v2 v3 v4 v5) _
        unfold s176_X8_ranksIf_3
        have e20 := dz_l1
        have e21 := dz_add (a := v5) (b := (1 : Int32)) (by omega) (by omega)
        exact (ih k5 (by omega)) v1 v2 v3 v4 (v5 + (1 : Int32)) i0 i1 i2 i3 i4 i5 (by omega) (by omega) (by omega)
      · skip
        have e22 := dz_l4
        have e23 := dz_mulr (a := v5) (b := (4 : Int32)) 4 (by omega) (by omega) (by omega)
        have e24 := dz_add (a := (v5 * (4 : Int32))) (b := (a277 ((v1 * c248_groups) + v5).toNatClampNeg)) (by omega) (by omega)
        refine dz_Tin (by omega) (by omega) ?_
        obtain ⟨k6, rfl⟩ : ∃ x, k4 = x + 1 := ⟨k4 - 1, by omega⟩
        show dz_T (s176_X8_ranksIf_3 fu c248_groups c261_everyRank a264 a277 (F176_X8_ranksIf fu c248_groups c261_everyRank a264 a277 k6).1 v1 v2 v3 (v4 &&& (a264 ((v5 * (4 : Int32)) + (a277 ((v1 * c248_groups) + v5).toNatClampNeg)).toNatClampNeg)) v5) _
        unfold s176_X8_ranksIf_3
        have e25 := dz_rgat (hr_a264) (i := ((v5 * (4 : Int32)) + (a277 ((v1 * c248_groups) + v5).toNatClampNeg))) (by omega) (by omega)
        have e26 := dz_andr (a := v4) (b := (a264 ((v5 * (4 : Int32)) + (a277 ((v1 * c248_groups) + v5).toNatClampNeg)).toNatClampNeg)) (by omega)
        have e27 := dz_andl (a := v4) (b := (a264 ((v5 * (4 : Int32)) + (a277 ((v1 * c248_groups) + v5).toNatClampNeg)).toNatClampNeg)) (by omega)
        have e28 := dz_l1
        have e29 := dz_add (a := v5) (b := (1 : Int32)) (by omega) (by omega)
        exact (ih k6 (by omega)) v1 v2 v3 (v4 &&& (a264 ((v5 * (4 : Int32)) + (a277 ((v1 * c248_groups) + v5).toNatClampNeg)).toNatClampNeg)) (v5 + (1 : Int32)) i0 i1 i2 i3 (by omega) (by omega) (by omega) (by omega) (by omega)
theorem t176_X8_ranksIf_I_g2 (fu : Nat) (hfu : 1000000000000 ≤ fu) (c248_groups : Int32) (c261_everyRank : Int32) (a264 : Nat → Int32) (a277 : Nat → Int32) (p0 : c248_groups.toInt ≤ 2) (p1 : 2 ≤ c248_groups.toInt) (p2 : c261_everyRank.toInt ≤ 3) (p3 : 3 ≤ c261_everyRank.toInt) (hr_a264 : dz_rg a264 16 0 16777215) (hr_a277 : dz_rg a277 12 (-1) 3) (k : Nat) : p176_X8_ranksIf_g2 fu c248_groups c261_everyRank a264 a277 k := by
  induction k using Nat.strongRecOn with
  | _ k ih => exact t176_X8_ranksIf_h1_g2 fu hfu c248_groups c261_everyRank a264 a277 p0 p1 p2 p3 hr_a264 hr_a277 k ih
set_option maxHeartbeats 1000000 in
set_option maxRecDepth 10000 in
theorem t176_X8_ranksIf_E_g2 (fu : Nat) (hfu : 1000000000000 ≤ fu) (c248_groups : Int32) (c261_everyRank : Int32) (a264 : Nat → Int32) (a277 : Nat → Int32) (v1 : Int32) (v2 : Int32) (v3 : Int32) (p0 : c248_groups.toInt ≤ 2) (p1 : 2 ≤ c248_groups.toInt) (p2 : c261_everyRank.toInt ≤ 3) (p3 : 3 ≤ c261_everyRank.toInt) (p4 : 0 ≤ v1.toInt) (p5 : (-1) ≤ v3.toInt) (p6 : v3.toInt ≤ 3) (p7 : v1.toInt ≤ 3) (hr_a264 : dz_rg a264 16 0 16777215) (hr_a277 : dz_rg a277 12 (-1) 3) (kv : Nat) (hkv : 1000000000000 ≤ kv) : dz_T (s176_X8_ranksIf_0 fu c248_groups c261_everyRank a264 a277 (F176_X8_ranksIf fu c248_groups c261_everyRank a264 a277 kv).1  v1 v2 v3) (fun r => r.toInt ≤ 3 ∧ 0 ≤ r.toInt) := by
  unfold s176_X8_ranksIf_0
  have e1 := dz_l0
  exact (t176_X8_ranksIf_I_g2 fu hfu c248_groups c261_everyRank a264 a277 p0 p1 p2 p3 hr_a264 hr_a277 kv) v1 v2 v3 c261_everyRank (0 : Int32) p7 p4 p6 p5 p2 (by first | assumption | omega) (by omega) (by omega) (by omega)
theorem t176_X8_ranksIf_g2 (fu : Nat) (hfu : 1000000000000 ≤ fu) (c248_groups : Int32) (c261_everyRank : Int32) (a264 : Nat → Int32) (a277 : Nat → Int32) (v1 : Int32) (v2 : Int32) (v3 : Int32) (p0 : c248_groups.toInt ≤ 2) (p1 : 2 ≤ c248_groups.toInt) (p2 : c261_everyRank.toInt ≤ 3) (p3 : 3 ≤ c261_everyRank.toInt) (p4 : 0 ≤ v1.toInt) (p5 : (-1) ≤ v3.toInt) (p6 : v3.toInt ≤ 3) (p7 : v1.toInt ≤ 3) (hr_a264 : dz_rg a264 16 0 16777215) (hr_a277 : dz_rg a277 12 (-1) 3) : dz_T (f176_X8_ranksIf fu c248_groups c261_everyRank a264 a277 v1 v2 v3) (fun r => r.toInt ≤ 3 ∧ 0 ≤ r.toInt) :=
  t176_X8_ranksIf_E_g2 fu hfu c248_groups c261_everyRank a264 a277 v1 v2 v3 p0 p1 p2 p3 p4 p5 p6 p7 hr_a264 hr_a277 fu hfu
abbrev p176_X8_ranksIf_g3 (fu : Nat) (c248_groups : Int32) (c261_everyRank : Int32) (a264 : Nat → Int32) (a277 : Nat → Int32) (k : Nat) : Prop :=
  (∀ (v1 : Int32) (v2 : Int32) (v3 : Int32) (v4 : Int32) (v5 : Int32), v1.toInt ≤ 3 → 0 ≤ v1.toInt → v3.toInt ≤ 3 → (-1) ≤ v3.toInt → v4.toInt ≤ 63 → 0 ≤ v4.toInt → v5.toInt ≤ 3 → 0 ≤ v5.toInt → 0 + 0 + (3 - v5.toInt) * 14 + 7 ≤ ((k : Nat) : Int) → dz_T ((F176_X8_ranksIf fu c248_groups c261_everyRank a264 a277 k).1 v1 v2 v3 v4 v5) (fun r => r.toInt ≤ 63 ∧ 0 ≤ r.toInt))
set_option maxHeartbeats 1000000 in
set_option maxRecDepth 10000 in
theorem t176_X8_ranksIf_h1_g3 (fu : Nat) (hfu : 1000000000000 ≤ fu) (c248_groups : Int32) (c261_everyRank : Int32) (a264 : Nat → Int32) (a277 : Nat → Int32) (p0 : c248_groups.toInt ≤ 3) (p1 : 3 ≤ c248_groups.toInt) (p2 : c261_everyRank.toInt ≤ 63) (p3 : 63 ≤ c261_everyRank.toInt) (hr_a264 : dz_rg a264 16 0 16777215) (hr_a277 : dz_rg a277 12 (-1) 3) (k : Nat) (ih : ∀ j9, j9 < k → p176_X8_ranksIf_g3 fu c248_groups c261_everyRank a264 a277 j9) : ∀ (v1 : Int32) (v2 : Int32) (v3 : Int32) (v4 : Int32) (v5 : Int32), v1.toInt ≤ 3 → 0 ≤ v1.toInt → v3.toInt ≤ 3 → (-1) ≤ v3.toInt → v4.toInt ≤ 63 → 0 ≤ v4.toInt → v5.toInt ≤ 3 → 0 ≤ v5.toInt → 0 + 0 + (3 - v5.toInt) * 14 + 7 ≤ ((k : Nat) : Int) → dz_T ((F176_X8_ranksIf fu c248_groups c261_everyRank a264 a277 k).1 v1 v2 v3 v4 v5) (fun r => r.toInt ≤ 63 ∧ 0 ≤ r.toInt) := by
  intro v1 v2 v3 v4 v5 i0 i1 i2 i3 i4 i5 i6 i7 hm
  obtain ⟨k0, rfl⟩ : ∃ x, k = x + 1 := ⟨k - 1, by omega⟩
  show dz_T (s176_X8_ranksIf_1 fu c248_groups c261_everyRank a264 a277 (F176_X8_ranksIf fu c248_groups c261_everyRank a264 a277 k0).2.1  v1 v2 v3 v4 v5) _
  unfold s176_X8_ranksIf_1
  refine dz_Tle (fun h1 => ?_) (fun h1 => ?_)
  · skip
    exact dz_Ts ⟨i4, i5⟩
  · skip
    have e2 := dz_mulr (a := v1) (b := c248_groups) 3 (by omega) (by omega) (by omega)
    have e3 := dz_add (a := (v1 * c248_groups)) (b := v5) (by omega) (by omega)
    refine dz_Teq (fun h4 => ?_) (fun h4 => ?_)
    · skip
      obtain ⟨k1, rfl⟩ : ∃ x, k0 = x + 1 := ⟨k0 - 1, by omega⟩
      show dz_T (s176_X8_ranksIf_2 fu c248_groups c261_everyRank a264 a277 (F176_X8_ranksIf fu c248_groups c261_everyRank a264 a277 k1).2.2 v1 v2 v3 v4 v5 v3) _
      unfold s176_X8_ranksIf_2
      have e5 := dz_lm1
      refine dz_Teq (fun h6 => ?_) (fun h6 => ?_)
      · skip
        obtain ⟨k2, rfl⟩ : ∃ x, k1 = x + 1 := ⟨k1 - 1, by omega⟩
        show dz_T (s176_X8_ranksIf_3 fu c248_groups c261_everyRank a264 a277 (F176_X8_ranksIf fu c248_groups c261_everyRank a264 a277 k2).1 v1 v2 v3 v4 v5) _
        unfold s176_X8_ranksIf_3
        have e7 := dz_l1
        have e8 := dz_add (a := v5) (b := (1 : Int32)) (by omega) (by omega)
        exact (ih k2 (by omega)) v1 v2 v3 v4 (v5 + (1 : Int32)) i0 i1 i2 i3 i4 i5 (by omega) (by omega) (by omega)
      · skip
        have e9 := dz_l4
        have e10 := dz_mulr (a := v5) (b := (4 : Int32)) 4 (by omega) (by omega) (by omega)
        have e11 := dz_add (a := (v5 * (4 : Int32))) (b := v3) (by omega) (by omega)
        refine dz_Tin (by omega) (by omega) ?_
        obtain ⟨k3, rfl⟩ : ∃ x, k1 = x + 1 := ⟨k1 - 1, by omega⟩
        show dz_T (s176_X8_ranksIf_3 fu c248_groups c261_everyRank a264 a277 (F176_X8_ranksIf fu c248_groups c261_everyRank a264 a277 k3).1 v1 v2 v3 (v4 &&& (a264 ((v5 * (4 : Int32)) + v3).toNatClampNeg)) v5) _
        unfold s176_X8_ranksIf_3
        have e12 := dz_rgat (hr_a264) (i := ((v5 * (4 : Int32)) + v3)) (by omega) (by omega)
        have e13 := dz_andr (a := v4) (b := (a264 ((v5 * (4 : Int32)) + v3).toNatClampNeg)) (by omega)
        have e14 := dz_andl (a := v4) (b := (a264 ((v5 * (4 : Int32)) + v3).toNatClampNeg)) (by omega)
        have e15 := dz_l1
        have e16 := dz_add (a := v5) (b := (1 : Int32)) (by omega) (by omega)
        exact (ih k3 (by omega)) v1 v2 v3 (v4 &&& (a264 ((v5 * (4 : Int32)) + v3).toNatClampNeg)) (v5 + (1 : Int32)) i0 i1 i2 i3 (by omega) (by omega) (by omega) (by omega) (by omega)
    · skip
      refine dz_Tin (by omega) (by omega) ?_
      obtain ⟨k4, rfl⟩ : ∃ x, k0 = x + 1 := ⟨k0 - 1, by omega⟩
      show dz_T (s176_X8_ranksIf_2 fu c248_groups c261_everyRank a264 a277 (F176_X8_ranksIf fu c248_groups c261_everyRank a264 a277 k4).2.2 v1 v2 v3 v4 v5 (a277 ((v1 * c248_groups) + v5).toNatClampNeg)) _
      unfold s176_X8_ranksIf_2
      have e17 := dz_rgat (hr_a277) (i := ((v1 * c248_groups) + v5)) (by omega) (by omega)
      have e18 := dz_lm1
      refine dz_Teq (fun h19 => ?_) (fun h19 => ?_)
      · skip
        obtain ⟨k5, rfl⟩ : ∃ x, k4 = x + 1 := ⟨k4 - 1, by omega⟩
        show dz_T (s176_X8_ranksIf_3 fu c248_groups c261_everyRank a264 a277 (F176_X8_ranksIf fu c248_groups c261_everyRank a264 a277 k5).1 v1 v2 v3 v4 v5) _
        unfold s176_X8_ranksIf_3
        have e20 := dz_l1
        have e21 := dz_add (a := v5) (b := (1 : Int32)) (by omega) (by omega)
        exact (ih k5 (by omega)) v1 v2 v3 v4 (v5 + (1 : Int32)) i0 i1 i2 i3 i4 i5 (by omega) (by omega) (by omega)
      · skip
        have e22 := dz_l4
        have e23 := dz_mulr (a := v5) (b := (4 : Int32)) 4 (by omega) (by omega) (by omega)
        have e24 := dz_add (a := (v5 * (4 : Int32))) (b := (a277 ((v1 * c248_groups) + v5).toNatClampNeg)) (by omega) (by omega)
        refine dz_Tin (by omega) (by omega) ?_
        obtain ⟨k6, rfl⟩ : ∃ x, k4 = x + 1 := ⟨k4 - 1, by omega⟩
        show dz_T (s176_X8_ranksIf_3 fu c248_groups c261_everyRank a264 a277 (F176_X8_ranksIf fu c248_groups c261_everyRank a264 a277 k6).1 v1 v2 v3 (v4 &&& (a264 ((v5 * (4 : Int32)) + (a277 ((v1 * c248_groups) + v5).toNatClampNeg)).toNatClampNeg)) v5) _
        unfold s176_X8_ranksIf_3
        have e25 := dz_rgat (hr_a264) (i := ((v5 * (4 : Int32)) + (a277 ((v1 * c248_groups) + v5).toNatClampNeg))) (by omega) (by omega)
        have e26 := dz_andr (a := v4) (b := (a264 ((v5 * (4 : Int32)) + (a277 ((v1 * c248_groups) + v5).toNatClampNeg)).toNatClampNeg)) (by omega)
        have e27 := dz_andl (a := v4) (b := (a264 ((v5 * (4 : Int32)) + (a277 ((v1 * c248_groups) + v5).toNatClampNeg)).toNatClampNeg)) (by omega)
        have e28 := dz_l1
        have e29 := dz_add (a := v5) (b := (1 : Int32)) (by omega) (by omega)
        exact (ih k6 (by omega)) v1 v2 v3 (v4 &&& (a264 ((v5 * (4 : Int32)) + (a277 ((v1 * c248_groups) + v5).toNatClampNeg)).toNatClampNeg)) (v5 + (1 : Int32)) i0 i1 i2 i3 (by omega) (by omega) (by omega) (by omega) (by omega)
theorem t176_X8_ranksIf_I_g3 (fu : Nat) (hfu : 1000000000000 ≤ fu) (c248_groups : Int32) (c261_everyRank : Int32) (a264 : Nat → Int32) (a277 : Nat → Int32) (p0 : c248_groups.toInt ≤ 3) (p1 : 3 ≤ c248_groups.toInt) (p2 : c261_everyRank.toInt ≤ 63) (p3 : 63 ≤ c261_everyRank.toInt) (hr_a264 : dz_rg a264 16 0 16777215) (hr_a277 : dz_rg a277 12 (-1) 3) (k : Nat) : p176_X8_ranksIf_g3 fu c248_groups c261_everyRank a264 a277 k := by
  induction k using Nat.strongRecOn with
  | _ k ih => exact t176_X8_ranksIf_h1_g3 fu hfu c248_groups c261_everyRank a264 a277 p0 p1 p2 p3 hr_a264 hr_a277 k ih
set_option maxHeartbeats 1000000 in
set_option maxRecDepth 10000 in
theorem t176_X8_ranksIf_E_g3 (fu : Nat) (hfu : 1000000000000 ≤ fu) (c248_groups : Int32) (c261_everyRank : Int32) (a264 : Nat → Int32) (a277 : Nat → Int32) (v1 : Int32) (v2 : Int32) (v3 : Int32) (p0 : c248_groups.toInt ≤ 3) (p1 : 3 ≤ c248_groups.toInt) (p2 : c261_everyRank.toInt ≤ 63) (p3 : 63 ≤ c261_everyRank.toInt) (p4 : 0 ≤ v1.toInt) (p5 : (-1) ≤ v3.toInt) (p6 : v3.toInt ≤ 3) (p7 : v1.toInt ≤ 3) (hr_a264 : dz_rg a264 16 0 16777215) (hr_a277 : dz_rg a277 12 (-1) 3) (kv : Nat) (hkv : 1000000000000 ≤ kv) : dz_T (s176_X8_ranksIf_0 fu c248_groups c261_everyRank a264 a277 (F176_X8_ranksIf fu c248_groups c261_everyRank a264 a277 kv).1  v1 v2 v3) (fun r => r.toInt ≤ 63 ∧ 0 ≤ r.toInt) := by
  unfold s176_X8_ranksIf_0
  have e1 := dz_l0
  exact (t176_X8_ranksIf_I_g3 fu hfu c248_groups c261_everyRank a264 a277 p0 p1 p2 p3 hr_a264 hr_a277 kv) v1 v2 v3 c261_everyRank (0 : Int32) p7 p4 p6 p5 p2 (by first | assumption | omega) (by omega) (by omega) (by omega)
theorem t176_X8_ranksIf_g3 (fu : Nat) (hfu : 1000000000000 ≤ fu) (c248_groups : Int32) (c261_everyRank : Int32) (a264 : Nat → Int32) (a277 : Nat → Int32) (v1 : Int32) (v2 : Int32) (v3 : Int32) (p0 : c248_groups.toInt ≤ 3) (p1 : 3 ≤ c248_groups.toInt) (p2 : c261_everyRank.toInt ≤ 63) (p3 : 63 ≤ c261_everyRank.toInt) (p4 : 0 ≤ v1.toInt) (p5 : (-1) ≤ v3.toInt) (p6 : v3.toInt ≤ 3) (p7 : v1.toInt ≤ 3) (hr_a264 : dz_rg a264 16 0 16777215) (hr_a277 : dz_rg a277 12 (-1) 3) : dz_T (f176_X8_ranksIf fu c248_groups c261_everyRank a264 a277 v1 v2 v3) (fun r => r.toInt ≤ 63 ∧ 0 ≤ r.toInt) :=
  t176_X8_ranksIf_E_g3 fu hfu c248_groups c261_everyRank a264 a277 v1 v2 v3 p0 p1 p2 p3 p4 p5 p6 p7 hr_a264 hr_a277 fu hfu
abbrev p176_X8_ranksIf_g4 (fu : Nat) (c248_groups : Int32) (c261_everyRank : Int32) (a264 : Nat → Int32) (a277 : Nat → Int32) (k : Nat) : Prop :=
  (∀ (v1 : Int32) (v2 : Int32) (v3 : Int32) (v4 : Int32) (v5 : Int32), v1.toInt ≤ 2 → 0 ≤ v1.toInt → v3.toInt ≤ 3 → (-1) ≤ v3.toInt → v4.toInt ≤ 16777215 → 0 ≤ v4.toInt → v5.toInt ≤ 4 → 0 ≤ v5.toInt → 0 + 0 + (4 - v5.toInt) * 14 + 7 ≤ ((k : Nat) : Int) → dz_T ((F176_X8_ranksIf fu c248_groups c261_everyRank a264 a277 k).1 v1 v2 v3 v4 v5) (fun r => r.toInt ≤ 16777215 ∧ 0 ≤ r.toInt))
set_option maxHeartbeats 1000000 in
set_option maxRecDepth 10000 in
theorem t176_X8_ranksIf_h1_g4 (fu : Nat) (hfu : 1000000000000 ≤ fu) (c248_groups : Int32) (c261_everyRank : Int32) (a264 : Nat → Int32) (a277 : Nat → Int32) (p0 : c248_groups.toInt ≤ 4) (p1 : 4 ≤ c248_groups.toInt) (p2 : c261_everyRank.toInt ≤ 16777215) (p3 : 16777215 ≤ c261_everyRank.toInt) (hr_a264 : dz_rg a264 16 0 16777215) (hr_a277 : dz_rg a277 12 (-1) 3) (k : Nat) (ih : ∀ j9, j9 < k → p176_X8_ranksIf_g4 fu c248_groups c261_everyRank a264 a277 j9) : ∀ (v1 : Int32) (v2 : Int32) (v3 : Int32) (v4 : Int32) (v5 : Int32), v1.toInt ≤ 2 → 0 ≤ v1.toInt → v3.toInt ≤ 3 → (-1) ≤ v3.toInt → v4.toInt ≤ 16777215 → 0 ≤ v4.toInt → v5.toInt ≤ 4 → 0 ≤ v5.toInt → 0 + 0 + (4 - v5.toInt) * 14 + 7 ≤ ((k : Nat) : Int) → dz_T ((F176_X8_ranksIf fu c248_groups c261_everyRank a264 a277 k).1 v1 v2 v3 v4 v5) (fun r => r.toInt ≤ 16777215 ∧ 0 ≤ r.toInt) := by
  intro v1 v2 v3 v4 v5 i0 i1 i2 i3 i4 i5 i6 i7 hm
  obtain ⟨k0, rfl⟩ : ∃ x, k = x + 1 := ⟨k - 1, by omega⟩
  show dz_T (s176_X8_ranksIf_1 fu c248_groups c261_everyRank a264 a277 (F176_X8_ranksIf fu c248_groups c261_everyRank a264 a277 k0).2.1  v1 v2 v3 v4 v5) _
  unfold s176_X8_ranksIf_1
  refine dz_Tle (fun h1 => ?_) (fun h1 => ?_)
  · skip
    exact dz_Ts ⟨i4, i5⟩
  · skip
    have e2 := dz_mulr (a := v1) (b := c248_groups) 4 (by omega) (by omega) (by omega)
    have e3 := dz_add (a := (v1 * c248_groups)) (b := v5) (by omega) (by omega)
    refine dz_Teq (fun h4 => ?_) (fun h4 => ?_)
    · skip
      obtain ⟨k1, rfl⟩ : ∃ x, k0 = x + 1 := ⟨k0 - 1, by omega⟩
      show dz_T (s176_X8_ranksIf_2 fu c248_groups c261_everyRank a264 a277 (F176_X8_ranksIf fu c248_groups c261_everyRank a264 a277 k1).2.2 v1 v2 v3 v4 v5 v3) _
      unfold s176_X8_ranksIf_2
      have e5 := dz_lm1
      refine dz_Teq (fun h6 => ?_) (fun h6 => ?_)
      · skip
        obtain ⟨k2, rfl⟩ : ∃ x, k1 = x + 1 := ⟨k1 - 1, by omega⟩
        show dz_T (s176_X8_ranksIf_3 fu c248_groups c261_everyRank a264 a277 (F176_X8_ranksIf fu c248_groups c261_everyRank a264 a277 k2).1 v1 v2 v3 v4 v5) _
        unfold s176_X8_ranksIf_3
        have e7 := dz_l1
        have e8 := dz_add (a := v5) (b := (1 : Int32)) (by omega) (by omega)
        exact (ih k2 (by omega)) v1 v2 v3 v4 (v5 + (1 : Int32)) i0 i1 i2 i3 i4 i5 (by omega) (by omega) (by omega)
      · skip
        have e9 := dz_l4
        have e10 := dz_mulr (a := v5) (b := (4 : Int32)) 4 (by omega) (by omega) (by omega)
        have e11 := dz_add (a := (v5 * (4 : Int32))) (b := v3) (by omega) (by omega)
        refine dz_Tin (by omega) (by omega) ?_
        obtain ⟨k3, rfl⟩ : ∃ x, k1 = x + 1 := ⟨k1 - 1, by omega⟩
        show dz_T (s176_X8_ranksIf_3 fu c248_groups c261_everyRank a264 a277 (F176_X8_ranksIf fu c248_groups c261_everyRank a264 a277 k3).1 v1 v2 v3 (v4 &&& (a264 ((v5 * (4 : Int32)) + v3).toNatClampNeg)) v5) _
        unfold s176_X8_ranksIf_3
        have e12 := dz_rgat (hr_a264) (i := ((v5 * (4 : Int32)) + v3)) (by omega) (by omega)
        have e13 := dz_andr (a := v4) (b := (a264 ((v5 * (4 : Int32)) + v3).toNatClampNeg)) (by omega)
        have e14 := dz_andl (a := v4) (b := (a264 ((v5 * (4 : Int32)) + v3).toNatClampNeg)) (by omega)
        have e15 := dz_l1
        have e16 := dz_add (a := v5) (b := (1 : Int32)) (by omega) (by omega)
        exact (ih k3 (by omega)) v1 v2 v3 (v4 &&& (a264 ((v5 * (4 : Int32)) + v3).toNatClampNeg)) (v5 + (1 : Int32)) i0 i1 i2 i3 (by omega) (by omega) (by omega) (by omega) (by omega)
    · skip
      refine dz_Tin (by omega) (by omega) ?_
      obtain ⟨k4, rfl⟩ : ∃ x, k0 = x + 1 := ⟨k0 - 1, by omega⟩
      show dz_T (s176_X8_ranksIf_2 fu c248_groups c261_everyRank a264 a277 (F176_X8_ranksIf fu c248_groups c261_everyRank a264 a277 k4).2.2 v1 v2 v3 v4 v5 (a277 ((v1 * c248_groups) + v5).toNatClampNeg)) _
      unfold s176_X8_ranksIf_2
      have e17 := dz_rgat (hr_a277) (i := ((v1 * c248_groups) + v5)) (by omega) (by omega)
      have e18 := dz_lm1
      refine dz_Teq (fun h19 => ?_) (fun h19 => ?_)
      · skip
        obtain ⟨k5, rfl⟩ : ∃ x, k4 = x + 1 := ⟨k4 - 1, by omega⟩
        show dz_T (s176_X8_ranksIf_3 fu c248_groups c261_everyRank a264 a277 (F176_X8_ranksIf fu c248_groups c261_everyRank a264 a277 k5).1 v1 v2 v3 v4 v5) _
        unfold s176_X8_ranksIf_3
        have e20 := dz_l1
        have e21 := dz_add (a := v5) (b := (1 : Int32)) (by omega) (by omega)
        exact (ih k5 (by omega)) v1 v2 v3 v4 (v5 + (1 : Int32)) i0 i1 i2 i3 i4 i5 (by omega) (by omega) (by omega)
      · skip
        have e22 := dz_l4
        have e23 := dz_mulr (a := v5) (b := (4 : Int32)) 4 (by omega) (by omega) (by omega)
        have e24 := dz_add (a := (v5 * (4 : Int32))) (b := (a277 ((v1 * c248_groups) + v5).toNatClampNeg)) (by omega) (by omega)
        refine dz_Tin (by omega) (by omega) ?_
        obtain ⟨k6, rfl⟩ : ∃ x, k4 = x + 1 := ⟨k4 - 1, by omega⟩
        show dz_T (s176_X8_ranksIf_3 fu c248_groups c261_everyRank a264 a277 (F176_X8_ranksIf fu c248_groups c261_everyRank a264 a277 k6).1 v1 v2 v3 (v4 &&& (a264 ((v5 * (4 : Int32)) + (a277 ((v1 * c248_groups) + v5).toNatClampNeg)).toNatClampNeg)) v5) _
        unfold s176_X8_ranksIf_3
        have e25 := dz_rgat (hr_a264) (i := ((v5 * (4 : Int32)) + (a277 ((v1 * c248_groups) + v5).toNatClampNeg))) (by omega) (by omega)
        have e26 := dz_andr (a := v4) (b := (a264 ((v5 * (4 : Int32)) + (a277 ((v1 * c248_groups) + v5).toNatClampNeg)).toNatClampNeg)) (by omega)
        have e27 := dz_andl (a := v4) (b := (a264 ((v5 * (4 : Int32)) + (a277 ((v1 * c248_groups) + v5).toNatClampNeg)).toNatClampNeg)) (by omega)
        have e28 := dz_l1
        have e29 := dz_add (a := v5) (b := (1 : Int32)) (by omega) (by omega)
        exact (ih k6 (by omega)) v1 v2 v3 (v4 &&& (a264 ((v5 * (4 : Int32)) + (a277 ((v1 * c248_groups) + v5).toNatClampNeg)).toNatClampNeg)) (v5 + (1 : Int32)) i0 i1 i2 i3 (by omega) (by omega) (by omega) (by omega) (by omega)
theorem t176_X8_ranksIf_I_g4 (fu : Nat) (hfu : 1000000000000 ≤ fu) (c248_groups : Int32) (c261_everyRank : Int32) (a264 : Nat → Int32) (a277 : Nat → Int32) (p0 : c248_groups.toInt ≤ 4) (p1 : 4 ≤ c248_groups.toInt) (p2 : c261_everyRank.toInt ≤ 16777215) (p3 : 16777215 ≤ c261_everyRank.toInt) (hr_a264 : dz_rg a264 16 0 16777215) (hr_a277 : dz_rg a277 12 (-1) 3) (k : Nat) : p176_X8_ranksIf_g4 fu c248_groups c261_everyRank a264 a277 k := by
  induction k using Nat.strongRecOn with
  | _ k ih => exact t176_X8_ranksIf_h1_g4 fu hfu c248_groups c261_everyRank a264 a277 p0 p1 p2 p3 hr_a264 hr_a277 k ih
set_option maxHeartbeats 1000000 in
set_option maxRecDepth 10000 in
theorem t176_X8_ranksIf_E_g4 (fu : Nat) (hfu : 1000000000000 ≤ fu) (c248_groups : Int32) (c261_everyRank : Int32) (a264 : Nat → Int32) (a277 : Nat → Int32) (v1 : Int32) (v2 : Int32) (v3 : Int32) (p0 : c248_groups.toInt ≤ 4) (p1 : 4 ≤ c248_groups.toInt) (p2 : c261_everyRank.toInt ≤ 16777215) (p3 : 16777215 ≤ c261_everyRank.toInt) (p4 : 0 ≤ v1.toInt) (p5 : (-1) ≤ v3.toInt) (p6 : v3.toInt ≤ 3) (p7 : v1.toInt ≤ 2) (hr_a264 : dz_rg a264 16 0 16777215) (hr_a277 : dz_rg a277 12 (-1) 3) (kv : Nat) (hkv : 1000000000000 ≤ kv) : dz_T (s176_X8_ranksIf_0 fu c248_groups c261_everyRank a264 a277 (F176_X8_ranksIf fu c248_groups c261_everyRank a264 a277 kv).1  v1 v2 v3) (fun r => r.toInt ≤ 16777215 ∧ 0 ≤ r.toInt) := by
  unfold s176_X8_ranksIf_0
  have e1 := dz_l0
  exact (t176_X8_ranksIf_I_g4 fu hfu c248_groups c261_everyRank a264 a277 p0 p1 p2 p3 hr_a264 hr_a277 kv) v1 v2 v3 c261_everyRank (0 : Int32) p7 p4 p6 p5 p2 (by first | assumption | omega) (by omega) (by omega) (by omega)
theorem t176_X8_ranksIf_g4 (fu : Nat) (hfu : 1000000000000 ≤ fu) (c248_groups : Int32) (c261_everyRank : Int32) (a264 : Nat → Int32) (a277 : Nat → Int32) (v1 : Int32) (v2 : Int32) (v3 : Int32) (p0 : c248_groups.toInt ≤ 4) (p1 : 4 ≤ c248_groups.toInt) (p2 : c261_everyRank.toInt ≤ 16777215) (p3 : 16777215 ≤ c261_everyRank.toInt) (p4 : 0 ≤ v1.toInt) (p5 : (-1) ≤ v3.toInt) (p6 : v3.toInt ≤ 3) (p7 : v1.toInt ≤ 2) (hr_a264 : dz_rg a264 16 0 16777215) (hr_a277 : dz_rg a277 12 (-1) 3) : dz_T (f176_X8_ranksIf fu c248_groups c261_everyRank a264 a277 v1 v2 v3) (fun r => r.toInt ≤ 16777215 ∧ 0 ≤ r.toInt) :=
  t176_X8_ranksIf_E_g4 fu hfu c248_groups c261_everyRank a264 a277 v1 v2 v3 p0 p1 p2 p3 p4 p5 p6 p7 hr_a264 hr_a277 fu hfu
set_option maxHeartbeats 1000000 in
theorem t176_X8_ranksIf_s (fu : Nat) (hfu : 1000000000000 ≤ fu) (κ : Nat) (hκ : κ < 14) (c248_groups : Int32) (c261_everyRank : Int32) (a264 : Nat → Int32) (a277 : Nat → Int32) (v1 : Int32) (v2 : Int32) (v3 : Int32) (p0 : c248_groups.toInt ≤ 4) (p1 : 2 ≤ c248_groups.toInt) (p2 : c261_everyRank.toInt ≤ 16777215) (p3 : 0 ≤ c261_everyRank.toInt) (p4 : 0 ≤ v1.toInt) (p5 : (-1) ≤ v3.toInt) (p6 : v3.toInt ≤ 3) (p7 : v1.toInt ≤ 3) (hr_a264 : dz_rg a264 16 0 16777215) (hr_a277 : dz_rg a277 12 (-1) 3) (o0 : v1.toInt ≤ ((dz_kp κ : Nat) : Int) - 1) (o1 : c248_groups.toInt = ((dz_kg κ : Nat) : Int)) (o2 : c261_everyRank.toInt = ((dz_ke κ : Nat) : Int)) : dz_T (f176_X8_ranksIf fu c248_groups c261_everyRank a264 a277 v1 v2 v3) (fun r => r.toInt ≤ 16777215 ∧ 0 ≤ r.toInt ∧ r.toInt ≤ c261_everyRank.toInt) := by
  rcases (show κ = 0 ∨ κ = 1 ∨ κ = 2 ∨ κ = 3 ∨ κ = 4 ∨ κ = 5 ∨ κ = 6 ∨ κ = 7 ∨ κ = 8 ∨ κ = 9 ∨ κ = 10 ∨ κ = 11 ∨ κ = 12 ∨ κ = 13 by omega) with rfl | rfl | rfl | rfl | rfl | rfl | rfl | rfl | rfl | rfl | rfl | rfl | rfl | rfl
  · skip
    have o0 : v1.toInt ≤ (0 : Int) - 1 := o0
    have o1 : c248_groups.toInt = (2 : Int) := o1
    have o2 : c261_everyRank.toInt = (3 : Int) := o2
    refine dz_Tw (t176_X8_ranksIf_g2 fu hfu c248_groups c261_everyRank a264 a277 v1 v2 v3 (by first | assumption | omega) (by first | assumption | omega) (by first | assumption | omega) (by first | assumption | omega) (by first | assumption | omega) (by first | assumption | omega) (by first | assumption | omega) (by first | assumption | omega) (by first | exact hr_a264 | exact dz_rgm hr_a264 (by omega) (by omega) | exact dz_pmr hr_a264 (by decide) (by omega) (by omega) (by omega) | exact dz_ptr hr_a264 (by decide) (by decide) (by omega) | exact dz_ptr hr_a264 (by decide) (by decide) (by show _ ≤ 0; omega) | exact dz_rgs hr_a264 (by omega)) (by first | exact hr_a277 | exact dz_rgm hr_a277 (by omega) (by omega) | exact dz_pmr hr_a277 (by decide) (by omega) (by omega) (by omega) | exact dz_ptr hr_a277 (by decide) (by decide) (by omega) | exact dz_ptr hr_a277 (by decide) (by decide) (by show _ ≤ 0; omega) | exact dz_rgs hr_a277 (by omega))) (fun r h => ?_)
    obtain ⟨g0, g1⟩ := h
    exact ⟨(by first | assumption | omega), (by first | assumption | omega), (by first | assumption | omega)⟩
  · skip
    have o0 : v1.toInt ≤ (1 : Int) - 1 := o0
    have o1 : c248_groups.toInt = (2 : Int) := o1
    have o2 : c261_everyRank.toInt = (3 : Int) := o2
    refine dz_Tw (t176_X8_ranksIf_g2 fu hfu c248_groups c261_everyRank a264 a277 v1 v2 v3 (by first | assumption | omega) (by first | assumption | omega) (by first | assumption | omega) (by first | assumption | omega) (by first | assumption | omega) (by first | assumption | omega) (by first | assumption | omega) (by first | assumption | omega) (by first | exact hr_a264 | exact dz_rgm hr_a264 (by omega) (by omega) | exact dz_pmr hr_a264 (by decide) (by omega) (by omega) (by omega) | exact dz_ptr hr_a264 (by decide) (by decide) (by omega) | exact dz_ptr hr_a264 (by decide) (by decide) (by show _ ≤ 1; omega) | exact dz_rgs hr_a264 (by omega)) (by first | exact hr_a277 | exact dz_rgm hr_a277 (by omega) (by omega) | exact dz_pmr hr_a277 (by decide) (by omega) (by omega) (by omega) | exact dz_ptr hr_a277 (by decide) (by decide) (by omega) | exact dz_ptr hr_a277 (by decide) (by decide) (by show _ ≤ 1; omega) | exact dz_rgs hr_a277 (by omega))) (fun r h => ?_)
    obtain ⟨g0, g1⟩ := h
    exact ⟨(by first | assumption | omega), (by first | assumption | omega), (by first | assumption | omega)⟩
  · skip
    have o0 : v1.toInt ≤ (2 : Int) - 1 := o0
    have o1 : c248_groups.toInt = (2 : Int) := o1
    have o2 : c261_everyRank.toInt = (3 : Int) := o2
    refine dz_Tw (t176_X8_ranksIf_g2 fu hfu c248_groups c261_everyRank a264 a277 v1 v2 v3 (by first | assumption | omega) (by first | assumption | omega) (by first | assumption | omega) (by first | assumption | omega) (by first | assumption | omega) (by first | assumption | omega) (by first | assumption | omega) (by first | assumption | omega) (by first | exact hr_a264 | exact dz_rgm hr_a264 (by omega) (by omega) | exact dz_pmr hr_a264 (by decide) (by omega) (by omega) (by omega) | exact dz_ptr hr_a264 (by decide) (by decide) (by omega) | exact dz_ptr hr_a264 (by decide) (by decide) (by show _ ≤ 2; omega) | exact dz_rgs hr_a264 (by omega)) (by first | exact hr_a277 | exact dz_rgm hr_a277 (by omega) (by omega) | exact dz_pmr hr_a277 (by decide) (by omega) (by omega) (by omega) | exact dz_ptr hr_a277 (by decide) (by decide) (by omega) | exact dz_ptr hr_a277 (by decide) (by decide) (by show _ ≤ 2; omega) | exact dz_rgs hr_a277 (by omega))) (fun r h => ?_)
    obtain ⟨g0, g1⟩ := h
    exact ⟨(by first | assumption | omega), (by first | assumption | omega), (by first | assumption | omega)⟩
  · skip
    have o0 : v1.toInt ≤ (3 : Int) - 1 := o0
    have o1 : c248_groups.toInt = (2 : Int) := o1
    have o2 : c261_everyRank.toInt = (3 : Int) := o2
    refine dz_Tw (t176_X8_ranksIf_g2 fu hfu c248_groups c261_everyRank a264 a277 v1 v2 v3 (by first | assumption | omega) (by first | assumption | omega) (by first | assumption | omega) (by first | assumption | omega) (by first | assumption | omega) (by first | assumption | omega) (by first | assumption | omega) (by first | assumption | omega) (by first | exact hr_a264 | exact dz_rgm hr_a264 (by omega) (by omega) | exact dz_pmr hr_a264 (by decide) (by omega) (by omega) (by omega) | exact dz_ptr hr_a264 (by decide) (by decide) (by omega) | exact dz_ptr hr_a264 (by decide) (by decide) (by show _ ≤ 3; omega) | exact dz_rgs hr_a264 (by omega)) (by first | exact hr_a277 | exact dz_rgm hr_a277 (by omega) (by omega) | exact dz_pmr hr_a277 (by decide) (by omega) (by omega) (by omega) | exact dz_ptr hr_a277 (by decide) (by decide) (by omega) | exact dz_ptr hr_a277 (by decide) (by decide) (by show _ ≤ 3; omega) | exact dz_rgs hr_a277 (by omega))) (fun r h => ?_)
    obtain ⟨g0, g1⟩ := h
    exact ⟨(by first | assumption | omega), (by first | assumption | omega), (by first | assumption | omega)⟩
  · skip
    have o0 : v1.toInt ≤ (4 : Int) - 1 := o0
    have o1 : c248_groups.toInt = (2 : Int) := o1
    have o2 : c261_everyRank.toInt = (3 : Int) := o2
    refine dz_Tw (t176_X8_ranksIf_g2 fu hfu c248_groups c261_everyRank a264 a277 v1 v2 v3 (by first | assumption | omega) (by first | assumption | omega) (by first | assumption | omega) (by first | assumption | omega) (by first | assumption | omega) (by first | assumption | omega) (by first | assumption | omega) (by first | assumption | omega) (by first | exact hr_a264 | exact dz_rgm hr_a264 (by omega) (by omega) | exact dz_pmr hr_a264 (by decide) (by omega) (by omega) (by omega) | exact dz_ptr hr_a264 (by decide) (by decide) (by omega) | exact dz_ptr hr_a264 (by decide) (by decide) (by show _ ≤ 4; omega) | exact dz_rgs hr_a264 (by omega)) (by first | exact hr_a277 | exact dz_rgm hr_a277 (by omega) (by omega) | exact dz_pmr hr_a277 (by decide) (by omega) (by omega) (by omega) | exact dz_ptr hr_a277 (by decide) (by decide) (by omega) | exact dz_ptr hr_a277 (by decide) (by decide) (by show _ ≤ 4; omega) | exact dz_rgs hr_a277 (by omega))) (fun r h => ?_)
    obtain ⟨g0, g1⟩ := h
    exact ⟨(by first | assumption | omega), (by first | assumption | omega), (by first | assumption | omega)⟩
  · skip
    have o0 : v1.toInt ≤ (0 : Int) - 1 := o0
    have o1 : c248_groups.toInt = (3 : Int) := o1
    have o2 : c261_everyRank.toInt = (63 : Int) := o2
    refine dz_Tw (t176_X8_ranksIf_g3 fu hfu c248_groups c261_everyRank a264 a277 v1 v2 v3 (by first | assumption | omega) (by first | assumption | omega) (by first | assumption | omega) (by first | assumption | omega) (by first | assumption | omega) (by first | assumption | omega) (by first | assumption | omega) (by first | assumption | omega) (by first | exact hr_a264 | exact dz_rgm hr_a264 (by omega) (by omega) | exact dz_pmr hr_a264 (by decide) (by omega) (by omega) (by omega) | exact dz_ptr hr_a264 (by decide) (by decide) (by omega) | exact dz_ptr hr_a264 (by decide) (by decide) (by show _ ≤ 0; omega) | exact dz_rgs hr_a264 (by omega)) (by first | exact hr_a277 | exact dz_rgm hr_a277 (by omega) (by omega) | exact dz_pmr hr_a277 (by decide) (by omega) (by omega) (by omega) | exact dz_ptr hr_a277 (by decide) (by decide) (by omega) | exact dz_ptr hr_a277 (by decide) (by decide) (by show _ ≤ 0; omega) | exact dz_rgs hr_a277 (by omega))) (fun r h => ?_)
    obtain ⟨g0, g1⟩ := h
    exact ⟨(by first | assumption | omega), (by first | assumption | omega), (by first | assumption | omega)⟩
  · skip
    have o0 : v1.toInt ≤ (1 : Int) - 1 := o0
    have o1 : c248_groups.toInt = (3 : Int) := o1
    have o2 : c261_everyRank.toInt = (63 : Int) := o2
    refine dz_Tw (t176_X8_ranksIf_g3 fu hfu c248_groups c261_everyRank a264 a277 v1 v2 v3 (by first | assumption | omega) (by first | assumption | omega) (by first | assumption | omega) (by first | assumption | omega) (by first | assumption | omega) (by first | assumption | omega) (by first | assumption | omega) (by first | assumption | omega) (by first | exact hr_a264 | exact dz_rgm hr_a264 (by omega) (by omega) | exact dz_pmr hr_a264 (by decide) (by omega) (by omega) (by omega) | exact dz_ptr hr_a264 (by decide) (by decide) (by omega) | exact dz_ptr hr_a264 (by decide) (by decide) (by show _ ≤ 1; omega) | exact dz_rgs hr_a264 (by omega)) (by first | exact hr_a277 | exact dz_rgm hr_a277 (by omega) (by omega) | exact dz_pmr hr_a277 (by decide) (by omega) (by omega) (by omega) | exact dz_ptr hr_a277 (by decide) (by decide) (by omega) | exact dz_ptr hr_a277 (by decide) (by decide) (by show _ ≤ 1; omega) | exact dz_rgs hr_a277 (by omega))) (fun r h => ?_)
    obtain ⟨g0, g1⟩ := h
    exact ⟨(by first | assumption | omega), (by first | assumption | omega), (by first | assumption | omega)⟩
  · skip
    have o0 : v1.toInt ≤ (2 : Int) - 1 := o0
    have o1 : c248_groups.toInt = (3 : Int) := o1
    have o2 : c261_everyRank.toInt = (63 : Int) := o2
    refine dz_Tw (t176_X8_ranksIf_g3 fu hfu c248_groups c261_everyRank a264 a277 v1 v2 v3 (by first | assumption | omega) (by first | assumption | omega) (by first | assumption | omega) (by first | assumption | omega) (by first | assumption | omega) (by first | assumption | omega) (by first | assumption | omega) (by first | assumption | omega) (by first | exact hr_a264 | exact dz_rgm hr_a264 (by omega) (by omega) | exact dz_pmr hr_a264 (by decide) (by omega) (by omega) (by omega) | exact dz_ptr hr_a264 (by decide) (by decide) (by omega) | exact dz_ptr hr_a264 (by decide) (by decide) (by show _ ≤ 2; omega) | exact dz_rgs hr_a264 (by omega)) (by first | exact hr_a277 | exact dz_rgm hr_a277 (by omega) (by omega) | exact dz_pmr hr_a277 (by decide) (by omega) (by omega) (by omega) | exact dz_ptr hr_a277 (by decide) (by decide) (by omega) | exact dz_ptr hr_a277 (by decide) (by decide) (by show _ ≤ 2; omega) | exact dz_rgs hr_a277 (by omega))) (fun r h => ?_)
    obtain ⟨g0, g1⟩ := h
    exact ⟨(by first | assumption | omega), (by first | assumption | omega), (by first | assumption | omega)⟩
  · skip
    have o0 : v1.toInt ≤ (3 : Int) - 1 := o0
    have o1 : c248_groups.toInt = (3 : Int) := o1
    have o2 : c261_everyRank.toInt = (63 : Int) := o2
    refine dz_Tw (t176_X8_ranksIf_g3 fu hfu c248_groups c261_everyRank a264 a277 v1 v2 v3 (by first | assumption | omega) (by first | assumption | omega) (by first | assumption | omega) (by first | assumption | omega) (by first | assumption | omega) (by first | assumption | omega) (by first | assumption | omega) (by first | assumption | omega) (by first | exact hr_a264 | exact dz_rgm hr_a264 (by omega) (by omega) | exact dz_pmr hr_a264 (by decide) (by omega) (by omega) (by omega) | exact dz_ptr hr_a264 (by decide) (by decide) (by omega) | exact dz_ptr hr_a264 (by decide) (by decide) (by show _ ≤ 3; omega) | exact dz_rgs hr_a264 (by omega)) (by first | exact hr_a277 | exact dz_rgm hr_a277 (by omega) (by omega) | exact dz_pmr hr_a277 (by decide) (by omega) (by omega) (by omega) | exact dz_ptr hr_a277 (by decide) (by decide) (by omega) | exact dz_ptr hr_a277 (by decide) (by decide) (by show _ ≤ 3; omega) | exact dz_rgs hr_a277 (by omega))) (fun r h => ?_)
    obtain ⟨g0, g1⟩ := h
    exact ⟨(by first | assumption | omega), (by first | assumption | omega), (by first | assumption | omega)⟩
  · skip
    have o0 : v1.toInt ≤ (4 : Int) - 1 := o0
    have o1 : c248_groups.toInt = (3 : Int) := o1
    have o2 : c261_everyRank.toInt = (63 : Int) := o2
    refine dz_Tw (t176_X8_ranksIf_g3 fu hfu c248_groups c261_everyRank a264 a277 v1 v2 v3 (by first | assumption | omega) (by first | assumption | omega) (by first | assumption | omega) (by first | assumption | omega) (by first | assumption | omega) (by first | assumption | omega) (by first | assumption | omega) (by first | assumption | omega) (by first | exact hr_a264 | exact dz_rgm hr_a264 (by omega) (by omega) | exact dz_pmr hr_a264 (by decide) (by omega) (by omega) (by omega) | exact dz_ptr hr_a264 (by decide) (by decide) (by omega) | exact dz_ptr hr_a264 (by decide) (by decide) (by show _ ≤ 4; omega) | exact dz_rgs hr_a264 (by omega)) (by first | exact hr_a277 | exact dz_rgm hr_a277 (by omega) (by omega) | exact dz_pmr hr_a277 (by decide) (by omega) (by omega) (by omega) | exact dz_ptr hr_a277 (by decide) (by decide) (by omega) | exact dz_ptr hr_a277 (by decide) (by decide) (by show _ ≤ 4; omega) | exact dz_rgs hr_a277 (by omega))) (fun r h => ?_)
    obtain ⟨g0, g1⟩ := h
    exact ⟨(by first | assumption | omega), (by first | assumption | omega), (by first | assumption | omega)⟩
  · skip
    have o0 : v1.toInt ≤ (0 : Int) - 1 := o0
    have o1 : c248_groups.toInt = (4 : Int) := o1
    have o2 : c261_everyRank.toInt = (16777215 : Int) := o2
    refine dz_Tw (t176_X8_ranksIf_g4 fu hfu c248_groups c261_everyRank a264 a277 v1 v2 v3 (by first | assumption | omega) (by first | assumption | omega) (by first | assumption | omega) (by first | assumption | omega) (by first | assumption | omega) (by first | assumption | omega) (by first | assumption | omega) (by first | assumption | omega) (by first | exact hr_a264 | exact dz_rgm hr_a264 (by omega) (by omega) | exact dz_pmr hr_a264 (by decide) (by omega) (by omega) (by omega) | exact dz_ptr hr_a264 (by decide) (by decide) (by omega) | exact dz_ptr hr_a264 (by decide) (by decide) (by show _ ≤ 0; omega) | exact dz_rgs hr_a264 (by omega)) (by first | exact hr_a277 | exact dz_rgm hr_a277 (by omega) (by omega) | exact dz_pmr hr_a277 (by decide) (by omega) (by omega) (by omega) | exact dz_ptr hr_a277 (by decide) (by decide) (by omega) | exact dz_ptr hr_a277 (by decide) (by decide) (by show _ ≤ 0; omega) | exact dz_rgs hr_a277 (by omega))) (fun r h => ?_)
    obtain ⟨g0, g1⟩ := h
    exact ⟨(by first | assumption | omega), (by first | assumption | omega), (by first | assumption | omega)⟩
  · skip
    have o0 : v1.toInt ≤ (1 : Int) - 1 := o0
    have o1 : c248_groups.toInt = (4 : Int) := o1
    have o2 : c261_everyRank.toInt = (16777215 : Int) := o2
    refine dz_Tw (t176_X8_ranksIf_g4 fu hfu c248_groups c261_everyRank a264 a277 v1 v2 v3 (by first | assumption | omega) (by first | assumption | omega) (by first | assumption | omega) (by first | assumption | omega) (by first | assumption | omega) (by first | assumption | omega) (by first | assumption | omega) (by first | assumption | omega) (by first | exact hr_a264 | exact dz_rgm hr_a264 (by omega) (by omega) | exact dz_pmr hr_a264 (by decide) (by omega) (by omega) (by omega) | exact dz_ptr hr_a264 (by decide) (by decide) (by omega) | exact dz_ptr hr_a264 (by decide) (by decide) (by show _ ≤ 1; omega) | exact dz_rgs hr_a264 (by omega)) (by first | exact hr_a277 | exact dz_rgm hr_a277 (by omega) (by omega) | exact dz_pmr hr_a277 (by decide) (by omega) (by omega) (by omega) | exact dz_ptr hr_a277 (by decide) (by decide) (by omega) | exact dz_ptr hr_a277 (by decide) (by decide) (by show _ ≤ 1; omega) | exact dz_rgs hr_a277 (by omega))) (fun r h => ?_)
    obtain ⟨g0, g1⟩ := h
    exact ⟨(by first | assumption | omega), (by first | assumption | omega), (by first | assumption | omega)⟩
  · skip
    have o0 : v1.toInt ≤ (2 : Int) - 1 := o0
    have o1 : c248_groups.toInt = (4 : Int) := o1
    have o2 : c261_everyRank.toInt = (16777215 : Int) := o2
    refine dz_Tw (t176_X8_ranksIf_g4 fu hfu c248_groups c261_everyRank a264 a277 v1 v2 v3 (by first | assumption | omega) (by first | assumption | omega) (by first | assumption | omega) (by first | assumption | omega) (by first | assumption | omega) (by first | assumption | omega) (by first | assumption | omega) (by first | assumption | omega) (by first | exact hr_a264 | exact dz_rgm hr_a264 (by omega) (by omega) | exact dz_pmr hr_a264 (by decide) (by omega) (by omega) (by omega) | exact dz_ptr hr_a264 (by decide) (by decide) (by omega) | exact dz_ptr hr_a264 (by decide) (by decide) (by show _ ≤ 2; omega) | exact dz_rgs hr_a264 (by omega)) (by first | exact hr_a277 | exact dz_rgm hr_a277 (by omega) (by omega) | exact dz_pmr hr_a277 (by decide) (by omega) (by omega) (by omega) | exact dz_ptr hr_a277 (by decide) (by decide) (by omega) | exact dz_ptr hr_a277 (by decide) (by decide) (by show _ ≤ 2; omega) | exact dz_rgs hr_a277 (by omega))) (fun r h => ?_)
    obtain ⟨g0, g1⟩ := h
    exact ⟨(by first | assumption | omega), (by first | assumption | omega), (by first | assumption | omega)⟩
  · skip
    have o0 : v1.toInt ≤ (3 : Int) - 1 := o0
    have o1 : c248_groups.toInt = (4 : Int) := o1
    have o2 : c261_everyRank.toInt = (16777215 : Int) := o2
    refine dz_Tw (t176_X8_ranksIf_g4 fu hfu c248_groups c261_everyRank a264 a277 v1 v2 v3 (by first | assumption | omega) (by first | assumption | omega) (by first | assumption | omega) (by first | assumption | omega) (by first | assumption | omega) (by first | assumption | omega) (by first | assumption | omega) (by first | assumption | omega) (by first | exact hr_a264 | exact dz_rgm hr_a264 (by omega) (by omega) | exact dz_pmr hr_a264 (by decide) (by omega) (by omega) (by omega) | exact dz_ptr hr_a264 (by decide) (by decide) (by omega) | exact dz_ptr hr_a264 (by decide) (by decide) (by show _ ≤ 3; omega) | exact dz_rgs hr_a264 (by omega)) (by first | exact hr_a277 | exact dz_rgm hr_a277 (by omega) (by omega) | exact dz_pmr hr_a277 (by decide) (by omega) (by omega) (by omega) | exact dz_ptr hr_a277 (by decide) (by decide) (by omega) | exact dz_ptr hr_a277 (by decide) (by decide) (by show _ ≤ 3; omega) | exact dz_rgs hr_a277 (by omega))) (fun r h => ?_)
    obtain ⟨g0, g1⟩ := h
    exact ⟨(by first | assumption | omega), (by first | assumption | omega), (by first | assumption | omega)⟩
set_option maxHeartbeats 1000000 in
set_option maxRecDepth 10000 in
theorem t177_X8_ranksLeft_s (fu : Nat) (hfu : 1000000000000 ≤ fu) (κ : Nat) (hκ : κ < 14) (c248_groups : Int32) (c261_everyRank : Int32) (a264 : Nat → Int32) (a277 : Nat → Int32) (v1 : Int32) (p0 : c248_groups.toInt ≤ 4) (p1 : 2 ≤ c248_groups.toInt) (p2 : c261_everyRank.toInt ≤ 16777215) (p3 : 0 ≤ c261_everyRank.toInt) (p4 : 0 ≤ v1.toInt) (p5 : v1.toInt ≤ 3) (hr_a264 : dz_rg a264 16 0 16777215) (hr_a277 : dz_rg a277 12 (-1) 3) (o0 : v1.toInt ≤ ((dz_kp κ : Nat) : Int) - 1) (o1 : c248_groups.toInt = ((dz_kg κ : Nat) : Int)) (o2 : c261_everyRank.toInt = ((dz_ke κ : Nat) : Int)) : dz_T (f177_X8_ranksLeft fu c248_groups c261_everyRank a264 a277 v1) (fun r => r.toInt ≤ 16777215 ∧ 0 ≤ r.toInt ∧ r.toInt ≤ c261_everyRank.toInt) := by
  unfold f177_X8_ranksLeft s177_X8_ranksLeft_0
  have e1 := dz_lm1
  refine dz_Tb (t176_X8_ranksIf_s fu hfu κ hκ _ _ _ _ _ _ _ p0 p1 p2 p3 p4 (by omega) (by omega) p5 (hr_a264) (hr_a277) o0 o1 o2) (fun r1 q => ?_)
  obtain ⟨q1_0, q1_1, q1_2⟩ := q
  exact dz_Ts ⟨q1_0, q1_1, q1_2⟩
set_option maxHeartbeats 1000000 in
set_option maxRecDepth 10000 in
theorem t178_X8_rankAtLevel_g20 (fu : Nat) (hfu : 1000000000000 ≤ fu) (c248_groups : Int32) (c261_everyRank : Int32) (a264 : Nat → Int32) (a275 : Nat → Int32) (a277 : Nat → Int32) (v1 : Int32) (p0 : c248_groups.toInt ≤ 2) (p1 : 2 ≤ c248_groups.toInt) (p2 : c261_everyRank.toInt ≤ 3) (p3 : 3 ≤ c261_everyRank.toInt) (p4 : 0 ≤ v1.toInt) (p5 : v1.toInt ≤ (-1)) (hr_a264 : dz_rg a264 16 0 16777215) (hr_a275 : dz_pm a275 0) (hr_a277 : dz_rg a277 12 (-1) 3) : dz_T (f178_X8_rankAtLevel fu c248_groups c261_everyRank a264 a275 a277 v1) (fun r => (r.toInt ≤ 1)) := by
  unfold f178_X8_rankAtLevel s178_X8_rankAtLevel_0
  exfalso; omega
set_option maxHeartbeats 1000000 in
set_option maxRecDepth 10000 in
theorem t177_X8_ranksLeft_g21 (fu : Nat) (hfu : 1000000000000 ≤ fu) (c248_groups : Int32) (c261_everyRank : Int32) (a264 : Nat → Int32) (a277 : Nat → Int32) (v1 : Int32) (p0 : c248_groups.toInt ≤ 2) (p1 : 2 ≤ c248_groups.toInt) (p2 : c261_everyRank.toInt ≤ 3) (p3 : 3 ≤ c261_everyRank.toInt) (p4 : 0 ≤ v1.toInt) (p5 : v1.toInt ≤ 0) (hr_a264 : dz_rg a264 16 0 16777215) (hr_a277 : dz_rg a277 12 (-1) 3) : dz_T (f177_X8_ranksLeft fu c248_groups c261_everyRank a264 a277 v1) (fun r => r.toInt ≤ 3 ∧ 0 ≤ r.toInt) := by
  unfold f177_X8_ranksLeft s177_X8_ranksLeft_0
  have e1 := dz_lm1
  refine dz_Tb (t176_X8_ranksIf_g2 fu hfu _ _ _ _ _ _ _ p0 p1 p2 p3 p4 (by omega) (by omega) (by first | assumption | omega) (hr_a264) (hr_a277)) (fun r1 q => ?_)
  obtain ⟨q1_0, q1_1⟩ := q
  exact dz_Ts ⟨q1_0, q1_1⟩
set_option maxHeartbeats 1000000 in
set_option maxRecDepth 10000 in
theorem t178_X8_rankAtLevel_g21 (fu : Nat) (hfu : 1000000000000 ≤ fu) (c248_groups : Int32) (c261_everyRank : Int32) (a264 : Nat → Int32) (a275 : Nat → Int32) (a277 : Nat → Int32) (v1 : Int32) (p0 : c248_groups.toInt ≤ 2) (p1 : 2 ≤ c248_groups.toInt) (p2 : c261_everyRank.toInt ≤ 3) (p3 : 3 ≤ c261_everyRank.toInt) (p4 : 0 ≤ v1.toInt) (p5 : v1.toInt ≤ 0) (hr_a264 : dz_rg a264 16 0 16777215) (hr_a275 : dz_pm a275 1) (hr_a277 : dz_rg a277 12 (-1) 3) : dz_T (f178_X8_rankAtLevel fu c248_groups c261_everyRank a264 a275 a277 v1) (fun r => r.toInt ≤ 1 ∧ 0 ≤ r.toInt ∧ (r.toInt ≤ 1)) := by
  unfold f178_X8_rankAtLevel s178_X8_rankAtLevel_0
  refine dz_Tin (by omega) (by omega) ?_
  have e1 := dz_pmat (hr_a275) (i := v1) (by decide) (by omega) (by omega)
  refine dz_Tb (t177_X8_ranksLeft_g21 fu hfu _ _ _ _ _ p0 p1 p2 p3 (by omega) (by omega) (hr_a264) (hr_a277)) (fun r1 q => ?_)
  obtain ⟨q1_0, q1_1⟩ := q
  refine dz_Tb (t129_X4_only fu hfu _ 2 (by omega) (by omega) (by decide)) (fun r2 q => ?_)
  obtain ⟨q2_0, q2_1⟩ := q
  exact dz_Ts ⟨q2_0, q2_1, (by omega)⟩
set_option maxHeartbeats 1000000 in
set_option maxRecDepth 10000 in
theorem t177_X8_ranksLeft_g22 (fu : Nat) (hfu : 1000000000000 ≤ fu) (c248_groups : Int32) (c261_everyRank : Int32) (a264 : Nat → Int32) (a277 : Nat → Int32) (v1 : Int32) (p0 : c248_groups.toInt ≤ 2) (p1 : 2 ≤ c248_groups.toInt) (p2 : c261_everyRank.toInt ≤ 3) (p3 : 3 ≤ c261_everyRank.toInt) (p4 : 0 ≤ v1.toInt) (p5 : v1.toInt ≤ 1) (hr_a264 : dz_rg a264 16 0 16777215) (hr_a277 : dz_rg a277 12 (-1) 3) : dz_T (f177_X8_ranksLeft fu c248_groups c261_everyRank a264 a277 v1) (fun r => r.toInt ≤ 3 ∧ 0 ≤ r.toInt) := by
  unfold f177_X8_ranksLeft s177_X8_ranksLeft_0
  have e1 := dz_lm1
  refine dz_Tb (t176_X8_ranksIf_g2 fu hfu _ _ _ _ _ _ _ p0 p1 p2 p3 p4 (by omega) (by omega) (by first | assumption | omega) (hr_a264) (hr_a277)) (fun r1 q => ?_)
  obtain ⟨q1_0, q1_1⟩ := q
  exact dz_Ts ⟨q1_0, q1_1⟩
set_option maxHeartbeats 1000000 in
set_option maxRecDepth 10000 in
theorem t178_X8_rankAtLevel_g22 (fu : Nat) (hfu : 1000000000000 ≤ fu) (c248_groups : Int32) (c261_everyRank : Int32) (a264 : Nat → Int32) (a275 : Nat → Int32) (a277 : Nat → Int32) (v1 : Int32) (p0 : c248_groups.toInt ≤ 2) (p1 : 2 ≤ c248_groups.toInt) (p2 : c261_everyRank.toInt ≤ 3) (p3 : 3 ≤ c261_everyRank.toInt) (p4 : 0 ≤ v1.toInt) (p5 : v1.toInt ≤ 1) (hr_a264 : dz_rg a264 16 0 16777215) (hr_a275 : dz_pm a275 2) (hr_a277 : dz_rg a277 12 (-1) 3) : dz_T (f178_X8_rankAtLevel fu c248_groups c261_everyRank a264 a275 a277 v1) (fun r => r.toInt ≤ 1 ∧ 0 ≤ r.toInt ∧ (r.toInt ≤ 1)) := by
  unfold f178_X8_rankAtLevel s178_X8_rankAtLevel_0
  refine dz_Tin (by omega) (by omega) ?_
  have e1 := dz_pmat (hr_a275) (i := v1) (by decide) (by omega) (by omega)
  refine dz_Tb (t177_X8_ranksLeft_g22 fu hfu _ _ _ _ _ p0 p1 p2 p3 (by omega) (by omega) (hr_a264) (hr_a277)) (fun r1 q => ?_)
  obtain ⟨q1_0, q1_1⟩ := q
  refine dz_Tb (t129_X4_only fu hfu _ 2 (by omega) (by omega) (by decide)) (fun r2 q => ?_)
  obtain ⟨q2_0, q2_1⟩ := q
  exact dz_Ts ⟨q2_0, q2_1, (by omega)⟩
set_option maxHeartbeats 1000000 in
set_option maxRecDepth 10000 in
theorem t177_X8_ranksLeft_g23 (fu : Nat) (hfu : 1000000000000 ≤ fu) (c248_groups : Int32) (c261_everyRank : Int32) (a264 : Nat → Int32) (a277 : Nat → Int32) (v1 : Int32) (p0 : c248_groups.toInt ≤ 2) (p1 : 2 ≤ c248_groups.toInt) (p2 : c261_everyRank.toInt ≤ 3) (p3 : 3 ≤ c261_everyRank.toInt) (p4 : 0 ≤ v1.toInt) (p5 : v1.toInt ≤ 2) (hr_a264 : dz_rg a264 16 0 16777215) (hr_a277 : dz_rg a277 12 (-1) 3) : dz_T (f177_X8_ranksLeft fu c248_groups c261_everyRank a264 a277 v1) (fun r => r.toInt ≤ 3 ∧ 0 ≤ r.toInt) := by
  unfold f177_X8_ranksLeft s177_X8_ranksLeft_0
  have e1 := dz_lm1
  refine dz_Tb (t176_X8_ranksIf_g2 fu hfu _ _ _ _ _ _ _ p0 p1 p2 p3 p4 (by omega) (by omega) (by first | assumption | omega) (hr_a264) (hr_a277)) (fun r1 q => ?_)
  obtain ⟨q1_0, q1_1⟩ := q
  exact dz_Ts ⟨q1_0, q1_1⟩
set_option maxHeartbeats 1000000 in
set_option maxRecDepth 10000 in
theorem t178_X8_rankAtLevel_g23 (fu : Nat) (hfu : 1000000000000 ≤ fu) (c248_groups : Int32) (c261_everyRank : Int32) (a264 : Nat → Int32) (a275 : Nat → Int32) (a277 : Nat → Int32) (v1 : Int32) (p0 : c248_groups.toInt ≤ 2) (p1 : 2 ≤ c248_groups.toInt) (p2 : c261_everyRank.toInt ≤ 3) (p3 : 3 ≤ c261_everyRank.toInt) (p4 : 0 ≤ v1.toInt) (p5 : v1.toInt ≤ 2) (hr_a264 : dz_rg a264 16 0 16777215) (hr_a275 : dz_pm a275 3) (hr_a277 : dz_rg a277 12 (-1) 3) : dz_T (f178_X8_rankAtLevel fu c248_groups c261_everyRank a264 a275 a277 v1) (fun r => r.toInt ≤ 1 ∧ 0 ≤ r.toInt ∧ (r.toInt ≤ 1)) := by
  unfold f178_X8_rankAtLevel s178_X8_rankAtLevel_0
  refine dz_Tin (by omega) (by omega) ?_
  have e1 := dz_pmat (hr_a275) (i := v1) (by decide) (by omega) (by omega)
  refine dz_Tb (t177_X8_ranksLeft_g23 fu hfu _ _ _ _ _ p0 p1 p2 p3 (by omega) (by omega) (hr_a264) (hr_a277)) (fun r1 q => ?_)
  obtain ⟨q1_0, q1_1⟩ := q
  refine dz_Tb (t129_X4_only fu hfu _ 2 (by omega) (by omega) (by decide)) (fun r2 q => ?_)
  obtain ⟨q2_0, q2_1⟩ := q
  exact dz_Ts ⟨q2_0, q2_1, (by omega)⟩
set_option maxHeartbeats 1000000 in
set_option maxRecDepth 10000 in
theorem t177_X8_ranksLeft_g24 (fu : Nat) (hfu : 1000000000000 ≤ fu) (c248_groups : Int32) (c261_everyRank : Int32) (a264 : Nat → Int32) (a277 : Nat → Int32) (v1 : Int32) (p0 : c248_groups.toInt ≤ 2) (p1 : 2 ≤ c248_groups.toInt) (p2 : c261_everyRank.toInt ≤ 3) (p3 : 3 ≤ c261_everyRank.toInt) (p4 : 0 ≤ v1.toInt) (p5 : v1.toInt ≤ 3) (hr_a264 : dz_rg a264 16 0 16777215) (hr_a277 : dz_rg a277 12 (-1) 3) : dz_T (f177_X8_ranksLeft fu c248_groups c261_everyRank a264 a277 v1) (fun r => r.toInt ≤ 3 ∧ 0 ≤ r.toInt) := by
  unfold f177_X8_ranksLeft s177_X8_ranksLeft_0
  have e1 := dz_lm1
  refine dz_Tb (t176_X8_ranksIf_g2 fu hfu _ _ _ _ _ _ _ p0 p1 p2 p3 p4 (by omega) (by omega) p5 (hr_a264) (hr_a277)) (fun r1 q => ?_)
  obtain ⟨q1_0, q1_1⟩ := q
  exact dz_Ts ⟨q1_0, q1_1⟩
set_option maxHeartbeats 1000000 in
set_option maxRecDepth 10000 in
theorem t178_X8_rankAtLevel_g24 (fu : Nat) (hfu : 1000000000000 ≤ fu) (c248_groups : Int32) (c261_everyRank : Int32) (a264 : Nat → Int32) (a275 : Nat → Int32) (a277 : Nat → Int32) (v1 : Int32) (p0 : c248_groups.toInt ≤ 2) (p1 : 2 ≤ c248_groups.toInt) (p2 : c261_everyRank.toInt ≤ 3) (p3 : 3 ≤ c261_everyRank.toInt) (p4 : 0 ≤ v1.toInt) (p5 : v1.toInt ≤ 3) (hr_a264 : dz_rg a264 16 0 16777215) (hr_a275 : dz_pm a275 4) (hr_a277 : dz_rg a277 12 (-1) 3) : dz_T (f178_X8_rankAtLevel fu c248_groups c261_everyRank a264 a275 a277 v1) (fun r => r.toInt ≤ 1 ∧ 0 ≤ r.toInt ∧ (r.toInt ≤ 1)) := by
  unfold f178_X8_rankAtLevel s178_X8_rankAtLevel_0
  refine dz_Tin (by omega) (by omega) ?_
  have e1 := dz_pmat (hr_a275) (i := v1) (by decide) (by omega) (by omega)
  refine dz_Tb (t177_X8_ranksLeft_g24 fu hfu _ _ _ _ _ p0 p1 p2 p3 (by omega) (by omega) (hr_a264) (hr_a277)) (fun r1 q => ?_)
  obtain ⟨q1_0, q1_1⟩ := q
  refine dz_Tb (t129_X4_only fu hfu _ 2 (by omega) (by omega) (by decide)) (fun r2 q => ?_)
  obtain ⟨q2_0, q2_1⟩ := q
  exact dz_Ts ⟨q2_0, q2_1, (by omega)⟩
set_option maxHeartbeats 1000000 in
set_option maxRecDepth 10000 in
theorem t178_X8_rankAtLevel_g30 (fu : Nat) (hfu : 1000000000000 ≤ fu) (c248_groups : Int32) (c261_everyRank : Int32) (a264 : Nat → Int32) (a275 : Nat → Int32) (a277 : Nat → Int32) (v1 : Int32) (p0 : c248_groups.toInt ≤ 3) (p1 : 3 ≤ c248_groups.toInt) (p2 : c261_everyRank.toInt ≤ 63) (p3 : 63 ≤ c261_everyRank.toInt) (p4 : 0 ≤ v1.toInt) (p5 : v1.toInt ≤ (-1)) (hr_a264 : dz_rg a264 16 0 16777215) (hr_a275 : dz_pm a275 0) (hr_a277 : dz_rg a277 12 (-1) 3) : dz_T (f178_X8_rankAtLevel fu c248_groups c261_everyRank a264 a275 a277 v1) (fun r => (r.toInt ≤ 5)) := by
  unfold f178_X8_rankAtLevel s178_X8_rankAtLevel_0
  exfalso; omega
set_option maxHeartbeats 1000000 in
set_option maxRecDepth 10000 in
theorem t177_X8_ranksLeft_g31 (fu : Nat) (hfu : 1000000000000 ≤ fu) (c248_groups : Int32) (c261_everyRank : Int32) (a264 : Nat → Int32) (a277 : Nat → Int32) (v1 : Int32) (p0 : c248_groups.toInt ≤ 3) (p1 : 3 ≤ c248_groups.toInt) (p2 : c261_everyRank.toInt ≤ 63) (p3 : 63 ≤ c261_everyRank.toInt) (p4 : 0 ≤ v1.toInt) (p5 : v1.toInt ≤ 0) (hr_a264 : dz_rg a264 16 0 16777215) (hr_a277 : dz_rg a277 12 (-1) 3) : dz_T (f177_X8_ranksLeft fu c248_groups c261_everyRank a264 a277 v1) (fun r => r.toInt ≤ 63 ∧ 0 ≤ r.toInt) := by
  unfold f177_X8_ranksLeft s177_X8_ranksLeft_0
  have e1 := dz_lm1
  refine dz_Tb (t176_X8_ranksIf_g3 fu hfu _ _ _ _ _ _ _ p0 p1 p2 p3 p4 (by omega) (by omega) (by first | assumption | omega) (hr_a264) (hr_a277)) (fun r1 q => ?_)
  obtain ⟨q1_0, q1_1⟩ := q
  exact dz_Ts ⟨q1_0, q1_1⟩
set_option maxHeartbeats 1000000 in
set_option maxRecDepth 10000 in
theorem t178_X8_rankAtLevel_g31 (fu : Nat) (hfu : 1000000000000 ≤ fu) (c248_groups : Int32) (c261_everyRank : Int32) (a264 : Nat → Int32) (a275 : Nat → Int32) (a277 : Nat → Int32) (v1 : Int32) (p0 : c248_groups.toInt ≤ 3) (p1 : 3 ≤ c248_groups.toInt) (p2 : c261_everyRank.toInt ≤ 63) (p3 : 63 ≤ c261_everyRank.toInt) (p4 : 0 ≤ v1.toInt) (p5 : v1.toInt ≤ 0) (hr_a264 : dz_rg a264 16 0 16777215) (hr_a275 : dz_pm a275 1) (hr_a277 : dz_rg a277 12 (-1) 3) : dz_T (f178_X8_rankAtLevel fu c248_groups c261_everyRank a264 a275 a277 v1) (fun r => r.toInt ≤ 5 ∧ 0 ≤ r.toInt ∧ (r.toInt ≤ 5)) := by
  unfold f178_X8_rankAtLevel s178_X8_rankAtLevel_0
  refine dz_Tin (by omega) (by omega) ?_
  have e1 := dz_pmat (hr_a275) (i := v1) (by decide) (by omega) (by omega)
  refine dz_Tb (t177_X8_ranksLeft_g31 fu hfu _ _ _ _ _ p0 p1 p2 p3 (by omega) (by omega) (hr_a264) (hr_a277)) (fun r1 q => ?_)
  obtain ⟨q1_0, q1_1⟩ := q
  refine dz_Tb (t129_X4_only fu hfu _ 6 (by omega) (by omega) (by decide)) (fun r2 q => ?_)
  obtain ⟨q2_0, q2_1⟩ := q
  exact dz_Ts ⟨q2_0, q2_1, (by omega)⟩
set_option maxHeartbeats 1000000 in
set_option maxRecDepth 10000 in
theorem t177_X8_ranksLeft_g32 (fu : Nat) (hfu : 1000000000000 ≤ fu) (c248_groups : Int32) (c261_everyRank : Int32) (a264 : Nat → Int32) (a277 : Nat → Int32) (v1 : Int32) (p0 : c248_groups.toInt ≤ 3) (p1 : 3 ≤ c248_groups.toInt) (p2 : c261_everyRank.toInt ≤ 63) (p3 : 63 ≤ c261_everyRank.toInt) (p4 : 0 ≤ v1.toInt) (p5 : v1.toInt ≤ 1) (hr_a264 : dz_rg a264 16 0 16777215) (hr_a277 : dz_rg a277 12 (-1) 3) : dz_T (f177_X8_ranksLeft fu c248_groups c261_everyRank a264 a277 v1) (fun r => r.toInt ≤ 63 ∧ 0 ≤ r.toInt) := by
  unfold f177_X8_ranksLeft s177_X8_ranksLeft_0
  have e1 := dz_lm1
  refine dz_Tb (t176_X8_ranksIf_g3 fu hfu _ _ _ _ _ _ _ p0 p1 p2 p3 p4 (by omega) (by omega) (by first | assumption | omega) (hr_a264) (hr_a277)) (fun r1 q => ?_)
  obtain ⟨q1_0, q1_1⟩ := q
  exact dz_Ts ⟨q1_0, q1_1⟩
set_option maxHeartbeats 1000000 in
set_option maxRecDepth 10000 in
theorem t178_X8_rankAtLevel_g32 (fu : Nat) (hfu : 1000000000000 ≤ fu) (c248_groups : Int32) (c261_everyRank : Int32) (a264 : Nat → Int32) (a275 : Nat → Int32) (a277 : Nat → Int32) (v1 : Int32) (p0 : c248_groups.toInt ≤ 3) (p1 : 3 ≤ c248_groups.toInt) (p2 : c261_everyRank.toInt ≤ 63) (p3 : 63 ≤ c261_everyRank.toInt) (p4 : 0 ≤ v1.toInt) (p5 : v1.toInt ≤ 1) (hr_a264 : dz_rg a264 16 0 16777215) (hr_a275 : dz_pm a275 2) (hr_a277 : dz_rg a277 12 (-1) 3) : dz_T (f178_X8_rankAtLevel fu c248_groups c261_everyRank a264 a275 a277 v1) (fun r => r.toInt ≤ 5 ∧ 0 ≤ r.toInt ∧ (r.toInt ≤ 5)) := by
  unfold f178_X8_rankAtLevel s178_X8_rankAtLevel_0
  refine dz_Tin (by omega) (by omega) ?_
  have e1 := dz_pmat (hr_a275) (i := v1) (by decide) (by omega) (by omega)
  refine dz_Tb (t177_X8_ranksLeft_g32 fu hfu _ _ _ _ _ p0 p1 p2 p3 (by omega) (by omega) (hr_a264) (hr_a277)) (fun r1 q => ?_)
  obtain ⟨q1_0, q1_1⟩ := q
  refine dz_Tb (t129_X4_only fu hfu _ 6 (by omega) (by omega) (by decide)) (fun r2 q => ?_)
  obtain ⟨q2_0, q2_1⟩ := q
  exact dz_Ts ⟨q2_0, q2_1, (by omega)⟩
set_option maxHeartbeats 1000000 in
set_option maxRecDepth 10000 in
theorem t177_X8_ranksLeft_g33 (fu : Nat) (hfu : 1000000000000 ≤ fu) (c248_groups : Int32) (c261_everyRank : Int32) (a264 : Nat → Int32) (a277 : Nat → Int32) (v1 : Int32) (p0 : c248_groups.toInt ≤ 3) (p1 : 3 ≤ c248_groups.toInt) (p2 : c261_everyRank.toInt ≤ 63) (p3 : 63 ≤ c261_everyRank.toInt) (p4 : 0 ≤ v1.toInt) (p5 : v1.toInt ≤ 2) (hr_a264 : dz_rg a264 16 0 16777215) (hr_a277 : dz_rg a277 12 (-1) 3) : dz_T (f177_X8_ranksLeft fu c248_groups c261_everyRank a264 a277 v1) (fun r => r.toInt ≤ 63 ∧ 0 ≤ r.toInt) := by
  unfold f177_X8_ranksLeft s177_X8_ranksLeft_0
  have e1 := dz_lm1
  refine dz_Tb (t176_X8_ranksIf_g3 fu hfu _ _ _ _ _ _ _ p0 p1 p2 p3 p4 (by omega) (by omega) (by first | assumption | omega) (hr_a264) (hr_a277)) (fun r1 q => ?_)
  obtain ⟨q1_0, q1_1⟩ := q
  exact dz_Ts ⟨q1_0, q1_1⟩
set_option maxHeartbeats 1000000 in
set_option maxRecDepth 10000 in
theorem t178_X8_rankAtLevel_g33 (fu : Nat) (hfu : 1000000000000 ≤ fu) (c248_groups : Int32) (c261_everyRank : Int32) (a264 : Nat → Int32) (a275 : Nat → Int32) (a277 : Nat → Int32) (v1 : Int32) (p0 : c248_groups.toInt ≤ 3) (p1 : 3 ≤ c248_groups.toInt) (p2 : c261_everyRank.toInt ≤ 63) (p3 : 63 ≤ c261_everyRank.toInt) (p4 : 0 ≤ v1.toInt) (p5 : v1.toInt ≤ 2) (hr_a264 : dz_rg a264 16 0 16777215) (hr_a275 : dz_pm a275 3) (hr_a277 : dz_rg a277 12 (-1) 3) : dz_T (f178_X8_rankAtLevel fu c248_groups c261_everyRank a264 a275 a277 v1) (fun r => r.toInt ≤ 5 ∧ 0 ≤ r.toInt ∧ (r.toInt ≤ 5)) := by
  unfold f178_X8_rankAtLevel s178_X8_rankAtLevel_0
  refine dz_Tin (by omega) (by omega) ?_
  have e1 := dz_pmat (hr_a275) (i := v1) (by decide) (by omega) (by omega)
  refine dz_Tb (t177_X8_ranksLeft_g33 fu hfu _ _ _ _ _ p0 p1 p2 p3 (by omega) (by omega) (hr_a264) (hr_a277)) (fun r1 q => ?_)
  obtain ⟨q1_0, q1_1⟩ := q
  refine dz_Tb (t129_X4_only fu hfu _ 6 (by omega) (by omega) (by decide)) (fun r2 q => ?_)
  obtain ⟨q2_0, q2_1⟩ := q
  exact dz_Ts ⟨q2_0, q2_1, (by omega)⟩
set_option maxHeartbeats 1000000 in
set_option maxRecDepth 10000 in
theorem t177_X8_ranksLeft_g34 (fu : Nat) (hfu : 1000000000000 ≤ fu) (c248_groups : Int32) (c261_everyRank : Int32) (a264 : Nat → Int32) (a277 : Nat → Int32) (v1 : Int32) (p0 : c248_groups.toInt ≤ 3) (p1 : 3 ≤ c248_groups.toInt) (p2 : c261_everyRank.toInt ≤ 63) (p3 : 63 ≤ c261_everyRank.toInt) (p4 : 0 ≤ v1.toInt) (p5 : v1.toInt ≤ 3) (hr_a264 : dz_rg a264 16 0 16777215) (hr_a277 : dz_rg a277 12 (-1) 3) : dz_T (f177_X8_ranksLeft fu c248_groups c261_everyRank a264 a277 v1) (fun r => r.toInt ≤ 63 ∧ 0 ≤ r.toInt) := by
  unfold f177_X8_ranksLeft s177_X8_ranksLeft_0
  have e1 := dz_lm1
  refine dz_Tb (t176_X8_ranksIf_g3 fu hfu _ _ _ _ _ _ _ p0 p1 p2 p3 p4 (by omega) (by omega) p5 (hr_a264) (hr_a277)) (fun r1 q => ?_)
  obtain ⟨q1_0, q1_1⟩ := q
  exact dz_Ts ⟨q1_0, q1_1⟩
set_option maxHeartbeats 1000000 in
set_option maxRecDepth 10000 in
theorem t178_X8_rankAtLevel_g34 (fu : Nat) (hfu : 1000000000000 ≤ fu) (c248_groups : Int32) (c261_everyRank : Int32) (a264 : Nat → Int32) (a275 : Nat → Int32) (a277 : Nat → Int32) (v1 : Int32) (p0 : c248_groups.toInt ≤ 3) (p1 : 3 ≤ c248_groups.toInt) (p2 : c261_everyRank.toInt ≤ 63) (p3 : 63 ≤ c261_everyRank.toInt) (p4 : 0 ≤ v1.toInt) (p5 : v1.toInt ≤ 3) (hr_a264 : dz_rg a264 16 0 16777215) (hr_a275 : dz_pm a275 4) (hr_a277 : dz_rg a277 12 (-1) 3) : dz_T (f178_X8_rankAtLevel fu c248_groups c261_everyRank a264 a275 a277 v1) (fun r => r.toInt ≤ 5 ∧ 0 ≤ r.toInt ∧ (r.toInt ≤ 5)) := by
  unfold f178_X8_rankAtLevel s178_X8_rankAtLevel_0
  refine dz_Tin (by omega) (by omega) ?_
  have e1 := dz_pmat (hr_a275) (i := v1) (by decide) (by omega) (by omega)
  refine dz_Tb (t177_X8_ranksLeft_g34 fu hfu _ _ _ _ _ p0 p1 p2 p3 (by omega) (by omega) (hr_a264) (hr_a277)) (fun r1 q => ?_)
  obtain ⟨q1_0, q1_1⟩ := q
  refine dz_Tb (t129_X4_only fu hfu _ 6 (by omega) (by omega) (by decide)) (fun r2 q => ?_)
  obtain ⟨q2_0, q2_1⟩ := q
  exact dz_Ts ⟨q2_0, q2_1, (by omega)⟩
set_option maxHeartbeats 1000000 in
set_option maxRecDepth 10000 in
theorem t178_X8_rankAtLevel_g40 (fu : Nat) (hfu : 1000000000000 ≤ fu) (c248_groups : Int32) (c261_everyRank : Int32) (a264 : Nat → Int32) (a275 : Nat → Int32) (a277 : Nat → Int32) (v1 : Int32) (p0 : c248_groups.toInt ≤ 4) (p1 : 4 ≤ c248_groups.toInt) (p2 : c261_everyRank.toInt ≤ 16777215) (p3 : 16777215 ≤ c261_everyRank.toInt) (p4 : 0 ≤ v1.toInt) (p5 : v1.toInt ≤ (-1)) (hr_a264 : dz_rg a264 16 0 16777215) (hr_a275 : dz_pm a275 0) (hr_a277 : dz_rg a277 12 (-1) 3) : dz_T (f178_X8_rankAtLevel fu c248_groups c261_everyRank a264 a275 a277 v1) (fun r => (r.toInt ≤ 23)) := by
  unfold f178_X8_rankAtLevel s178_X8_rankAtLevel_0
  exfalso; omega
set_option maxHeartbeats 1000000 in
set_option maxRecDepth 10000 in
theorem t177_X8_ranksLeft_g41 (fu : Nat) (hfu : 1000000000000 ≤ fu) (c248_groups : Int32) (c261_everyRank : Int32) (a264 : Nat → Int32) (a277 : Nat → Int32) (v1 : Int32) (p0 : c248_groups.toInt ≤ 4) (p1 : 4 ≤ c248_groups.toInt) (p2 : c261_everyRank.toInt ≤ 16777215) (p3 : 16777215 ≤ c261_everyRank.toInt) (p4 : 0 ≤ v1.toInt) (p5 : v1.toInt ≤ 0) (hr_a264 : dz_rg a264 16 0 16777215) (hr_a277 : dz_rg a277 12 (-1) 3) : dz_T (f177_X8_ranksLeft fu c248_groups c261_everyRank a264 a277 v1) (fun r => r.toInt ≤ 16777215 ∧ 0 ≤ r.toInt) := by
  unfold f177_X8_ranksLeft s177_X8_ranksLeft_0
  have e1 := dz_lm1
  refine dz_Tb (t176_X8_ranksIf_g4 fu hfu _ _ _ _ _ _ _ p0 p1 p2 p3 p4 (by omega) (by omega) (by first | assumption | omega) (hr_a264) (hr_a277)) (fun r1 q => ?_)
  obtain ⟨q1_0, q1_1⟩ := q
  exact dz_Ts ⟨q1_0, q1_1⟩
set_option maxHeartbeats 1000000 in
set_option maxRecDepth 10000 in
theorem t178_X8_rankAtLevel_g41 (fu : Nat) (hfu : 1000000000000 ≤ fu) (c248_groups : Int32) (c261_everyRank : Int32) (a264 : Nat → Int32) (a275 : Nat → Int32) (a277 : Nat → Int32) (v1 : Int32) (p0 : c248_groups.toInt ≤ 4) (p1 : 4 ≤ c248_groups.toInt) (p2 : c261_everyRank.toInt ≤ 16777215) (p3 : 16777215 ≤ c261_everyRank.toInt) (p4 : 0 ≤ v1.toInt) (p5 : v1.toInt ≤ 0) (hr_a264 : dz_rg a264 16 0 16777215) (hr_a275 : dz_pm a275 1) (hr_a277 : dz_rg a277 12 (-1) 3) : dz_T (f178_X8_rankAtLevel fu c248_groups c261_everyRank a264 a275 a277 v1) (fun r => r.toInt ≤ 23 ∧ 0 ≤ r.toInt ∧ (r.toInt ≤ 23)) := by
  unfold f178_X8_rankAtLevel s178_X8_rankAtLevel_0
  refine dz_Tin (by omega) (by omega) ?_
  have e1 := dz_pmat (hr_a275) (i := v1) (by decide) (by omega) (by omega)
  refine dz_Tb (t177_X8_ranksLeft_g41 fu hfu _ _ _ _ _ p0 p1 p2 p3 (by omega) (by omega) (hr_a264) (hr_a277)) (fun r1 q => ?_)
  obtain ⟨q1_0, q1_1⟩ := q
  refine dz_Tb (t129_X4_only fu hfu _ 24 (by omega) (by omega) (by decide)) (fun r2 q => ?_)
  obtain ⟨q2_0, q2_1⟩ := q
  exact dz_Ts ⟨q2_0, q2_1, (by omega)⟩
set_option maxHeartbeats 1000000 in
set_option maxRecDepth 10000 in
theorem t177_X8_ranksLeft_g42 (fu : Nat) (hfu : 1000000000000 ≤ fu) (c248_groups : Int32) (c261_everyRank : Int32) (a264 : Nat → Int32) (a277 : Nat → Int32) (v1 : Int32) (p0 : c248_groups.toInt ≤ 4) (p1 : 4 ≤ c248_groups.toInt) (p2 : c261_everyRank.toInt ≤ 16777215) (p3 : 16777215 ≤ c261_everyRank.toInt) (p4 : 0 ≤ v1.toInt) (p5 : v1.toInt ≤ 1) (hr_a264 : dz_rg a264 16 0 16777215) (hr_a277 : dz_rg a277 12 (-1) 3) : dz_T (f177_X8_ranksLeft fu c248_groups c261_everyRank a264 a277 v1) (fun r => r.toInt ≤ 16777215 ∧ 0 ≤ r.toInt) := by
  unfold f177_X8_ranksLeft s177_X8_ranksLeft_0
  have e1 := dz_lm1
  refine dz_Tb (t176_X8_ranksIf_g4 fu hfu _ _ _ _ _ _ _ p0 p1 p2 p3 p4 (by omega) (by omega) (by first | assumption | omega) (hr_a264) (hr_a277)) (fun r1 q => ?_)
  obtain ⟨q1_0, q1_1⟩ := q
  exact dz_Ts ⟨q1_0, q1_1⟩
set_option maxHeartbeats 1000000 in
set_option maxRecDepth 10000 in
theorem t178_X8_rankAtLevel_g42 (fu : Nat) (hfu : 1000000000000 ≤ fu) (c248_groups : Int32) (c261_everyRank : Int32) (a264 : Nat → Int32) (a275 : Nat → Int32) (a277 : Nat → Int32) (v1 : Int32) (p0 : c248_groups.toInt ≤ 4) (p1 : 4 ≤ c248_groups.toInt) (p2 : c261_everyRank.toInt ≤ 16777215) (p3 : 16777215 ≤ c261_everyRank.toInt) (p4 : 0 ≤ v1.toInt) (p5 : v1.toInt ≤ 1) (hr_a264 : dz_rg a264 16 0 16777215) (hr_a275 : dz_pm a275 2) (hr_a277 : dz_rg a277 12 (-1) 3) : dz_T (f178_X8_rankAtLevel fu c248_groups c261_everyRank a264 a275 a277 v1) (fun r => r.toInt ≤ 23 ∧ 0 ≤ r.toInt ∧ (r.toInt ≤ 23)) := by
  unfold f178_X8_rankAtLevel s178_X8_rankAtLevel_0
  refine dz_Tin (by omega) (by omega) ?_
  have e1 := dz_pmat (hr_a275) (i := v1) (by decide) (by omega) (by omega)
  refine dz_Tb (t177_X8_ranksLeft_g42 fu hfu _ _ _ _ _ p0 p1 p2 p3 (by omega) (by omega) (hr_a264) (hr_a277)) (fun r1 q => ?_)
  obtain ⟨q1_0, q1_1⟩ := q
  refine dz_Tb (t129_X4_only fu hfu _ 24 (by omega) (by omega) (by decide)) (fun r2 q => ?_)
  obtain ⟨q2_0, q2_1⟩ := q
  exact dz_Ts ⟨q2_0, q2_1, (by omega)⟩
set_option maxHeartbeats 1000000 in
set_option maxRecDepth 10000 in
theorem t177_X8_ranksLeft_g43 (fu : Nat) (hfu : 1000000000000 ≤ fu) (c248_groups : Int32) (c261_everyRank : Int32) (a264 : Nat → Int32) (a277 : Nat → Int32) (v1 : Int32) (p0 : c248_groups.toInt ≤ 4) (p1 : 4 ≤ c248_groups.toInt) (p2 : c261_everyRank.toInt ≤ 16777215) (p3 : 16777215 ≤ c261_everyRank.toInt) (p4 : 0 ≤ v1.toInt) (p5 : v1.toInt ≤ 2) (hr_a264 : dz_rg a264 16 0 16777215) (hr_a277 : dz_rg a277 12 (-1) 3) : dz_T (f177_X8_ranksLeft fu c248_groups c261_everyRank a264 a277 v1) (fun r => r.toInt ≤ 16777215 ∧ 0 ≤ r.toInt) := by
  unfold f177_X8_ranksLeft s177_X8_ranksLeft_0
  have e1 := dz_lm1
  refine dz_Tb (t176_X8_ranksIf_g4 fu hfu _ _ _ _ _ _ _ p0 p1 p2 p3 p4 (by omega) (by omega) p5 (hr_a264) (hr_a277)) (fun r1 q => ?_)
  obtain ⟨q1_0, q1_1⟩ := q
  exact dz_Ts ⟨q1_0, q1_1⟩
set_option maxHeartbeats 1000000 in
set_option maxRecDepth 10000 in
theorem t178_X8_rankAtLevel_g43 (fu : Nat) (hfu : 1000000000000 ≤ fu) (c248_groups : Int32) (c261_everyRank : Int32) (a264 : Nat → Int32) (a275 : Nat → Int32) (a277 : Nat → Int32) (v1 : Int32) (p0 : c248_groups.toInt ≤ 4) (p1 : 4 ≤ c248_groups.toInt) (p2 : c261_everyRank.toInt ≤ 16777215) (p3 : 16777215 ≤ c261_everyRank.toInt) (p4 : 0 ≤ v1.toInt) (p5 : v1.toInt ≤ 2) (hr_a264 : dz_rg a264 16 0 16777215) (hr_a275 : dz_pm a275 3) (hr_a277 : dz_rg a277 12 (-1) 3) : dz_T (f178_X8_rankAtLevel fu c248_groups c261_everyRank a264 a275 a277 v1) (fun r => r.toInt ≤ 23 ∧ 0 ≤ r.toInt ∧ (r.toInt ≤ 23)) := by
  unfold f178_X8_rankAtLevel s178_X8_rankAtLevel_0
  refine dz_Tin (by omega) (by omega) ?_
  have e1 := dz_pmat (hr_a275) (i := v1) (by decide) (by omega) (by omega)
  refine dz_Tb (t177_X8_ranksLeft_g43 fu hfu _ _ _ _ _ p0 p1 p2 p3 (by omega) (by omega) (hr_a264) (hr_a277)) (fun r1 q => ?_)
  obtain ⟨q1_0, q1_1⟩ := q
  refine dz_Tb (t129_X4_only fu hfu _ 24 (by omega) (by omega) (by decide)) (fun r2 q => ?_)
  obtain ⟨q2_0, q2_1⟩ := q
  exact dz_Ts ⟨q2_0, q2_1, (by omega)⟩
