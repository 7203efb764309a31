abbrev p277_X0_refresh_s (fu : Nat) (κ : Nat) (U : Nat) (c248_groups : Int32) (c248_pots : Int32) (c248_bars : Int32) (c261_many : Int32) (a263 : Nat → Int32) (c267_total : Int32) (a268 : Nat → Int32) (a269 : Nat → Int32) (n269 : Nat) (k : Nat) : Prop :=
  (∀ (v2 : Int32) (sl : Nat) (c305_fresh : Int32) (a306 : Nat → Int32) (n306 : Nat), v2.toInt ≤ 13824 → 0 ≤ v2.toInt → ((sl : Nat) : Int) ≤ 8064 → c305_fresh.toInt ≤ 0 → 0 ≤ c305_fresh.toInt → ((n306 : Nat) : Int) ≤ 8064 → 144 ≤ ((n306 : Nat) : Int) → ((sl : Nat) : Int) ≤ ((U : Nat) : Int) → ((sl : Nat) : Int) ≤ ((n306 : Nat) : Int) → v2.toInt ≤ ((n269 : Nat) : Int) → v2.toInt ≤ c267_total.toInt → dz_kn c248_bars ≤ ((n306 : Nat) : Int) → 0 + 0 + (13824 - v2.toInt) * 18 + 9 ≤ ((k : Nat) : Int) → dz_T ((F277_X0_refresh fu U c248_groups c248_pots c248_bars c261_many a263 c267_total a268 a269 n269 k).2.1 v2 sl c305_fresh a306 n306) (fun r => r.1.toInt ≤ 1 ∧ 1 ≤ r.1.toInt ∧ ((r.2.2 : Nat) : Int) ≤ 8064 ∧ 144 ≤ ((r.2.2 : Nat) : Int) ∧ (dz_kn c248_bars ≤ ((r.2.2 : Nat) : Int))))
set_option maxHeartbeats 1000000 in
set_option maxRecDepth 10000 in
theorem t277_X0_refresh_h2_s (fu : Nat) (hfu : 1000000000000 ≤ fu) (κ : Nat) (hκ : κ < 14) (U : Nat) (c248_groups : Int32) (c248_pots : Int32) (c248_bars : Int32) (c261_many : Int32) (a263 : Nat → Int32) (c267_total : Int32) (a268 : Nat → Int32) (a269 : Nat → Int32) (n269 : Nat) (p0 : c248_groups.toInt ≤ 4) (p1 : 2 ≤ c248_groups.toInt) (p2 : c248_pots.toInt ≤ 4) (p3 : 0 ≤ c248_pots.toInt) (p4 : c248_bars.toInt ≤ 10) (p5 : 0 ≤ c248_bars.toInt) (p6 : c261_many.toInt ≤ 24) (p7 : 0 ≤ c261_many.toInt) (p8 : c267_total.toInt ≤ 13824) (p9 : 1 ≤ c267_total.toInt) (p10 : ((n269 : Nat) : Int) ≤ 13824) (p11 : 1 ≤ ((n269 : Nat) : Int)) (p12 : c267_total.toInt ≤ ((n269 : Nat) : Int)) (hr_a263 : dz_rq a263 (dz_kr κ) (dz_kg κ) 0 (((dz_kg κ : Nat) : Int) - 1)) (hr_a268 : dz_pt a268 (dz_kS κ)) (hr_a269 : dz_rg a269 n269 0 1023) (o1 : c248_groups.toInt = ((dz_kg κ : Nat) : Int)) (o2 : c248_pots.toInt = ((dz_kp κ : Nat) : Int)) (o3 : c261_many.toInt = ((dz_kr κ : Nat) : Int)) (o4 : c267_total.toInt = ((dz_kt κ : Nat) : Int)) (o5 : dz_rb a269 (dz_kt κ) c248_bars) (k : Nat) (ih : ∀ j9, j9 < k → p277_X0_refresh_s fu κ U c248_groups c248_pots c248_bars c261_many a263 c267_total a268 a269 n269 j9) : ∀ (v2 : Int32) (sl : Nat) (c305_fresh : Int32) (a306 : Nat → Int32) (n306 : Nat), v2.toInt ≤ 13824 → 0 ≤ v2.toInt → ((sl : Nat) : Int) ≤ 8064 → c305_fresh.toInt ≤ 0 → 0 ≤ c305_fresh.toInt → ((n306 : Nat) : Int) ≤ 8064 → 144 ≤ ((n306 : Nat) : Int) → ((sl : Nat) : Int) ≤ ((U : Nat) : Int) → ((sl : Nat) : Int) ≤ ((n306 : Nat) : Int) → v2.toInt ≤ ((n269 : Nat) : Int) → v2.toInt ≤ c267_total.toInt → dz_kn c248_bars ≤ ((n306 : Nat) : Int) → 0 + 0 + (13824 - v2.toInt) * 18 + 9 ≤ ((k : Nat) : Int) → dz_T ((F277_X0_refresh fu U c248_groups c248_pots c248_bars c261_many a263 c267_total a268 a269 n269 k).2.1 v2 sl c305_fresh a306 n306) (fun r => r.1.toInt ≤ 1 ∧ 1 ≤ r.1.toInt ∧ ((r.2.2 : Nat) : Int) ≤ 8064 ∧ 144 ≤ ((r.2.2 : Nat) : Int) ∧ (dz_kn c248_bars ≤ ((r.2.2 : Nat) : Int))) := by
  intro v2 sl c305_fresh a306 n306 i0 i1 i2 i3 i4 i5 i6 i7 i8 i9 i10 x0 hm
  obtain ⟨k0, rfl⟩ : ∃ x, k = x + 1 := ⟨k - 1, by omega⟩
  show dz_T (s277_X0_refresh_2 fu U c248_groups c248_pots c248_bars c261_many a263 c267_total a268 a269 n269 (F277_X0_refresh fu U c248_groups c248_pots c248_bars c261_many a263 c267_total a268 a269 n269 k0).2.2.1 (F277_X0_refresh fu U c248_groups c248_pots c248_bars c261_many a263 c267_total a268 a269 n269 k0).2.2.2.1  v2 sl c305_fresh a306 n306) _
  unfold s277_X0_refresh_2
  have b1 := dz_kn8 (b := c248_bars) (by omega) (by omega)
  refine dz_Tg (by omega) ?_
  refine dz_Tle (fun h1 => ?_) (fun h1 => ?_)
  · skip
    have e2 := dz_l1
    refine dz_Ts ?_
    dsimp only
    exact ⟨(by omega), (by omega), i5, i6, (by omega)⟩
  · skip
    refine dz_Tin (by omega) (by omega) ?_
    have e3 := dz_rgat (hr_a269) (i := v2) (by omega) (by omega)
    refine dz_Tb (t128_J6_bitCount fu hfu _ ) (fun r1 _ => ?_)
    have e4 := dz_l2
    refine dz_Tlt (fun h5 => ?_) (fun h5 => ?_)
    · skip
      obtain ⟨k1, rfl⟩ : ∃ x, k0 = x + 1 := ⟨k0 - 1, by omega⟩
      show dz_T (s277_X0_refresh_3 fu U c248_groups c248_pots c248_bars c261_many a263 c267_total a268 a269 n269 (F277_X0_refresh fu U c248_groups c248_pots c248_bars c261_many a263 c267_total a268 a269 n269 k1).2.1 v2 sl c305_fresh a306 n306) _
      unfold s277_X0_refresh_3
      refine dz_Tg (by omega) ?_
      have e6 := dz_l1
      have e7 := dz_add (a := v2) (b := (1 : Int32)) (by omega) (by omega)
      exact (ih k1 (by omega)) (v2 + (1 : Int32)) sl c305_fresh a306 n306 (by omega) (by omega) i2 i3 i4 i5 i6 i7 i8 (by omega) (by omega) (by omega) (by omega)
    · skip
      have e8 := dz_l0
      refine dz_Teq (fun h9 => ?_) (fun h9 => ?_)
      · skip
        obtain ⟨k2, rfl⟩ : ∃ x, k0 = x + 1 := ⟨k0 - 1, by omega⟩
        show dz_T (s277_X0_refresh_4 fu U c248_groups c248_pots c248_bars c261_many a263 c267_total a268 a269 n269 (F277_X0_refresh fu U c248_groups c248_pots c248_bars c261_many a263 c267_total a268 a269 n269 k2).2.2.2.2 v2 (a269 v2.toNatClampNeg) (-(1 : Int32)) sl c305_fresh a306 n306) _
        unfold s277_X0_refresh_4
        refine dz_Tg (by omega) ?_
        have e10 := dz_l1
        have e11 := dz_sub (a := (a269 v2.toNatClampNeg)) (b := (1 : Int32)) (by omega) (by omega)
        have e12 := dz_andl (a := (a269 v2.toNatClampNeg)) (b := ((a269 v2.toNatClampNeg) - (1 : Int32))) (by omega)
        refine dz_Teq (fun h13 => ?_) (fun h13 => ?_)
        · skip
          obtain ⟨k3, rfl⟩ : ∃ x, k2 = x + 1 := ⟨k2 - 1, by omega⟩
          show dz_T (s277_X0_refresh_5 fu U c248_groups c248_pots c248_bars c261_many a263 c267_total a268 a269 n269 (F277_X0_refresh fu U c248_groups c248_pots c248_bars c261_many a263 c267_total a268 a269 n269 k3).2.2.1 v2 (-(1 : Int32)) (-(1 : Int32)) v2 sl c305_fresh a306 n306) _
          unfold s277_X0_refresh_5
          refine dz_Tg (by omega) ?_
          have e14 := dz_lm1
          refine dz_Tb (t275_X0_kindOf_b fu hfu _ _ c248_bars (by omega) (by omega) (by omega) (by omega) (by omega)) (fun r2 q => ?_)
          obtain ⟨q2_0, q2_1, qo2_0⟩ := q
          have e15 := dz_l144
          have e16 := dz_mulr (a := r2) (b := (144 : Int32)) 144 (by omega) (by omega) (by omega)
          refine dz_Tb (t276_X0_addDraw_s fu hfu κ hκ _ _ _ _ _ _ _ _ _ p0 p1 p2 p3 p6 p7 i5 i6 i1 (by first | assumption | omega) (by omega) (by omega) (by omega) (hr_a263) (hr_a268) (by first | assumption | omega) o1 o2 o3) (fun r3 _ => ?_)
          obtain ⟨k4, rfl⟩ : ∃ x, k3 = x + 1 := ⟨k3 - 1, by omega⟩
          show dz_T (s277_X0_refresh_3 fu U c248_groups c248_pots c248_bars c261_many a263 c267_total a268 a269 n269 (F277_X0_refresh fu U c248_groups c248_pots c248_bars c261_many a263 c267_total a268 a269 n269 k4).2.1 v2 sl c305_fresh r3 n306) _
          unfold s277_X0_refresh_3
          refine dz_Tg (by omega) ?_
          have e17 := dz_add (a := v2) (b := (1 : Int32)) (by omega) (by omega)
          exact (ih k4 (by omega)) (v2 + (1 : Int32)) sl c305_fresh r3 n306 (by omega) (by omega) i2 i3 i4 i5 i6 i7 i8 (by omega) (by omega) (by omega) (by omega)
        · skip
          exfalso; omega
      · skip
        refine dz_Tb (t129_X4_only_b fu hfu _ c248_bars (dz_rbat (by assumption) (i := v2) (by omega) (by omega)) (by omega) (by omega) (by omega)) (fun r4 q => ?_)
        obtain ⟨q4_0, q4_1, qo4_0⟩ := q
        obtain ⟨k5, rfl⟩ : ∃ x, k0 = x + 1 := ⟨k0 - 1, by omega⟩
        show dz_T (s277_X0_refresh_4 fu U c248_groups c248_pots c248_bars c261_many a263 c267_total a268 a269 n269 (F277_X0_refresh fu U c248_groups c248_pots c248_bars c261_many a263 c267_total a268 a269 n269 k5).2.2.2.2 v2 (a269 v2.toNatClampNeg) r4 sl c305_fresh a306 n306) _
        unfold s277_X0_refresh_4
        refine dz_Tg (by omega) ?_
        have e18 := dz_l1
        have e19 := dz_sub (a := (a269 v2.toNatClampNeg)) (b := (1 : Int32)) (by omega) (by omega)
        have e20 := dz_andr (a := (a269 v2.toNatClampNeg)) (b := ((a269 v2.toNatClampNeg) - (1 : Int32))) (by omega)
        have e21 := dz_andl (a := (a269 v2.toNatClampNeg)) (b := ((a269 v2.toNatClampNeg) - (1 : Int32))) (by omega)
        refine dz_Teq (fun h22 => ?_) (fun h22 => ?_)
        · skip
          obtain ⟨k6, rfl⟩ : ∃ x, k5 = x + 1 := ⟨k5 - 1, by omega⟩
          show dz_T (s277_X0_refresh_5 fu U c248_groups c248_pots c248_bars c261_many a263 c267_total a268 a269 n269 (F277_X0_refresh fu U c248_groups c248_pots c248_bars c261_many a263 c267_total a268 a269 n269 k6).2.2.1 v2 (-(1 : Int32)) r4 v2 sl c305_fresh a306 n306) _
          unfold s277_X0_refresh_5
          refine dz_Tg (by omega) ?_
          have e23 := dz_lm1
          refine dz_Tb (t275_X0_kindOf_b fu hfu _ _ c248_bars (by omega) (by omega) (by omega) (by omega) (by omega)) (fun r5 q => ?_)
          obtain ⟨q5_0, q5_1, qo5_0⟩ := q
          have e24 := dz_l144
          have e25 := dz_mulr (a := r5) (b := (144 : Int32)) 144 (by omega) (by omega) (by omega)
          refine dz_Tb (t276_X0_addDraw_s fu hfu κ hκ _ _ _ _ _ _ _ _ _ p0 p1 p2 p3 p6 p7 i5 i6 i1 (by first | assumption | omega) (by omega) (by omega) (by omega) (hr_a263) (hr_a268) (by first | assumption | omega) o1 o2 o3) (fun r6 _ => ?_)
          obtain ⟨k7, rfl⟩ : ∃ x, k6 = x + 1 := ⟨k6 - 1, by omega⟩
          show dz_T (s277_X0_refresh_3 fu U c248_groups c248_pots c248_bars c261_many a263 c267_total a268 a269 n269 (F277_X0_refresh fu U c248_groups c248_pots c248_bars c261_many a263 c267_total a268 a269 n269 k7).2.1 v2 sl c305_fresh r6 n306) _
          unfold s277_X0_refresh_3
          refine dz_Tg (by omega) ?_
          have e26 := dz_add (a := v2) (b := (1 : Int32)) (by omega) (by omega)
          exact (ih k7 (by omega)) (v2 + (1 : Int32)) sl c305_fresh r6 n306 (by omega) (by omega) i2 i3 i4 i5 i6 i7 i8 (by omega) (by omega) (by omega) (by omega)
        · skip
          refine dz_Tb (t129_X4_only_r fu hfu _ c248_bars r4 (by assumption) (dz_rbat (by assumption) (i := v2) (by omega) (by omega)) (by omega) (by omega) (by omega)) (fun r7 q => ?_)
          obtain ⟨q7_0, q7_1⟩ := q
          obtain ⟨k8, rfl⟩ : ∃ x, k5 = x + 1 := ⟨k5 - 1, by omega⟩
          show dz_T (s277_X0_refresh_5 fu U c248_groups c248_pots c248_bars c261_many a263 c267_total a268 a269 n269 (F277_X0_refresh fu U c248_groups c248_pots c248_bars c261_many a263 c267_total a268 a269 n269 k8).2.2.1 v2 r7 r4 v2 sl c305_fresh a306 n306) _
          unfold s277_X0_refresh_5
          refine dz_Tg (by omega) ?_
          refine dz_Tb (t275_X0_kindOf_b fu hfu _ _ c248_bars (by omega) (by omega) (by omega) (by omega) (by omega)) (fun r8 q => ?_)
          obtain ⟨q8_0, q8_1, qo8_0⟩ := q
          have e27 := dz_l144
          have e28 := dz_mulr (a := r8) (b := (144 : Int32)) 144 (by omega) (by omega) (by omega)
          refine dz_Tb (t276_X0_addDraw_s fu hfu κ hκ _ _ _ _ _ _ _ _ _ p0 p1 p2 p3 p6 p7 i5 i6 i1 (by first | assumption | omega) (by omega) (by omega) (by omega) (hr_a263) (hr_a268) (by first | assumption | omega) o1 o2 o3) (fun r9 _ => ?_)
          obtain ⟨k9, rfl⟩ : ∃ x, k8 = x + 1 := ⟨k8 - 1, by omega⟩
          show dz_T (s277_X0_refresh_3 fu U c248_groups c248_pots c248_bars c261_many a263 c267_total a268 a269 n269 (F277_X0_refresh fu U c248_groups c248_pots c248_bars c261_many a263 c267_total a268 a269 n269 k9).2.1 v2 sl c305_fresh r9 n306) _
          unfold s277_X0_refresh_3
          refine dz_Tg (by omega) ?_
          have e29 := dz_add (a := v2) (b := (1 : Int32)) (by omega) (by omega)
          exact (ih k9 (by omega)) (v2 + (1 : Int32)) sl c305_fresh r9 n306 (by omega) (by omega) i2 i3 i4 i5 i6 i7 i8 (by omega) (by omega) (by omega) (by omega)
theorem t277_X0_refresh_I_s (fu : Nat) (hfu : 1000000000000 ≤ fu) (κ : Nat) (hκ : κ < 14) (U : Nat) (c248_groups : Int32) (c248_pots : Int32) (c248_bars : Int32) (c261_many : Int32) (a263 : Nat → Int32) (c267_total : Int32) (a268 : Nat → Int32) (a269 : Nat → Int32) (n269 : Nat) (p0 : c248_groups.toInt ≤ 4) (p1 : 2 ≤ c248_groups.toInt) (p2 : c248_pots.toInt ≤ 4) (p3 : 0 ≤ c248_pots.toInt) (p4 : c248_bars.toInt ≤ 10) (p5 : 0 ≤ c248_bars.toInt) (p6 : c261_many.toInt ≤ 24) (p7 : 0 ≤ c261_many.toInt) (p8 : c267_total.toInt ≤ 13824) (p9 : 1 ≤ c267_total.toInt) (p10 : ((n269 : Nat) : Int) ≤ 13824) (p11 : 1 ≤ ((n269 : Nat) : Int)) (p12 : c267_total.toInt ≤ ((n269 : Nat) : Int)) (hr_a263 : dz_rq a263 (dz_kr κ) (dz_kg κ) 0 (((dz_kg κ : Nat) : Int) - 1)) (hr_a268 : dz_pt a268 (dz_kS κ)) (hr_a269 : dz_rg a269 n269 0 1023) (o1 : c248_groups.toInt = ((dz_kg κ : Nat) : Int)) (o2 : c248_pots.toInt = ((dz_kp κ : Nat) : Int)) (o3 : c261_many.toInt = ((dz_kr κ : Nat) : Int)) (o4 : c267_total.toInt = ((dz_kt κ : Nat) : Int)) (o5 : dz_rb a269 (dz_kt κ) c248_bars) (k : Nat) : p277_X0_refresh_s fu κ U c248_groups c248_pots c248_bars c261_many a263 c267_total a268 a269 n269 k := by
  induction k using Nat.strongRecOn with
  | _ k ih => exact t277_X0_refresh_h2_s fu hfu κ hκ U c248_groups c248_pots c248_bars c261_many a263 c267_total a268 a269 n269 p0 p1 p2 p3 p4 p5 p6 p7 p8 p9 p10 p11 p12 hr_a263 hr_a268 hr_a269 o1 o2 o3 o4 o5 k ih
set_option maxHeartbeats 1000000 in
set_option maxRecDepth 10000 in
theorem t277_X0_refresh_E_s (fu : Nat) (hfu : 1000000000000 ≤ fu) (κ : Nat) (hκ : κ < 14) (U : Nat) (c248_groups : Int32) (c248_pots : Int32) (c248_bars : Int32) (c261_many : Int32) (a263 : Nat → Int32) (c267_total : Int32) (a268 : Nat → Int32) (a269 : Nat → Int32) (n269 : Nat) (c305_fresh : Int32) (a306 : Nat → Int32) (n306 : Nat) (p0 : c248_groups.toInt ≤ 4) (p1 : 2 ≤ c248_groups.toInt) (p2 : c248_pots.toInt ≤ 4) (p3 : 0 ≤ c248_pots.toInt) (p4 : c248_bars.toInt ≤ 10) (p5 : 0 ≤ c248_bars.toInt) (p6 : c261_many.toInt ≤ 24) (p7 : 0 ≤ c261_many.toInt) (p8 : c267_total.toInt ≤ 13824) (p9 : 1 ≤ c267_total.toInt) (p10 : ((n269 : Nat) : Int) ≤ 13824) (p11 : 1 ≤ ((n269 : Nat) : Int)) (p12 : c305_fresh.toInt ≤ 1) (p13 : 0 ≤ c305_fresh.toInt) (p14 : ((n306 : Nat) : Int) ≤ 8064) (p15 : 144 ≤ ((n306 : Nat) : Int)) (p16 : c267_total.toInt ≤ ((n269 : Nat) : Int)) (hr_a263 : dz_rq a263 (dz_kr κ) (dz_kg κ) 0 (((dz_kg κ : Nat) : Int) - 1)) (hr_a268 : dz_pt a268 (dz_kS κ)) (hr_a269 : dz_rg a269 n269 0 1023) (o0 : dz_needT c305_fresh c248_bars n306 ≤ U) (o1 : c248_groups.toInt = ((dz_kg κ : Nat) : Int)) (o2 : c248_pots.toInt = ((dz_kp κ : Nat) : Int)) (o3 : c261_many.toInt = ((dz_kr κ : Nat) : Int)) (o4 : c267_total.toInt = ((dz_kt κ : Nat) : Int)) (o5 : dz_rb a269 (dz_kt κ) c248_bars) (o6 : c305_fresh.toInt = 0 ∨ dz_kn c248_bars ≤ ((n306 : Nat) : Int)) (kv : Nat) (hkv : 1000000000000 ≤ kv) : dz_T (s277_X0_refresh_0 fu U c248_groups c248_pots c248_bars c261_many a263 c267_total a268 a269 n269 (F277_X0_refresh fu U c248_groups c248_pots c248_bars c261_many a263 c267_total a268 a269 n269 kv).1  c305_fresh a306 n306) (fun r => r.1.toInt ≤ 1 ∧ 1 ≤ r.1.toInt ∧ ((r.2.2 : Nat) : Int) ≤ 8064 ∧ 144 ≤ ((r.2.2 : Nat) : Int) ∧ (dz_kn c248_bars ≤ ((r.2.2 : Nat) : Int))) := by
  unfold s277_X0_refresh_0
  have b0 := dz_needTk (fr := c305_fresh) (bars := c248_bars) (n := n306) (by omega) (by omega)
  have b1 := dz_kn8 (b := c248_bars) (by omega) (by omega)
  have e1 := dz_l0
  refine dz_Teq (fun h2 => ?_) (fun h2 => ?_)
  · skip
    refine dz_Tb (t273_X0_firstKind_b fu hfu _ (by omega) (by omega)) (fun r1 q => ?_)
    obtain ⟨q1_0, q1_1, qo1_0⟩ := q
    have e3 := dz_l144
    have e4 := dz_mulr (a := r1) (b := (144 : Int32)) 144 (by omega) (by omega) (by omega)
    have e5 := dz_ofn (n := n306) (by omega)
    refine dz_Tle (fun h6 => ?_) (fun h6 => ?_)
    · skip
      obtain ⟨k1, rfl⟩ : ∃ x, kv = x + 1 := ⟨kv - 1, by omega⟩
      show dz_T (s277_X0_refresh_1 fu U c248_groups c248_pots c248_bars c261_many a263 c267_total a268 a269 n269 (F277_X0_refresh fu U c248_groups c248_pots c248_bars c261_many a263 c267_total a268 a269 n269 k1).2.1 0 c305_fresh a306 n306) _
      unfold s277_X0_refresh_1
      refine dz_Tg (by omega) ?_
      refine dz_Tb (t274_J7_fill_53178_o fu hfu _ _ _ (by first | assumption | omega)) (fun r2 _ => ?_)
      exact (t277_X0_refresh_I_s fu hfu κ hκ U c248_groups c248_pots c248_bars c261_many a263 c267_total a268 a269 n269 p0 p1 p2 p3 p4 p5 p6 p7 p8 p9 p10 p11 p16 hr_a263 hr_a268 hr_a269 o1 o2 o3 o4 o5 k1) (0 : Int32) 0 c305_fresh r2 n306 (by omega) (by omega) (by first | assumption | omega) (by first | assumption | omega) p13 p14 p15 (by first | assumption | omega) (by first | assumption | omega) (by omega) (by omega) (by omega) (by omega)
    · skip
      refine dz_Tng (by omega) ?_
      have e7 := dz_tn (r1 * (144 : Int32))
      refine dz_Tg (by omega) ?_
      refine dz_Tg (by omega) ?_
      refine dz_Tg (by omega) ?_
      obtain ⟨k2, rfl⟩ : ∃ x, kv = x + 1 := ⟨kv - 1, by omega⟩
      show dz_T (s277_X0_refresh_1 fu U c248_groups c248_pots c248_bars c261_many a263 c267_total a268 a269 n269 (F277_X0_refresh fu U c248_groups c248_pots c248_bars c261_many a263 c267_total a268 a269 n269 k2).2.1 (0 + (r1 * (144 : Int32)).toNatClampNeg) c305_fresh (jw_l 0 []) (r1 * (144 : Int32)).toNatClampNeg) _
      unfold s277_X0_refresh_1
      refine dz_Tg (by omega) ?_
      refine dz_Tb (t274_J7_fill_53178 fu hfu _ _ _ 0 0 (by omega) (by omega) (by omega) (dz_rg0 (by omega) (by omega))) (fun r3 q => ?_)
      have qa3_0 := q
      exact (t277_X0_refresh_I_s fu hfu κ hκ U c248_groups c248_pots c248_bars c261_many a263 c267_total a268 a269 n269 p0 p1 p2 p3 p4 p5 p6 p7 p8 p9 p10 p11 p16 hr_a263 hr_a268 hr_a269 o1 o2 o3 o4 o5 k2) (0 : Int32) (0 + (r1 * (144 : Int32)).toNatClampNeg) c305_fresh r3 (r1 * (144 : Int32)).toNatClampNeg (by omega) (by omega) (by omega) (by first | assumption | omega) p13 (by omega) (by omega) (by omega) (by omega) (by omega) (by omega) (by omega) (by omega)
  · skip
    refine dz_Ts ?_
    dsimp only
    exact ⟨p12, (by first | assumption | omega), p14, p15, (by omega)⟩
theorem t277_X0_refresh_s (fu : Nat) (hfu : 1000000000000 ≤ fu) (κ : Nat) (hκ : κ < 14) (U : Nat) (c248_groups : Int32) (c248_pots : Int32) (c248_bars : Int32) (c261_many : Int32) (a263 : Nat → Int32) (c267_total : Int32) (a268 : Nat → Int32) (a269 : Nat → Int32) (n269 : Nat) (c305_fresh : Int32) (a306 : Nat → Int32) (n306 : Nat) (p0 : c248_groups.toInt ≤ 4) (p1 : 2 ≤ c248_groups.toInt) (p2 : c248_pots.toInt ≤ 4) (p3 : 0 ≤ c248_pots.toInt) (p4 : c248_bars.toInt ≤ 10) (p5 : 0 ≤ c248_bars.toInt) (p6 : c261_many.toInt ≤ 24) (p7 : 0 ≤ c261_many.toInt) (p8 : c267_total.toInt ≤ 13824) (p9 : 1 ≤ c267_total.toInt) (p10 : ((n269 : Nat) : Int) ≤ 13824) (p11 : 1 ≤ ((n269 : Nat) : Int)) (p12 : c305_fresh.toInt ≤ 1) (p13 : 0 ≤ c305_fresh.toInt) (p14 : ((n306 : Nat) : Int) ≤ 8064) (p15 : 144 ≤ ((n306 : Nat) : Int)) (p16 : c267_total.toInt ≤ ((n269 : Nat) : Int)) (hr_a263 : dz_rq a263 (dz_kr κ) (dz_kg κ) 0 (((dz_kg κ : Nat) : Int) - 1)) (hr_a268 : dz_pt a268 (dz_kS κ)) (hr_a269 : dz_rg a269 n269 0 1023) (o0 : dz_needT c305_fresh c248_bars n306 ≤ U) (o1 : c248_groups.toInt = ((dz_kg κ : Nat) : Int)) (o2 : c248_pots.toInt = ((dz_kp κ : Nat) : Int)) (o3 : c261_many.toInt = ((dz_kr κ : Nat) : Int)) (o4 : c267_total.toInt = ((dz_kt κ : Nat) : Int)) (o5 : dz_rb a269 (dz_kt κ) c248_bars) (o6 : c305_fresh.toInt = 0 ∨ dz_kn c248_bars ≤ ((n306 : Nat) : Int)) : dz_T (f277_X0_refresh fu U c248_groups c248_pots c248_bars c261_many a263 c267_total a268 a269 n269 c305_fresh a306 n306) (fun r => r.1.toInt ≤ 1 ∧ 1 ≤ r.1.toInt ∧ ((r.2.2 : Nat) : Int) ≤ 8064 ∧ 144 ≤ ((r.2.2 : Nat) : Int) ∧ (dz_kn c248_bars ≤ ((r.2.2 : Nat) : Int))) :=
  t277_X0_refresh_E_s fu hfu κ hκ U c248_groups c248_pots c248_bars c261_many a263 c267_total a268 a269 n269 c305_fresh a306 n306 p0 p1 p2 p3 p4 p5 p6 p7 p8 p9 p10 p11 p12 p13 p14 p15 p16 hr_a263 hr_a268 hr_a269 o0 o1 o2 o3 o4 o5 o6 fu hfu
set_option maxHeartbeats 1000000 in
set_option maxRecDepth 10000 in
theorem t278_X0_pairsWithout_s (fu : Nat) (hfu : 1000000000000 ≤ fu) (κ : Nat) (hκ : κ < 14) (U : Nat) (c248_groups : Int32) (c248_pots : Int32) (c248_bars : Int32) (c261_many : Int32) (a263 : Nat → Int32) (c267_total : Int32) (a268 : Nat → Int32) (a269 : Nat → Int32) (n269 : Nat) (v1 : Int32) (v2 : Int32) (v3 : Int32) (v4 : Int32) (c305_fresh : Int32) (a306 : Nat → Int32) (n306 : Nat) (p0 : c248_groups.toInt ≤ 4) (p1 : 2 ≤ c248_groups.toInt) (p2 : c248_pots.toInt ≤ 4) (p3 : 0 ≤ c248_pots.toInt) (p4 : c248_bars.toInt ≤ 10) (p5 : 0 ≤ c248_bars.toInt) (p6 : c261_many.toInt ≤ 24) (p7 : 0 ≤ c261_many.toInt) (p8 : c267_total.toInt ≤ 13824) (p9 : 1 ≤ c267_total.toInt) (p10 : ((n269 : Nat) : Int) ≤ 13824) (p11 : 1 ≤ ((n269 : Nat) : Int)) (p12 : c305_fresh.toInt ≤ 1) (p13 : 0 ≤ c305_fresh.toInt) (p14 : ((n306 : Nat) : Int) ≤ 8064) (p15 : 144 ≤ ((n306 : Nat) : Int)) (p16 : c267_total.toInt ≤ ((n269 : Nat) : Int)) (p17 : (-1) ≤ v1.toInt) (p18 : v1.toInt + 1 ≤ c248_bars.toInt) (p19 : (-1) ≤ v2.toInt) (p20 : v2.toInt + 1 ≤ c248_bars.toInt) (p21 : 0 ≤ v3.toInt) (p22 : v3.toInt ≤ 11) (p23 : 0 ≤ v4.toInt) (p24 : v4.toInt ≤ 11) (hr_a263 : dz_rq a263 (dz_kr κ) (dz_kg κ) 0 (((dz_kg κ : Nat) : Int) - 1)) (hr_a268 : dz_pt a268 (dz_kS κ)) (hr_a269 : dz_rg a269 n269 0 1023) (o0 : dz_needT c305_fresh c248_bars n306 ≤ U) (o1 : v2.toInt = -1 ∨ (0 ≤ v1.toInt ∧ v1.toInt < v2.toInt)) (o2 : c248_groups.toInt = ((dz_kg κ : Nat) : Int)) (o3 : c248_pots.toInt = ((dz_kp κ : Nat) : Int)) (o4 : c261_many.toInt = ((dz_kr κ : Nat) : Int)) (o5 : c267_total.toInt = ((dz_kt κ : Nat) : Int)) (o6 : dz_rb a269 (dz_kt κ) c248_bars) (o7 : c305_fresh.toInt = 0 ∨ dz_kn c248_bars ≤ ((n306 : Nat) : Int)) : dz_T (f278_X0_pairsWithout fu U c248_groups c248_pots c248_bars c261_many a263 c267_total a268 a269 n269 v1 v2 v3 v4 c305_fresh a306 n306) (fun r => r.2.1.toInt ≤ 1 ∧ 1 ≤ r.2.1.toInt ∧ ((r.2.2.2 : Nat) : Int) ≤ 8064 ∧ 144 ≤ ((r.2.2.2 : Nat) : Int) ∧ (dz_kn c248_bars ≤ ((r.2.2.2 : Nat) : Int))) := by
  unfold f278_X0_pairsWithout s278_X0_pairsWithout_0
  have e1 := dz_needTb (fr := c305_fresh) (bars := c248_bars) (n := n306) (by omega) (by omega)
  refine dz_Tg (by omega) ?_
  refine dz_Tb (t277_X0_refresh_s fu hfu κ hκ _ _ _ _ _ _ _ _ _ _ _ _ _ p0 p1 p2 p3 p4 p5 p6 p7 p8 p9 p10 p11 p12 p13 p14 p15 p16 (hr_a263) (hr_a268) (hr_a269) ((by first | exact Nat.le_refl _ | assumption)) o2 o3 o4 o5 o6 o7) (fun r1 q => ?_)
  obtain ⟨q1_0, q1_1, q1_2, q1_3, qo1_0⟩ := q
  have e2 := dz_min (a := v4) (b := v3)
  have e3 := dz_l12
  have e4 := dz_mulr (a := (if (v4 < v3) then v4 else v3)) (b := (12 : Int32)) 12 (by omega) (by omega) (by omega)
  have e5 := dz_max (a := v3) (b := v4)
  have e6 := dz_add (a := ((if (v4 < v3) then v4 else v3) * (12 : Int32))) (b := (if (v3 < v4) then v4 else v3)) (by omega) (by omega)
  refine dz_Tin (by omega) (by omega) ?_
  have e7 := dz_lm1
  refine dz_Teq (fun h8 => ?_) (fun h8 => ?_)
  · skip
    unfold d278_X0_pairsWithout_1 s278_X0_pairsWithout_1
    refine dz_Tg (by omega) ?_
    refine dz_Teq (fun h9 => ?_) (fun h9 => ?_)
    · skip
      refine dz_Ts ?_
      dsimp only
      exact ⟨q1_0, q1_1, q1_2, q1_3, (by omega)⟩
    · skip
      exfalso; omega
  · skip
    refine dz_Tb (t275_X0_kindOf_b fu hfu _ _ c248_bars (by omega) (by omega) (by omega) (by omega) (by omega)) (fun r2 q => ?_)
    obtain ⟨q2_0, q2_1, qo2_0⟩ := q
    have e10 := dz_l144
    have e11 := dz_mulr (a := r2) (b := (144 : Int32)) 144 (by omega) (by omega) (by omega)
    have e12 := dz_add (a := (r2 * (144 : Int32))) (b := (((if (v4 < v3) then v4 else v3) * (12 : Int32)) + (if (v3 < v4) then v4 else v3))) (by omega) (by omega)
    refine dz_Tin (by omega) (by omega) ?_
    unfold d278_X0_pairsWithout_1 s278_X0_pairsWithout_1
    refine dz_Tg (by omega) ?_
    refine dz_Teq (fun h13 => ?_) (fun h13 => ?_)
    · skip
      refine dz_Ts ?_
      dsimp only
      exact ⟨q1_0, q1_1, q1_2, q1_3, (by omega)⟩
    · skip
      refine dz_Tb (t275_X0_kindOf_b fu hfu _ _ c248_bars (by omega) (by omega) (by omega) (by omega) (by omega)) (fun r3 q => ?_)
      obtain ⟨q3_0, q3_1, qo3_0⟩ := q
      have e14 := dz_mulr (a := r3) (b := (144 : Int32)) 144 (by omega) (by omega) (by omega)
      have e15 := dz_add (a := (r3 * (144 : Int32))) (b := (((if (v4 < v3) then v4 else v3) * (12 : Int32)) + (if (v3 < v4) then v4 else v3))) (by omega) (by omega)
      refine dz_Tin (by omega) (by omega) ?_
      refine dz_Tb (t275_X0_kindOf_b fu hfu _ _ c248_bars (by omega) (by omega) (by omega) (by omega) (by omega)) (fun r4 q => ?_)
      obtain ⟨q4_0, q4_1, qo4_0⟩ := q
      have e16 := dz_mulr (a := r4) (b := (144 : Int32)) 144 (by omega) (by omega) (by omega)
      have e17 := dz_add (a := (r4 * (144 : Int32))) (b := (((if (v4 < v3) then v4 else v3) * (12 : Int32)) + (if (v3 < v4) then v4 else v3))) (by omega) (by omega)
      refine dz_Tin (by omega) (by omega) ?_
      refine dz_Ts ?_
      dsimp only
      exact ⟨q1_0, q1_1, q1_2, q1_3, (by omega)⟩
set_option maxHeartbeats 1000000 in
set_option maxRecDepth 10000 in
theorem t279_X11_moves_s (fu : Nat) (hfu : 1000000000000 ≤ fu) (κ : Nat) (hκ : κ < 14) (U : Nat) (c248_groups : Int32) (c248_pots : Int32) (c248_teams : Int32) (c248_bars : Int32) (c261_many : Int32) (a263 : Nat → Int32) (c267_total : Int32) (c267_lawfulOnes : Int32) (a268 : Nat → Int32) (a269 : Nat → Int32) (n269 : Nat) (a271 : Nat → Int32) (v1 : Int32) (v2 : Int32) (v3 : Int32) (c305_fresh : Int32) (a306 : Nat → Int32) (n306 : Nat) (p0 : c248_groups.toInt ≤ 4) (p1 : 2 ≤ c248_groups.toInt) (p2 : c248_pots.toInt ≤ 4) (p3 : 0 ≤ c248_pots.toInt) (p4 : c248_teams.toInt ≤ 12) (p5 : 0 ≤ c248_teams.toInt) (p6 : c248_bars.toInt ≤ 10) (p7 : 0 ≤ c248_bars.toInt) (p8 : c261_many.toInt ≤ 24) (p9 : 0 ≤ c261_many.toInt) (p10 : c267_total.toInt ≤ 13824) (p11 : 1 ≤ c267_total.toInt) (p12 : c267_lawfulOnes.toInt ≤ 13824) (p13 : 0 ≤ c267_lawfulOnes.toInt) (p14 : ((n269 : Nat) : Int) ≤ 13824) (p15 : 1 ≤ ((n269 : Nat) : Int)) (p16 : c305_fresh.toInt ≤ 1) (p17 : 0 ≤ c305_fresh.toInt) (p18 : ((n306 : Nat) : Int) ≤ 8064) (p19 : 144 ≤ ((n306 : Nat) : Int)) (p20 : c267_total.toInt ≤ ((n269 : Nat) : Int)) (p21 : c267_lawfulOnes.toInt ≤ c267_total.toInt) (hr_a263 : dz_rq a263 (dz_kr κ) (dz_kg κ) 0 (((dz_kg κ : Nat) : Int) - 1)) (hr_a268 : dz_pt a268 (dz_kS κ)) (hr_a269 : dz_rg a269 n269 0 1023) (o0 : dz_needT c305_fresh c248_bars n306 ≤ U) (o1 : c248_groups.toInt = ((dz_kg κ : Nat) : Int)) (o2 : c248_pots.toInt = ((dz_kp κ : Nat) : Int)) (o3 : c248_teams.toInt = ((dz_km κ : Nat) : Int)) (o4 : c261_many.toInt = ((dz_kr κ : Nat) : Int)) (o5 : c267_total.toInt = ((dz_kt κ : Nat) : Int)) (o6 : dz_rb a269 (dz_kt κ) c248_bars) (o7 : c305_fresh.toInt = 0 ∨ dz_kn c248_bars ≤ ((n306 : Nat) : Int)) : dz_T (f279_X11_moves fu U c248_groups c248_pots c248_teams c248_bars c261_many a263 c267_total c267_lawfulOnes a268 a269 n269 a271 v1 v2 v3 c305_fresh a306 n306) (fun r => r.2.1.toInt ≤ 1 ∧ 0 ≤ r.2.1.toInt ∧ ((r.2.2.2 : Nat) : Int) ≤ 8064 ∧ 144 ≤ ((r.2.2.2 : Nat) : Int) ∧ (r.2.1.toInt = 0 ∨ dz_kn c248_bars ≤ ((r.2.2.2 : Nat) : Int))) := by
  unfold f279_X11_moves s279_X11_moves_0
  refine dz_Tbe (show f155_X11_isBar fu c248_bars v1 = (if (v1 < (0 : Int32)) then (some (0 : Int32)) else (if (c248_bars ≤ v1) then (some (0 : Int32)) else (some (1 : Int32)))) from rfl) ?_
  have e1 := dz_l0
  refine dz_Tltb (fun h2 => ?_) (fun h2 => ?_)
  · skip
    refine dz_Tsb ?_
    refine dz_Teq (fun h3 => ?_) (fun h3 => ?_)
    · skip
      refine dz_Ts ?_
      dsimp only
      exact ⟨p16, p17, p18, p19, (by omega)⟩
    · skip
      exfalso; omega
  · skip
    refine dz_Tleb (fun h4 => ?_) (fun h4 => ?_)
    · skip
      refine dz_Tsb ?_
      refine dz_Teq (fun h5 => ?_) (fun h5 => ?_)
      · skip
        refine dz_Ts ?_
        dsimp only
        exact ⟨p16, p17, p18, p19, (by omega)⟩
      · skip
        exfalso; omega
    · skip
      refine dz_Tsb ?_
      have e6 := dz_l1
      refine dz_Teq (fun h7 => ?_) (fun h7 => ?_)
      · skip
        exfalso; omega
      · skip
        refine dz_Tbe (show f159_X11_isTeam fu c248_teams v2 = (if (v2 < (0 : Int32)) then (some (0 : Int32)) else (if (c248_teams ≤ v2) then (some (0 : Int32)) else (some (1 : Int32)))) from rfl) ?_
        refine dz_Tltb (fun h8 => ?_) (fun h8 => ?_)
        · skip
          refine dz_Tsb ?_
          refine dz_Teq (fun h9 => ?_) (fun h9 => ?_)
          · skip
            refine dz_Ts ?_
            dsimp only
            exact ⟨p16, p17, p18, p19, (by omega)⟩
          · skip
            exfalso; omega
        · skip
          refine dz_Tleb (fun h10 => ?_) (fun h10 => ?_)
          · skip
            refine dz_Tsb ?_
            refine dz_Teq (fun h11 => ?_) (fun h11 => ?_)
            · skip
              refine dz_Ts ?_
              dsimp only
              exact ⟨p16, p17, p18, p19, (by omega)⟩
            · skip
              exfalso; omega
          · skip
            refine dz_Tsb ?_
            refine dz_Teq (fun h12 => ?_) (fun h12 => ?_)
            · skip
              exfalso; omega
            · skip
              refine dz_Tbe (show f159_X11_isTeam fu c248_teams v3 = (if (v3 < (0 : Int32)) then (some (0 : Int32)) else (if (c248_teams ≤ v3) then (some (0 : Int32)) else (some (1 : Int32)))) from rfl) ?_
              refine dz_Tltb (fun h13 => ?_) (fun h13 => ?_)
              · skip
                refine dz_Tsb ?_
                refine dz_Teq (fun h14 => ?_) (fun h14 => ?_)
                · skip
                  refine dz_Ts ?_
                  dsimp only
                  exact ⟨p16, p17, p18, p19, (by omega)⟩
                · skip
                  exfalso; omega
              · skip
                refine dz_Tleb (fun h15 => ?_) (fun h15 => ?_)
                · skip
                  refine dz_Tsb ?_
                  refine dz_Teq (fun h16 => ?_) (fun h16 => ?_)
                  · skip
                    refine dz_Ts ?_
                    dsimp only
                    exact ⟨p16, p17, p18, p19, (by omega)⟩
                  · skip
                    exfalso; omega
                · skip
                  refine dz_Tsb ?_
                  refine dz_Teq (fun h17 => ?_) (fun h17 => ?_)
                  · skip
                    exfalso; omega
                  · skip
                    refine dz_Teq (fun h18 => ?_) (fun h18 => ?_)
                    · skip
                      refine dz_Ts ?_
                      dsimp only
                      exact ⟨p16, p17, p18, p19, (by omega)⟩
                    · skip
                      have e19 := dz_needTb (fr := c305_fresh) (bars := c248_bars) (n := n306) (by omega) (by omega)
                      refine dz_Tg (by omega) ?_
                      have e20 := dz_lm1
                      refine dz_Tb (t278_X0_pairsWithout_s fu hfu κ hκ _ _ _ _ _ _ _ _ _ _ _ _ _ _ _ _ _ p0 p1 p2 p3 p6 p7 p8 p9 p10 p11 p14 p15 p16 p17 p18 p19 p20 (by omega) (by omega) (by omega) (by omega) (by first | assumption | omega) (by first | assumption | omega) (by first | assumption | omega) (by first | assumption | omega) (hr_a263) (hr_a268) (hr_a269) ((by first | exact Nat.le_refl _ | assumption)) (by first | assumption | omega) o1 o2 o4 o5 o6 o7) (fun r4 q => ?_)
                      obtain ⟨q4_0, q4_1, q4_2, q4_3, qo4_0⟩ := q
                      have e21 := dz_needTb (fr := r4.2.1) (bars := c248_bars) (n := r4.2.2.2) (by omega) (by omega)
                      refine dz_Tg (by omega) ?_
                      refine dz_Tb (t278_X0_pairsWithout_s fu hfu κ hκ _ _ _ _ _ _ _ _ _ _ _ _ _ _ _ _ _ p0 p1 p2 p3 p6 p7 p8 p9 p10 p11 p14 p15 q4_0 (by first | assumption | omega) q4_2 q4_3 p20 (by first | assumption | omega) (by first | assumption | omega) (by omega) (by omega) (by first | assumption | omega) (by first | assumption | omega) (by first | assumption | omega) (by first | assumption | omega) (hr_a263) (hr_a268) (hr_a269) ((by first | exact Nat.le_refl _ | assumption)) (by first | assumption | omega) o1 o2 o4 o5 o6 (by first | assumption | omega)) (fun r5 q => ?_)
                      obtain ⟨q5_0, q5_1, q5_2, q5_3, qo5_0⟩ := q
                      have e22 := dz_l31
                      have e23 := dz_andr (a := v1) (b := (31 : Int32)) (by omega)
                      have e24 := dz_andl (a := v1) (b := (31 : Int32)) (by omega)
                      have e25 := dz_shl1 (b := v1) 0 9 (by omega) (by omega) (by omega)
                      refine dz_Tin (by omega) (by omega) ?_
                      refine dz_Ts ?_
                      dsimp only
                      exact ⟨q5_0, (by first | assumption | omega), q5_2, q5_3, (by omega)⟩
abbrev p280_X0_isEvenEnough_s (fu : Nat) (κ : Nat) (U : Nat) (c248_groups : Int32) (c248_pots : Int32) (c248_teams : Int32) (c248_bars : Int32) (c261_many : Int32) (a263 : Nat → Int32) (c267_total : Int32) (a268 : Nat → Int32) (a269 : Nat → Int32) (n269 : Nat) (a271 : Nat → Int32) (k : Nat) : Prop :=
  (∀ (v1 : Int32) (v2 : Int32) (v3 : Int32) (v5 : Int64) (v7 : Int32) (sl : Nat) (c305_fresh : Int32) (a306 : Nat → Int32) (n306 : Nat), v1.toInt ≤ 9 → (-1) ≤ v1.toInt → v2.toInt ≤ 9 → (-1) ≤ v2.toInt → v7.toInt ≤ 12 → 0 ≤ v7.toInt → c305_fresh.toInt ≤ 1 → 0 ≤ c305_fresh.toInt → ((n306 : Nat) : Int) ≤ 8064 → 144 ≤ ((n306 : Nat) : Int) → v1.toInt + 1 ≤ c248_bars.toInt → v2.toInt + 1 ≤ c248_bars.toInt → ((sl : Nat) : Int) ≤ ((U : Nat) : Int) → v7.toInt ≤ c248_teams.toInt → (c305_fresh.toInt = 0 ∧ sl = 0) ∨ (c305_fresh.toInt ≠ 0 ∧ sl ≤ U) → c305_fresh.toInt ≠ 0 ∨ dz_needT c305_fresh c248_bars n306 ≤ U → c305_fresh.toInt = 0 ∨ dz_kn c248_bars ≤ ((n306 : Nat) : Int) → v2.toInt = -1 ∨ (0 ≤ v1.toInt ∧ v1.toInt < v2.toInt) → 0 + 0 + (12 - v7.toInt) * 400 + 8 ≤ ((k : Nat) : Int) → dz_T ((F280_X0_isEvenEnough fu U c248_groups c248_pots c248_teams c248_bars c261_many a263 c267_total a268 a269 n269 a271 k).2.2.1 v1 v2 v3 v5 v7 sl c305_fresh a306 n306) (fun r => r.1.toInt ≤ 1 ∧ 0 ≤ r.1.toInt ∧ r.2.1.toInt ≤ 1 ∧ 0 ≤ r.2.1.toInt ∧ ((r.2.2.2 : Nat) : Int) ≤ 8064 ∧ 144 ≤ ((r.2.2.2 : Nat) : Int) ∧ (r.2.1.toInt = 0 ∨ dz_kn c248_bars ≤ ((r.2.2.2 : Nat) : Int)))) ∧ (∀ (v1 : Int32) (v2 : Int32) (v3 : Int32) (v5 : Int64) (v7 : Int32) (v8 : Int32) (sl : Nat) (c305_fresh : Int32) (a306 : Nat → Int32) (n306 : Nat), 1 ≤ c248_teams.toInt → v1.toInt ≤ 9 → (-1) ≤ v1.toInt → v2.toInt ≤ 9 → (-1) ≤ v2.toInt → v7.toInt ≤ 11 → 0 ≤ v7.toInt → v8.toInt ≤ 24 → 2 ≤ v8.toInt → c305_fresh.toInt ≤ 1 → 0 ≤ c305_fresh.toInt → ((n306 : Nat) : Int) ≤ 8064 → 144 ≤ ((n306 : Nat) : Int) → v1.toInt + 1 ≤ c248_bars.toInt → v2.toInt + 1 ≤ c248_bars.toInt → v7.toInt + 1 ≤ c248_teams.toInt → ((sl : Nat) : Int) ≤ ((U : Nat) : Int) → (c305_fresh.toInt = 0 ∧ sl = 0) ∨ (c305_fresh.toInt ≠ 0 ∧ sl ≤ U) → c305_fresh.toInt ≠ 0 ∨ dz_needT c305_fresh c248_bars n306 ≤ U → c305_fresh.toInt = 0 ∨ dz_kn c248_bars ≤ ((n306 : Nat) : Int) → v2.toInt = -1 ∨ (0 ≤ v1.toInt ∧ v1.toInt < v2.toInt) → 0 + 0 + ((12 - v7.toInt) - 1) * 400 + 0 + (24 - v8.toInt) * 16 + 16 ≤ ((k : Nat) : Int) → dz_T ((F280_X0_isEvenEnough fu U c248_groups c248_pots c248_teams c248_bars c261_many a263 c267_total a268 a269 n269 a271 k).2.2.2 v1 v2 v3 v5 v7 v8 sl c305_fresh a306 n306) (fun r => r.1.toInt ≤ 1 ∧ 0 ≤ r.1.toInt ∧ r.2.1.toInt ≤ 1 ∧ 0 ≤ r.2.1.toInt ∧ ((r.2.2.2 : Nat) : Int) ≤ 8064 ∧ 144 ≤ ((r.2.2.2 : Nat) : Int) ∧ (r.2.1.toInt = 0 ∨ dz_kn c248_bars ≤ ((r.2.2.2 : Nat) : Int))))
set_option maxHeartbeats 1000000 in
set_option maxRecDepth 10000 in
theorem t280_X0_isEvenEnough_h3_s (fu : Nat) (hfu : 1000000000000 ≤ fu) (κ : Nat) (hκ : κ < 14) (U : Nat) (c248_groups : Int32) (c248_pots : Int32) (c248_teams : Int32) (c248_bars : Int32) (c261_many : Int32) (a263 : Nat → Int32) (c267_total : Int32) (a268 : Nat → Int32) (a269 : Nat → Int32) (n269 : Nat) (a271 : Nat → Int32) (p0 : c248_groups.toInt ≤ 4) (p1 : 2 ≤ c248_groups.toInt) (p2 : c248_pots.toInt ≤ 4) (p3 : 0 ≤ c248_pots.toInt) (p4 : c248_teams.toInt ≤ 12) (p5 : 0 ≤ c248_teams.toInt) (p6 : c248_bars.toInt ≤ 10) (p7 : 0 ≤ c248_bars.toInt) (p8 : c261_many.toInt ≤ 24) (p9 : 0 ≤ c261_many.toInt) (p10 : c267_total.toInt ≤ 13824) (p11 : 1 ≤ c267_total.toInt) (p12 : ((n269 : Nat) : Int) ≤ 13824) (p13 : 1 ≤ ((n269 : Nat) : Int)) (p14 : c267_total.toInt ≤ ((n269 : Nat) : Int)) (hr_a263 : dz_rq a263 (dz_kr κ) (dz_kg κ) 0 (((dz_kg κ : Nat) : Int) - 1)) (hr_a268 : dz_pt a268 (dz_kS κ)) (hr_a269 : dz_rg a269 n269 0 1023) (o2 : c248_groups.toInt = ((dz_kg κ : Nat) : Int)) (o3 : c248_pots.toInt = ((dz_kp κ : Nat) : Int)) (o4 : c248_teams.toInt = ((dz_km κ : Nat) : Int)) (o5 : c261_many.toInt = ((dz_kr κ : Nat) : Int)) (o6 : c267_total.toInt = ((dz_kt κ : Nat) : Int)) (o7 : dz_rb a269 (dz_kt κ) c248_bars) (k : Nat) (ih : ∀ j9, j9 < k → p280_X0_isEvenEnough_s fu κ U c248_groups c248_pots c248_teams c248_bars c261_many a263 c267_total a268 a269 n269 a271 j9) : ∀ (v1 : Int32) (v2 : Int32) (v3 : Int32) (v5 : Int64) (v7 : Int32) (sl : Nat) (c305_fresh : Int32) (a306 : Nat → Int32) (n306 : Nat), v1.toInt ≤ 9 → (-1) ≤ v1.toInt → v2.toInt ≤ 9 → (-1) ≤ v2.toInt → v7.toInt ≤ 12 → 0 ≤ v7.toInt → c305_fresh.toInt ≤ 1 → 0 ≤ c305_fresh.toInt → ((n306 : Nat) : Int) ≤ 8064 → 144 ≤ ((n306 : Nat) : Int) → v1.toInt + 1 ≤ c248_bars.toInt → v2.toInt + 1 ≤ c248_bars.toInt → ((sl : Nat) : Int) ≤ ((U : Nat) : Int) → v7.toInt ≤ c248_teams.toInt → (c305_fresh.toInt = 0 ∧ sl = 0) ∨ (c305_fresh.toInt ≠ 0 ∧ sl ≤ U) → c305_fresh.toInt ≠ 0 ∨ dz_needT c305_fresh c248_bars n306 ≤ U → c305_fresh.toInt = 0 ∨ dz_kn c248_bars ≤ ((n306 : Nat) : Int) → v2.toInt = -1 ∨ (0 ≤ v1.toInt ∧ v1.toInt < v2.toInt) → 0 + 0 + (12 - v7.toInt) * 400 + 8 ≤ ((k : Nat) : Int) → dz_T ((F280_X0_isEvenEnough fu U c248_groups c248_pots c248_teams c248_bars c261_many a263 c267_total a268 a269 n269 a271 k).2.2.1 v1 v2 v3 v5 v7 sl c305_fresh a306 n306) (fun r => r.1.toInt ≤ 1 ∧ 0 ≤ r.1.toInt ∧ r.2.1.toInt ≤ 1 ∧ 0 ≤ r.2.1.toInt ∧ ((r.2.2.2 : Nat) : Int) ≤ 8064 ∧ 144 ≤ ((r.2.2.2 : Nat) : Int) ∧ (r.2.1.toInt = 0 ∨ dz_kn c248_bars ≤ ((r.2.2.2 : Nat) : Int))) := by
  intro v1 v2 v3 v5 v7 sl c305_fresh a306 n306 i0 i1 i2 i3 i4 i5 i6 i7 i8 i9 i10 i11 i12 i13 x0 x1 x2 x3 hm
  obtain ⟨k0, rfl⟩ : ∃ x, k = x + 1 := ⟨k - 1, by omega⟩
  show dz_T (s280_X0_isEvenEnough_3 fu U c248_groups c248_pots c248_teams c248_bars c261_many a263 c267_total a268 a269 n269 a271 (F280_X0_isEvenEnough fu U c248_groups c248_pots c248_teams c248_bars c261_many a263 c267_total a268 a269 n269 a271 k0).2.2.2  v1 v2 v3 v5 v7 sl c305_fresh a306 n306) _
  unfold s280_X0_isEvenEnough_3
  refine dz_Tg (by omega) ?_
  refine dz_Tle (fun h1 => ?_) (fun h1 => ?_)
  · skip
    have e2 := dz_l1
    refine dz_Ts ?_
    dsimp only
    exact ⟨(by omega), (by omega), i6, i7, i8, i9, (by omega)⟩
  · skip
    refine dz_Tbe (show f255_X3_nextPotAfter fu c248_groups v7 = (Option.bind (f160_X3_potOf fu c248_groups v7) (fun b2 => (some ((b2 + (1 : Int32)) * c248_groups)))) from rfl) ?_
    refine dz_Tba ?_
    refine dz_Tbe (show f160_X3_potOf fu c248_groups v7 = (if (c248_groups ≤ (0 : Int32)) then (some (0 : Int32)) else (if (¬ (c248_groups = (0 : Int32))) then (some (v7 / c248_groups)) else none)) from rfl) ?_
    have e3 := dz_l0
    refine dz_Tleb (fun h4 => ?_) (fun h4 => ?_)
    · skip
      exfalso; omega
    · skip
      refine dz_Tzb (by omega) ?_
      refine dz_Tsb ?_
      refine dz_Tsb ?_
      have e5 := dz_divq (a := v7) (b := c248_groups) 2 11 (by omega) (by omega) (by omega) (by omega)
      have e6 := dz_l1
      have e7 := dz_add (a := (v7 / c248_groups)) (b := (1 : Int32)) (by omega) (by omega)
      have e8 := dz_mulc (a := ((v7 / c248_groups) + (1 : Int32))) (b := c248_groups) 1 6 2 4 (by decide) (by decide) (by omega) (by omega) (by omega) (by omega) (by decide)
      exact (ih k0 (by omega)).2 v1 v2 v3 v5 v7 (((v7 / c248_groups) + (1 : Int32)) * c248_groups) sl c305_fresh a306 n306 (by first | assumption | omega) i0 i1 i2 i3 (by first | assumption | omega) i5 (by omega) (by omega) i6 i7 i8 i9 i10 i11 (by first | assumption | omega) i12 (by omega) (by first | assumption | omega) (by first | assumption | omega) (by first | assumption | omega) (by omega)
set_option maxHeartbeats 1000000 in
set_option maxRecDepth 10000 in
theorem t280_X0_isEvenEnough_h4_s (fu : Nat) (hfu : 1000000000000 ≤ fu) (κ : Nat) (hκ : κ < 14) (U : Nat) (c248_groups : Int32) (c248_pots : Int32) (c248_teams : Int32) (c248_bars : Int32) (c261_many : Int32) (a263 : Nat → Int32) (c267_total : Int32) (a268 : Nat → Int32) (a269 : Nat → Int32) (n269 : Nat) (a271 : Nat → Int32) (p0 : c248_groups.toInt ≤ 4) (p1 : 2 ≤ c248_groups.toInt) (p2 : c248_pots.toInt ≤ 4) (p3 : 0 ≤ c248_pots.toInt) (p4 : c248_teams.toInt ≤ 12) (p5 : 0 ≤ c248_teams.toInt) (p6 : c248_bars.toInt ≤ 10) (p7 : 0 ≤ c248_bars.toInt) (p8 : c261_many.toInt ≤ 24) (p9 : 0 ≤ c261_many.toInt) (p10 : c267_total.toInt ≤ 13824) (p11 : 1 ≤ c267_total.toInt) (p12 : ((n269 : Nat) : Int) ≤ 13824) (p13 : 1 ≤ ((n269 : Nat) : Int)) (p14 : c267_total.toInt ≤ ((n269 : Nat) : Int)) (hr_a263 : dz_rq a263 (dz_kr κ) (dz_kg κ) 0 (((dz_kg κ : Nat) : Int) - 1)) (hr_a268 : dz_pt a268 (dz_kS κ)) (hr_a269 : dz_rg a269 n269 0 1023) (o2 : c248_groups.toInt = ((dz_kg κ : Nat) : Int)) (o3 : c248_pots.toInt = ((dz_kp κ : Nat) : Int)) (o4 : c248_teams.toInt = ((dz_km κ : Nat) : Int)) (o5 : c261_many.toInt = ((dz_kr κ : Nat) : Int)) (o6 : c267_total.toInt = ((dz_kt κ : Nat) : Int)) (o7 : dz_rb a269 (dz_kt κ) c248_bars) (k : Nat) (ih : ∀ j9, j9 < k → p280_X0_isEvenEnough_s fu κ U c248_groups c248_pots c248_teams c248_bars c261_many a263 c267_total a268 a269 n269 a271 j9) : ∀ (v1 : Int32) (v2 : Int32) (v3 : Int32) (v5 : Int64) (v7 : Int32) (v8 : Int32) (sl : Nat) (c305_fresh : Int32) (a306 : Nat → Int32) (n306 : Nat), 1 ≤ c248_teams.toInt → v1.toInt ≤ 9 → (-1) ≤ v1.toInt → v2.toInt ≤ 9 → (-1) ≤ v2.toInt → v7.toInt ≤ 11 → 0 ≤ v7.toInt → v8.toInt ≤ 24 → 2 ≤ v8.toInt → c305_fresh.toInt ≤ 1 → 0 ≤ c305_fresh.toInt → ((n306 : Nat) : Int) ≤ 8064 → 144 ≤ ((n306 : Nat) : Int) → v1.toInt + 1 ≤ c248_bars.toInt → v2.toInt + 1 ≤ c248_bars.toInt → v7.toInt + 1 ≤ c248_teams.toInt → ((sl : Nat) : Int) ≤ ((U : Nat) : Int) → (c305_fresh.toInt = 0 ∧ sl = 0) ∨ (c305_fresh.toInt ≠ 0 ∧ sl ≤ U) → c305_fresh.toInt ≠ 0 ∨ dz_needT c305_fresh c248_bars n306 ≤ U → c305_fresh.toInt = 0 ∨ dz_kn c248_bars ≤ ((n306 : Nat) : Int) → v2.toInt = -1 ∨ (0 ≤ v1.toInt ∧ v1.toInt < v2.toInt) → 0 + 0 + ((12 - v7.toInt) - 1) * 400 + 0 + (24 - v8.toInt) * 16 + 16 ≤ ((k : Nat) : Int) → dz_T ((F280_X0_isEvenEnough fu U c248_groups c248_pots c248_teams c248_bars c261_many a263 c267_total a268 a269 n269 a271 k).2.2.2 v1 v2 v3 v5 v7 v8 sl c305_fresh a306 n306) (fun r => r.1.toInt ≤ 1 ∧ 0 ≤ r.1.toInt ∧ r.2.1.toInt ≤ 1 ∧ 0 ≤ r.2.1.toInt ∧ ((r.2.2.2 : Nat) : Int) ≤ 8064 ∧ 144 ≤ ((r.2.2.2 : Nat) : Int) ∧ (r.2.1.toInt = 0 ∨ dz_kn c248_bars ≤ ((r.2.2.2 : Nat) : Int))) := by
  intro v1 v2 v3 v5 v7 v8 sl c305_fresh a306 n306 i0 i1 i2 i3 i4 i5 i6 i7 i8 i9 i10 i11 i12 i13 i14 i15 i16 x0 x1 x2 x3 hm
  obtain ⟨k0, rfl⟩ : ∃ x, k = x + 1 := ⟨k - 1, by omega⟩
  show dz_T (s280_X0_isEvenEnough_4 fu U c248_groups c248_pots c248_teams c248_bars c261_many a263 c267_total a268 a269 n269 a271 (F280_X0_isEvenEnough fu U c248_groups c248_pots c248_teams c248_bars c261_many a263 c267_total a268 a269 n269 a271 k0).2.2.1 (F280_X0_isEvenEnough fu U c248_groups c248_pots c248_teams c248_bars c261_many a263 c267_total a268 a269 n269 a271 k0).2.2.2  v1 v2 v3 v5 v7 v8 sl c305_fresh a306 n306) _
  unfold s280_X0_isEvenEnough_4
  refine dz_Tg (by omega) ?_
  refine dz_Tle (fun h1 => ?_) (fun h1 => ?_)
  · skip
    have e2 := dz_l1
    have e3 := dz_add (a := v7) (b := (1 : Int32)) (by omega) (by omega)
    exact (ih k0 (by omega)).1 v1 v2 v3 v5 (v7 + (1 : Int32)) sl c305_fresh a306 n306 i1 i2 i3 i4 (by omega) (by omega) i9 i10 i11 i12 i13 i14 i16 (by omega) (by omega) (by first | assumption | omega) (by first | assumption | omega) (by first | assumption | omega) (by omega)
  · skip
    have e4 := dz_needTb (fr := c305_fresh) (bars := c248_bars) (n := n306) (by omega) (by omega)
    refine dz_Tg (by omega) ?_
    refine dz_Tb (t278_X0_pairsWithout_s fu hfu κ hκ _ _ _ _ _ _ _ _ _ _ _ _ _ _ _ _ _ p0 p1 p2 p3 p6 p7 p8 p9 p10 p11 p12 p13 i9 i10 i11 i12 p14 i2 i13 i4 i14 i6 i5 (by first | assumption | omega) (by first | assumption | omega) (hr_a263) (hr_a268) (hr_a269) ((by first | exact Nat.le_refl _ | assumption)) (by first | assumption | omega) o2 o3 o5 o6 o7 (by first | assumption | omega)) (fun r1 q => ?_)
    obtain ⟨q1_0, q1_1, q1_2, q1_3, qo1_0⟩ := q
    have e5 := dz_l0
    refine dz_Tle (fun h6 => ?_) (fun h6 => ?_)
    · skip
      have e7 := dz_l1
      have e8 := dz_add (a := v8) (b := (1 : Int32)) (by omega) (by omega)
      exact (ih k0 (by omega)).2 v1 v2 v3 v5 v7 (v8 + (1 : Int32)) (sl + (dz_needT c305_fresh c248_bars n306)) r1.2.1 r1.2.2.1 r1.2.2.2 i0 i1 i2 i3 i4 i5 i6 (by omega) (by omega) q1_0 (by first | assumption | omega) q1_2 q1_3 i13 i14 i15 (by omega) (by omega) (by first | assumption | omega) (by first | assumption | omega) (by first | assumption | omega) (by omega)
    · skip
      refine dz_Ts ?_
      dsimp only
      exact ⟨(by omega), (by omega), q1_0, (by first | assumption | omega), q1_2, q1_3, (by omega)⟩
theorem t280_X0_isEvenEnough_I_s (fu : Nat) (hfu : 1000000000000 ≤ fu) (κ : Nat) (hκ : κ < 14) (U : Nat) (c248_groups : Int32) (c248_pots : Int32) (c248_teams : Int32) (c248_bars : Int32) (c261_many : Int32) (a263 : Nat → Int32) (c267_total : Int32) (a268 : Nat → Int32) (a269 : Nat → Int32) (n269 : Nat) (a271 : Nat → Int32) (p0 : c248_groups.toInt ≤ 4) (p1 : 2 ≤ c248_groups.toInt) (p2 : c248_pots.toInt ≤ 4) (p3 : 0 ≤ c248_pots.toInt) (p4 : c248_teams.toInt ≤ 12) (p5 : 0 ≤ c248_teams.toInt) (p6 : c248_bars.toInt ≤ 10) (p7 : 0 ≤ c248_bars.toInt) (p8 : c261_many.toInt ≤ 24) (p9 : 0 ≤ c261_many.toInt) (p10 : c267_total.toInt ≤ 13824) (p11 : 1 ≤ c267_total.toInt) (p12 : ((n269 : Nat) : Int) ≤ 13824) (p13 : 1 ≤ ((n269 : Nat) : Int)) (p14 : c267_total.toInt ≤ ((n269 : Nat) : Int)) (hr_a263 : dz_rq a263 (dz_kr κ) (dz_kg κ) 0 (((dz_kg κ : Nat) : Int) - 1)) (hr_a268 : dz_pt a268 (dz_kS κ)) (hr_a269 : dz_rg a269 n269 0 1023) (o2 : c248_groups.toInt = ((dz_kg κ : Nat) : Int)) (o3 : c248_pots.toInt = ((dz_kp κ : Nat) : Int)) (o4 : c248_teams.toInt = ((dz_km κ : Nat) : Int)) (o5 : c261_many.toInt = ((dz_kr κ : Nat) : Int)) (o6 : c267_total.toInt = ((dz_kt κ : Nat) : Int)) (o7 : dz_rb a269 (dz_kt κ) c248_bars) (k : Nat) : p280_X0_isEvenEnough_s fu κ U c248_groups c248_pots c248_teams c248_bars c261_many a263 c267_total a268 a269 n269 a271 k := by
  induction k using Nat.strongRecOn with
  | _ k ih => exact ⟨t280_X0_isEvenEnough_h3_s fu hfu κ hκ U c248_groups c248_pots c248_teams c248_bars c261_many a263 c267_total a268 a269 n269 a271 p0 p1 p2 p3 p4 p5 p6 p7 p8 p9 p10 p11 p12 p13 p14 hr_a263 hr_a268 hr_a269 o2 o3 o4 o5 o6 o7 k ih, t280_X0_isEvenEnough_h4_s fu hfu κ hκ U c248_groups c248_pots c248_teams c248_bars c261_many a263 c267_total a268 a269 n269 a271 p0 p1 p2 p3 p4 p5 p6 p7 p8 p9 p10 p11 p12 p13 p14 hr_a263 hr_a268 hr_a269 o2 o3 o4 o5 o6 o7 k ih⟩
set_option maxHeartbeats 1000000 in
set_option maxRecDepth 10000 in
theorem t280_X0_isEvenEnough_E_s (fu : Nat) (hfu : 1000000000000 ≤ fu) (κ : Nat) (hκ : κ < 14) (U : Nat) (c248_groups : Int32) (c248_pots : Int32) (c248_teams : Int32) (c248_bars : Int32) (c261_many : Int32) (a263 : Nat → Int32) (c267_total : Int32) (a268 : Nat → Int32) (a269 : Nat → Int32) (n269 : Nat) (a271 : Nat → Int32) (v1 : Int32) (v2 : Int32) (v3 : Int32) (c305_fresh : Int32) (a306 : Nat → Int32) (n306 : Nat) (p0 : c248_groups.toInt ≤ 4) (p1 : 2 ≤ c248_groups.toInt) (p2 : c248_pots.toInt ≤ 4) (p3 : 0 ≤ c248_pots.toInt) (p4 : c248_teams.toInt ≤ 12) (p5 : 0 ≤ c248_teams.toInt) (p6 : c248_bars.toInt ≤ 10) (p7 : 0 ≤ c248_bars.toInt) (p8 : c261_many.toInt ≤ 24) (p9 : 0 ≤ c261_many.toInt) (p10 : c267_total.toInt ≤ 13824) (p11 : 1 ≤ c267_total.toInt) (p12 : ((n269 : Nat) : Int) ≤ 13824) (p13 : 1 ≤ ((n269 : Nat) : Int)) (p14 : c305_fresh.toInt ≤ 1) (p15 : 0 ≤ c305_fresh.toInt) (p16 : ((n306 : Nat) : Int) ≤ 8064) (p17 : 144 ≤ ((n306 : Nat) : Int)) (p18 : c267_total.toInt ≤ ((n269 : Nat) : Int)) (p19 : (-1) ≤ v1.toInt) (p20 : v1.toInt + 1 ≤ c248_bars.toInt) (p21 : (-1) ≤ v2.toInt) (p22 : v2.toInt + 1 ≤ c248_bars.toInt) (hr_a263 : dz_rq a263 (dz_kr κ) (dz_kg κ) 0 (((dz_kg κ : Nat) : Int) - 1)) (hr_a268 : dz_pt a268 (dz_kS κ)) (hr_a269 : dz_rg a269 n269 0 1023) (o0 : dz_needT c305_fresh c248_bars n306 ≤ U) (o1 : v2.toInt = -1 ∨ (0 ≤ v1.toInt ∧ v1.toInt < v2.toInt)) (o2 : c248_groups.toInt = ((dz_kg κ : Nat) : Int)) (o3 : c248_pots.toInt = ((dz_kp κ : Nat) : Int)) (o4 : c248_teams.toInt = ((dz_km κ : Nat) : Int)) (o5 : c261_many.toInt = ((dz_kr κ : Nat) : Int)) (o6 : c267_total.toInt = ((dz_kt κ : Nat) : Int)) (o7 : dz_rb a269 (dz_kt κ) c248_bars) (o8 : c305_fresh.toInt = 0 ∨ dz_kn c248_bars ≤ ((n306 : Nat) : Int)) (kv : Nat) (hkv : 1000000000000 ≤ kv) : dz_T (s280_X0_isEvenEnough_0 fu U c248_groups c248_pots c248_teams c248_bars c261_many a263 c267_total a268 a269 n269 a271 (F280_X0_isEvenEnough fu U c248_groups c248_pots c248_teams c248_bars c261_many a263 c267_total a268 a269 n269 a271 kv).1  v1 v2 v3 c305_fresh a306 n306) (fun r => r.1.toInt ≤ 1 ∧ 0 ≤ r.1.toInt ∧ r.2.1.toInt ≤ 1 ∧ 0 ≤ r.2.1.toInt ∧ ((r.2.2.2 : Nat) : Int) ≤ 8064 ∧ 144 ≤ ((r.2.2.2 : Nat) : Int) ∧ (r.2.1.toInt = 0 ∨ dz_kn c248_bars ≤ ((r.2.2.2 : Nat) : Int))) := by
  unfold s280_X0_isEvenEnough_0
  have e1 := dz_lm1
  refine dz_Teq (fun h2 => ?_) (fun h2 => ?_)
  · skip
    obtain ⟨k1, rfl⟩ : ∃ x, kv = x + 1 := ⟨kv - 1, by omega⟩
    show dz_T (s280_X0_isEvenEnough_1 fu U c248_groups c248_pots c248_teams c248_bars c261_many a263 c267_total a268 a269 n269 a271 (F280_X0_isEvenEnough fu U c248_groups c248_pots c248_teams c248_bars c261_many a263 c267_total a268 a269 n269 a271 k1).2.1 v1 v2 v3 (0 : Int32) 0 c305_fresh a306 n306) _
    unfold s280_X0_isEvenEnough_1
    refine dz_Tg (by omega) ?_
    refine dz_Teq (fun h3 => ?_) (fun h3 => ?_)
    · skip
      obtain ⟨k2, rfl⟩ : ∃ x, k1 = x + 1 := ⟨k1 - 1, by omega⟩
      show dz_T (s280_X0_isEvenEnough_2 fu U c248_groups c248_pots c248_teams c248_bars c261_many a263 c267_total a268 a269 n269 a271 (F280_X0_isEvenEnough fu U c248_groups c248_pots c248_teams c248_bars c261_many a263 c267_total a268 a269 n269 a271 k2).2.2.1 v1 v2 v3 (0 : Int32) (0 : Int32) 0 c305_fresh a306 n306) _
      unfold s280_X0_isEvenEnough_2
      refine dz_Tg (by omega) ?_
      have e4 := dz_l0
      have e5 := dz_orb (a := (0 : Int32)) (b := (0 : Int32)) 0 (by omega) (by omega) (by omega) (by omega) (by omega)
      refine dz_Tin (by omega) (by omega) ?_
      refine dz_Teq (fun h6 => ?_) (fun h6 => ?_)
      · skip
        refine dz_Ts ?_
        dsimp only
        exact ⟨(by omega), (by omega), p14, p15, p16, p17, (by omega)⟩
      · skip
        exact (t280_X0_isEvenEnough_I_s fu hfu κ hκ U c248_groups c248_pots c248_teams c248_bars c261_many a263 c267_total a268 a269 n269 a271 p0 p1 p2 p3 p4 p5 p6 p7 p8 p9 p10 p11 p12 p13 p18 hr_a263 hr_a268 hr_a269 o2 o3 o4 o5 o6 o7 k2).1 v1 v2 v3 (a271 ((0 : Int32) ||| (0 : Int32)).toNatClampNeg).toInt64 (0 : Int32) 0 c305_fresh a306 n306 (by first | assumption | omega) p19 (by first | assumption | omega) p21 (by omega) (by omega) p14 p15 p16 p17 p20 p22 (by first | assumption | omega) (by omega) (by omega) (by first | assumption | omega) (by first | assumption | omega) (by first | assumption | omega) (by omega)
    · skip
      obtain ⟨k3, rfl⟩ : ∃ x, k1 = x + 1 := ⟨k1 - 1, by omega⟩
      show dz_T (s280_X0_isEvenEnough_2 fu U c248_groups c248_pots c248_teams c248_bars c261_many a263 c267_total a268 a269 n269 a271 (F280_X0_isEvenEnough fu U c248_groups c248_pots c248_teams c248_bars c261_many a263 c267_total a268 a269 n269 a271 k3).2.2.1 v1 v2 v3 ((1 : Int32) <<< (v2 &&& (31 : Int32))) (0 : Int32) 0 c305_fresh a306 n306) _
      unfold s280_X0_isEvenEnough_2
      refine dz_Tg (by omega) ?_
      have e7 := dz_l0
      have e8 := dz_l1
      have e9 := dz_l31
      have e10 := dz_andr (a := v2) (b := (31 : Int32)) (by omega)
      have e11 := dz_andl (a := v2) (b := (31 : Int32)) (by omega)
      have e12 := dz_shl1 (b := v2) 0 9 (by omega) (by omega) (by omega)
      have e13 := dz_orb (a := (0 : Int32)) (b := ((1 : Int32) <<< (v2 &&& (31 : Int32)))) 10 (by omega) (by omega) (by omega) (by omega) (by omega)
      refine dz_Tin (by omega) (by omega) ?_
      refine dz_Teq (fun h14 => ?_) (fun h14 => ?_)
      · skip
        refine dz_Ts ?_
        dsimp only
        exact ⟨(by omega), (by omega), p14, p15, p16, p17, (by omega)⟩
      · skip
        exact (t280_X0_isEvenEnough_I_s fu hfu κ hκ U c248_groups c248_pots c248_teams c248_bars c261_many a263 c267_total a268 a269 n269 a271 p0 p1 p2 p3 p4 p5 p6 p7 p8 p9 p10 p11 p12 p13 p18 hr_a263 hr_a268 hr_a269 o2 o3 o4 o5 o6 o7 k3).1 v1 v2 v3 (a271 ((0 : Int32) ||| ((1 : Int32) <<< (v2 &&& (31 : Int32)))).toNatClampNeg).toInt64 (0 : Int32) 0 c305_fresh a306 n306 (by first | assumption | omega) p19 (by first | assumption | omega) p21 (by omega) (by omega) p14 p15 p16 p17 p20 p22 (by first | assumption | omega) (by omega) (by omega) (by first | assumption | omega) (by first | assumption | omega) (by first | assumption | omega) (by omega)
  · skip
    obtain ⟨k4, rfl⟩ : ∃ x, kv = x + 1 := ⟨kv - 1, by omega⟩
    show dz_T (s280_X0_isEvenEnough_1 fu U c248_groups c248_pots c248_teams c248_bars c261_many a263 c267_total a268 a269 n269 a271 (F280_X0_isEvenEnough fu U c248_groups c248_pots c248_teams c248_bars c261_many a263 c267_total a268 a269 n269 a271 k4).2.1 v1 v2 v3 ((1 : Int32) <<< (v1 &&& (31 : Int32))) 0 c305_fresh a306 n306) _
    unfold s280_X0_isEvenEnough_1
    refine dz_Tg (by omega) ?_
    refine dz_Teq (fun h15 => ?_) (fun h15 => ?_)
    · skip
      obtain ⟨k5, rfl⟩ : ∃ x, k4 = x + 1 := ⟨k4 - 1, by omega⟩
      show dz_T (s280_X0_isEvenEnough_2 fu U c248_groups c248_pots c248_teams c248_bars c261_many a263 c267_total a268 a269 n269 a271 (F280_X0_isEvenEnough fu U c248_groups c248_pots c248_teams c248_bars c261_many a263 c267_total a268 a269 n269 a271 k5).2.2.1 v1 v2 v3 (0 : Int32) ((1 : Int32) <<< (v1 &&& (31 : Int32))) 0 c305_fresh a306 n306) _
      unfold s280_X0_isEvenEnough_2
      refine dz_Tg (by omega) ?_
      have e16 := dz_l1
      have e17 := dz_l31
      have e18 := dz_andr (a := v1) (b := (31 : Int32)) (by omega)
      have e19 := dz_andl (a := v1) (b := (31 : Int32)) (by omega)
      have e20 := dz_shl1 (b := v1) 0 9 (by omega) (by omega) (by omega)
      have e21 := dz_l0
      have e22 := dz_orb (a := ((1 : Int32) <<< (v1 &&& (31 : Int32)))) (b := (0 : Int32)) 10 (by omega) (by omega) (by omega) (by omega) (by omega)
      refine dz_Tin (by omega) (by omega) ?_
      refine dz_Teq (fun h23 => ?_) (fun h23 => ?_)
      · skip
        refine dz_Ts ?_
        dsimp only
        exact ⟨(by omega), (by omega), p14, p15, p16, p17, (by omega)⟩
      · skip
        exact (t280_X0_isEvenEnough_I_s fu hfu κ hκ U c248_groups c248_pots c248_teams c248_bars c261_many a263 c267_total a268 a269 n269 a271 p0 p1 p2 p3 p4 p5 p6 p7 p8 p9 p10 p11 p12 p13 p18 hr_a263 hr_a268 hr_a269 o2 o3 o4 o5 o6 o7 k5).1 v1 v2 v3 (a271 (((1 : Int32) <<< (v1 &&& (31 : Int32))) ||| (0 : Int32)).toNatClampNeg).toInt64 (0 : Int32) 0 c305_fresh a306 n306 (by first | assumption | omega) p19 (by first | assumption | omega) p21 (by omega) (by omega) p14 p15 p16 p17 p20 p22 (by first | assumption | omega) (by omega) (by omega) (by first | assumption | omega) (by first | assumption | omega) (by first | assumption | omega) (by omega)
    · skip
      obtain ⟨k6, rfl⟩ : ∃ x, k4 = x + 1 := ⟨k4 - 1, by omega⟩
      show dz_T (s280_X0_isEvenEnough_2 fu U c248_groups c248_pots c248_teams c248_bars c261_many a263 c267_total a268 a269 n269 a271 (F280_X0_isEvenEnough fu U c248_groups c248_pots c248_teams c248_bars c261_many a263 c267_total a268 a269 n269 a271 k6).2.2.1 v1 v2 v3 ((1 : Int32) <<< (v2 &&& (31 : Int32))) ((1 : Int32) <<< (v1 &&& (31 : Int32))) 0 c305_fresh a306 n306) _
      unfold s280_X0_isEvenEnough_2
      refine dz_Tg (by omega) ?_
      have e24 := dz_l1
      have e25 := dz_l31
      have e26 := dz_andr (a := v1) (b := (31 : Int32)) (by omega)
      have e27 := dz_andl (a := v1) (b := (31 : Int32)) (by omega)
      have e28 := dz_shl1 (b := v1) 0 9 (by omega) (by omega) (by omega)
      have e29 := dz_andr (a := v2) (b := (31 : Int32)) (by omega)
      have e30 := dz_andl (a := v2) (b := (31 : Int32)) (by omega)
      have e31 := dz_shl1 (b := v2) 0 9 (by omega) (by omega) (by omega)
      have e32 := dz_orb (a := ((1 : Int32) <<< (v1 &&& (31 : Int32)))) (b := ((1 : Int32) <<< (v2 &&& (31 : Int32)))) 10 (by omega) (by omega) (by omega) (by omega) (by omega)
      refine dz_Tin (by omega) (by omega) ?_
      have e33 := dz_l0
      refine dz_Teq (fun h34 => ?_) (fun h34 => ?_)
      · skip
        refine dz_Ts ?_
        dsimp only
        exact ⟨(by omega), (by omega), p14, p15, p16, p17, (by omega)⟩
      · skip
        exact (t280_X0_isEvenEnough_I_s fu hfu κ hκ U c248_groups c248_pots c248_teams c248_bars c261_many a263 c267_total a268 a269 n269 a271 p0 p1 p2 p3 p4 p5 p6 p7 p8 p9 p10 p11 p12 p13 p18 hr_a263 hr_a268 hr_a269 o2 o3 o4 o5 o6 o7 k6).1 v1 v2 v3 (a271 (((1 : Int32) <<< (v1 &&& (31 : Int32))) ||| ((1 : Int32) <<< (v2 &&& (31 : Int32)))).toNatClampNeg).toInt64 (0 : Int32) 0 c305_fresh a306 n306 (by first | assumption | omega) p19 (by first | assumption | omega) p21 (by omega) (by omega) p14 p15 p16 p17 p20 p22 (by first | assumption | omega) (by omega) (by omega) (by first | assumption | omega) (by first | assumption | omega) (by first | assumption | omega) (by omega)
theorem t280_X0_isEvenEnough_s (fu : Nat) (hfu : 1000000000000 ≤ fu) (κ : Nat) (hκ : κ < 14) (U : Nat) (c248_groups : Int32) (c248_pots : Int32) (c248_teams : Int32) (c248_bars : Int32) (c261_many : Int32) (a263 : Nat → Int32) (c267_total : Int32) (a268 : Nat → Int32) (a269 : Nat → Int32) (n269 : Nat) (a271 : Nat → Int32) (v1 : Int32) (v2 : Int32) (v3 : Int32) (c305_fresh : Int32) (a306 : Nat → Int32) (n306 : Nat) (p0 : c248_groups.toInt ≤ 4) (p1 : 2 ≤ c248_groups.toInt) (p2 : c248_pots.toInt ≤ 4) (p3 : 0 ≤ c248_pots.toInt) (p4 : c248_teams.toInt ≤ 12) (p5 : 0 ≤ c248_teams.toInt) (p6 : c248_bars.toInt ≤ 10) (p7 : 0 ≤ c248_bars.toInt) (p8 : c261_many.toInt ≤ 24) (p9 : 0 ≤ c261_many.toInt) (p10 : c267_total.toInt ≤ 13824) (p11 : 1 ≤ c267_total.toInt) (p12 : ((n269 : Nat) : Int) ≤ 13824) (p13 : 1 ≤ ((n269 : Nat) : Int)) (p14 : c305_fresh.toInt ≤ 1) (p15 : 0 ≤ c305_fresh.toInt) (p16 : ((n306 : Nat) : Int) ≤ 8064) (p17 : 144 ≤ ((n306 : Nat) : Int)) (p18 : c267_total.toInt ≤ ((n269 : Nat) : Int)) (p19 : (-1) ≤ v1.toInt) (p20 : v1.toInt + 1 ≤ c248_bars.toInt) (p21 : (-1) ≤ v2.toInt) (p22 : v2.toInt + 1 ≤ c248_bars.toInt) (hr_a263 : dz_rq a263 (dz_kr κ) (dz_kg κ) 0 (((dz_kg κ : Nat) : Int) - 1)) (hr_a268 : dz_pt a268 (dz_kS κ)) (hr_a269 : dz_rg a269 n269 0 1023) (o0 : dz_needT c305_fresh c248_bars n306 ≤ U) (o1 : v2.toInt = -1 ∨ (0 ≤ v1.toInt ∧ v1.toInt < v2.toInt)) (o2 : c248_groups.toInt = ((dz_kg κ : Nat) : Int)) (o3 : c248_pots.toInt = ((dz_kp κ : Nat) : Int)) (o4 : c248_teams.toInt = ((dz_km κ : Nat) : Int)) (o5 : c261_many.toInt = ((dz_kr κ : Nat) : Int)) (o6 : c267_total.toInt = ((dz_kt κ : Nat) : Int)) (o7 : dz_rb a269 (dz_kt κ) c248_bars) (o8 : c305_fresh.toInt = 0 ∨ dz_kn c248_bars ≤ ((n306 : Nat) : Int)) : dz_T (f280_X0_isEvenEnough fu U c248_groups c248_pots c248_teams c248_bars c261_many a263 c267_total a268 a269 n269 a271 v1 v2 v3 c305_fresh a306 n306) (fun r => r.1.toInt ≤ 1 ∧ 0 ≤ r.1.toInt ∧ r.2.1.toInt ≤ 1 ∧ 0 ≤ r.2.1.toInt ∧ ((r.2.2.2 : Nat) : Int) ≤ 8064 ∧ 144 ≤ ((r.2.2.2 : Nat) : Int) ∧ (r.2.1.toInt = 0 ∨ dz_kn c248_bars ≤ ((r.2.2.2 : Nat) : Int))) :=
  t280_X0_isEvenEnough_E_s fu hfu κ hκ U c248_groups c248_pots c248_teams c248_bars c261_many a263 c267_total a268 a269 n269 a271 v1 v2 v3 c305_fresh a306 n306 p0 p1 p2 p3 p4 p5 p6 p7 p8 p9 p10 p11 p12 p13 p14 p15 p16 p17 p18 p19 p20 p21 p22 hr_a263 hr_a268 hr_a269 o0 o1 o2 o3 o4 o5 o6 o7 o8 fu hfu
set_option maxHeartbeats 1000000 in
set_option maxRecDepth 10000 in
theorem t282_X9_clearRows_s (fu : Nat) (hfu : 1000000000000 ≤ fu) (κ : Nat) (hκ : κ < 14) (U : Nat) (c267_total : Int32) (c307_done : Int32) (a308 : Nat → Int32) (n308 : Nat) (a309 : Nat → Int32) (n309 : Nat) (p0 : c267_total.toInt ≤ 13824) (p1 : 1 ≤ c267_total.toInt) (p2 : c307_done.toInt ≤ 5) (p3 : (-1) ≤ c307_done.toInt) (p4 : ((n308 : Nat) : Int) ≤ 13824) (p5 : 1 ≤ ((n308 : Nat) : Int)) (p6 : ((n309 : Nat) : Int) ≤ 13824) (p7 : 1 ≤ ((n309 : Nat) : Int)) (p8 : ((n308 : Nat) : Int) ≤ ((n309 : Nat) : Int)) (p9 : ((n309 : Nat) : Int) ≤ ((n308 : Nat) : Int)) (o0 : dz_needC c267_total n308 ≤ U) (o1 : c267_total.toInt = ((dz_kt κ : Nat) : Int)) : dz_T (f282_X9_clearRows fu U c267_total c307_done a308 n308 a309 n309) (fun r => r.1.toInt ≤ (-1) ∧ (-1) ≤ r.1.toInt ∧ ((r.2.2.1 : Nat) : Int) ≤ 13824 ∧ 1 ≤ ((r.2.2.1 : Nat) : Int) ∧ ((r.2.2.2.2 : Nat) : Int) ≤ 13824 ∧ 1 ≤ ((r.2.2.2.2 : Nat) : Int) ∧ ((n308 : Nat) : Int) ≤ ((r.2.2.1 : Nat) : Int) ∧ ((n308 : Nat) : Int) ≤ ((r.2.2.2.2 : Nat) : Int) ∧ ((r.2.2.1 : Nat) : Int) ≤ ((r.2.2.2.2 : Nat) : Int) ∧ ((r.2.2.2.2 : Nat) : Int) ≤ ((r.2.2.1 : Nat) : Int) ∧ c267_total.toInt ≤ ((r.2.2.1 : Nat) : Int) ∧ (((dz_kt κ : Nat) : Int) ≤ ((r.2.2.1 : Nat) : Int))) := by
  unfold f282_X9_clearRows s282_X9_clearRows_0
  have b0 := dz_needCb (total := c267_total) (n := n308) (by omega) (by omega)
  have e1 := dz_ofn (n := n308) (by omega)
  refine dz_Tle (fun h2 => ?_) (fun h2 => ?_)
  · skip
    unfold d282_X9_clearRows_1 s282_X9_clearRows_1
    refine dz_Tg (by omega) ?_
    have e3 := dz_l0
    refine dz_Tb (t135_J7_fill_fda19_o fu hfu _ _ _ _ _ (by first | assumption | omega) (by omega) (by omega) (by first | assumption | omega)) (fun r1 _ => ?_)
    have e4 := dz_lm1
    refine dz_Ts ?_
    dsimp only
    exact ⟨(by omega), (by omega), p4, p5, p6, p7, (by first | assumption | omega), p8, p8, p9, (by first | assumption | omega), (by omega)⟩
  · skip
    refine dz_Tng (by omega) ?_
    have e5 := dz_tn c267_total
    refine dz_Tg (by omega) ?_
    refine dz_Tg (by omega) ?_
    refine dz_Tg (by omega) ?_
    refine dz_Tng (by omega) ?_
    refine dz_Tg (by omega) ?_
    refine dz_Tg (by omega) ?_
    refine dz_Tg (by omega) ?_
    unfold d282_X9_clearRows_1 s282_X9_clearRows_1
    refine dz_Tg (by omega) ?_
    have e6 := dz_l0
    refine dz_Tb (t135_J7_fill_fda19 fu hfu _ _ _ _ _ 0 0 (by first | assumption | omega) (by omega) (by omega) (by first | assumption | omega) (by omega) (by omega) (dz_rg0 (by omega) (by omega))) (fun r2 q => ?_)
    have qa2_0 := q
    have e7 := dz_lm1
    refine dz_Ts ?_
    dsimp only
    exact ⟨(by omega), (by omega), (by first | assumption | omega), (by first | assumption | omega), (by first | assumption | omega), (by first | assumption | omega), (by first | assumption | omega), (by first | assumption | omega), (by first | assumption | omega), (by first | assumption | omega), (by first | assumption | omega), (by omega)⟩
set_option maxHeartbeats 1000000 in
set_option maxRecDepth 10000 in
theorem t283_X9_meet_g20 (fu : Nat) (hfu : 1000000000000 ≤ fu) (n308 : Nat) (n309 : Nat) (v1 : Int32) (c307_queued : Int32) (a308 : Nat → Int32) (a309 : Nat → Int32) (p0 : ((n308 : Nat) : Int) ≤ 13824) (p1 : 1 ≤ ((n308 : Nat) : Int)) (p2 : ((n309 : Nat) : Int) ≤ 13824) (p3 : 1 ≤ ((n309 : Nat) : Int)) (p4 : c307_queued.toInt ≤ 13824) (p5 : 0 ≤ c307_queued.toInt) (p6 : ((n308 : Nat) : Int) ≤ ((n309 : Nat) : Int)) (p7 : ((n309 : Nat) : Int) ≤ ((n308 : Nat) : Int)) (p8 : 0 ≤ v1.toInt) (p9 : v1.toInt ≤ 0) (p10 : 1 ≤ ((n308 : Nat) : Int)) (p11 : 1 ≤ ((n309 : Nat) : Int)) (hr_a309 : dz_rg a309 c307_queued.toInt.toNat 0 0) : dz_T (f283_X9_meet fu n308 n309 v1 c307_queued a308 a309) (fun r => r.1.toInt ≤ 13824 ∧ 0 ≤ r.1.toInt ∧ dz_rg r.2.2 r.1.toInt.toNat 0 0) := by
  unfold f283_X9_meet s283_X9_meet_0
  refine dz_Tin (by omega) (by omega) ?_
  have e1 := dz_l0
  refine dz_Teq (fun h2 => ?_) (fun h2 => ?_)
  · skip
    have e3 := dz_ofn (n := n309) (by omega)
    refine dz_Tle (fun h4 => ?_) (fun h4 => ?_)
    · skip
      refine dz_Ts ?_
      dsimp only
      exact ⟨p4, p5, (dz_rgs (hr_a309) (by omega))⟩
    · skip
      refine dz_Tin (by omega) (by omega) ?_
      refine dz_Tin (by omega) (by omega) ?_
      have e5 := dz_l1
      have e6 := dz_add (a := c307_queued) (b := (1 : Int32)) (by omega) (by omega)
      refine dz_Ts ?_
      dsimp only
      exact ⟨(by omega), (by omega), (dz_rgx (hr_a309) (k2 := (c307_queued + (1 : Int32))) (by omega) (by omega) (by omega) (by omega))⟩
  · skip
    refine dz_Ts ?_
    dsimp only
    exact ⟨p4, p5, (dz_rgs (hr_a309) (by omega))⟩
set_option maxHeartbeats 1000000 in
set_option maxRecDepth 10000 in
theorem t283_X9_meet_g21 (fu : Nat) (hfu : 1000000000000 ≤ fu) (n308 : Nat) (n309 : Nat) (v1 : Int32) (c307_queued : Int32) (a308 : Nat → Int32) (a309 : Nat → Int32) (p0 : ((n308 : Nat) : Int) ≤ 13824) (p1 : 1 ≤ ((n308 : Nat) : Int)) (p2 : ((n309 : Nat) : Int) ≤ 13824) (p3 : 1 ≤ ((n309 : Nat) : Int)) (p4 : c307_queued.toInt ≤ 13824) (p5 : 0 ≤ c307_queued.toInt) (p6 : ((n308 : Nat) : Int) ≤ ((n309 : Nat) : Int)) (p7 : ((n309 : Nat) : Int) ≤ ((n308 : Nat) : Int)) (p8 : 0 ≤ v1.toInt) (p9 : v1.toInt ≤ 1) (p10 : 2 ≤ ((n308 : Nat) : Int)) (p11 : 2 ≤ ((n309 : Nat) : Int)) (hr_a309 : dz_rg a309 c307_queued.toInt.toNat 0 1) : dz_T (f283_X9_meet fu n308 n309 v1 c307_queued a308 a309) (fun r => r.1.toInt ≤ 13824 ∧ 0 ≤ r.1.toInt ∧ dz_rg r.2.2 r.1.toInt.toNat 0 1) := by
  unfold f283_X9_meet s283_X9_meet_0
  refine dz_Tin (by omega) (by omega) ?_
  have e1 := dz_l0
  refine dz_Teq (fun h2 => ?_) (fun h2 => ?_)
  · skip
    have e3 := dz_ofn (n := n309) (by omega)
    refine dz_Tle (fun h4 => ?_) (fun h4 => ?_)
    · skip
      refine dz_Ts ?_
      dsimp only
      exact ⟨p4, p5, (dz_rgs (hr_a309) (by omega))⟩
    · skip
      refine dz_Tin (by omega) (by omega) ?_
      refine dz_Tin (by omega) (by omega) ?_
      have e5 := dz_l1
      have e6 := dz_add (a := c307_queued) (b := (1 : Int32)) (by omega) (by omega)
      refine dz_Ts ?_
      dsimp only
      exact ⟨(by omega), (by omega), (dz_rgx (hr_a309) (k2 := (c307_queued + (1 : Int32))) (by omega) (by omega) (by omega) (by omega))⟩
  · skip
    refine dz_Ts ?_
    dsimp only
    exact ⟨p4, p5, (dz_rgs (hr_a309) (by omega))⟩
set_option maxHeartbeats 1000000 in
set_option maxRecDepth 10000 in
theorem t283_X9_meet_g22 (fu : Nat) (hfu : 1000000000000 ≤ fu) (n308 : Nat) (n309 : Nat) (v1 : Int32) (c307_queued : Int32) (a308 : Nat → Int32) (a309 : Nat → Int32) (p0 : ((n308 : Nat) : Int) ≤ 13824) (p1 : 1 ≤ ((n308 : Nat) : Int)) (p2 : ((n309 : Nat) : Int) ≤ 13824) (p3 : 1 ≤ ((n309 : Nat) : Int)) (p4 : c307_queued.toInt ≤ 13824) (p5 : 0 ≤ c307_queued.toInt) (p6 : ((n308 : Nat) : Int) ≤ ((n309 : Nat) : Int)) (p7 : ((n309 : Nat) : Int) ≤ ((n308 : Nat) : Int)) (p8 : 0 ≤ v1.toInt) (p9 : v1.toInt ≤ 3) (p10 : 4 ≤ ((n308 : Nat) : Int)) (p11 : 4 ≤ ((n309 : Nat) : Int)) (hr_a309 : dz_rg a309 c307_queued.toInt.toNat 0 3) : dz_T (f283_X9_meet fu n308 n309 v1 c307_queued a308 a309) (fun r => r.1.toInt ≤ 13824 ∧ 0 ≤ r.1.toInt ∧ dz_rg r.2.2 r.1.toInt.toNat 0 3) := by
  unfold f283_X9_meet s283_X9_meet_0
  refine dz_Tin (by omega) (by omega) ?_
  have e1 := dz_l0
  refine dz_Teq (fun h2 => ?_) (fun h2 => ?_)
  · skip
    have e3 := dz_ofn (n := n309) (by omega)
    refine dz_Tle (fun h4 => ?_) (fun h4 => ?_)
    · skip
      refine dz_Ts ?_
      dsimp only
      exact ⟨p4, p5, (dz_rgs (hr_a309) (by omega))⟩
    · skip
      refine dz_Tin (by omega) (by omega) ?_
      refine dz_Tin (by omega) (by omega) ?_
      have e5 := dz_l1
      have e6 := dz_add (a := c307_queued) (b := (1 : Int32)) (by omega) (by omega)
      refine dz_Ts ?_
      dsimp only
      exact ⟨(by omega), (by omega), (dz_rgx (hr_a309) (k2 := (c307_queued + (1 : Int32))) (by omega) (by omega) (by omega) (by omega))⟩
  · skip
    refine dz_Ts ?_
    dsimp only
    exact ⟨p4, p5, (dz_rgs (hr_a309) (by omega))⟩
set_option maxHeartbeats 1000000 in
set_option maxRecDepth 10000 in
theorem t283_X9_meet_g23 (fu : Nat) (hfu : 1000000000000 ≤ fu) (n308 : Nat) (n309 : Nat) (v1 : Int32) (c307_queued : Int32) (a308 : Nat → Int32) (a309 : Nat → Int32) (p0 : ((n308 : Nat) : Int) ≤ 13824) (p1 : 1 ≤ ((n308 : Nat) : Int)) (p2 : ((n309 : Nat) : Int) ≤ 13824) (p3 : 1 ≤ ((n309 : Nat) : Int)) (p4 : c307_queued.toInt ≤ 13824) (p5 : 0 ≤ c307_queued.toInt) (p6 : ((n308 : Nat) : Int) ≤ ((n309 : Nat) : Int)) (p7 : ((n309 : Nat) : Int) ≤ ((n308 : Nat) : Int)) (p8 : 0 ≤ v1.toInt) (p9 : v1.toInt ≤ 7) (p10 : 8 ≤ ((n308 : Nat) : Int)) (p11 : 8 ≤ ((n309 : Nat) : Int)) (hr_a309 : dz_rg a309 c307_queued.toInt.toNat 0 7) : dz_T (f283_X9_meet fu n308 n309 v1 c307_queued a308 a309) (fun r => r.1.toInt ≤ 13824 ∧ 0 ≤ r.1.toInt ∧ dz_rg r.2.2 r.1.toInt.toNat 0 7) := by
  unfold f283_X9_meet s283_X9_meet_0
  refine dz_Tin (by omega) (by omega) ?_
  have e1 := dz_l0
  refine dz_Teq (fun h2 => ?_) (fun h2 => ?_)
  · skip
    have e3 := dz_ofn (n := n309) (by omega)
    refine dz_Tle (fun h4 => ?_) (fun h4 => ?_)
    · skip
      refine dz_Ts ?_
      dsimp only
      exact ⟨p4, p5, (dz_rgs (hr_a309) (by omega))⟩
    · skip
      refine dz_Tin (by omega) (by omega) ?_
      refine dz_Tin (by omega) (by omega) ?_
      have e5 := dz_l1
      have e6 := dz_add (a := c307_queued) (b := (1 : Int32)) (by omega) (by omega)
      refine dz_Ts ?_
      dsimp only
      exact ⟨(by omega), (by omega), (dz_rgx (hr_a309) (k2 := (c307_queued + (1 : Int32))) (by omega) (by omega) (by omega) (by omega))⟩
  · skip
    refine dz_Ts ?_
    dsimp only
    exact ⟨p4, p5, (dz_rgs (hr_a309) (by omega))⟩
set_option maxHeartbeats 1000000 in
set_option maxRecDepth 10000 in
theorem t283_X9_meet_g24 (fu : Nat) (hfu : 1000000000000 ≤ fu) (n308 : Nat) (n309 : Nat) (v1 : Int32) (c307_queued : Int32) (a308 : Nat → Int32) (a309 : Nat → Int32) (p0 : ((n308 : Nat) : Int) ≤ 13824) (p1 : 1 ≤ ((n308 : Nat) : Int)) (p2 : ((n309 : Nat) : Int) ≤ 13824) (p3 : 1 ≤ ((n309 : Nat) : Int)) (p4 : c307_queued.toInt ≤ 13824) (p5 : 0 ≤ c307_queued.toInt) (p6 : ((n308 : Nat) : Int) ≤ ((n309 : Nat) : Int)) (p7 : ((n309 : Nat) : Int) ≤ ((n308 : Nat) : Int)) (p8 : 0 ≤ v1.toInt) (p9 : v1.toInt ≤ 15) (p10 : 16 ≤ ((n308 : Nat) : Int)) (p11 : 16 ≤ ((n309 : Nat) : Int)) (hr_a309 : dz_rg a309 c307_queued.toInt.toNat 0 15) : dz_T (f283_X9_meet fu n308 n309 v1 c307_queued a308 a309) (fun r => r.1.toInt ≤ 13824 ∧ 0 ≤ r.1.toInt ∧ dz_rg r.2.2 r.1.toInt.toNat 0 15) := by
  unfold f283_X9_meet s283_X9_meet_0
  refine dz_Tin (by omega) (by omega) ?_
  have e1 := dz_l0
  refine dz_Teq (fun h2 => ?_) (fun h2 => ?_)
  · skip
    have e3 := dz_ofn (n := n309) (by omega)
    refine dz_Tle (fun h4 => ?_) (fun h4 => ?_)
    · skip
      refine dz_Ts ?_
      dsimp only
      exact ⟨p4, p5, (dz_rgs (hr_a309) (by omega))⟩
    · skip
      refine dz_Tin (by omega) (by omega) ?_
      refine dz_Tin (by omega) (by omega) ?_
      have e5 := dz_l1
      have e6 := dz_add (a := c307_queued) (b := (1 : Int32)) (by omega) (by omega)
      refine dz_Ts ?_
      dsimp only
      exact ⟨(by omega), (by omega), (dz_rgx (hr_a309) (k2 := (c307_queued + (1 : Int32))) (by omega) (by omega) (by omega) (by omega))⟩
  · skip
    refine dz_Ts ?_
    dsimp only
    exact ⟨p4, p5, (dz_rgs (hr_a309) (by omega))⟩
set_option maxHeartbeats 1000000 in
set_option maxRecDepth 10000 in
theorem t283_X9_meet_g30 (fu : Nat) (hfu : 1000000000000 ≤ fu) (n308 : Nat) (n309 : Nat) (v1 : Int32) (c307_queued : Int32) (a308 : Nat → Int32) (a309 : Nat → Int32) (p0 : ((n308 : Nat) : Int) ≤ 13824) (p1 : 1 ≤ ((n308 : Nat) : Int)) (p2 : ((n309 : Nat) : Int) ≤ 13824) (p3 : 1 ≤ ((n309 : Nat) : Int)) (p4 : c307_queued.toInt ≤ 13824) (p5 : 0 ≤ c307_queued.toInt) (p6 : ((n308 : Nat) : Int) ≤ ((n309 : Nat) : Int)) (p7 : ((n309 : Nat) : Int) ≤ ((n308 : Nat) : Int)) (p8 : 0 ≤ v1.toInt) (p9 : v1.toInt ≤ 0) (p10 : 1 ≤ ((n308 : Nat) : Int)) (p11 : 1 ≤ ((n309 : Nat) : Int)) (hr_a309 : dz_rg a309 c307_queued.toInt.toNat 0 0) : dz_T (f283_X9_meet fu n308 n309 v1 c307_queued a308 a309) (fun r => r.1.toInt ≤ 13824 ∧ 0 ≤ r.1.toInt ∧ dz_rg r.2.2 r.1.toInt.toNat 0 0) := by
  unfold f283_X9_meet s283_X9_meet_0
  refine dz_Tin (by omega) (by omega) ?_
  have e1 := dz_l0
  refine dz_Teq (fun h2 => ?_) (fun h2 => ?_)
  · skip
    have e3 := dz_ofn (n := n309) (by omega)
    refine dz_Tle (fun h4 => ?_) (fun h4 => ?_)
    · skip
      refine dz_Ts ?_
      dsimp only
      exact ⟨p4, p5, (dz_rgs (hr_a309) (by omega))⟩
    · skip
      refine dz_Tin (by omega) (by omega) ?_
      refine dz_Tin (by omega) (by omega) ?_
      have e5 := dz_l1
      have e6 := dz_add (a := c307_queued) (b := (1 : Int32)) (by omega) (by omega)
      refine dz_Ts ?_
      dsimp only
      exact ⟨(by omega), (by omega), (dz_rgx (hr_a309) (k2 := (c307_queued + (1 : Int32))) (by omega) (by omega) (by omega) (by omega))⟩
  · skip
    refine dz_Ts ?_
    dsimp only
    exact ⟨p4, p5, (dz_rgs (hr_a309) (by omega))⟩
set_option maxHeartbeats 1000000 in
set_option maxRecDepth 10000 in
theorem t283_X9_meet_g31 (fu : Nat) (hfu : 1000000000000 ≤ fu) (n308 : Nat) (n309 : Nat) (v1 : Int32) (c307_queued : Int32) (a308 : Nat → Int32) (a309 : Nat → Int32) (p0 : ((n308 : Nat) : Int) ≤ 13824) (p1 : 1 ≤ ((n308 : Nat) : Int)) (p2 : ((n309 : Nat) : Int) ≤ 13824) (p3 : 1 ≤ ((n309 : Nat) : Int)) (p4 : c307_queued.toInt ≤ 13824) (p5 : 0 ≤ c307_queued.toInt) (p6 : ((n308 : Nat) : Int) ≤ ((n309 : Nat) : Int)) (p7 : ((n309 : Nat) : Int) ≤ ((n308 : Nat) : Int)) (p8 : 0 ≤ v1.toInt) (p9 : v1.toInt ≤ 5) (p10 : 6 ≤ ((n308 : Nat) : Int)) (p11 : 6 ≤ ((n309 : Nat) : Int)) (hr_a309 : dz_rg a309 c307_queued.toInt.toNat 0 5) : dz_T (f283_X9_meet fu n308 n309 v1 c307_queued a308 a309) (fun r => r.1.toInt ≤ 13824 ∧ 0 ≤ r.1.toInt ∧ dz_rg r.2.2 r.1.toInt.toNat 0 5) := by
  unfold f283_X9_meet s283_X9_meet_0
  refine dz_Tin (by omega) (by omega) ?_
  have e1 := dz_l0
  refine dz_Teq (fun h2 => ?_) (fun h2 => ?_)
  · skip
    have e3 := dz_ofn (n := n309) (by omega)
    refine dz_Tle (fun h4 => ?_) (fun h4 => ?_)
    · skip
      refine dz_Ts ?_
      dsimp only
      exact ⟨p4, p5, (dz_rgs (hr_a309) (by omega))⟩
    · skip
      refine dz_Tin (by omega) (by omega) ?_
      refine dz_Tin (by omega) (by omega) ?_
      have e5 := dz_l1
      have e6 := dz_add (a := c307_queued) (b := (1 : Int32)) (by omega) (by omega)
      refine dz_Ts ?_
      dsimp only
      exact ⟨(by omega), (by omega), (dz_rgx (hr_a309) (k2 := (c307_queued + (1 : Int32))) (by omega) (by omega) (by omega) (by omega))⟩
  · skip
    refine dz_Ts ?_
    dsimp only
    exact ⟨p4, p5, (dz_rgs (hr_a309) (by omega))⟩
set_option maxHeartbeats 1000000 in
set_option maxRecDepth 10000 in
theorem t283_X9_meet_g32 (fu : Nat) (hfu : 1000000000000 ≤ fu) (n308 : Nat) (n309 : Nat) (v1 : Int32) (c307_queued : Int32) (a308 : Nat → Int32) (a309 : Nat → Int32) (p0 : ((n308 : Nat) : Int) ≤ 13824) (p1 : 1 ≤ ((n308 : Nat) : Int)) (p2 : ((n309 : Nat) : Int) ≤ 13824) (p3 : 1 ≤ ((n309 : Nat) : Int)) (p4 : c307_queued.toInt ≤ 13824) (p5 : 0 ≤ c307_queued.toInt) (p6 : ((n308 : Nat) : Int) ≤ ((n309 : Nat) : Int)) (p7 : ((n309 : Nat) : Int) ≤ ((n308 : Nat) : Int)) (p8 : 0 ≤ v1.toInt) (p9 : v1.toInt ≤ 35) (p10 : 36 ≤ ((n308 : Nat) : Int)) (p11 : 36 ≤ ((n309 : Nat) : Int)) (hr_a309 : dz_rg a309 c307_queued.toInt.toNat 0 35) : dz_T (f283_X9_meet fu n308 n309 v1 c307_queued a308 a309) (fun r => r.1.toInt ≤ 13824 ∧ 0 ≤ r.1.toInt ∧ dz_rg r.2.2 r.1.toInt.toNat 0 35) := by
  unfold f283_X9_meet s283_X9_meet_0
  refine dz_Tin (by omega) (by omega) ?_
  have e1 := dz_l0
  refine dz_Teq (fun h2 => ?_) (fun h2 => ?_)
  · skip
    have e3 := dz_ofn (n := n309) (by omega)
    refine dz_Tle (fun h4 => ?_) (fun h4 => ?_)
    · skip
      refine dz_Ts ?_
      dsimp only
      exact ⟨p4, p5, (dz_rgs (hr_a309) (by omega))⟩
    · skip
      refine dz_Tin (by omega) (by omega) ?_
      refine dz_Tin (by omega) (by omega) ?_
      have e5 := dz_l1
      have e6 := dz_add (a := c307_queued) (b := (1 : Int32)) (by omega) (by omega)
      refine dz_Ts ?_
      dsimp only
      exact ⟨(by omega), (by omega), (dz_rgx (hr_a309) (k2 := (c307_queued + (1 : Int32))) (by omega) (by omega) (by omega) (by omega))⟩
  · skip
    refine dz_Ts ?_
    dsimp only
    exact ⟨p4, p5, (dz_rgs (hr_a309) (by omega))⟩
set_option maxHeartbeats 1000000 in
set_option maxRecDepth 10000 in
theorem t283_X9_meet_g33 (fu : Nat) (hfu : 1000000000000 ≤ fu) (n308 : Nat) (n309 : Nat) (v1 : Int32) (c307_queued : Int32) (a308 : Nat → Int32) (a309 : Nat → Int32) (p0 : ((n308 : Nat) : Int) ≤ 13824) (p1 : 1 ≤ ((n308 : Nat) : Int)) (p2 : ((n309 : Nat) : Int) ≤ 13824) (p3 : 1 ≤ ((n309 : Nat) : Int)) (p4 : c307_queued.toInt ≤ 13824) (p5 : 0 ≤ c307_queued.toInt) (p6 : ((n308 : Nat) : Int) ≤ ((n309 : Nat) : Int)) (p7 : ((n309 : Nat) : Int) ≤ ((n308 : Nat) : Int)) (p8 : 0 ≤ v1.toInt) (p9 : v1.toInt ≤ 215) (p10 : 216 ≤ ((n308 : Nat) : Int)) (p11 : 216 ≤ ((n309 : Nat) : Int)) (hr_a309 : dz_rg a309 c307_queued.toInt.toNat 0 215) : dz_T (f283_X9_meet fu n308 n309 v1 c307_queued a308 a309) (fun r => r.1.toInt ≤ 13824 ∧ 0 ≤ r.1.toInt ∧ dz_rg r.2.2 r.1.toInt.toNat 0 215) := by
  unfold f283_X9_meet s283_X9_meet_0
  refine dz_Tin (by omega) (by omega) ?_
  have e1 := dz_l0
  refine dz_Teq (fun h2 => ?_) (fun h2 => ?_)
  · skip
    have e3 := dz_ofn (n := n309) (by omega)
    refine dz_Tle (fun h4 => ?_) (fun h4 => ?_)
    · skip
      refine dz_Ts ?_
      dsimp only
      exact ⟨p4, p5, (dz_rgs (hr_a309) (by omega))⟩
    · skip
      refine dz_Tin (by omega) (by omega) ?_
      refine dz_Tin (by omega) (by omega) ?_
      have e5 := dz_l1
      have e6 := dz_add (a := c307_queued) (b := (1 : Int32)) (by omega) (by omega)
      refine dz_Ts ?_
      dsimp only
      exact ⟨(by omega), (by omega), (dz_rgx (hr_a309) (k2 := (c307_queued + (1 : Int32))) (by omega) (by omega) (by omega) (by omega))⟩
  · skip
    refine dz_Ts ?_
    dsimp only
    exact ⟨p4, p5, (dz_rgs (hr_a309) (by omega))⟩
set_option maxHeartbeats 1000000 in
set_option maxRecDepth 10000 in
theorem t283_X9_meet_g34 (fu : Nat) (hfu : 1000000000000 ≤ fu) (n308 : Nat) (n309 : Nat) (v1 : Int32) (c307_queued : Int32) (a308 : Nat → Int32) (a309 : Nat → Int32) (p0 : ((n308 : Nat) : Int) ≤ 13824) (p1 : 1 ≤ ((n308 : Nat) : Int)) (p2 : ((n309 : Nat) : Int) ≤ 13824) (p3 : 1 ≤ ((n309 : Nat) : Int)) (p4 : c307_queued.toInt ≤ 13824) (p5 : 0 ≤ c307_queued.toInt) (p6 : ((n308 : Nat) : Int) ≤ ((n309 : Nat) : Int)) (p7 : ((n309 : Nat) : Int) ≤ ((n308 : Nat) : Int)) (p8 : 0 ≤ v1.toInt) (p9 : v1.toInt ≤ 1295) (p10 : 1296 ≤ ((n308 : Nat) : Int)) (p11 : 1296 ≤ ((n309 : Nat) : Int)) (hr_a309 : dz_rg a309 c307_queued.toInt.toNat 0 1295) : dz_T (f283_X9_meet fu n308 n309 v1 c307_queued a308 a309) (fun r => r.1.toInt ≤ 13824 ∧ 0 ≤ r.1.toInt ∧ dz_rg r.2.2 r.1.toInt.toNat 0 1295) := by
  unfold f283_X9_meet s283_X9_meet_0
  refine dz_Tin (by omega) (by omega) ?_
  have e1 := dz_l0
  refine dz_Teq (fun h2 => ?_) (fun h2 => ?_)
  · skip
    have e3 := dz_ofn (n := n309) (by omega)
    refine dz_Tle (fun h4 => ?_) (fun h4 => ?_)
    · skip
      refine dz_Ts ?_
      dsimp only
      exact ⟨p4, p5, (dz_rgs (hr_a309) (by omega))⟩
    · skip
      refine dz_Tin (by omega) (by omega) ?_
      refine dz_Tin (by omega) (by omega) ?_
      have e5 := dz_l1
      have e6 := dz_add (a := c307_queued) (b := (1 : Int32)) (by omega) (by omega)
      refine dz_Ts ?_
      dsimp only
      exact ⟨(by omega), (by omega), (dz_rgx (hr_a309) (k2 := (c307_queued + (1 : Int32))) (by omega) (by omega) (by omega) (by omega))⟩
  · skip
    refine dz_Ts ?_
    dsimp only
    exact ⟨p4, p5, (dz_rgs (hr_a309) (by omega))⟩
set_option maxHeartbeats 1000000 in
set_option maxRecDepth 10000 in
theorem t283_X9_meet_g40 (fu : Nat) (hfu : 1000000000000 ≤ fu) (n308 : Nat) (n309 : Nat) (v1 : Int32) (c307_queued : Int32) (a308 : Nat → Int32) (a309 : Nat → Int32) (p0 : ((n308 : Nat) : Int) ≤ 13824) (p1 : 1 ≤ ((n308 : Nat) : Int)) (p2 : ((n309 : Nat) : Int) ≤ 13824) (p3 : 1 ≤ ((n309 : Nat) : Int)) (p4 : c307_queued.toInt ≤ 13824) (p5 : 0 ≤ c307_queued.toInt) (p6 : ((n308 : Nat) : Int) ≤ ((n309 : Nat) : Int)) (p7 : ((n309 : Nat) : Int) ≤ ((n308 : Nat) : Int)) (p8 : 0 ≤ v1.toInt) (p9 : v1.toInt ≤ 0) (p10 : 1 ≤ ((n308 : Nat) : Int)) (p11 : 1 ≤ ((n309 : Nat) : Int)) (hr_a309 : dz_rg a309 c307_queued.toInt.toNat 0 0) : dz_T (f283_X9_meet fu n308 n309 v1 c307_queued a308 a309) (fun r => r.1.toInt ≤ 13824 ∧ 0 ≤ r.1.toInt ∧ dz_rg r.2.2 r.1.toInt.toNat 0 0) := by
  unfold f283_X9_meet s283_X9_meet_0
  refine dz_Tin (by omega) (by omega) ?_
  have e1 := dz_l0
  refine dz_Teq (fun h2 => ?_) (fun h2 => ?_)
  · skip
    have e3 := dz_ofn (n := n309) (by omega)
    refine dz_Tle (fun h4 => ?_) (fun h4 => ?_)
    · skip
      refine dz_Ts ?_
      dsimp only
      exact ⟨p4, p5, (dz_rgs (hr_a309) (by omega))⟩
    · skip
      refine dz_Tin (by omega) (by omega) ?_
      refine dz_Tin (by omega) (by omega) ?_
      have e5 := dz_l1
      have e6 := dz_add (a := c307_queued) (b := (1 : Int32)) (by omega) (by omega)
      refine dz_Ts ?_
      dsimp only
      exact ⟨(by omega), (by omega), (dz_rgx (hr_a309) (k2 := (c307_queued + (1 : Int32))) (by omega) (by omega) (by omega) (by omega))⟩
  · skip
    refine dz_Ts ?_
    dsimp only
    exact ⟨p4, p5, (dz_rgs (hr_a309) (by omega))⟩
set_option maxHeartbeats 1000000 in
set_option maxRecDepth 10000 in
theorem t283_X9_meet_g41 (fu : Nat) (hfu : 1000000000000 ≤ fu) (n308 : Nat) (n309 : Nat) (v1 : Int32) (c307_queued : Int32) (a308 : Nat → Int32) (a309 : Nat → Int32) (p0 : ((n308 : Nat) : Int) ≤ 13824) (p1 : 1 ≤ ((n308 : Nat) : Int)) (p2 : ((n309 : Nat) : Int) ≤ 13824) (p3 : 1 ≤ ((n309 : Nat) : Int)) (p4 : c307_queued.toInt ≤ 13824) (p5 : 0 ≤ c307_queued.toInt) (p6 : ((n308 : Nat) : Int) ≤ ((n309 : Nat) : Int)) (p7 : ((n309 : Nat) : Int) ≤ ((n308 : Nat) : Int)) (p8 : 0 ≤ v1.toInt) (p9 : v1.toInt ≤ 23) (p10 : 24 ≤ ((n308 : Nat) : Int)) (p11 : 24 ≤ ((n309 : Nat) : Int)) (hr_a309 : dz_rg a309 c307_queued.toInt.toNat 0 23) : dz_T (f283_X9_meet fu n308 n309 v1 c307_queued a308 a309) (fun r => r.1.toInt ≤ 13824 ∧ 0 ≤ r.1.toInt ∧ dz_rg r.2.2 r.1.toInt.toNat 0 23) := by
  unfold f283_X9_meet s283_X9_meet_0
  refine dz_Tin (by omega) (by omega) ?_
  have e1 := dz_l0
  refine dz_Teq (fun h2 => ?_) (fun h2 => ?_)
  · skip
    have e3 := dz_ofn (n := n309) (by omega)
    refine dz_Tle (fun h4 => ?_) (fun h4 => ?_)
    · skip
      refine dz_Ts ?_
      dsimp only
      exact ⟨p4, p5, (dz_rgs (hr_a309) (by omega))⟩
    · skip
      refine dz_Tin (by omega) (by omega) ?_
      refine dz_Tin (by omega) (by omega) ?_
      have e5 := dz_l1
      have e6 := dz_add (a := c307_queued) (b := (1 : Int32)) (by omega) (by omega)
      refine dz_Ts ?_
      dsimp only
      exact ⟨(by omega), (by omega), (dz_rgx (hr_a309) (k2 := (c307_queued + (1 : Int32))) (by omega) (by omega) (by omega) (by omega))⟩
  · skip
    refine dz_Ts ?_
    dsimp only
    exact ⟨p4, p5, (dz_rgs (hr_a309) (by omega))⟩
set_option maxHeartbeats 1000000 in
set_option maxRecDepth 10000 in
theorem t283_X9_meet_g42 (fu : Nat) (hfu : 1000000000000 ≤ fu) (n308 : Nat) (n309 : Nat) (v1 : Int32) (c307_queued : Int32) (a308 : Nat → Int32) (a309 : Nat → Int32) (p0 : ((n308 : Nat) : Int) ≤ 13824) (p1 : 1 ≤ ((n308 : Nat) : Int)) (p2 : ((n309 : Nat) : Int) ≤ 13824) (p3 : 1 ≤ ((n309 : Nat) : Int)) (p4 : c307_queued.toInt ≤ 13824) (p5 : 0 ≤ c307_queued.toInt) (p6 : ((n308 : Nat) : Int) ≤ ((n309 : Nat) : Int)) (p7 : ((n309 : Nat) : Int) ≤ ((n308 : Nat) : Int)) (p8 : 0 ≤ v1.toInt) (p9 : v1.toInt ≤ 575) (p10 : 576 ≤ ((n308 : Nat) : Int)) (p11 : 576 ≤ ((n309 : Nat) : Int)) (hr_a309 : dz_rg a309 c307_queued.toInt.toNat 0 575) : dz_T (f283_X9_meet fu n308 n309 v1 c307_queued a308 a309) (fun r => r.1.toInt ≤ 13824 ∧ 0 ≤ r.1.toInt ∧ dz_rg r.2.2 r.1.toInt.toNat 0 575) := by
  unfold f283_X9_meet s283_X9_meet_0
  refine dz_Tin (by omega) (by omega) ?_
  have e1 := dz_l0
  refine dz_Teq (fun h2 => ?_) (fun h2 => ?_)
  · skip
    have e3 := dz_ofn (n := n309) (by omega)
    refine dz_Tle (fun h4 => ?_) (fun h4 => ?_)
    · skip
      refine dz_Ts ?_
      dsimp only
      exact ⟨p4, p5, (dz_rgs (hr_a309) (by omega))⟩
    · skip
      refine dz_Tin (by omega) (by omega) ?_
      refine dz_Tin (by omega) (by omega) ?_
      have e5 := dz_l1
      have e6 := dz_add (a := c307_queued) (b := (1 : Int32)) (by omega) (by omega)
      refine dz_Ts ?_
      dsimp only
      exact ⟨(by omega), (by omega), (dz_rgx (hr_a309) (k2 := (c307_queued + (1 : Int32))) (by omega) (by omega) (by omega) (by omega))⟩
  · skip
    refine dz_Ts ?_
    dsimp only
    exact ⟨p4, p5, (dz_rgs (hr_a309) (by omega))⟩
set_option maxHeartbeats 1000000 in
set_option maxRecDepth 10000 in
theorem t283_X9_meet_g43 (fu : Nat) (hfu : 1000000000000 ≤ fu) (n308 : Nat) (n309 : Nat) (v1 : Int32) (c307_queued : Int32) (a308 : Nat → Int32) (a309 : Nat → Int32) (p0 : ((n308 : Nat) : Int) ≤ 13824) (p1 : 1 ≤ ((n308 : Nat) : Int)) (p2 : ((n309 : Nat) : Int) ≤ 13824) (p3 : 1 ≤ ((n309 : Nat) : Int)) (p4 : c307_queued.toInt ≤ 13824) (p5 : 0 ≤ c307_queued.toInt) (p6 : ((n308 : Nat) : Int) ≤ ((n309 : Nat) : Int)) (p7 : ((n309 : Nat) : Int) ≤ ((n308 : Nat) : Int)) (p8 : 0 ≤ v1.toInt) (p9 : v1.toInt ≤ 13823) (p10 : 13824 ≤ ((n308 : Nat) : Int)) (p11 : 13824 ≤ ((n309 : Nat) : Int)) (hr_a309 : dz_rg a309 c307_queued.toInt.toNat 0 13823) : dz_T (f283_X9_meet fu n308 n309 v1 c307_queued a308 a309) (fun r => r.1.toInt ≤ 13824 ∧ 0 ≤ r.1.toInt ∧ dz_rg r.2.2 r.1.toInt.toNat 0 13823) := by
  unfold f283_X9_meet s283_X9_meet_0
  refine dz_Tin (by omega) (by omega) ?_
  have e1 := dz_l0
  refine dz_Teq (fun h2 => ?_) (fun h2 => ?_)
  · skip
    have e3 := dz_ofn (n := n309) (by omega)
    refine dz_Tle (fun h4 => ?_) (fun h4 => ?_)
    · skip
      refine dz_Ts ?_
      dsimp only
      exact ⟨p4, p5, (dz_rgs (hr_a309) (by omega))⟩
    · skip
      refine dz_Tin (by omega) (by omega) ?_
      refine dz_Tin (by omega) (by omega) ?_
      have e5 := dz_l1
      have e6 := dz_add (a := c307_queued) (b := (1 : Int32)) (by omega) (by omega)
      refine dz_Ts ?_
      dsimp only
      exact ⟨(by omega), (by omega), (dz_rgx (hr_a309) (k2 := (c307_queued + (1 : Int32))) (by omega) (by omega) (by omega) (by omega))⟩
  · skip
    refine dz_Ts ?_
    dsimp only
    exact ⟨p4, p5, (dz_rgs (hr_a309) (by omega))⟩
set_option maxHeartbeats 1000000 in
theorem t283_X9_meet_s (fu : Nat) (hfu : 1000000000000 ≤ fu) (κ : Nat) (hκ : κ < 14) (n308 : Nat) (n309 : Nat) (v1 : Int32) (c307_queued : Int32) (a308 : Nat → Int32) (a309 : Nat → Int32) (p0 : ((n308 : Nat) : Int) ≤ 13824) (p1 : 1 ≤ ((n308 : Nat) : Int)) (p2 : ((n309 : Nat) : Int) ≤ 13824) (p3 : 1 ≤ ((n309 : Nat) : Int)) (p4 : c307_queued.toInt ≤ 13824) (p5 : 0 ≤ c307_queued.toInt) (p6 : ((n308 : Nat) : Int) ≤ ((n309 : Nat) : Int)) (p7 : ((n309 : Nat) : Int) ≤ ((n308 : Nat) : Int)) (p8 : 0 ≤ v1.toInt) (p9 : v1.toInt ≤ 13823) (hr_a309 : dz_rg a309 c307_queued.toInt.toNat 0 (((dz_kt κ : Nat) : Int) - 1)) (o0 : v1.toInt ≤ ((dz_kt κ : Nat) : Int) - 1) (o1 : ((n308 : Nat) : Int) ≥ ((dz_kt κ : Nat) : Int)) (o2 : ((n309 : Nat) : Int) ≥ ((dz_kt κ : Nat) : Int)) : dz_T (f283_X9_meet fu n308 n309 v1 c307_queued a308 a309) (fun r => r.1.toInt ≤ 13824 ∧ 0 ≤ r.1.toInt ∧ dz_rg r.2.2 r.1.toInt.toNat 0 (((dz_kt κ : Nat) : Int) - 1)) := by
  rcases (show κ = 0 ∨ κ = 1 ∨ κ = 2 ∨ κ = 3 ∨ κ = 4 ∨ κ = 5 ∨ κ = 6 ∨ κ = 7 ∨ κ = 8 ∨ κ = 9 ∨ κ = 10 ∨ κ = 11 ∨ κ = 12 ∨ κ = 13 by omega) with rfl | rfl | rfl | rfl | rfl | rfl | rfl | rfl | rfl | rfl | rfl | rfl | rfl | rfl
  · skip
    have o0 : v1.toInt ≤ (1 : Int) - 1 := o0
    have o1 : ((n308 : Nat) : Int) ≥ (1 : Int) := o1
    have o2 : ((n309 : Nat) : Int) ≥ (1 : Int) := o2
    refine dz_Tw (t283_X9_meet_g20 fu hfu n308 n309 v1 c307_queued a308 a309 (by first | assumption | omega) (by first | assumption | omega) (by first | assumption | omega) (by first | assumption | omega) (by first | assumption | omega) (by first | assumption | omega) (by first | assumption | omega) (by first | assumption | omega) (by first | assumption | omega) (by first | assumption | omega) (by first | assumption | omega) (by first | assumption | omega) (by first | exact hr_a309 | exact dz_rgm hr_a309 (by omega) (by omega) | exact dz_pmr hr_a309 (by decide) (by omega) (by omega) (by omega) | exact dz_ptr hr_a309 (by decide) (by decide) (by omega) | exact dz_ptr hr_a309 (by decide) (by decide) (by show _ ≤ 0; omega) | exact dz_rgs hr_a309 (by omega))) (fun r h => ?_)
    obtain ⟨g0, g1, g2⟩ := h
    exact ⟨(by first | assumption | omega), (by first | assumption | omega), (by first | exact g2 | exact dz_rgm g2 (by omega) (by omega))⟩
  · skip
    have o0 : v1.toInt ≤ (2 : Int) - 1 := o0
    have o1 : ((n308 : Nat) : Int) ≥ (2 : Int) := o1
    have o2 : ((n309 : Nat) : Int) ≥ (2 : Int) := o2
    refine dz_Tw (t283_X9_meet_g21 fu hfu n308 n309 v1 c307_queued a308 a309 (by first | assumption | omega) (by first | assumption | omega) (by first | assumption | omega) (by first | assumption | omega) (by first | assumption | omega) (by first | assumption | omega) (by first | assumption | omega) (by first | assumption | omega) (by first | assumption | omega) (by first | assumption | omega) (by first | assumption | omega) (by first | assumption | omega) (by first | exact hr_a309 | exact dz_rgm hr_a309 (by omega) (by omega) | exact dz_pmr hr_a309 (by decide) (by omega) (by omega) (by omega) | exact dz_ptr hr_a309 (by decide) (by decide) (by omega) | exact dz_ptr hr_a309 (by decide) (by decide) (by show _ ≤ 1; omega) | exact dz_rgs hr_a309 (by omega))) (fun r h => ?_)
    obtain ⟨g0, g1, g2⟩ := h
    exact ⟨(by first | assumption | omega), (by first | assumption | omega), (by first | exact g2 | exact dz_rgm g2 (by omega) (by omega))⟩
  · skip
    have o0 : v1.toInt ≤ (4 : Int) - 1 := o0
    have o1 : ((n308 : Nat) : Int) ≥ (4 : Int) := o1
    have o2 : ((n309 : Nat) : Int) ≥ (4 : Int) := o2
    refine dz_Tw (t283_X9_meet_g22 fu hfu n308 n309 v1 c307_queued a308 a309 (by first | assumption | omega) (by first | assumption | omega) (by first | assumption | omega) (by first | assumption | omega) (by first | assumption | omega) (by first | assumption | omega) (by first | assumption | omega) (by first | assumption | omega) (by first | assumption | omega) (by first | assumption | omega) (by first | assumption | omega) (by first | assumption | omega) (by first | exact hr_a309 | exact dz_rgm hr_a309 (by omega) (by omega) | exact dz_pmr hr_a309 (by decide) (by omega) (by omega) (by omega) | exact dz_ptr hr_a309 (by decide) (by decide) (by omega) | exact dz_ptr hr_a309 (by decide) (by decide) (by show _ ≤ 2; omega) | exact dz_rgs hr_a309 (by omega))) (fun r h => ?_)
    obtain ⟨g0, g1, g2⟩ := h
    exact ⟨(by first | assumption | omega), (by first | assumption | omega), (by first | exact g2 | exact dz_rgm g2 (by omega) (by omega))⟩
  · skip
    have o0 : v1.toInt ≤ (8 : Int) - 1 := o0
    have o1 : ((n308 : Nat) : Int) ≥ (8 : Int) := o1
    have o2 : ((n309 : Nat) : Int) ≥ (8 : Int) := o2
    refine dz_Tw (t283_X9_meet_g23 fu hfu n308 n309 v1 c307_queued a308 a309 (by first | assumption | omega) (by first | assumption | omega) (by first | assumption | omega) (by first | assumption | omega) (by first | assumption | omega) (by first | assumption | omega) (by first | assumption | omega) (by first | assumption | omega) (by first | assumption | omega) (by first | assumption | omega) (by first | assumption | omega) (by first | assumption | omega) (by first | exact hr_a309 | exact dz_rgm hr_a309 (by omega) (by omega) | exact dz_pmr hr_a309 (by decide) (by omega) (by omega) (by omega) | exact dz_ptr hr_a309 (by decide) (by decide) (by omega) | exact dz_ptr hr_a309 (by decide) (by decide) (by show _ ≤ 3; omega) | exact dz_rgs hr_a309 (by omega))) (fun r h => ?_)
    obtain ⟨g0, g1, g2⟩ := h
    exact ⟨(by first | assumption | omega), (by first | assumption | omega), (by first | exact g2 | exact dz_rgm g2 (by omega) (by omega))⟩
  · skip
    have o0 : v1.toInt ≤ (16 : Int) - 1 := o0
    have o1 : ((n308 : Nat) : Int) ≥ (16 : Int) := o1
    have o2 : ((n309 : Nat) : Int) ≥ (16 : Int) := o2
    refine dz_Tw (t283_X9_meet_g24 fu hfu n308 n309 v1 c307_queued a308 a309 (by first | assumption | omega) (by first | assumption | omega) (by first | assumption | omega) (by first | assumption | omega) (by first | assumption | omega) (by first | assumption | omega) (by first | assumption | omega) (by first | assumption | omega) (by first | assumption | omega) (by first | assumption | omega) (by first | assumption | omega) (by first | assumption | omega) (by first | exact hr_a309 | exact dz_rgm hr_a309 (by omega) (by omega) | exact dz_pmr hr_a309 (by decide) (by omega) (by omega) (by omega) | exact dz_ptr hr_a309 (by decide) (by decide) (by omega) | exact dz_ptr hr_a309 (by decide) (by decide) (by show _ ≤ 4; omega) | exact dz_rgs hr_a309 (by omega))) (fun r h => ?_)
    obtain ⟨g0, g1, g2⟩ := h
    exact ⟨(by first | assumption | omega), (by first | assumption | omega), (by first | exact g2 | exact dz_rgm g2 (by omega) (by omega))⟩
  · skip
    have o0 : v1.toInt ≤ (1 : Int) - 1 := o0
    have o1 : ((n308 : Nat) : Int) ≥ (1 : Int) := o1
    have o2 : ((n309 : Nat) : Int) ≥ (1 : Int) := o2
    refine dz_Tw (t283_X9_meet_g30 fu hfu n308 n309 v1 c307_queued a308 a309 (by first | assumption | omega) (by first | assumption | omega) (by first | assumption | omega) (by first | assumption | omega) (by first | assumption | omega) (by first | assumption | omega) (by first | assumption | omega) (by first | assumption | omega) (by first | assumption | omega) (by first | assumption | omega) (by first | assumption | omega) (by first | assumption | omega) (by first | exact hr_a309 | exact dz_rgm hr_a309 (by omega) (by omega) | exact dz_pmr hr_a309 (by decide) (by omega) (by omega) (by omega) | exact dz_ptr hr_a309 (by decide) (by decide) (by omega) | exact dz_ptr hr_a309 (by decide) (by decide) (by show _ ≤ 0; omega) | exact dz_rgs hr_a309 (by omega))) (fun r h => ?_)
    obtain ⟨g0, g1, g2⟩ := h
    exact ⟨(by first | assumption | omega), (by first | assumption | omega), (by first | exact g2 | exact dz_rgm g2 (by omega) (by omega))⟩
  · skip
    have o0 : v1.toInt ≤ (6 : Int) - 1 := o0
    have o1 : ((n308 : Nat) : Int) ≥ (6 : Int) := o1
    have o2 : ((n309 : Nat) : Int) ≥ (6 : Int) := o2
    refine dz_Tw (t283_X9_meet_g31 fu hfu n308 n309 v1 c307_queued a308 a309 (by first | assumption | omega) (by first | assumption | omega) (by first | assumption | omega) (by first | assumption | omega) (by first | assumption | omega) (by first | assumption | omega) (by first | assumption | omega) (by first | assumption | omega) (by first | assumption | omega) (by first | assumption | omega) (by first | assumption | omega) (by first | assumption | omega) (by first | exact hr_a309 | exact dz_rgm hr_a309 (by omega) (by omega) | exact dz_pmr hr_a309 (by decide) (by omega) (by omega) (by omega) | exact dz_ptr hr_a309 (by decide) (by decide) (by omega) | exact dz_ptr hr_a309 (by decide) (by decide) (by show _ ≤ 1; omega) | exact dz_rgs hr_a309 (by omega))) (fun r h => ?_)
    obtain ⟨g0, g1, g2⟩ := h
    exact ⟨(by first | assumption | omega), (by first | assumption | omega), (by first | exact g2 | exact dz_rgm g2 (by omega) (by omega))⟩
  · skip
    have o0 : v1.toInt ≤ (36 : Int) - 1 := o0
    have o1 : ((n308 : Nat) : Int) ≥ (36 : Int) := o1
    have o2 : ((n309 : Nat) : Int) ≥ (36 : Int) := o2
    refine dz_Tw (t283_X9_meet_g32 fu hfu n308 n309 v1 c307_queued a308 a309 (by first | assumption | omega) (by first | assumption | omega) (by first | assumption | omega) (by first | assumption | omega) (by first | assumption | omega) (by first | assumption | omega) (by first | assumption | omega) (by first | assumption | omega) (by first | assumption | omega) (by first | assumption | omega) (by first | assumption | omega) (by first | assumption | omega) (by first | exact hr_a309 | exact dz_rgm hr_a309 (by omega) (by omega) | exact dz_pmr hr_a309 (by decide) (by omega) (by omega) (by omega) | exact dz_ptr hr_a309 (by decide) (by decide) (by omega) | exact dz_ptr hr_a309 (by decide) (by decide) (by show _ ≤ 2; omega) | exact dz_rgs hr_a309 (by omega))) (fun r h => ?_)
    obtain ⟨g0, g1, g2⟩ := h
    exact ⟨(by first | assumption | omega), (by first | assumption | omega), (by first | exact g2 | exact dz_rgm g2 (by omega) (by omega))⟩
  · skip
    have o0 : v1.toInt ≤ (216 : Int) - 1 := o0
    have o1 : ((n308 : Nat) : Int) ≥ (216 : Int) := o1
    have o2 : ((n309 : Nat) : Int) ≥ (216 : Int) := o2
    refine dz_Tw (t283_X9_meet_g33 fu hfu n308 n309 v1 c307_queued a308 a309 (by first | assumption | omega) (by first | assumption | omega) (by first | assumption | omega) (by first | assumption | omega) (by first | assumption | omega) (by first | assumption | omega) (by first | assumption | omega) (by first | assumption | omega) (by first | assumption | omega) (by first | assumption | omega) (by first | assumption | omega) (by first | assumption | omega) (by first | exact hr_a309 | exact dz_rgm hr_a309 (by omega) (by omega) | exact dz_pmr hr_a309 (by decide) (by omega) (by omega) (by omega) | exact dz_ptr hr_a309 (by decide) (by decide) (by omega) | exact dz_ptr hr_a309 (by decide) (by decide) (by show _ ≤ 3; omega) | exact dz_rgs hr_a309 (by omega))) (fun r h => ?_)
    obtain ⟨g0, g1, g2⟩ := h
    exact ⟨(by first | assumption | omega), (by first | assumption | omega), (by first | exact g2 | exact dz_rgm g2 (by omega) (by omega))⟩
  · skip
    have o0 : v1.toInt ≤ (1296 : Int) - 1 := o0
    have o1 : ((n308 : Nat) : Int) ≥ (1296 : Int) := o1
    have o2 : ((n309 : Nat) : Int) ≥ (1296 : Int) := o2
    refine dz_Tw (t283_X9_meet_g34 fu hfu n308 n309 v1 c307_queued a308 a309 (by first | assumption | omega) (by first | assumption | omega) (by first | assumption | omega) (by first | assumption | omega) (by first | assumption | omega) (by first | assumption | omega) (by first | assumption | omega) (by first | assumption | omega) (by first | assumption | omega) (by first | assumption | omega) (by first | assumption | omega) (by first | assumption | omega) (by first | exact hr_a309 | exact dz_rgm hr_a309 (by omega) (by omega) | exact dz_pmr hr_a309 (by decide) (by omega) (by omega) (by omega) | exact dz_ptr hr_a309 (by decide) (by decide) (by omega) | exact dz_ptr hr_a309 (by decide) (by decide) (by show _ ≤ 4; omega) | exact dz_rgs hr_a309 (by omega))) (fun r h => ?_)
    obtain ⟨g0, g1, g2⟩ := h
    exact ⟨(by first | assumption | omega), (by first | assumption | omega), (by first | exact g2 | exact dz_rgm g2 (by omega) (by omega))⟩
  · skip
    have o0 : v1.toInt ≤ (1 : Int) - 1 := o0
    have o1 : ((n308 : Nat) : Int) ≥ (1 : Int) := o1
    have o2 : ((n309 : Nat) : Int) ≥ (1 : Int) := o2
    refine dz_Tw (t283_X9_meet_g40 fu hfu n308 n309 v1 c307_queued a308 a309 (by first | assumption | omega) (by first | assumption | omega) (by first | assumption | omega) (by first | assumption | omega) (by first | assumption | omega) (by first | assumption | omega) (by first | assumption | omega) (by first | assumption | omega) (by first | assumption | omega) (by first | assumption | omega) (by first | assumption | omega) (by first | assumption | omega) (by first | exact hr_a309 | exact dz_rgm hr_a309 (by omega) (by omega) | exact dz_pmr hr_a309 (by decide) (by omega) (by omega) (by omega) | exact dz_ptr hr_a309 (by decide) (by decide) (by omega) | exact dz_ptr hr_a309 (by decide) (by decide) (by show _ ≤ 0; omega) | exact dz_rgs hr_a309 (by omega))) (fun r h => ?_)
    obtain ⟨g0, g1, g2⟩ := h
    exact ⟨(by first | assumption | omega), (by first | assumption | omega), (by first | exact g2 | exact dz_rgm g2 (by omega) (by omega))⟩
  · skip
    have o0 : v1.toInt ≤ (24 : Int) - 1 := o0
    have o1 : ((n308 : Nat) : Int) ≥ (24 : Int) := o1
    have o2 : ((n309 : Nat) : Int) ≥ (24 : Int) := o2
    refine dz_Tw (t283_X9_meet_g41 fu hfu n308 n309 v1 c307_queued a308 a309 (by first | assumption | omega) (by first | assumption | omega) (by first | assumption | omega) (by first | assumption | omega) (by first | assumption | omega) (by first | assumption | omega) (by first | assumption | omega) (by first | assumption | omega) (by first | assumption | omega) (by first | assumption | omega) (by first | assumption | omega) (by first | assumption | omega) (by first | exact hr_a309 | exact dz_rgm hr_a309 (by omega) (by omega) | exact dz_pmr hr_a309 (by decide) (by omega) (by omega) (by omega) | exact dz_ptr hr_a309 (by decide) (by decide) (by omega) | exact dz_ptr hr_a309 (by decide) (by decide) (by show _ ≤ 1; omega) | exact dz_rgs hr_a309 (by omega))) (fun r h => ?_)
    obtain ⟨g0, g1, g2⟩ := h
    exact ⟨(by first | assumption | omega), (by first | assumption | omega), (by first | exact g2 | exact dz_rgm g2 (by omega) (by omega))⟩
  · skip
    have o0 : v1.toInt ≤ (576 : Int) - 1 := o0
    have o1 : ((n308 : Nat) : Int) ≥ (576 : Int) := o1
    have o2 : ((n309 : Nat) : Int) ≥ (576 : Int) := o2
    refine dz_Tw (t283_X9_meet_g42 fu hfu n308 n309 v1 c307_queued a308 a309 (by first | assumption | omega) (by first | assumption | omega) (by first | assumption | omega) (by first | assumption | omega) (by first | assumption | omega) (by first | assumption | omega) (by first | assumption | omega) (by first | assumption | omega) (by first | assumption | omega) (by first | assumption | omega) (by first | assumption | omega) (by first | assumption | omega) (by first | exact hr_a309 | exact dz_rgm hr_a309 (by omega) (by omega) | exact dz_pmr hr_a309 (by decide) (by omega) (by omega) (by omega) | exact dz_ptr hr_a309 (by decide) (by decide) (by omega) | exact dz_ptr hr_a309 (by decide) (by decide) (by show _ ≤ 2; omega) | exact dz_rgs hr_a309 (by omega))) (fun r h => ?_)
    obtain ⟨g0, g1, g2⟩ := h
    exact ⟨(by first | assumption | omega), (by first | assumption | omega), (by first | exact g2 | exact dz_rgm g2 (by omega) (by omega))⟩
  · skip
    have o0 : v1.toInt ≤ (13824 : Int) - 1 := o0
    have o1 : ((n308 : Nat) : Int) ≥ (13824 : Int) := o1
    have o2 : ((n309 : Nat) : Int) ≥ (13824 : Int) := o2
    refine dz_Tw (t283_X9_meet_g43 fu hfu n308 n309 v1 c307_queued a308 a309 (by first | assumption | omega) (by first | assumption | omega) (by first | assumption | omega) (by first | assumption | omega) (by first | assumption | omega) (by first | assumption | omega) (by first | assumption | omega) (by first | assumption | omega) (by first | assumption | omega) (by first | assumption | omega) (by first | assumption | omega) (by first | assumption | omega) (by first | exact hr_a309 | exact dz_rgm hr_a309 (by omega) (by omega) | exact dz_pmr hr_a309 (by decide) (by omega) (by omega) (by omega) | exact dz_ptr hr_a309 (by decide) (by decide) (by omega) | exact dz_ptr hr_a309 (by decide) (by decide) (by show _ ≤ 3; omega) | exact dz_rgs hr_a309 (by omega))) (fun r h => ?_)
    obtain ⟨g0, g1, g2⟩ := h
    exact ⟨(by first | assumption | omega), (by first | assumption | omega), (by first | exact g2 | exact dz_rgm g2 (by omega) (by omega))⟩
abbrev p284_X9_meetSwapped_g20 (fu : Nat) (c248_pots : Int32) (c261_many : Int32) (c261_swapsAPot : Int32) (a265 : Nat → Int32) (a268 : Nat → Int32) (a269 : Nat → Int32) (n269 : Nat) (n308 : Nat) (n309 : Nat) (k : Nat) : Prop :=
  (∀ (v1 : Int32) (v2 : Int32) (c307_queued : Int32) (a308 : Nat → Int32) (a309 : Nat → Int32), v1.toInt ≤ 0 → 0 ≤ v1.toInt → v2.toInt ≤ 0 → 0 ≤ v2.toInt → c307_queued.toInt ≤ 13824 → 0 ≤ c307_queued.toInt → dz_rg a309 c307_queued.toInt.toNat 0 0 → 0 + 0 + (0 - v2.toInt) * 42 + 7 ≤ ((k : Nat) : Int) → dz_T ((F284_X9_meetSwapped fu c248_pots c261_many c261_swapsAPot a265 a268 a269 n269 n308 n309 k).1 v1 v2 c307_queued a308 a309) (fun r => r.1.toInt ≤ 13824 ∧ 0 ≤ r.1.toInt ∧ dz_rg r.2.2 r.1.toInt.toNat 0 0))
set_option maxHeartbeats 1000000 in
set_option maxRecDepth 10000 in
theorem t284_X9_meetSwapped_h1_g20 (fu : Nat) (hfu : 1000000000000 ≤ fu) (c248_pots : Int32) (c261_many : Int32) (c261_swapsAPot : Int32) (a265 : Nat → Int32) (a268 : Nat → Int32) (a269 : Nat → Int32) (n269 : Nat) (n308 : Nat) (n309 : Nat) (p0 : c248_pots.toInt ≤ 0) (p1 : 0 ≤ c248_pots.toInt) (p2 : c261_many.toInt ≤ 2) (p3 : 2 ≤ c261_many.toInt) (p4 : c261_swapsAPot.toInt ≤ 1) (p5 : 1 ≤ c261_swapsAPot.toInt) (p6 : ((n269 : Nat) : Int) ≤ 13824) (p7 : 1 ≤ ((n269 : Nat) : Int)) (p8 : ((n308 : Nat) : Int) ≤ 13824) (p9 : 1 ≤ ((n308 : Nat) : Int)) (p10 : ((n309 : Nat) : Int) ≤ 13824) (p11 : 1 ≤ ((n309 : Nat) : Int)) (p12 : ((n308 : Nat) : Int) ≤ ((n309 : Nat) : Int)) (p13 : ((n309 : Nat) : Int) ≤ ((n308 : Nat) : Int)) (p14 : 1 ≤ ((n308 : Nat) : Int)) (p15 : 1 ≤ ((n269 : Nat) : Int)) (hr_a265 : dz_rt a265 2 1 0 1) (hr_a269 : dz_rg a269 n269 0 1023) (k : Nat) (ih : ∀ j9, j9 < k → p284_X9_meetSwapped_g20 fu c248_pots c261_many c261_swapsAPot a265 a268 a269 n269 n308 n309 j9) : ∀ (v1 : Int32) (v2 : Int32) (c307_queued : Int32) (a308 : Nat → Int32) (a309 : Nat → Int32), v1.toInt ≤ 0 → 0 ≤ v1.toInt → v2.toInt ≤ 0 → 0 ≤ v2.toInt → c307_queued.toInt ≤ 13824 → 0 ≤ c307_queued.toInt → dz_rg a309 c307_queued.toInt.toNat 0 0 → 0 + 0 + (0 - v2.toInt) * 42 + 7 ≤ ((k : Nat) : Int) → dz_T ((F284_X9_meetSwapped fu c248_pots c261_many c261_swapsAPot a265 a268 a269 n269 n308 n309 k).1 v1 v2 c307_queued a308 a309) (fun r => r.1.toInt ≤ 13824 ∧ 0 ≤ r.1.toInt ∧ dz_rg r.2.2 r.1.toInt.toNat 0 0) := by
  intro v1 v2 c307_queued a308 a309 i0 i1 i2 i3 i4 i5 hr_a309 hm
  obtain ⟨k0, rfl⟩ : ∃ x, k = x + 1 := ⟨k - 1, by omega⟩
  show dz_T (s284_X9_meetSwapped_1 fu c248_pots c261_many c261_swapsAPot a265 a268 a269 n269 n308 n309 (F284_X9_meetSwapped fu c248_pots c261_many c261_swapsAPot a265 a268 a269 n269 n308 n309 k0).2.1  v1 v2 c307_queued a308 a309) _
  unfold s284_X9_meetSwapped_1
  refine dz_Tle (fun h1 => ?_) (fun h1 => ?_)
  · skip
    refine dz_Ts ?_
    dsimp only
    exact ⟨i4, i5, (dz_rgs (hr_a309) (by omega))⟩
  · skip
    exfalso; omega
theorem t284_X9_meetSwapped_I_g20 (fu : Nat) (hfu : 1000000000000 ≤ fu) (c248_pots : Int32) (c261_many : Int32) (c261_swapsAPot : Int32) (a265 : Nat → Int32) (a268 : Nat → Int32) (a269 : Nat → Int32) (n269 : Nat) (n308 : Nat) (n309 : Nat) (p0 : c248_pots.toInt ≤ 0) (p1 : 0 ≤ c248_pots.toInt) (p2 : c261_many.toInt ≤ 2) (p3 : 2 ≤ c261_many.toInt) (p4 : c261_swapsAPot.toInt ≤ 1) (p5 : 1 ≤ c261_swapsAPot.toInt) (p6 : ((n269 : Nat) : Int) ≤ 13824) (p7 : 1 ≤ ((n269 : Nat) : Int)) (p8 : ((n308 : Nat) : Int) ≤ 13824) (p9 : 1 ≤ ((n308 : Nat) : Int)) (p10 : ((n309 : Nat) : Int) ≤ 13824) (p11 : 1 ≤ ((n309 : Nat) : Int)) (p12 : ((n308 : Nat) : Int) ≤ ((n309 : Nat) : Int)) (p13 : ((n309 : Nat) : Int) ≤ ((n308 : Nat) : Int)) (p14 : 1 ≤ ((n308 : Nat) : Int)) (p15 : 1 ≤ ((n269 : Nat) : Int)) (hr_a265 : dz_rt a265 2 1 0 1) (hr_a269 : dz_rg a269 n269 0 1023) (k : Nat) : p284_X9_meetSwapped_g20 fu c248_pots c261_many c261_swapsAPot a265 a268 a269 n269 n308 n309 k := by
  induction k using Nat.strongRecOn with
  | _ k ih => exact t284_X9_meetSwapped_h1_g20 fu hfu c248_pots c261_many c261_swapsAPot a265 a268 a269 n269 n308 n309 p0 p1 p2 p3 p4 p5 p6 p7 p8 p9 p10 p11 p12 p13 p14 p15 hr_a265 hr_a269 k ih
set_option maxHeartbeats 1000000 in
set_option maxRecDepth 10000 in
theorem t284_X9_meetSwapped_E_g20 (fu : Nat) (hfu : 1000000000000 ≤ fu) (c248_pots : Int32) (c261_many : Int32) (c261_swapsAPot : Int32) (a265 : Nat → Int32) (a268 : Nat → Int32) (a269 : Nat → Int32) (n269 : Nat) (n308 : Nat) (n309 : Nat) (v1 : Int32) (c307_queued : Int32) (a308 : Nat → Int32) (a309 : Nat → Int32) (p0 : c248_pots.toInt ≤ 0) (p1 : 0 ≤ c248_pots.toInt) (p2 : c261_many.toInt ≤ 2) (p3 : 2 ≤ c261_many.toInt) (p4 : c261_swapsAPot.toInt ≤ 1) (p5 : 1 ≤ c261_swapsAPot.toInt) (p6 : ((n269 : Nat) : Int) ≤ 13824) (p7 : 1 ≤ ((n269 : Nat) : Int)) (p8 : ((n308 : Nat) : Int) ≤ 13824) (p9 : 1 ≤ ((n308 : Nat) : Int)) (p10 : ((n309 : Nat) : Int) ≤ 13824) (p11 : 1 ≤ ((n309 : Nat) : Int)) (p12 : c307_queued.toInt ≤ 13824) (p13 : 0 ≤ c307_queued.toInt) (p14 : ((n308 : Nat) : Int) ≤ ((n309 : Nat) : Int)) (p15 : ((n309 : Nat) : Int) ≤ ((n308 : Nat) : Int)) (p16 : 0 ≤ v1.toInt) (p17 : v1.toInt ≤ 0) (p18 : 1 ≤ ((n308 : Nat) : Int)) (p19 : 1 ≤ ((n269 : Nat) : Int)) (hr_a265 : dz_rt a265 2 1 0 1) (hr_a269 : dz_rg a269 n269 0 1023) (hr_a309 : dz_rg a309 c307_queued.toInt.toNat 0 0) (kv : Nat) (hkv : 1000000000000 ≤ kv) : dz_T (s284_X9_meetSwapped_0 fu c248_pots c261_many c261_swapsAPot a265 a268 a269 n269 n308 n309 (F284_X9_meetSwapped fu c248_pots c261_many c261_swapsAPot a265 a268 a269 n269 n308 n309 kv).1  v1 c307_queued a308 a309) (fun r => r.1.toInt ≤ 13824 ∧ 0 ≤ r.1.toInt ∧ dz_rg r.2.2 r.1.toInt.toNat 0 0) := by
  unfold s284_X9_meetSwapped_0
  have e1 := dz_l0
  exact (t284_X9_meetSwapped_I_g20 fu hfu c248_pots c261_many c261_swapsAPot a265 a268 a269 n269 n308 n309 p0 p1 p2 p3 p4 p5 p6 p7 p8 p9 p10 p11 p14 p15 p18 p19 hr_a265 hr_a269 kv) v1 (0 : Int32) c307_queued a308 a309 p17 p16 (by omega) (by omega) p12 p13 (dz_rgs (hr_a309) (by omega)) (by omega)
theorem t284_X9_meetSwapped_g20 (fu : Nat) (hfu : 1000000000000 ≤ fu) (c248_pots : Int32) (c261_many : Int32) (c261_swapsAPot : Int32) (a265 : Nat → Int32) (a268 : Nat → Int32) (a269 : Nat → Int32) (n269 : Nat) (n308 : Nat) (n309 : Nat) (v1 : Int32) (c307_queued : Int32) (a308 : Nat → Int32) (a309 : Nat → Int32) (p0 : c248_pots.toInt ≤ 0) (p1 : 0 ≤ c248_pots.toInt) (p2 : c261_many.toInt ≤ 2) (p3 : 2 ≤ c261_many.toInt) (p4 : c261_swapsAPot.toInt ≤ 1) (p5 : 1 ≤ c261_swapsAPot.toInt) (p6 : ((n269 : Nat) : Int) ≤ 13824) (p7 : 1 ≤ ((n269 : Nat) : Int)) (p8 : ((n308 : Nat) : Int) ≤ 13824) (p9 : 1 ≤ ((n308 : Nat) : Int)) (p10 : ((n309 : Nat) : Int) ≤ 13824) (p11 : 1 ≤ ((n309 : Nat) : Int)) (p12 : c307_queued.toInt ≤ 13824) (p13 : 0 ≤ c307_queued.toInt) (p14 : ((n308 : Nat) : Int) ≤ ((n309 : Nat) : Int)) (p15 : ((n309 : Nat) : Int) ≤ ((n308 : Nat) : Int)) (p16 : 0 ≤ v1.toInt) (p17 : v1.toInt ≤ 0) (p18 : 1 ≤ ((n308 : Nat) : Int)) (p19 : 1 ≤ ((n269 : Nat) : Int)) (hr_a265 : dz_rt a265 2 1 0 1) (hr_a269 : dz_rg a269 n269 0 1023) (hr_a309 : dz_rg a309 c307_queued.toInt.toNat 0 0) : dz_T (f284_X9_meetSwapped fu c248_pots c261_many c261_swapsAPot a265 a268 a269 n269 n308 n309 v1 c307_queued a308 a309) (fun r => r.1.toInt ≤ 13824 ∧ 0 ≤ r.1.toInt ∧ dz_rg r.2.2 r.1.toInt.toNat 0 0) :=
  t284_X9_meetSwapped_E_g20 fu hfu c248_pots c261_many c261_swapsAPot a265 a268 a269 n269 n308 n309 v1 c307_queued a308 a309 p0 p1 p2 p3 p4 p5 p6 p7 p8 p9 p10 p11 p12 p13 p14 p15 p16 p17 p18 p19 hr_a265 hr_a269 hr_a309 fu hfu
abbrev p284_X9_meetSwapped_g21 (fu : Nat) (c248_pots : Int32) (c261_many : Int32) (c261_swapsAPot : Int32) (a265 : Nat → Int32) (a268 : Nat → Int32) (a269 : Nat → Int32) (n269 : Nat) (n308 : Nat) (n309 : Nat) (k : Nat) : Prop :=
  (∀ (v1 : Int32) (v2 : Int32) (c307_queued : Int32) (a308 : Nat → Int32) (a309 : Nat → Int32), v1.toInt ≤ 1 → 0 ≤ v1.toInt → v2.toInt ≤ 1 → 0 ≤ v2.toInt → c307_queued.toInt ≤ 13824 → 0 ≤ c307_queued.toInt → dz_rg a309 c307_queued.toInt.toNat 0 1 → 0 + 0 + (1 - v2.toInt) * 56 + 7 ≤ ((k : Nat) : Int) → dz_T ((F284_X9_meetSwapped fu c248_pots c261_many c261_swapsAPot a265 a268 a269 n269 n308 n309 k).1 v1 v2 c307_queued a308 a309) (fun r => r.1.toInt ≤ 13824 ∧ 0 ≤ r.1.toInt ∧ dz_rg r.2.2 r.1.toInt.toNat 0 1)) ∧ (∀ (v1 : Int32) (v2 : Int32) (v3 : Int32) (v4 : Int32) (v5 : Int32) (v6 : Int32) (c307_queued : Int32) (a308 : Nat → Int32) (a309 : Nat → Int32), v1.toInt ≤ 1 → 0 ≤ v1.toInt → v2.toInt ≤ 0 → 0 ≤ v2.toInt → v3.toInt ≤ 1 → 1 ≤ v3.toInt → v4.toInt ≤ 1 → 0 ≤ v4.toInt → v5.toInt ≤ 1 → 0 ≤ v5.toInt → v6.toInt ≤ 1 → 0 ≤ v6.toInt → c307_queued.toInt ≤ 13824 → 0 ≤ c307_queued.toInt → v4.toInt ≤ v1.toInt → v5.toInt ≤ v1.toInt → dz_rg a309 c307_queued.toInt.toNat 0 1 → ((v2.toInt = 0 ∧ v3.toInt = 1 ∧ v4.toInt = v1.toInt % 2 ∧ v5.toInt = v1.toInt - v4.toInt * 1)) → 0 + 0 + ((1 - v2.toInt) - 1) * 56 + 0 + (1 - v6.toInt) * 14 + 14 ≤ ((k : Nat) : Int) → dz_T ((F284_X9_meetSwapped fu c248_pots c261_many c261_swapsAPot a265 a268 a269 n269 n308 n309 k).2.1 v1 v2 v3 v4 v5 v6 c307_queued a308 a309) (fun r => r.1.toInt ≤ 13824 ∧ 0 ≤ r.1.toInt ∧ dz_rg r.2.2 r.1.toInt.toNat 0 1))
set_option maxHeartbeats 1000000 in
set_option maxRecDepth 10000 in
theorem t284_X9_meetSwapped_h1_g21 (fu : Nat) (hfu : 1000000000000 ≤ fu) (c248_pots : Int32) (c261_many : Int32) (c261_swapsAPot : Int32) (a265 : Nat → Int32) (a268 : Nat → Int32) (a269 : Nat → Int32) (n269 : Nat) (n308 : Nat) (n309 : Nat) (p0 : c248_pots.toInt ≤ 1) (p1 : 1 ≤ c248_pots.toInt) (p2 : c261_many.toInt ≤ 2) (p3 : 2 ≤ c261_many.toInt) (p4 : c261_swapsAPot.toInt ≤ 1) (p5 : 1 ≤ c261_swapsAPot.toInt) (p6 : ((n269 : Nat) : Int) ≤ 13824) (p7 : 1 ≤ ((n269 : Nat) : Int)) (p8 : ((n308 : Nat) : Int) ≤ 13824) (p9 : 1 ≤ ((n308 : Nat) : Int)) (p10 : ((n309 : Nat) : Int) ≤ 13824) (p11 : 1 ≤ ((n309 : Nat) : Int)) (p12 : ((n308 : Nat) : Int) ≤ ((n309 : Nat) : Int)) (p13 : ((n309 : Nat) : Int) ≤ ((n308 : Nat) : Int)) (p14 : 2 ≤ ((n308 : Nat) : Int)) (p15 : 2 ≤ ((n269 : Nat) : Int)) (hr_a265 : dz_rt a265 2 1 0 1) (hr_a268 : dz_pt a268 [1]) (hr_a269 : dz_rg a269 n269 0 1023) (k : Nat) (ih : ∀ j9, j9 < k → p284_X9_meetSwapped_g21 fu c248_pots c261_many c261_swapsAPot a265 a268 a269 n269 n308 n309 j9) : ∀ (v1 : Int32) (v2 : Int32) (c307_queued : Int32) (a308 : Nat → Int32) (a309 : Nat → Int32), v1.toInt ≤ 1 → 0 ≤ v1.toInt → v2.toInt ≤ 1 → 0 ≤ v2.toInt → c307_queued.toInt ≤ 13824 → 0 ≤ c307_queued.toInt → dz_rg a309 c307_queued.toInt.toNat 0 1 → 0 + 0 + (1 - v2.toInt) * 56 + 7 ≤ ((k : Nat) : Int) → dz_T ((F284_X9_meetSwapped fu c248_pots c261_many c261_swapsAPot a265 a268 a269 n269 n308 n309 k).1 v1 v2 c307_queued a308 a309) (fun r => r.1.toInt ≤ 13824 ∧ 0 ≤ r.1.toInt ∧ dz_rg r.2.2 r.1.toInt.toNat 0 1) := by
  intro v1 v2 c307_queued a308 a309 i0 i1 i2 i3 i4 i5 hr_a309 hm
  obtain ⟨k0, rfl⟩ : ∃ x, k = x + 1 := ⟨k - 1, by omega⟩
  show dz_T (s284_X9_meetSwapped_1 fu c248_pots c261_many c261_swapsAPot a265 a268 a269 n269 n308 n309 (F284_X9_meetSwapped fu c248_pots c261_many c261_swapsAPot a265 a268 a269 n269 n308 n309 k0).2.1  v1 v2 c307_queued a308 a309) _
  unfold s284_X9_meetSwapped_1
  rcases (show v2.toInt = 0 ∨ v2.toInt = 1 by omega) with hs | hs
  · skip
    refine dz_Tle (fun h1 => ?_) (fun h1 => ?_)
    · skip
      exfalso; omega
    · skip
      refine dz_Tin (by omega) (by omega) ?_
      refine dz_Tbe (show f141_X2_rankIn fu c261_many a268 v1 v2 = (if dz_in v2 4 then (if ((a268 v2.toNatClampNeg) ≤ (0 : Int32)) then (some (0 : Int32)) else (if (c261_many ≤ (0 : Int32)) then (some (0 : Int32)) else (if (¬ ((a268 v2.toNatClampNeg) = (0 : Int32))) then (if (¬ (c261_many = (0 : Int32))) then (some (dz_rem (v1 / (a268 v2.toNatClampNeg)) c261_many)) else none) else none))) else none) from rfl) ?_
      refine dz_Tinb (by omega) (by omega) ?_
      have e2 := dz_ptat (hr_a268) (i := v2) (x := 1) 0 (by omega) (by decide)
      have e3 := dz_l0
      refine dz_Tleb (fun h4 => ?_) (fun h4 => ?_)
      · skip
        exfalso; omega
      · skip
        refine dz_Tleb (fun h5 => ?_) (fun h5 => ?_)
        · skip
          exfalso; omega
        · skip
          refine dz_Tzb (by omega) ?_
          refine dz_Tzb (by omega) ?_
          refine dz_Tsb ?_
          have e6 := dz_div1 (a := v1) (b := (a268 v2.toNatClampNeg)) (by omega) (by omega)
          have e7 := dz_remn (a := (v1 / (a268 v2.toNatClampNeg))) (b := c261_many) 2 (by omega) (by omega) (by omega)
          have e8 := dz_mulr (a := (dz_rem (v1 / (a268 v2.toNatClampNeg)) c261_many)) (b := (a268 v2.toNatClampNeg)) 1 (by omega) (by omega) (by omega)
          have e9 := dz_sub (a := v1) (b := ((dz_rem (v1 / (a268 v2.toNatClampNeg)) c261_many) * (a268 v2.toNatClampNeg))) (by omega) (by omega)
          exact (ih k0 (by omega)).2 v1 v2 (a268 v2.toNatClampNeg) (dz_rem (v1 / (a268 v2.toNatClampNeg)) c261_many) (v1 - ((dz_rem (v1 / (a268 v2.toNatClampNeg)) c261_many) * (a268 v2.toNatClampNeg))) (0 : Int32) c307_queued a308 a309 i0 i1 (by first | assumption | omega) i3 (by omega) (by omega) (by omega) (by omega) (by omega) (by omega) (by omega) (by omega) i4 i5 (by omega) (by omega) (dz_rgs (hr_a309) (by omega)) (by omega) (by omega)
  · skip
    refine dz_Tle (fun h10 => ?_) (fun h10 => ?_)
    · skip
      refine dz_Ts ?_
      dsimp only
      exact ⟨i4, i5, (dz_rgs (hr_a309) (by omega))⟩
    · skip
      exfalso; omega
set_option maxHeartbeats 1000000 in
set_option maxRecDepth 10000 in
theorem t284_X9_meetSwapped_h2_g21 (fu : Nat) (hfu : 1000000000000 ≤ fu) (c248_pots : Int32) (c261_many : Int32) (c261_swapsAPot : Int32) (a265 : Nat → Int32) (a268 : Nat → Int32) (a269 : Nat → Int32) (n269 : Nat) (n308 : Nat) (n309 : Nat) (p0 : c248_pots.toInt ≤ 1) (p1 : 1 ≤ c248_pots.toInt) (p2 : c261_many.toInt ≤ 2) (p3 : 2 ≤ c261_many.toInt) (p4 : c261_swapsAPot.toInt ≤ 1) (p5 : 1 ≤ c261_swapsAPot.toInt) (p6 : ((n269 : Nat) : Int) ≤ 13824) (p7 : 1 ≤ ((n269 : Nat) : Int)) (p8 : ((n308 : Nat) : Int) ≤ 13824) (p9 : 1 ≤ ((n308 : Nat) : Int)) (p10 : ((n309 : Nat) : Int) ≤ 13824) (p11 : 1 ≤ ((n309 : Nat) : Int)) (p12 : ((n308 : Nat) : Int) ≤ ((n309 : Nat) : Int)) (p13 : ((n309 : Nat) : Int) ≤ ((n308 : Nat) : Int)) (p14 : 2 ≤ ((n308 : Nat) : Int)) (p15 : 2 ≤ ((n269 : Nat) : Int)) (hr_a265 : dz_rt a265 2 1 0 1) (hr_a268 : dz_pt a268 [1]) (hr_a269 : dz_rg a269 n269 0 1023) (k : Nat) (ih : ∀ j9, j9 < k → p284_X9_meetSwapped_g21 fu c248_pots c261_many c261_swapsAPot a265 a268 a269 n269 n308 n309 j9) : ∀ (v1 : Int32) (v2 : Int32) (v3 : Int32) (v4 : Int32) (v5 : Int32) (v6 : Int32) (c307_queued : Int32) (a308 : Nat → Int32) (a309 : Nat → Int32), v1.toInt ≤ 1 → 0 ≤ v1.toInt → v2.toInt ≤ 0 → 0 ≤ v2.toInt → v3.toInt ≤ 1 → 1 ≤ v3.toInt → v4.toInt ≤ 1 → 0 ≤ v4.toInt → v5.toInt ≤ 1 → 0 ≤ v5.toInt → v6.toInt ≤ 1 → 0 ≤ v6.toInt → c307_queued.toInt ≤ 13824 → 0 ≤ c307_queued.toInt → v4.toInt ≤ v1.toInt → v5.toInt ≤ v1.toInt → dz_rg a309 c307_queued.toInt.toNat 0 1 → ((v2.toInt = 0 ∧ v3.toInt = 1 ∧ v4.toInt = v1.toInt % 2 ∧ v5.toInt = v1.toInt - v4.toInt * 1)) → 0 + 0 + ((1 - v2.toInt) - 1) * 56 + 0 + (1 - v6.toInt) * 14 + 14 ≤ ((k : Nat) : Int) → dz_T ((F284_X9_meetSwapped fu c248_pots c261_many c261_swapsAPot a265 a268 a269 n269 n308 n309 k).2.1 v1 v2 v3 v4 v5 v6 c307_queued a308 a309) (fun r => r.1.toInt ≤ 13824 ∧ 0 ≤ r.1.toInt ∧ dz_rg r.2.2 r.1.toInt.toNat 0 1) := by
  intro v1 v2 v3 v4 v5 v6 c307_queued a308 a309 i0 i1 i2 i3 i4 i5 i6 i7 i8 i9 i10 i11 i12 i13 i14 i15 hr_a309 x0 hm
  obtain ⟨k0, rfl⟩ : ∃ x, k = x + 1 := ⟨k - 1, by omega⟩
  show dz_T (s284_X9_meetSwapped_2 fu c248_pots c261_many c261_swapsAPot a265 a268 a269 n269 n308 n309 (F284_X9_meetSwapped fu c248_pots c261_many c261_swapsAPot a265 a268 a269 n269 n308 n309 k0).1 (F284_X9_meetSwapped fu c248_pots c261_many c261_swapsAPot a265 a268 a269 n269 n308 n309 k0).2.2  v1 v2 v3 v4 v5 v6 c307_queued a308 a309) _
  unfold s284_X9_meetSwapped_2
  have hs : v2.toInt = 0 := by omega
  refine dz_Tle (fun h1 => ?_) (fun h1 => ?_)
  · skip
    have e2 := dz_l1
    have e3 := dz_add (a := v2) (b := (1 : Int32)) (by omega) (by omega)
    exact (ih k0 (by omega)).1 v1 (v2 + (1 : Int32)) c307_queued a308 a309 i0 i1 (by omega) (by omega) i12 i13 (dz_rgs (hr_a309) (by omega)) (by omega)
  · skip
    have e4 := dz_l6
    have e5 := dz_mulr (a := v4) (b := (6 : Int32)) 6 (by omega) (by omega) (by omega)
    have e6 := dz_add (a := (v4 * (6 : Int32))) (b := v6) (by omega) (by omega)
    refine dz_Tin (by omega) (by omega) ?_
    have e7 := dz_rtat (hr_a265) (x := v4) (y := v6) (by omega) (by omega) (by omega) (by omega) (by omega)
    have e8 := dz_mulr (a := (a265 ((v4 * (6 : Int32)) + v6).toNatClampNeg)) (b := v3) 1 (by omega) (by omega) (by omega)
    have e9 := dz_add (a := v5) (b := ((a265 ((v4 * (6 : Int32)) + v6).toNatClampNeg) * v3)) (by omega) (by omega)
    refine dz_Tin (by omega) (by omega) ?_
    have e10 := dz_rgat (hr_a269) (i := (v5 + ((a265 ((v4 * (6 : Int32)) + v6).toNatClampNeg) * v3))) (by omega) (by omega)
    have e11 := dz_l0
    refine dz_Teq (fun h12 => ?_) (fun h12 => ?_)
    · skip
      refine dz_Tb (t283_X9_meet_g21 fu hfu _ _ _ _ _ _ p8 (by first | assumption | omega) p10 p11 i12 i13 p12 p13 (by omega) (by omega) p14 (by first | assumption | omega) (dz_rgs (hr_a309) (by omega))) (fun r1 q => ?_)
      obtain ⟨q1_0, q1_1, qa1_2⟩ := q
      obtain ⟨k1, rfl⟩ : ∃ x, k0 = x + 1 := ⟨k0 - 1, by omega⟩
      show dz_T (s284_X9_meetSwapped_3 fu c248_pots c261_many c261_swapsAPot a265 a268 a269 n269 n308 n309 (F284_X9_meetSwapped fu c248_pots c261_many c261_swapsAPot a265 a268 a269 n269 n308 n309 k1).2.1 v1 v2 v3 v4 v5 v6 r1.1 r1.2.1 r1.2.2) _
      unfold s284_X9_meetSwapped_3
      have e13 := dz_l1
      have e14 := dz_add (a := v6) (b := (1 : Int32)) (by omega) (by omega)
      exact (ih k1 (by omega)).2 v1 v2 v3 v4 v5 (v6 + (1 : Int32)) r1.1 r1.2.1 r1.2.2 i0 i1 i2 i3 i4 i5 i6 i7 i8 i9 (by omega) (by omega) q1_0 q1_1 i14 i15 (dz_rgs (qa1_2) (by omega)) (by omega) (by omega)
    · skip
      obtain ⟨k2, rfl⟩ : ∃ x, k0 = x + 1 := ⟨k0 - 1, by omega⟩
      show dz_T (s284_X9_meetSwapped_3 fu c248_pots c261_many c261_swapsAPot a265 a268 a269 n269 n308 n309 (F284_X9_meetSwapped fu c248_pots c261_many c261_swapsAPot a265 a268 a269 n269 n308 n309 k2).2.1 v1 v2 v3 v4 v5 v6 c307_queued a308 a309) _
      unfold s284_X9_meetSwapped_3
      have e15 := dz_l1
      have e16 := dz_add (a := v6) (b := (1 : Int32)) (by omega) (by omega)
      exact (ih k2 (by omega)).2 v1 v2 v3 v4 v5 (v6 + (1 : Int32)) c307_queued a308 a309 i0 i1 i2 i3 i4 i5 i6 i7 i8 i9 (by omega) (by omega) i12 i13 i14 i15 (dz_rgs (hr_a309) (by omega)) (by omega) (by omega)
theorem t284_X9_meetSwapped_I_g21 (fu : Nat) (hfu : 1000000000000 ≤ fu) (c248_pots : Int32) (c261_many : Int32) (c261_swapsAPot : Int32) (a265 : Nat → Int32) (a268 : Nat → Int32) (a269 : Nat → Int32) (n269 : Nat) (n308 : Nat) (n309 : Nat) (p0 : c248_pots.toInt ≤ 1) (p1 : 1 ≤ c248_pots.toInt) (p2 : c261_many.toInt ≤ 2) (p3 : 2 ≤ c261_many.toInt) (p4 : c261_swapsAPot.toInt ≤ 1) (p5 : 1 ≤ c261_swapsAPot.toInt) (p6 : ((n269 : Nat) : Int) ≤ 13824) (p7 : 1 ≤ ((n269 : Nat) : Int)) (p8 : ((n308 : Nat) : Int) ≤ 13824) (p9 : 1 ≤ ((n308 : Nat) : Int)) (p10 : ((n309 : Nat) : Int) ≤ 13824) (p11 : 1 ≤ ((n309 : Nat) : Int)) (p12 : ((n308 : Nat) : Int) ≤ ((n309 : Nat) : Int)) (p13 : ((n309 : Nat) : Int) ≤ ((n308 : Nat) : Int)) (p14 : 2 ≤ ((n308 : Nat) : Int)) (p15 : 2 ≤ ((n269 : Nat) : Int)) (hr_a265 : dz_rt a265 2 1 0 1) (hr_a268 : dz_pt a268 [1]) (hr_a269 : dz_rg a269 n269 0 1023) (k : Nat) : p284_X9_meetSwapped_g21 fu c248_pots c261_many c261_swapsAPot a265 a268 a269 n269 n308 n309 k := by
  induction k using Nat.strongRecOn with
  | _ k ih => exact ⟨t284_X9_meetSwapped_h1_g21 fu hfu c248_pots c261_many c261_swapsAPot a265 a268 a269 n269 n308 n309 p0 p1 p2 p3 p4 p5 p6 p7 p8 p9 p10 p11 p12 p13 p14 p15 hr_a265 hr_a268 hr_a269 k ih, t284_X9_meetSwapped_h2_g21 fu hfu c248_pots c261_many c261_swapsAPot a265 a268 a269 n269 n308 n309 p0 p1 p2 p3 p4 p5 p6 p7 p8 p9 p10 p11 p12 p13 p14 p15 hr_a265 hr_a268 hr_a269 k ih⟩
set_option maxHeartbeats 1000000 in
set_option maxRecDepth 10000 in
theorem t284_X9_meetSwapped_E_g21 (fu : Nat) (hfu : 1000000000000 ≤ fu) (c248_pots : Int32) (c261_many : Int32) (c261_swapsAPot : Int32) (a265 : Nat → Int32) (a268 : Nat → Int32) (a269 : Nat → Int32) (n269 : Nat) (n308 : Nat) (n309 : Nat) (v1 : Int32) (c307_queued : Int32) (a308 : Nat → Int32) (a309 : Nat → Int32) (p0 : c248_pots.toInt ≤ 1) (p1 : 1 ≤ c248_pots.toInt) (p2 : c261_many.toInt ≤ 2) (p3 : 2 ≤ c261_many.toInt) (p4 : c261_swapsAPot.toInt ≤ 1) (p5 : 1 ≤ c261_swapsAPot.toInt) (p6 : ((n269 : Nat) : Int) ≤ 13824) (p7 : 1 ≤ ((n269 : Nat) : Int)) (p8 : ((n308 : Nat) : Int) ≤ 13824) (p9 : 1 ≤ ((n308 : Nat) : Int)) (p10 : ((n309 : Nat) : Int) ≤ 13824) (p11 : 1 ≤ ((n309 : Nat) : Int)) (p12 : c307_queued.toInt ≤ 13824) (p13 : 0 ≤ c307_queued.toInt) (p14 : ((n308 : Nat) : Int) ≤ ((n309 : Nat) : Int)) (p15 : ((n309 : Nat) : Int) ≤ ((n308 : Nat) : Int)) (p16 : 0 ≤ v1.toInt) (p17 : v1.toInt ≤ 1) (p18 : 2 ≤ ((n308 : Nat) : Int)) (p19 : 2 ≤ ((n269 : Nat) : Int)) (hr_a265 : dz_rt a265 2 1 0 1) (hr_a268 : dz_pt a268 [1]) (hr_a269 : dz_rg a269 n269 0 1023) (hr_a309 : dz_rg a309 c307_queued.toInt.toNat 0 1) (kv : Nat) (hkv : 1000000000000 ≤ kv) : dz_T (s284_X9_meetSwapped_0 fu c248_pots c261_many c261_swapsAPot a265 a268 a269 n269 n308 n309 (F284_X9_meetSwapped fu c248_pots c261_many c261_swapsAPot a265 a268 a269 n269 n308 n309 kv).1  v1 c307_queued a308 a309) (fun r => r.1.toInt ≤ 13824 ∧ 0 ≤ r.1.toInt ∧ dz_rg r.2.2 r.1.toInt.toNat 0 1) := by
  unfold s284_X9_meetSwapped_0
  have e1 := dz_l0
  exact (t284_X9_meetSwapped_I_g21 fu hfu c248_pots c261_many c261_swapsAPot a265 a268 a269 n269 n308 n309 p0 p1 p2 p3 p4 p5 p6 p7 p8 p9 p10 p11 p14 p15 p18 p19 hr_a265 hr_a268 hr_a269 kv).1 v1 (0 : Int32) c307_queued a308 a309 p17 p16 (by omega) (by omega) p12 p13 (dz_rgs (hr_a309) (by omega)) (by omega)
theorem t284_X9_meetSwapped_g21 (fu : Nat) (hfu : 1000000000000 ≤ fu) (c248_pots : Int32) (c261_many : Int32) (c261_swapsAPot : Int32) (a265 : Nat → Int32) (a268 : Nat → Int32) (a269 : Nat → Int32) (n269 : Nat) (n308 : Nat) (n309 : Nat) (v1 : Int32) (c307_queued : Int32) (a308 : Nat → Int32) (a309 : Nat → Int32) (p0 : c248_pots.toInt ≤ 1) (p1 : 1 ≤ c248_pots.toInt) (p2 : c261_many.toInt ≤ 2) (p3 : 2 ≤ c261_many.toInt) (p4 : c261_swapsAPot.toInt ≤ 1) (p5 : 1 ≤ c261_swapsAPot.toInt) (p6 : ((n269 : Nat) : Int) ≤ 13824) (p7 : 1 ≤ ((n269 : Nat) : Int)) (p8 : ((n308 : Nat) : Int) ≤ 13824) (p9 : 1 ≤ ((n308 : Nat) : Int)) (p10 : ((n309 : Nat) : Int) ≤ 13824) (p11 : 1 ≤ ((n309 : Nat) : Int)) (p12 : c307_queued.toInt ≤ 13824) (p13 : 0 ≤ c307_queued.toInt) (p14 : ((n308 : Nat) : Int) ≤ ((n309 : Nat) : Int)) (p15 : ((n309 : Nat) : Int) ≤ ((n308 : Nat) : Int)) (p16 : 0 ≤ v1.toInt) (p17 : v1.toInt ≤ 1) (p18 : 2 ≤ ((n308 : Nat) : Int)) (p19 : 2 ≤ ((n269 : Nat) : Int)) (hr_a265 : dz_rt a265 2 1 0 1) (hr_a268 : dz_pt a268 [1]) (hr_a269 : dz_rg a269 n269 0 1023) (hr_a309 : dz_rg a309 c307_queued.toInt.toNat 0 1) : dz_T (f284_X9_meetSwapped fu c248_pots c261_many c261_swapsAPot a265 a268 a269 n269 n308 n309 v1 c307_queued a308 a309) (fun r => r.1.toInt ≤ 13824 ∧ 0 ≤ r.1.toInt ∧ dz_rg r.2.2 r.1.toInt.toNat 0 1) :=
  t284_X9_meetSwapped_E_g21 fu hfu c248_pots c261_many c261_swapsAPot a265 a268 a269 n269 n308 n309 v1 c307_queued a308 a309 p0 p1 p2 p3 p4 p5 p6 p7 p8 p9 p10 p11 p12 p13 p14 p15 p16 p17 p18 p19 hr_a265 hr_a268 hr_a269 hr_a309 fu hfu
abbrev p284_X9_meetSwapped_g22 (fu : Nat) (c248_pots : Int32) (c261_many : Int32) (c261_swapsAPot : Int32) (a265 : Nat → Int32) (a268 : Nat → Int32) (a269 : Nat → Int32) (n269 : Nat) (n308 : Nat) (n309 : Nat) (k : Nat) : Prop :=
  (∀ (v1 : Int32) (v2 : Int32) (c307_queued : Int32) (a308 : Nat → Int32) (a309 : Nat → Int32), v1.toInt ≤ 3 → 0 ≤ v1.toInt → v2.toInt ≤ 2 → 0 ≤ v2.toInt → c307_queued.toInt ≤ 13824 → 0 ≤ c307_queued.toInt → dz_rg a309 c307_queued.toInt.toNat 0 3 → 0 + 0 + (2 - v2.toInt) * 56 + 7 ≤ ((k : Nat) : Int) → dz_T ((F284_X9_meetSwapped fu c248_pots c261_many c261_swapsAPot a265 a268 a269 n269 n308 n309 k).1 v1 v2 c307_queued a308 a309) (fun r => r.1.toInt ≤ 13824 ∧ 0 ≤ r.1.toInt ∧ dz_rg r.2.2 r.1.toInt.toNat 0 3)) ∧ (∀ (v1 : Int32) (v2 : Int32) (v3 : Int32) (v4 : Int32) (v5 : Int32) (v6 : Int32) (c307_queued : Int32) (a308 : Nat → Int32) (a309 : Nat → Int32), v1.toInt ≤ 3 → 0 ≤ v1.toInt → v2.toInt ≤ 1 → 0 ≤ v2.toInt → v3.toInt ≤ 2 → 1 ≤ v3.toInt → v4.toInt ≤ 1 → 0 ≤ v4.toInt → v5.toInt ≤ 3 → (-2) ≤ v5.toInt → v6.toInt ≤ 1 → 0 ≤ v6.toInt → c307_queued.toInt ≤ 13824 → 0 ≤ c307_queued.toInt → v4.toInt ≤ v1.toInt → v5.toInt ≤ v1.toInt → v1.toInt ≤ v5.toInt + 2 → v2.toInt ≤ v5.toInt + 2 → dz_rg a309 c307_queued.toInt.toNat 0 3 → ((v2.toInt = 0 ∧ v3.toInt = 2 ∧ v4.toInt = v1.toInt / 2 % 2 ∧ v5.toInt = v1.toInt - v4.toInt * 2) ∨ (v2.toInt = 1 ∧ v3.toInt = 1 ∧ v4.toInt = v1.toInt % 2 ∧ v5.toInt = v1.toInt - v4.toInt * 1)) → 0 + 0 + ((2 - v2.toInt) - 1) * 56 + 0 + (1 - v6.toInt) * 14 + 14 ≤ ((k : Nat) : Int) → dz_T ((F284_X9_meetSwapped fu c248_pots c261_many c261_swapsAPot a265 a268 a269 n269 n308 n309 k).2.1 v1 v2 v3 v4 v5 v6 c307_queued a308 a309) (fun r => r.1.toInt ≤ 13824 ∧ 0 ≤ r.1.toInt ∧ dz_rg r.2.2 r.1.toInt.toNat 0 3))
set_option maxHeartbeats 1000000 in
set_option maxRecDepth 10000 in
theorem t284_X9_meetSwapped_h1_g22 (fu : Nat) (hfu : 1000000000000 ≤ fu) (c248_pots : Int32) (c261_many : Int32) (c261_swapsAPot : Int32) (a265 : Nat → Int32) (a268 : Nat → Int32) (a269 : Nat → Int32) (n269 : Nat) (n308 : Nat) (n309 : Nat) (p0 : c248_pots.toInt ≤ 2) (p1 : 2 ≤ c248_pots.toInt) (p2 : c261_many.toInt ≤ 2) (p3 : 2 ≤ c261_many.toInt) (p4 : c261_swapsAPot.toInt ≤ 1) (p5 : 1 ≤ c261_swapsAPot.toInt) (p6 : ((n269 : Nat) : Int) ≤ 13824) (p7 : 1 ≤ ((n269 : Nat) : Int)) (p8 : ((n308 : Nat) : Int) ≤ 13824) (p9 : 1 ≤ ((n308 : Nat) : Int)) (p10 : ((n309 : Nat) : Int) ≤ 13824) (p11 : 1 ≤ ((n309 : Nat) : Int)) (p12 : ((n308 : Nat) : Int) ≤ ((n309 : Nat) : Int)) (p13 : ((n309 : Nat) : Int) ≤ ((n308 : Nat) : Int)) (p14 : 4 ≤ ((n308 : Nat) : Int)) (p15 : 4 ≤ ((n269 : Nat) : Int)) (hr_a265 : dz_rt a265 2 1 0 1) (hr_a268 : dz_pt a268 [2, 1]) (hr_a269 : dz_rg a269 n269 0 1023) (k : Nat) (ih : ∀ j9, j9 < k → p284_X9_meetSwapped_g22 fu c248_pots c261_many c261_swapsAPot a265 a268 a269 n269 n308 n309 j9) : ∀ (v1 : Int32) (v2 : Int32) (c307_queued : Int32) (a308 : Nat → Int32) (a309 : Nat → Int32), v1.toInt ≤ 3 → 0 ≤ v1.toInt → v2.toInt ≤ 2 → 0 ≤ v2.toInt → c307_queued.toInt ≤ 13824 → 0 ≤ c307_queued.toInt → dz_rg a309 c307_queued.toInt.toNat 0 3 → 0 + 0 + (2 - v2.toInt) * 56 + 7 ≤ ((k : Nat) : Int) → dz_T ((F284_X9_meetSwapped fu c248_pots c261_many c261_swapsAPot a265 a268 a269 n269 n308 n309 k).1 v1 v2 c307_queued a308 a309) (fun r => r.1.toInt ≤ 13824 ∧ 0 ≤ r.1.toInt ∧ dz_rg r.2.2 r.1.toInt.toNat 0 3) := by
  intro v1 v2 c307_queued a308 a309 i0 i1 i2 i3 i4 i5 hr_a309 hm
  obtain ⟨k0, rfl⟩ : ∃ x, k = x + 1 := ⟨k - 1, by omega⟩
  show dz_T (s284_X9_meetSwapped_1 fu c248_pots c261_many c261_swapsAPot a265 a268 a269 n269 n308 n309 (F284_X9_meetSwapped fu c248_pots c261_many c261_swapsAPot a265 a268 a269 n269 n308 n309 k0).2.1  v1 v2 c307_queued a308 a309) _
  unfold s284_X9_meetSwapped_1
  rcases (show v2.toInt = 0 ∨ v2.toInt = 1 ∨ v2.toInt = 2 by omega) with hs | hs | hs
  · skip
    refine dz_Tle (fun h1 => ?_) (fun h1 => ?_)
    · skip
      exfalso; omega
    · skip
      refine dz_Tin (by omega) (by omega) ?_
      refine dz_Tbe (show f141_X2_rankIn fu c261_many a268 v1 v2 = (if dz_in v2 4 then (if ((a268 v2.toNatClampNeg) ≤ (0 : Int32)) then (some (0 : Int32)) else (if (c261_many ≤ (0 : Int32)) then (some (0 : Int32)) else (if (¬ ((a268 v2.toNatClampNeg) = (0 : Int32))) then (if (¬ (c261_many = (0 : Int32))) then (some (dz_rem (v1 / (a268 v2.toNatClampNeg)) c261_many)) else none) else none))) else none) from rfl) ?_
      refine dz_Tinb (by omega) (by omega) ?_
      have e2 := dz_ptat (hr_a268) (i := v2) (x := 2) 0 (by omega) (by decide)
      have e3 := dz_l0
      refine dz_Tleb (fun h4 => ?_) (fun h4 => ?_)
      · skip
        exfalso; omega
      · skip
        refine dz_Tleb (fun h5 => ?_) (fun h5 => ?_)
        · skip
          exfalso; omega
        · skip
          refine dz_Tzb (by omega) ?_
          refine dz_Tzb (by omega) ?_
          refine dz_Tsb ?_
          have e6 := dz_divn (a := v1) (b := (a268 v2.toNatClampNeg)) 2 (by omega) (by omega) (by omega)
          have e7 := dz_remn (a := (v1 / (a268 v2.toNatClampNeg))) (b := c261_many) 2 (by omega) (by omega) (by omega)
          have e8 := dz_mulr (a := (dz_rem (v1 / (a268 v2.toNatClampNeg)) c261_many)) (b := (a268 v2.toNatClampNeg)) 2 (by omega) (by omega) (by omega)
          have e9 := dz_sub (a := v1) (b := ((dz_rem (v1 / (a268 v2.toNatClampNeg)) c261_many) * (a268 v2.toNatClampNeg))) (by omega) (by omega)
          exact (ih k0 (by omega)).2 v1 v2 (a268 v2.toNatClampNeg) (dz_rem (v1 / (a268 v2.toNatClampNeg)) c261_many) (v1 - ((dz_rem (v1 / (a268 v2.toNatClampNeg)) c261_many) * (a268 v2.toNatClampNeg))) (0 : Int32) c307_queued a308 a309 i0 i1 (by first | assumption | omega) i3 (by omega) (by omega) (by omega) (by omega) (by omega) (by omega) (by omega) (by omega) i4 i5 (by omega) (by omega) (by omega) (by omega) (dz_rgs (hr_a309) (by omega)) (by omega) (by omega)
  · skip
    refine dz_Tle (fun h10 => ?_) (fun h10 => ?_)
    · skip
      exfalso; omega
    · skip
      refine dz_Tin (by omega) (by omega) ?_
      refine dz_Tbe (show f141_X2_rankIn fu c261_many a268 v1 v2 = (if dz_in v2 4 then (if ((a268 v2.toNatClampNeg) ≤ (0 : Int32)) then (some (0 : Int32)) else (if (c261_many ≤ (0 : Int32)) then (some (0 : Int32)) else (if (¬ ((a268 v2.toNatClampNeg) = (0 : Int32))) then (if (¬ (c261_many = (0 : Int32))) then (some (dz_rem (v1 / (a268 v2.toNatClampNeg)) c261_many)) else none) else none))) else none) from rfl) ?_
      refine dz_Tinb (by omega) (by omega) ?_
      have e11 := dz_ptat (hr_a268) (i := v2) (x := 1) 1 (by omega) (by decide)
      have e12 := dz_l0
      refine dz_Tleb (fun h13 => ?_) (fun h13 => ?_)
      · skip
        exfalso; omega
      · skip
        refine dz_Tleb (fun h14 => ?_) (fun h14 => ?_)
        · skip
          exfalso; omega
        · skip
          refine dz_Tzb (by omega) ?_
          refine dz_Tzb (by omega) ?_
          refine dz_Tsb ?_
          have e15 := dz_div1 (a := v1) (b := (a268 v2.toNatClampNeg)) (by omega) (by omega)
          have e16 := dz_remn (a := (v1 / (a268 v2.toNatClampNeg))) (b := c261_many) 2 (by omega) (by omega) (by omega)
          have e17 := dz_mulr (a := (dz_rem (v1 / (a268 v2.toNatClampNeg)) c261_many)) (b := (a268 v2.toNatClampNeg)) 1 (by omega) (by omega) (by omega)
          have e18 := dz_sub (a := v1) (b := ((dz_rem (v1 / (a268 v2.toNatClampNeg)) c261_many) * (a268 v2.toNatClampNeg))) (by omega) (by omega)
          exact (ih k0 (by omega)).2 v1 v2 (a268 v2.toNatClampNeg) (dz_rem (v1 / (a268 v2.toNatClampNeg)) c261_many) (v1 - ((dz_rem (v1 / (a268 v2.toNatClampNeg)) c261_many) * (a268 v2.toNatClampNeg))) (0 : Int32) c307_queued a308 a309 i0 i1 (by first | assumption | omega) i3 (by omega) (by omega) (by omega) (by omega) (by omega) (by omega) (by omega) (by omega) i4 i5 (by omega) (by omega) (by omega) (by omega) (dz_rgs (hr_a309) (by omega)) (by omega) (by omega)
  · skip
    refine dz_Tle (fun h19 => ?_) (fun h19 => ?_)
    · skip
      refine dz_Ts ?_
      dsimp only
      exact ⟨i4, i5, (dz_rgs (hr_a309) (by omega))⟩
    · skip
      exfalso; omega
set_option maxHeartbeats 1000000 in
set_option maxRecDepth 10000 in
theorem t284_X9_meetSwapped_h2_g22 (fu : Nat) (hfu : 1000000000000 ≤ fu) (c248_pots : Int32) (c261_many : Int32) (c261_swapsAPot : Int32) (a265 : Nat → Int32) (a268 : Nat → Int32) (a269 : Nat → Int32) (n269 : Nat) (n308 : Nat) (n309 : Nat) (p0 : c248_pots.toInt ≤ 2) (p1 : 2 ≤ c248_pots.toInt) (p2 : c261_many.toInt ≤ 2) (p3 : 2 ≤ c261_many.toInt) (p4 : c261_swapsAPot.toInt ≤ 1) (p5 : 1 ≤ c261_swapsAPot.toInt) (p6 : ((n269 : Nat) : Int) ≤ 13824) (p7 : 1 ≤ ((n269 : Nat) : Int)) (p8 : ((n308 : Nat) : Int) ≤ 13824) (p9 : 1 ≤ ((n308 : Nat) : Int)) (p10 : ((n309 : Nat) : Int) ≤ 13824) (p11 : 1 ≤ ((n309 : Nat) : Int)) (p12 : ((n308 : Nat) : Int) ≤ ((n309 : Nat) : Int)) (p13 : ((n309 : Nat) : Int) ≤ ((n308 : Nat) : Int)) (p14 : 4 ≤ ((n308 : Nat) : Int)) (p15 : 4 ≤ ((n269 : Nat) : Int)) (hr_a265 : dz_rt a265 2 1 0 1) (hr_a268 : dz_pt a268 [2, 1]) (hr_a269 : dz_rg a269 n269 0 1023) (k : Nat) (ih : ∀ j9, j9 < k → p284_X9_meetSwapped_g22 fu c248_pots c261_many c261_swapsAPot a265 a268 a269 n269 n308 n309 j9) : ∀ (v1 : Int32) (v2 : Int32) (v3 : Int32) (v4 : Int32) (v5 : Int32) (v6 : Int32) (c307_queued : Int32) (a308 : Nat → Int32) (a309 : Nat → Int32), v1.toInt ≤ 3 → 0 ≤ v1.toInt → v2.toInt ≤ 1 → 0 ≤ v2.toInt → v3.toInt ≤ 2 → 1 ≤ v3.toInt → v4.toInt ≤ 1 → 0 ≤ v4.toInt → v5.toInt ≤ 3 → (-2) ≤ v5.toInt → v6.toInt ≤ 1 → 0 ≤ v6.toInt → c307_queued.toInt ≤ 13824 → 0 ≤ c307_queued.toInt → v4.toInt ≤ v1.toInt → v5.toInt ≤ v1.toInt → v1.toInt ≤ v5.toInt + 2 → v2.toInt ≤ v5.toInt + 2 → dz_rg a309 c307_queued.toInt.toNat 0 3 → ((v2.toInt = 0 ∧ v3.toInt = 2 ∧ v4.toInt = v1.toInt / 2 % 2 ∧ v5.toInt = v1.toInt - v4.toInt * 2) ∨ (v2.toInt = 1 ∧ v3.toInt = 1 ∧ v4.toInt = v1.toInt % 2 ∧ v5.toInt = v1.toInt - v4.toInt * 1)) → 0 + 0 + ((2 - v2.toInt) - 1) * 56 + 0 + (1 - v6.toInt) * 14 + 14 ≤ ((k : Nat) : Int) → dz_T ((F284_X9_meetSwapped fu c248_pots c261_many c261_swapsAPot a265 a268 a269 n269 n308 n309 k).2.1 v1 v2 v3 v4 v5 v6 c307_queued a308 a309) (fun r => r.1.toInt ≤ 13824 ∧ 0 ≤ r.1.toInt ∧ dz_rg r.2.2 r.1.toInt.toNat 0 3) := by
  intro v1 v2 v3 v4 v5 v6 c307_queued a308 a309 i0 i1 i2 i3 i4 i5 i6 i7 i8 i9 i10 i11 i12 i13 i14 i15 i16 i17 hr_a309 x0 hm
  obtain ⟨k0, rfl⟩ : ∃ x, k = x + 1 := ⟨k - 1, by omega⟩
  show dz_T (s284_X9_meetSwapped_2 fu c248_pots c261_many c261_swapsAPot a265 a268 a269 n269 n308 n309 (F284_X9_meetSwapped fu c248_pots c261_many c261_swapsAPot a265 a268 a269 n269 n308 n309 k0).1 (F284_X9_meetSwapped fu c248_pots c261_many c261_swapsAPot a265 a268 a269 n269 n308 n309 k0).2.2  v1 v2 v3 v4 v5 v6 c307_queued a308 a309) _
  unfold s284_X9_meetSwapped_2
  rcases (show v2.toInt = 0 ∨ v2.toInt = 1 by omega) with hs | hs
  · skip
    refine dz_Tle (fun h1 => ?_) (fun h1 => ?_)
    · skip
      have e2 := dz_l1
      have e3 := dz_add (a := v2) (b := (1 : Int32)) (by omega) (by omega)
      exact (ih k0 (by omega)).1 v1 (v2 + (1 : Int32)) c307_queued a308 a309 i0 i1 (by omega) (by omega) i12 i13 (dz_rgs (hr_a309) (by omega)) (by omega)
    · skip
      have e4 := dz_l6
      have e5 := dz_mulr (a := v4) (b := (6 : Int32)) 6 (by omega) (by omega) (by omega)
      have e6 := dz_add (a := (v4 * (6 : Int32))) (b := v6) (by omega) (by omega)
      refine dz_Tin (by omega) (by omega) ?_
      have e7 := dz_rtat (hr_a265) (x := v4) (y := v6) (by omega) (by omega) (by omega) (by omega) (by omega)
      have e8 := dz_mulr (a := (a265 ((v4 * (6 : Int32)) + v6).toNatClampNeg)) (b := v3) 2 (by omega) (by omega) (by omega)
      have e9 := dz_add (a := v5) (b := ((a265 ((v4 * (6 : Int32)) + v6).toNatClampNeg) * v3)) (by omega) (by omega)
      refine dz_Tin (by omega) (by omega) ?_
      have e10 := dz_rgat (hr_a269) (i := (v5 + ((a265 ((v4 * (6 : Int32)) + v6).toNatClampNeg) * v3))) (by omega) (by omega)
      have e11 := dz_l0
      refine dz_Teq (fun h12 => ?_) (fun h12 => ?_)
      · skip
        refine dz_Tb (t283_X9_meet_g22 fu hfu _ _ _ _ _ _ p8 (by first | assumption | omega) p10 p11 i12 i13 p12 p13 (by omega) (by omega) p14 (by first | assumption | omega) (dz_rgs (hr_a309) (by omega))) (fun r1 q => ?_)
        obtain ⟨q1_0, q1_1, qa1_2⟩ := q
        obtain ⟨k1, rfl⟩ : ∃ x, k0 = x + 1 := ⟨k0 - 1, by omega⟩
        show dz_T (s284_X9_meetSwapped_3 fu c248_pots c261_many c261_swapsAPot a265 a268 a269 n269 n308 n309 (F284_X9_meetSwapped fu c248_pots c261_many c261_swapsAPot a265 a268 a269 n269 n308 n309 k1).2.1 v1 v2 v3 v4 v5 v6 r1.1 r1.2.1 r1.2.2) _
        unfold s284_X9_meetSwapped_3
        have e13 := dz_l1
        have e14 := dz_add (a := v6) (b := (1 : Int32)) (by omega) (by omega)
        exact (ih k1 (by omega)).2 v1 v2 v3 v4 v5 (v6 + (1 : Int32)) r1.1 r1.2.1 r1.2.2 i0 i1 i2 i3 i4 i5 i6 i7 i8 i9 (by omega) (by omega) q1_0 q1_1 i14 i15 i16 i17 (dz_rgs (qa1_2) (by omega)) (by omega) (by omega)
      · skip
        obtain ⟨k2, rfl⟩ : ∃ x, k0 = x + 1 := ⟨k0 - 1, by omega⟩
        show dz_T (s284_X9_meetSwapped_3 fu c248_pots c261_many c261_swapsAPot a265 a268 a269 n269 n308 n309 (F284_X9_meetSwapped fu c248_pots c261_many c261_swapsAPot a265 a268 a269 n269 n308 n309 k2).2.1 v1 v2 v3 v4 v5 v6 c307_queued a308 a309) _
        unfold s284_X9_meetSwapped_3
        have e15 := dz_l1
        have e16 := dz_add (a := v6) (b := (1 : Int32)) (by omega) (by omega)
        exact (ih k2 (by omega)).2 v1 v2 v3 v4 v5 (v6 + (1 : Int32)) c307_queued a308 a309 i0 i1 i2 i3 i4 i5 i6 i7 i8 i9 (by omega) (by omega) i12 i13 i14 i15 i16 i17 (dz_rgs (hr_a309) (by omega)) (by omega) (by omega)
  · skip
    refine dz_Tle (fun h17 => ?_) (fun h17 => ?_)
    · skip
      have e18 := dz_l1
      have e19 := dz_add (a := v2) (b := (1 : Int32)) (by omega) (by omega)
      exact (ih k0 (by omega)).1 v1 (v2 + (1 : Int32)) c307_queued a308 a309 i0 i1 (by omega) (by omega) i12 i13 (dz_rgs (hr_a309) (by omega)) (by omega)
    · skip
      have e20 := dz_l6
      have e21 := dz_mulr (a := v4) (b := (6 : Int32)) 6 (by omega) (by omega) (by omega)
      have e22 := dz_add (a := (v4 * (6 : Int32))) (b := v6) (by omega) (by omega)
      refine dz_Tin (by omega) (by omega) ?_
      have e23 := dz_rtat (hr_a265) (x := v4) (y := v6) (by omega) (by omega) (by omega) (by omega) (by omega)
      have e24 := dz_mulr (a := (a265 ((v4 * (6 : Int32)) + v6).toNatClampNeg)) (b := v3) 1 (by omega) (by omega) (by omega)
      have e25 := dz_add (a := v5) (b := ((a265 ((v4 * (6 : Int32)) + v6).toNatClampNeg) * v3)) (by omega) (by omega)
      refine dz_Tin (by omega) (by omega) ?_
      have e26 := dz_rgat (hr_a269) (i := (v5 + ((a265 ((v4 * (6 : Int32)) + v6).toNatClampNeg) * v3))) (by omega) (by omega)
      have e27 := dz_l0
      refine dz_Teq (fun h28 => ?_) (fun h28 => ?_)
      · skip
        refine dz_Tb (t283_X9_meet_g22 fu hfu _ _ _ _ _ _ p8 (by first | assumption | omega) p10 p11 i12 i13 p12 p13 (by omega) (by omega) p14 (by first | assumption | omega) (dz_rgs (hr_a309) (by omega))) (fun r2 q => ?_)
        obtain ⟨q2_0, q2_1, qa2_2⟩ := q
        obtain ⟨k3, rfl⟩ : ∃ x, k0 = x + 1 := ⟨k0 - 1, by omega⟩
        show dz_T (s284_X9_meetSwapped_3 fu c248_pots c261_many c261_swapsAPot a265 a268 a269 n269 n308 n309 (F284_X9_meetSwapped fu c248_pots c261_many c261_swapsAPot a265 a268 a269 n269 n308 n309 k3).2.1 v1 v2 v3 v4 v5 v6 r2.1 r2.2.1 r2.2.2) _
        unfold s284_X9_meetSwapped_3
        have e29 := dz_l1
        have e30 := dz_add (a := v6) (b := (1 : Int32)) (by omega) (by omega)
        exact (ih k3 (by omega)).2 v1 v2 v3 v4 v5 (v6 + (1 : Int32)) r2.1 r2.2.1 r2.2.2 i0 i1 i2 i3 i4 i5 i6 i7 i8 i9 (by omega) (by omega) q2_0 q2_1 i14 i15 i16 i17 (dz_rgs (qa2_2) (by omega)) (by omega) (by omega)
      · skip
        obtain ⟨k4, rfl⟩ : ∃ x, k0 = x + 1 := ⟨k0 - 1, by omega⟩
        show dz_T (s284_X9_meetSwapped_3 fu c248_pots c261_many c261_swapsAPot a265 a268 a269 n269 n308 n309 (F284_X9_meetSwapped fu c248_pots c261_many c261_swapsAPot a265 a268 a269 n269 n308 n309 k4).2.1 v1 v2 v3 v4 v5 v6 c307_queued a308 a309) _
        unfold s284_X9_meetSwapped_3
        have e31 := dz_l1
        have e32 := dz_add (a := v6) (b := (1 : Int32)) (by omega) (by omega)
        exact (ih k4 (by omega)).2 v1 v2 v3 v4 v5 (v6 + (1 : Int32)) c307_queued a308 a309 i0 i1 i2 i3 i4 i5 i6 i7 i8 i9 (by omega) (by omega) i12 i13 i14 i15 i16 i17 (dz_rgs (hr_a309) (by omega)) (by omega) (by omega)
theorem t284_X9_meetSwapped_I_g22 (fu : Nat) (hfu : 1000000000000 ≤ fu) (c248_pots : Int32) (c261_many : Int32) (c261_swapsAPot : Int32) (a265 : Nat → Int32) (a268 : Nat → Int32) (a269 : Nat → Int32) (n269 : Nat) (n308 : Nat) (n309 : Nat) (p0 : c248_pots.toInt ≤ 2) (p1 : 2 ≤ c248_pots.toInt) (p2 : c261_many.toInt ≤ 2) (p3 : 2 ≤ c261_many.toInt) (p4 : c261_swapsAPot.toInt ≤ 1) (p5 : 1 ≤ c261_swapsAPot.toInt) (p6 : ((n269 : Nat) : Int) ≤ 13824) (p7 : 1 ≤ ((n269 : Nat) : Int)) (p8 : ((n308 : Nat) : Int) ≤ 13824) (p9 : 1 ≤ ((n308 : Nat) : Int)) (p10 : ((n309 : Nat) : Int) ≤ 13824) (p11 : 1 ≤ ((n309 : Nat) : Int)) (p12 : ((n308 : Nat) : Int) ≤ ((n309 : Nat) : Int)) (p13 : ((n309 : Nat) : Int) ≤ ((n308 : Nat) : Int)) (p14 : 4 ≤ ((n308 : Nat) : Int)) (p15 : 4 ≤ ((n269 : Nat) : Int)) (hr_a265 : dz_rt a265 2 1 0 1) (hr_a268 : dz_pt a268 [2, 1]) (hr_a269 : dz_rg a269 n269 0 1023) (k : Nat) : p284_X9_meetSwapped_g22 fu c248_pots c261_many c261_swapsAPot a265 a268 a269 n269 n308 n309 k := by
  induction k using Nat.strongRecOn with
  | _ k ih => exact ⟨t284_X9_meetSwapped_h1_g22 fu hfu c248_pots c261_many c261_swapsAPot a265 a268 a269 n269 n308 n309 p0 p1 p2 p3 p4 p5 p6 p7 p8 p9 p10 p11 p12 p13 p14 p15 hr_a265 hr_a268 hr_a269 k ih, t284_X9_meetSwapped_h2_g22 fu hfu c248_pots c261_many c261_swapsAPot a265 a268 a269 n269 n308 n309 p0 p1 p2 p3 p4 p5 p6 p7 p8 p9 p10 p11 p12 p13 p14 p15 hr_a265 hr_a268 hr_a269 k ih⟩
set_option maxHeartbeats 1000000 in
set_option maxRecDepth 10000 in
theorem t284_X9_meetSwapped_E_g22 (fu : Nat) (hfu : 1000000000000 ≤ fu) (c248_pots : Int32) (c261_many : Int32) (c261_swapsAPot : Int32) (a265 : Nat → Int32) (a268 : Nat → Int32) (a269 : Nat → Int32) (n269 : Nat) (n308 : Nat) (n309 : Nat) (v1 : Int32) (c307_queued : Int32) (a308 : Nat → Int32) (a309 : Nat → Int32) (p0 : c248_pots.toInt ≤ 2) (p1 : 2 ≤ c248_pots.toInt) (p2 : c261_many.toInt ≤ 2) (p3 : 2 ≤ c261_many.toInt) (p4 : c261_swapsAPot.toInt ≤ 1) (p5 : 1 ≤ c261_swapsAPot.toInt) (p6 : ((n269 : Nat) : Int) ≤ 13824) (p7 : 1 ≤ ((n269 : Nat) : Int)) (p8 : ((n308 : Nat) : Int) ≤ 13824) (p9 : 1 ≤ ((n308 : Nat) : Int)) (p10 : ((n309 : Nat) : Int) ≤ 13824) (p11 : 1 ≤ ((n309 : Nat) : Int)) (p12 : c307_queued.toInt ≤ 13824) (p13 : 0 ≤ c307_queued.toInt) (p14 : ((n308 : Nat) : Int) ≤ ((n309 : Nat) : Int)) (p15 : ((n309 : Nat) : Int) ≤ ((n308 : Nat) : Int)) (p16 : 0 ≤ v1.toInt) (p17 : v1.toInt ≤ 3) (p18 : 4 ≤ ((n308 : Nat) : Int)) (p19 : 4 ≤ ((n269 : Nat) : Int)) (hr_a265 : dz_rt a265 2 1 0 1) (hr_a268 : dz_pt a268 [2, 1]) (hr_a269 : dz_rg a269 n269 0 1023) (hr_a309 : dz_rg a309 c307_queued.toInt.toNat 0 3) (kv : Nat) (hkv : 1000000000000 ≤ kv) : dz_T (s284_X9_meetSwapped_0 fu c248_pots c261_many c261_swapsAPot a265 a268 a269 n269 n308 n309 (F284_X9_meetSwapped fu c248_pots c261_many c261_swapsAPot a265 a268 a269 n269 n308 n309 kv).1  v1 c307_queued a308 a309) (fun r => r.1.toInt ≤ 13824 ∧ 0 ≤ r.1.toInt ∧ dz_rg r.2.2 r.1.toInt.toNat 0 3) := by
  unfold s284_X9_meetSwapped_0
  have e1 := dz_l0
  exact (t284_X9_meetSwapped_I_g22 fu hfu c248_pots c261_many c261_swapsAPot a265 a268 a269 n269 n308 n309 p0 p1 p2 p3 p4 p5 p6 p7 p8 p9 p10 p11 p14 p15 p18 p19 hr_a265 hr_a268 hr_a269 kv).1 v1 (0 : Int32) c307_queued a308 a309 p17 p16 (by omega) (by omega) p12 p13 (dz_rgs (hr_a309) (by omega)) (by omega)
theorem t284_X9_meetSwapped_g22 (fu : Nat) (hfu : 1000000000000 ≤ fu) (c248_pots : Int32) (c261_many : Int32) (c261_swapsAPot : Int32) (a265 : Nat → Int32) (a268 : Nat → Int32) (a269 : Nat → Int32) (n269 : Nat) (n308 : Nat) (n309 : Nat) (v1 : Int32) (c307_queued : Int32) (a308 : Nat → Int32) (a309 : Nat → Int32) (p0 : c248_pots.toInt ≤ 2) (p1 : 2 ≤ c248_pots.toInt) (p2 : c261_many.toInt ≤ 2) (p3 : 2 ≤ c261_many.toInt) (p4 : c261_swapsAPot.toInt ≤ 1) (p5 : 1 ≤ c261_swapsAPot.toInt) (p6 : ((n269 : Nat) : Int) ≤ 13824) (p7 : 1 ≤ ((n269 : Nat) : Int)) (p8 : ((n308 : Nat) : Int) ≤ 13824) (p9 : 1 ≤ ((n308 : Nat) : Int)) (p10 : ((n309 : Nat) : Int) ≤ 13824) (p11 : 1 ≤ ((n309 : Nat) : Int)) (p12 : c307_queued.toInt ≤ 13824) (p13 : 0 ≤ c307_queued.toInt) (p14 : ((n308 : Nat) : Int) ≤ ((n309 : Nat) : Int)) (p15 : ((n309 : Nat) : Int) ≤ ((n308 : Nat) : Int)) (p16 : 0 ≤ v1.toInt) (p17 : v1.toInt ≤ 3) (p18 : 4 ≤ ((n308 : Nat) : Int)) (p19 : 4 ≤ ((n269 : Nat) : Int)) (hr_a265 : dz_rt a265 2 1 0 1) (hr_a268 : dz_pt a268 [2, 1]) (hr_a269 : dz_rg a269 n269 0 1023) (hr_a309 : dz_rg a309 c307_queued.toInt.toNat 0 3) : dz_T (f284_X9_meetSwapped fu c248_pots c261_many c261_swapsAPot a265 a268 a269 n269 n308 n309 v1 c307_queued a308 a309) (fun r => r.1.toInt ≤ 13824 ∧ 0 ≤ r.1.toInt ∧ dz_rg r.2.2 r.1.toInt.toNat 0 3) :=
  t284_X9_meetSwapped_E_g22 fu hfu c248_pots c261_many c261_swapsAPot a265 a268 a269 n269 n308 n309 v1 c307_queued a308 a309 p0 p1 p2 p3 p4 p5 p6 p7 p8 p9 p10 p11 p12 p13 p14 p15 p16 p17 p18 p19 hr_a265 hr_a268 hr_a269 hr_a309 fu hfu
