abbrev p143_X2_renew_g34 (fu : Nat) (U : Nat) (c248_groups : Int32) (c248_pots : Int32) (c248_bars : Int32) (a252 : Nat → Int32) (a253 : Nat → Int32) (c261_many : Int32) (a262 : Nat → Int32) (k : Nat) : Prop :=
  (∀ (v1 : Int32) (sl : Nat) (c267_total : Int32) (c267_lawfulOnes : Int32) (a268 : Nat → Int32) (a269 : Nat → Int32) (n269 : Nat) (a270 : Nat → Int32) (n270 : Nat) (a271 : Nat → Int32) (a273 : Nat → Int32), v1.toInt ≤ 10 → 0 ≤ v1.toInt → ((sl : Nat) : Int) ≤ 2592 → c267_total.toInt ≤ 1296 → 1296 ≤ c267_total.toInt → ((n269 : Nat) : Int) ≤ 13824 → 1296 ≤ ((n269 : Nat) : Int) → ((n270 : Nat) : Int) ≤ 13824 → 1296 ≤ ((n270 : Nat) : Int) → ((n269 : Nat) : Int) ≤ ((n270 : Nat) : Int) → ((n270 : Nat) : Int) ≤ ((n269 : Nat) : Int) → ((sl : Nat) : Int) ≤ ((U : Nat) : Int) → v1.toInt ≤ c248_bars.toInt → dz_rg a269 n269 0 1023 → dz_pt a268 [216, 36, 6, 1] → 0 + 0 + (10 - v1.toInt) * 16 + 8 ≤ ((k : Nat) : Int) → dz_T ((F143_X2_renew fu U c248_groups c248_pots c248_bars a252 a253 c261_many a262 k).2.2.2 v1 sl c267_total c267_lawfulOnes a268 a269 n269 a270 n270 a271 a273) (fun r => r.1.toInt ≤ 1296 ∧ 1296 ≤ r.1.toInt ∧ r.2.1.toInt ≤ 1296 ∧ 0 ≤ r.2.1.toInt ∧ ((r.2.2.2.2.1 : Nat) : Int) ≤ 13824 ∧ 1296 ≤ ((r.2.2.2.2.1 : Nat) : Int) ∧ ((r.2.2.2.2.2.2.1 : Nat) : Int) ≤ 13824 ∧ 1296 ≤ ((r.2.2.2.2.2.2.1 : Nat) : Int) ∧ ((r.2.2.2.2.1 : Nat) : Int) ≤ ((r.2.2.2.2.2.2.1 : Nat) : Int) ∧ ((r.2.2.2.2.2.2.1 : Nat) : Int) ≤ ((r.2.2.2.2.1 : Nat) : Int) ∧ dz_rg r.2.2.2.1 r.2.2.2.2.1 0 1023 ∧ dz_pt r.2.2.1 [216, 36, 6, 1] ∧ dz_rg r.2.2.2.2.2.1 r.2.1.toInt.toNat 0 1295 ∧ (r.1.toInt = 1296)))
set_option maxHeartbeats 1000000 in
set_option maxRecDepth 10000 in
theorem t143_X2_renew_h4_g34 (fu : Nat) (hfu : 1000000000000 ≤ fu) (U : Nat) (c248_groups : Int32) (c248_pots : Int32) (c248_bars : Int32) (a252 : Nat → Int32) (a253 : Nat → Int32) (c261_many : Int32) (a262 : Nat → Int32) (p0 : c248_groups.toInt ≤ 3) (p1 : 3 ≤ c248_groups.toInt) (p2 : c248_pots.toInt ≤ 4) (p3 : 4 ≤ c248_pots.toInt) (p4 : c248_bars.toInt ≤ 10) (p5 : 0 ≤ c248_bars.toInt) (p6 : c261_many.toInt ≤ 6) (p7 : 6 ≤ c261_many.toInt) (hr_a262 : dz_rg a262 96 0 3) (k : Nat) (ih : ∀ j9, j9 < k → p143_X2_renew_g34 fu U c248_groups c248_pots c248_bars a252 a253 c261_many a262 j9) : ∀ (v1 : Int32) (sl : Nat) (c267_total : Int32) (c267_lawfulOnes : Int32) (a268 : Nat → Int32) (a269 : Nat → Int32) (n269 : Nat) (a270 : Nat → Int32) (n270 : Nat) (a271 : Nat → Int32) (a273 : Nat → Int32), v1.toInt ≤ 10 → 0 ≤ v1.toInt → ((sl : Nat) : Int) ≤ 2592 → c267_total.toInt ≤ 1296 → 1296 ≤ c267_total.toInt → ((n269 : Nat) : Int) ≤ 13824 → 1296 ≤ ((n269 : Nat) : Int) → ((n270 : Nat) : Int) ≤ 13824 → 1296 ≤ ((n270 : Nat) : Int) → ((n269 : Nat) : Int) ≤ ((n270 : Nat) : Int) → ((n270 : Nat) : Int) ≤ ((n269 : Nat) : Int) → ((sl : Nat) : Int) ≤ ((U : Nat) : Int) → v1.toInt ≤ c248_bars.toInt → dz_rg a269 n269 0 1023 → dz_pt a268 [216, 36, 6, 1] → 0 + 0 + (10 - v1.toInt) * 16 + 8 ≤ ((k : Nat) : Int) → dz_T ((F143_X2_renew fu U c248_groups c248_pots c248_bars a252 a253 c261_many a262 k).2.2.2 v1 sl c267_total c267_lawfulOnes a268 a269 n269 a270 n270 a271 a273) (fun r => r.1.toInt ≤ 1296 ∧ 1296 ≤ r.1.toInt ∧ r.2.1.toInt ≤ 1296 ∧ 0 ≤ r.2.1.toInt ∧ ((r.2.2.2.2.1 : Nat) : Int) ≤ 13824 ∧ 1296 ≤ ((r.2.2.2.2.1 : Nat) : Int) ∧ ((r.2.2.2.2.2.2.1 : Nat) : Int) ≤ 13824 ∧ 1296 ≤ ((r.2.2.2.2.2.2.1 : Nat) : Int) ∧ ((r.2.2.2.2.1 : Nat) : Int) ≤ ((r.2.2.2.2.2.2.1 : Nat) : Int) ∧ ((r.2.2.2.2.2.2.1 : Nat) : Int) ≤ ((r.2.2.2.2.1 : Nat) : Int) ∧ dz_rg r.2.2.2.1 r.2.2.2.2.1 0 1023 ∧ dz_pt r.2.2.1 [216, 36, 6, 1] ∧ dz_rg r.2.2.2.2.2.1 r.2.1.toInt.toNat 0 1295 ∧ (r.1.toInt = 1296)) := by
  intro v1 sl c267_total c267_lawfulOnes a268 a269 n269 a270 n270 a271 a273 i0 i1 i2 i3 i4 i5 i6 i7 i8 i9 i10 i11 i12 hr_a269 hr_a268 hm
  obtain ⟨k0, rfl⟩ : ∃ x, k = x + 1 := ⟨k - 1, by omega⟩
  show dz_T (s143_X2_renew_4 fu U c248_groups c248_pots c248_bars a252 a253 c261_many a262 (F143_X2_renew fu U c248_groups c248_pots c248_bars a252 a253 c261_many a262 k0).2.2.1 (F143_X2_renew fu U c248_groups c248_pots c248_bars a252 a253 c261_many a262 k0).2.2.2  v1 sl c267_total c267_lawfulOnes a268 a269 n269 a270 n270 a271 a273) _
  unfold s143_X2_renew_4
  refine dz_Tg (by omega) ?_
  refine dz_Tle (fun h1 => ?_) (fun h1 => ?_)
  · skip
    obtain ⟨k1, rfl⟩ : ∃ x, k0 = x + 1 := ⟨k0 - 1, by omega⟩
    show dz_T (s143_X2_renew_3 fu U c248_groups c248_pots c248_bars a252 a253 c261_many a262 sl c267_total c267_lawfulOnes a268 a269 n269 a270 n270 a271 a273) _
    unfold s143_X2_renew_3
    refine dz_Tg (by omega) ?_
    refine dz_Tb (t136_X2_listLawful_g34 fu hfu _ _ _ _ _ _ i3 i4 i5 (by first | assumption | omega) i7 (by first | assumption | omega) (by first | assumption | omega) (by first | assumption | omega) i9 i10 (hr_a269)) (fun r1 q => ?_)
    obtain ⟨q1_0, q1_1, qa1_1⟩ := q
    refine dz_Tb (t139_X2_tellWithin_g3 fu hfu _ _ _ _ _ p4 p5 i3 (by first | assumption | omega) i5 (by first | assumption | omega) (by first | assumption | omega) (hr_a269)) (fun r2 _ => ?_)
    refine dz_Ts ?_
    dsimp only
    exact ⟨i3, i4, q1_0, q1_1, i5, i6, i7, i8, i9, i10, (hr_a269), (hr_a268), (dz_rgs (qa1_1) (by omega)), (by omega)⟩
  · skip
    refine dz_Tin (by omega) (by omega) ?_
    refine dz_Tb (t140_X2_tellHeld_g3 fu hfu _ _ _ _ _ _ p0 p1 p2 (by first | assumption | omega) p6 p7 (hr_a262)) (fun r3 _ => ?_)
    refine dz_Tin (by omega) (by omega) ?_
    have e2 := dz_l1
    have e3 := dz_l31
    have e4 := dz_andr (a := v1) (b := (31 : Int32)) (by omega)
    have e5 := dz_andl (a := v1) (b := (31 : Int32)) (by omega)
    have e6 := dz_shl1 (b := v1) 0 9 (by omega) (by omega) (by omega)
    have e7 := dz_l30583
    have e8 := dz_rng (a253 v1.toNatClampNeg)
    refine dz_Tb (t142_X2_breakBar_g34 fu hfu _ _ _ _ _ _ _ _ _ p2 p3 p6 p7 i3 i4 i5 (by first | assumption | omega) (by first | assumption | omega) (by first | assumption | omega) (by omega) (by omega) (hr_a268) (hr_a269)) (fun r4 q => ?_)
    have qa4_0 := q
    have e9 := dz_add (a := v1) (b := (1 : Int32)) (by omega) (by omega)
    exact (ih k0 (by omega)) (v1 + (1 : Int32)) sl c267_total c267_lawfulOnes a268 r4 n269 a270 n270 a271 r3 (by omega) (by omega) i2 i3 i4 i5 i6 i7 i8 i9 i10 i11 (by omega) (qa4_0) (hr_a268) (by omega)
theorem t143_X2_renew_I_g34 (fu : Nat) (hfu : 1000000000000 ≤ fu) (U : Nat) (c248_groups : Int32) (c248_pots : Int32) (c248_bars : Int32) (a252 : Nat → Int32) (a253 : Nat → Int32) (c261_many : Int32) (a262 : Nat → Int32) (p0 : c248_groups.toInt ≤ 3) (p1 : 3 ≤ c248_groups.toInt) (p2 : c248_pots.toInt ≤ 4) (p3 : 4 ≤ c248_pots.toInt) (p4 : c248_bars.toInt ≤ 10) (p5 : 0 ≤ c248_bars.toInt) (p6 : c261_many.toInt ≤ 6) (p7 : 6 ≤ c261_many.toInt) (hr_a262 : dz_rg a262 96 0 3) (k : Nat) : p143_X2_renew_g34 fu U c248_groups c248_pots c248_bars a252 a253 c261_many a262 k := by
  induction k using Nat.strongRecOn with
  | _ k ih => exact t143_X2_renew_h4_g34 fu hfu U c248_groups c248_pots c248_bars a252 a253 c261_many a262 p0 p1 p2 p3 p4 p5 p6 p7 hr_a262 k ih
set_option maxHeartbeats 1000000 in
set_option maxRecDepth 10000 in
theorem t143_X2_renew_E_g34 (fu : Nat) (hfu : 1000000000000 ≤ fu) (U : Nat) (c248_groups : Int32) (c248_pots : Int32) (c248_bars : Int32) (a252 : Nat → Int32) (a253 : Nat → Int32) (c261_many : Int32) (a262 : Nat → Int32) (c267_total : Int32) (c267_lawfulOnes : Int32) (a268 : Nat → Int32) (a269 : Nat → Int32) (n269 : Nat) (a270 : Nat → Int32) (n270 : Nat) (a271 : Nat → Int32) (a273 : Nat → Int32) (p0 : c248_groups.toInt ≤ 3) (p1 : 3 ≤ c248_groups.toInt) (p2 : c248_pots.toInt ≤ 4) (p3 : 4 ≤ c248_pots.toInt) (p4 : c248_bars.toInt ≤ 10) (p5 : 0 ≤ c248_bars.toInt) (p6 : c261_many.toInt ≤ 6) (p7 : 6 ≤ c261_many.toInt) (p8 : ((n269 : Nat) : Int) ≤ 13824) (p9 : 1 ≤ ((n269 : Nat) : Int)) (p10 : ((n270 : Nat) : Int) ≤ 13824) (p11 : 1 ≤ ((n270 : Nat) : Int)) (p12 : ((n269 : Nat) : Int) ≤ ((n270 : Nat) : Int)) (p13 : ((n270 : Nat) : Int) ≤ ((n269 : Nat) : Int)) (hr_a262 : dz_rg a262 96 0 3) (hr_a269 : dz_rg a269 n269 0 1023) (o0 : (1296 ≤ n269) ∨ 2 * 1296 ≤ U) (kv : Nat) (hkv : 1000000000000 ≤ kv) : dz_T (s143_X2_renew_0 fu U c248_groups c248_pots c248_bars a252 a253 c261_many a262 (F143_X2_renew fu U c248_groups c248_pots c248_bars a252 a253 c261_many a262 kv).1  c267_total c267_lawfulOnes a268 a269 n269 a270 n270 a271 a273) (fun r => r.1.toInt ≤ 1296 ∧ 1296 ≤ r.1.toInt ∧ r.2.1.toInt ≤ 1296 ∧ 0 ≤ r.2.1.toInt ∧ ((r.2.2.2.2.1 : Nat) : Int) ≤ 13824 ∧ 1296 ≤ ((r.2.2.2.2.1 : Nat) : Int) ∧ ((r.2.2.2.2.2.2.1 : Nat) : Int) ≤ 13824 ∧ 1296 ≤ ((r.2.2.2.2.2.2.1 : Nat) : Int) ∧ ((r.2.2.2.2.1 : Nat) : Int) ≤ ((r.2.2.2.2.2.2.1 : Nat) : Int) ∧ ((r.2.2.2.2.2.2.1 : Nat) : Int) ≤ ((r.2.2.2.2.1 : Nat) : Int) ∧ dz_rg r.2.2.2.1 r.2.2.2.2.1 0 1023 ∧ dz_pt r.2.2.1 [216, 36, 6, 1] ∧ dz_rg r.2.2.2.2.2.1 r.2.1.toInt.toNat 0 1295 ∧ (r.1.toInt = 1296)) := by
  unfold s143_X2_renew_0
  have e1 := dz_l1
  have e2 := dz_sub (a := c248_pots) (b := (1 : Int32)) (by omega) (by omega)
  generalize (c248_pots - (1 : Int32)) = zz28 at *
  obtain ⟨k1, rfl⟩ : ∃ x, kv = x + 1 := ⟨kv - 1, by omega⟩
  rw [dz_Fu143]
  unfold s143_X2_renew_1
  refine dz_Tg (by omega) ?_
  have e3 := dz_l0
  refine dz_Tlt (fun h4 => ?_) (fun h4 => ?_)
  · skip
    exfalso; omega
  · skip
    refine dz_Tin (by omega) (by omega) ?_
    have e5 := dz_lm1
    have e6 := dz_add (a := zz28) (b := (-(1 : Int32))) (by omega) (by omega)
    generalize (zz28 + (-(1 : Int32))) = zz29 at *
    have e7 := dz_mull (a := (1 : Int32)) (b := c261_many) 1 (by omega) (by omega) (by omega)
    generalize ((1 : Int32) * c261_many) = zz30 at *
    obtain ⟨k2, rfl⟩ : ∃ x, k1 = x + 1 := ⟨k1 - 1, by omega⟩
    rw [dz_Fu143]
    unfold s143_X2_renew_1
    refine dz_Tg (by omega) ?_
    refine dz_Tlt (fun h8 => ?_) (fun h8 => ?_)
    · skip
      exfalso; omega
    · skip
      refine dz_Tin (by omega) (by omega) ?_
      have e9 := dz_add (a := zz29) (b := (-(1 : Int32))) (by omega) (by omega)
      generalize (zz29 + (-(1 : Int32))) = zz31 at *
      have e10 := dz_mull (a := zz30) (b := c261_many) 6 (by omega) (by omega) (by omega)
      generalize (zz30 * c261_many) = zz32 at *
      obtain ⟨k3, rfl⟩ : ∃ x, k2 = x + 1 := ⟨k2 - 1, by omega⟩
      rw [dz_Fu143]
      unfold s143_X2_renew_1
      refine dz_Tg (by omega) ?_
      refine dz_Tlt (fun h11 => ?_) (fun h11 => ?_)
      · skip
        exfalso; omega
      · skip
        refine dz_Tin (by omega) (by omega) ?_
        have e12 := dz_add (a := zz31) (b := (-(1 : Int32))) (by omega) (by omega)
        generalize (zz31 + (-(1 : Int32))) = zz33 at *
        have e13 := dz_mull (a := zz32) (b := c261_many) 36 (by omega) (by omega) (by omega)
        generalize (zz32 * c261_many) = zz34 at *
        obtain ⟨k4, rfl⟩ : ∃ x, k3 = x + 1 := ⟨k3 - 1, by omega⟩
        rw [dz_Fu143]
        unfold s143_X2_renew_1
        refine dz_Tg (by omega) ?_
        refine dz_Tlt (fun h14 => ?_) (fun h14 => ?_)
        · skip
          exfalso; omega
        · skip
          refine dz_Tin (by omega) (by omega) ?_
          have e15 := dz_add (a := zz33) (b := (-(1 : Int32))) (by omega) (by omega)
          generalize (zz33 + (-(1 : Int32))) = zz35 at *
          have e16 := dz_mull (a := zz34) (b := c261_many) 216 (by omega) (by omega) (by omega)
          generalize (zz34 * c261_many) = zz36 at *
          obtain ⟨k5, rfl⟩ : ∃ x, k4 = x + 1 := ⟨k4 - 1, by omega⟩
          rw [dz_Fu143]
          unfold s143_X2_renew_1
          refine dz_Tg (by omega) ?_
          refine dz_Tlt (fun h17 => ?_) (fun h17 => ?_)
          · skip
            have e18 := dz_ofn (n := n269) (by omega)
            refine dz_Tle (fun h19 => ?_) (fun h19 => ?_)
            · skip
              obtain ⟨k6, rfl⟩ : ∃ x, k5 = x + 1 := ⟨k5 - 1, by omega⟩
              show dz_T (s143_X2_renew_2 fu U c248_groups c248_pots c248_bars a252 a253 c261_many a262 (F143_X2_renew fu U c248_groups c248_pots c248_bars a252 a253 c261_many a262 k6).2.2.1 (F143_X2_renew fu U c248_groups c248_pots c248_bars a252 a253 c261_many a262 k6).2.2.2 0 zz36 c267_lawfulOnes (upd (upd (upd (upd a268 zz28.toNatClampNeg (1 : Int32)) zz29.toNatClampNeg zz30) zz31.toNatClampNeg zz32) zz33.toNatClampNeg zz34) a269 n269 a270 n270 a271 a273) _
              unfold s143_X2_renew_2
              refine dz_Tg (by omega) ?_
              refine dz_Tb (t135_J7_fill_fda19 fu hfu _ _ _ _ _ 0 1023 (by first | assumption | omega) (by omega) (by omega) (by first | assumption | omega) (by omega) (by omega) (hr_a269)) (fun r1 q => ?_)
              have qa1_0 := q
              refine dz_Tle (fun h20 => ?_) (fun h20 => ?_)
              · skip
                exfalso; omega
              · skip
                exact (t143_X2_renew_I_g34 fu hfu U c248_groups c248_pots c248_bars a252 a253 c261_many a262 p0 p1 p2 p3 p4 p5 p6 p7 hr_a262 k6) (0 : Int32) 0 zz36 c267_lawfulOnes (upd (upd (upd (upd a268 zz28.toNatClampNeg (1 : Int32)) zz29.toNatClampNeg zz30) zz31.toNatClampNeg zz32) zz33.toNatClampNeg zz34) r1 n269 a270 n270 a271 a273 (by omega) (by omega) (by first | assumption | omega) (by first | assumption | omega) (by first | assumption | omega) p8 (by first | assumption | omega) p10 (by first | assumption | omega) p12 p13 (by first | assumption | omega) (by omega) (qa1_0) (dz_ptmk4 ((dz_upk (j := zz33) 0 (by omega)).trans (by omega)) ((dz_upo (j := zz33) 1 (by omega)).trans ((dz_upk (j := zz31) 1 (by omega)).trans (by omega))) ((dz_upo (j := zz33) 2 (by omega)).trans ((dz_upo (j := zz31) 2 (by omega)).trans ((dz_upk (j := zz29) 2 (by omega)).trans (by omega)))) ((dz_upo (j := zz33) 3 (by omega)).trans ((dz_upo (j := zz31) 3 (by omega)).trans ((dz_upo (j := zz29) 3 (by omega)).trans ((dz_upk (j := zz28) 3 (by omega)).trans (by omega)))))) (by omega)
            · skip
              refine dz_Tng (by omega) ?_
              have e21 := dz_tn zz36
              refine dz_Tg (by omega) ?_
              refine dz_Tg (by omega) ?_
              refine dz_Tg (by omega) ?_
              refine dz_Tng (by omega) ?_
              refine dz_Tg (by omega) ?_
              refine dz_Tg (by omega) ?_
              refine dz_Tg (by omega) ?_
              obtain ⟨k7, rfl⟩ : ∃ x, k5 = x + 1 := ⟨k5 - 1, by omega⟩
              show dz_T (s143_X2_renew_2 fu U c248_groups c248_pots c248_bars a252 a253 c261_many a262 (F143_X2_renew fu U c248_groups c248_pots c248_bars a252 a253 c261_many a262 k7).2.2.1 (F143_X2_renew fu U c248_groups c248_pots c248_bars a252 a253 c261_many a262 k7).2.2.2 ((0 + zz36.toNatClampNeg) + zz36.toNatClampNeg) zz36 c267_lawfulOnes (upd (upd (upd (upd a268 zz28.toNatClampNeg (1 : Int32)) zz29.toNatClampNeg zz30) zz31.toNatClampNeg zz32) zz33.toNatClampNeg zz34) (jw_l 0 []) zz36.toNatClampNeg (jw_l 0 []) zz36.toNatClampNeg a271 a273) _
              unfold s143_X2_renew_2
              refine dz_Tg (by omega) ?_
              refine dz_Tb (t135_J7_fill_fda19 fu hfu _ _ _ _ _ 0 0 (by first | assumption | omega) (by omega) (by omega) (by first | assumption | omega) (by omega) (by omega) (dz_rg0 (by omega) (by omega))) (fun r2 q => ?_)
              have qa2_0 := q
              refine dz_Tle (fun h22 => ?_) (fun h22 => ?_)
              · skip
                exfalso; omega
              · skip
                exact (t143_X2_renew_I_g34 fu hfu U c248_groups c248_pots c248_bars a252 a253 c261_many a262 p0 p1 p2 p3 p4 p5 p6 p7 hr_a262 k7) (0 : Int32) ((0 + zz36.toNatClampNeg) + zz36.toNatClampNeg) zz36 c267_lawfulOnes (upd (upd (upd (upd a268 zz28.toNatClampNeg (1 : Int32)) zz29.toNatClampNeg zz30) zz31.toNatClampNeg zz32) zz33.toNatClampNeg zz34) r2 zz36.toNatClampNeg (jw_l 0 []) zz36.toNatClampNeg a271 a273 (by omega) (by omega) (by omega) (by first | assumption | omega) (by first | assumption | omega) (by first | assumption | omega) (by first | assumption | omega) (by first | assumption | omega) (by first | assumption | omega) (by first | assumption | omega) (by first | assumption | omega) (by omega) (by omega) (dz_rgm qa2_0 (by omega) (by omega)) (dz_ptmk4 ((dz_upk (j := zz33) 0 (by omega)).trans (by omega)) ((dz_upo (j := zz33) 1 (by omega)).trans ((dz_upk (j := zz31) 1 (by omega)).trans (by omega))) ((dz_upo (j := zz33) 2 (by omega)).trans ((dz_upo (j := zz31) 2 (by omega)).trans ((dz_upk (j := zz29) 2 (by omega)).trans (by omega)))) ((dz_upo (j := zz33) 3 (by omega)).trans ((dz_upo (j := zz31) 3 (by omega)).trans ((dz_upo (j := zz29) 3 (by omega)).trans ((dz_upk (j := zz28) 3 (by omega)).trans (by omega)))))) (by omega)
          · skip
            exfalso; omega
theorem t143_X2_renew_g34 (fu : Nat) (hfu : 1000000000000 ≤ fu) (U : Nat) (c248_groups : Int32) (c248_pots : Int32) (c248_bars : Int32) (a252 : Nat → Int32) (a253 : Nat → Int32) (c261_many : Int32) (a262 : Nat → Int32) (c267_total : Int32) (c267_lawfulOnes : Int32) (a268 : Nat → Int32) (a269 : Nat → Int32) (n269 : Nat) (a270 : Nat → Int32) (n270 : Nat) (a271 : Nat → Int32) (a273 : Nat → Int32) (p0 : c248_groups.toInt ≤ 3) (p1 : 3 ≤ c248_groups.toInt) (p2 : c248_pots.toInt ≤ 4) (p3 : 4 ≤ c248_pots.toInt) (p4 : c248_bars.toInt ≤ 10) (p5 : 0 ≤ c248_bars.toInt) (p6 : c261_many.toInt ≤ 6) (p7 : 6 ≤ c261_many.toInt) (p8 : ((n269 : Nat) : Int) ≤ 13824) (p9 : 1 ≤ ((n269 : Nat) : Int)) (p10 : ((n270 : Nat) : Int) ≤ 13824) (p11 : 1 ≤ ((n270 : Nat) : Int)) (p12 : ((n269 : Nat) : Int) ≤ ((n270 : Nat) : Int)) (p13 : ((n270 : Nat) : Int) ≤ ((n269 : Nat) : Int)) (hr_a262 : dz_rg a262 96 0 3) (hr_a269 : dz_rg a269 n269 0 1023) (o0 : (1296 ≤ n269) ∨ 2 * 1296 ≤ U) : dz_T (f143_X2_renew fu U c248_groups c248_pots c248_bars a252 a253 c261_many a262 c267_total c267_lawfulOnes a268 a269 n269 a270 n270 a271 a273) (fun r => r.1.toInt ≤ 1296 ∧ 1296 ≤ r.1.toInt ∧ r.2.1.toInt ≤ 1296 ∧ 0 ≤ r.2.1.toInt ∧ ((r.2.2.2.2.1 : Nat) : Int) ≤ 13824 ∧ 1296 ≤ ((r.2.2.2.2.1 : Nat) : Int) ∧ ((r.2.2.2.2.2.2.1 : Nat) : Int) ≤ 13824 ∧ 1296 ≤ ((r.2.2.2.2.2.2.1 : Nat) : Int) ∧ ((r.2.2.2.2.1 : Nat) : Int) ≤ ((r.2.2.2.2.2.2.1 : Nat) : Int) ∧ ((r.2.2.2.2.2.2.1 : Nat) : Int) ≤ ((r.2.2.2.2.1 : Nat) : Int) ∧ dz_rg r.2.2.2.1 r.2.2.2.2.1 0 1023 ∧ dz_pt r.2.2.1 [216, 36, 6, 1] ∧ dz_rg r.2.2.2.2.2.1 r.2.1.toInt.toNat 0 1295 ∧ (r.1.toInt = 1296)) :=
  t143_X2_renew_E_g34 fu hfu U c248_groups c248_pots c248_bars a252 a253 c261_many a262 c267_total c267_lawfulOnes a268 a269 n269 a270 n270 a271 a273 p0 p1 p2 p3 p4 p5 p6 p7 p8 p9 p10 p11 p12 p13 hr_a262 hr_a269 o0 fu hfu
set_option maxHeartbeats 1000000 in
set_option maxRecDepth 10000 in
theorem t143_X2_renew_E_g40 (fu : Nat) (hfu : 1000000000000 ≤ fu) (U : Nat) (c248_groups : Int32) (c248_pots : Int32) (c248_bars : Int32) (a252 : Nat → Int32) (a253 : Nat → Int32) (c261_many : Int32) (a262 : Nat → Int32) (c267_total : Int32) (c267_lawfulOnes : Int32) (a268 : Nat → Int32) (a269 : Nat → Int32) (n269 : Nat) (a270 : Nat → Int32) (n270 : Nat) (a271 : Nat → Int32) (a273 : Nat → Int32) (p0 : c248_groups.toInt ≤ 4) (p1 : 4 ≤ c248_groups.toInt) (p2 : c248_pots.toInt ≤ 0) (p3 : 0 ≤ c248_pots.toInt) (p4 : c248_bars.toInt ≤ 10) (p5 : 0 ≤ c248_bars.toInt) (p6 : c261_many.toInt ≤ 24) (p7 : 24 ≤ c261_many.toInt) (p8 : ((n269 : Nat) : Int) ≤ 13824) (p9 : 1 ≤ ((n269 : Nat) : Int)) (p10 : ((n270 : Nat) : Int) ≤ 13824) (p11 : 1 ≤ ((n270 : Nat) : Int)) (p12 : ((n269 : Nat) : Int) ≤ ((n270 : Nat) : Int)) (p13 : ((n270 : Nat) : Int) ≤ ((n269 : Nat) : Int)) (hr_a262 : dz_rg a262 96 0 3) (hr_a269 : dz_rg a269 n269 0 1023) (o0 : (1 ≤ n269) ∨ 2 * 1 ≤ U) (kv : Nat) (hkv : 1000000000000 ≤ kv) : dz_T (s143_X2_renew_0 fu U c248_groups c248_pots c248_bars a252 a253 c261_many a262 (F143_X2_renew fu U c248_groups c248_pots c248_bars a252 a253 c261_many a262 kv).1  c267_total c267_lawfulOnes a268 a269 n269 a270 n270 a271 a273) (fun r => r.1.toInt ≤ 1 ∧ 1 ≤ r.1.toInt ∧ r.2.1.toInt ≤ 1 ∧ 0 ≤ r.2.1.toInt ∧ ((r.2.2.2.2.1 : Nat) : Int) ≤ 13824 ∧ 1 ≤ ((r.2.2.2.2.1 : Nat) : Int) ∧ ((r.2.2.2.2.2.2.1 : Nat) : Int) ≤ 13824 ∧ 1 ≤ ((r.2.2.2.2.2.2.1 : Nat) : Int) ∧ ((r.2.2.2.2.1 : Nat) : Int) ≤ ((r.2.2.2.2.2.2.1 : Nat) : Int) ∧ ((r.2.2.2.2.2.2.1 : Nat) : Int) ≤ ((r.2.2.2.2.1 : Nat) : Int) ∧ dz_rg r.2.2.2.1 r.2.2.2.2.1 0 1023 ∧ dz_rg r.2.2.2.2.2.1 r.2.1.toInt.toNat 0 0 ∧ (r.1.toInt = 1)) := by
  unfold s143_X2_renew_0
  have e1 := dz_l1
  have e2 := dz_sub (a := c248_pots) (b := (1 : Int32)) (by omega) (by omega)
  generalize (c248_pots - (1 : Int32)) = zz6 at *
  obtain ⟨k1, rfl⟩ : ∃ x, kv = x + 1 := ⟨kv - 1, by omega⟩
  rw [dz_Fu143]
  unfold s143_X2_renew_1
  refine dz_Tg (by omega) ?_
  have e3 := dz_l0
  refine dz_Tlt (fun h4 => ?_) (fun h4 => ?_)
  · skip
    have e5 := dz_ofn (n := n269) (by omega)
    refine dz_Tle (fun h6 => ?_) (fun h6 => ?_)
    · skip
      obtain ⟨k2, rfl⟩ : ∃ x, k1 = x + 1 := ⟨k1 - 1, by omega⟩
      show dz_T (s143_X2_renew_2 fu U c248_groups c248_pots c248_bars a252 a253 c261_many a262 (F143_X2_renew fu U c248_groups c248_pots c248_bars a252 a253 c261_many a262 k2).2.2.1 (F143_X2_renew fu U c248_groups c248_pots c248_bars a252 a253 c261_many a262 k2).2.2.2 0 (1 : Int32) c267_lawfulOnes a268 a269 n269 a270 n270 a271 a273) _
      unfold s143_X2_renew_2
      refine dz_Tg (by omega) ?_
      refine dz_Tb (t135_J7_fill_fda19 fu hfu _ _ _ _ _ 0 1023 (by first | assumption | omega) (by omega) (by omega) (by omega) (by omega) (by omega) (hr_a269)) (fun r1 q => ?_)
      have qa1_0 := q
      refine dz_Tle (fun h7 => ?_) (fun h7 => ?_)
      · skip
        obtain ⟨k3, rfl⟩ : ∃ x, k2 = x + 1 := ⟨k2 - 1, by omega⟩
        show dz_T (s143_X2_renew_3 fu U c248_groups c248_pots c248_bars a252 a253 c261_many a262 0 (1 : Int32) c267_lawfulOnes a268 r1 n269 a270 n270 a271 a273) _
        unfold s143_X2_renew_3
        refine dz_Tg (by omega) ?_
        refine dz_Tb (t136_X2_listLawful_g40 fu hfu _ _ _ _ _ _ (by omega) (by omega) p8 p9 p10 p11 (by omega) (by omega) p12 p13 (qa1_0)) (fun r2 q => ?_)
        obtain ⟨q2_0, q2_1, qa2_1⟩ := q
        refine dz_Tb (t139_X2_tellWithin_g4 fu hfu _ _ _ _ _ p4 p5 (by omega) (by omega) p8 p9 (by omega) (qa1_0)) (fun r3 _ => ?_)
        refine dz_Ts ?_
        dsimp only
        exact ⟨(by omega), (by omega), q2_0, q2_1, p8, p9, p10, p11, p12, p13, (qa1_0), (dz_rgs (qa2_1) (by omega)), (by omega)⟩
      · skip
        exfalso; omega
    · skip
      exfalso; omega
  · skip
    exfalso; omega
theorem t143_X2_renew_g40 (fu : Nat) (hfu : 1000000000000 ≤ fu) (U : Nat) (c248_groups : Int32) (c248_pots : Int32) (c248_bars : Int32) (a252 : Nat → Int32) (a253 : Nat → Int32) (c261_many : Int32) (a262 : Nat → Int32) (c267_total : Int32) (c267_lawfulOnes : Int32) (a268 : Nat → Int32) (a269 : Nat → Int32) (n269 : Nat) (a270 : Nat → Int32) (n270 : Nat) (a271 : Nat → Int32) (a273 : Nat → Int32) (p0 : c248_groups.toInt ≤ 4) (p1 : 4 ≤ c248_groups.toInt) (p2 : c248_pots.toInt ≤ 0) (p3 : 0 ≤ c248_pots.toInt) (p4 : c248_bars.toInt ≤ 10) (p5 : 0 ≤ c248_bars.toInt) (p6 : c261_many.toInt ≤ 24) (p7 : 24 ≤ c261_many.toInt) (p8 : ((n269 : Nat) : Int) ≤ 13824) (p9 : 1 ≤ ((n269 : Nat) : Int)) (p10 : ((n270 : Nat) : Int) ≤ 13824) (p11 : 1 ≤ ((n270 : Nat) : Int)) (p12 : ((n269 : Nat) : Int) ≤ ((n270 : Nat) : Int)) (p13 : ((n270 : Nat) : Int) ≤ ((n269 : Nat) : Int)) (hr_a262 : dz_rg a262 96 0 3) (hr_a269 : dz_rg a269 n269 0 1023) (o0 : (1 ≤ n269) ∨ 2 * 1 ≤ U) : dz_T (f143_X2_renew fu U c248_groups c248_pots c248_bars a252 a253 c261_many a262 c267_total c267_lawfulOnes a268 a269 n269 a270 n270 a271 a273) (fun r => r.1.toInt ≤ 1 ∧ 1 ≤ r.1.toInt ∧ r.2.1.toInt ≤ 1 ∧ 0 ≤ r.2.1.toInt ∧ ((r.2.2.2.2.1 : Nat) : Int) ≤ 13824 ∧ 1 ≤ ((r.2.2.2.2.1 : Nat) : Int) ∧ ((r.2.2.2.2.2.2.1 : Nat) : Int) ≤ 13824 ∧ 1 ≤ ((r.2.2.2.2.2.2.1 : Nat) : Int) ∧ ((r.2.2.2.2.1 : Nat) : Int) ≤ ((r.2.2.2.2.2.2.1 : Nat) : Int) ∧ ((r.2.2.2.2.2.2.1 : Nat) : Int) ≤ ((r.2.2.2.2.1 : Nat) : Int) ∧ dz_rg r.2.2.2.1 r.2.2.2.2.1 0 1023 ∧ dz_rg r.2.2.2.2.2.1 r.2.1.toInt.toNat 0 0 ∧ (r.1.toInt = 1)) :=
  t143_X2_renew_E_g40 fu hfu U c248_groups c248_pots c248_bars a252 a253 c261_many a262 c267_total c267_lawfulOnes a268 a269 n269 a270 n270 a271 a273 p0 p1 p2 p3 p4 p5 p6 p7 p8 p9 p10 p11 p12 p13 hr_a262 hr_a269 o0 fu hfu
abbrev p143_X2_renew_g41 (fu : Nat) (U : Nat) (c248_groups : Int32) (c248_pots : Int32) (c248_bars : Int32) (a252 : Nat → Int32) (a253 : Nat → Int32) (c261_many : Int32) (a262 : Nat → Int32) (k : Nat) : Prop :=
  (∀ (v1 : Int32) (sl : Nat) (c267_total : Int32) (c267_lawfulOnes : Int32) (a268 : Nat → Int32) (a269 : Nat → Int32) (n269 : Nat) (a270 : Nat → Int32) (n270 : Nat) (a271 : Nat → Int32) (a273 : Nat → Int32), v1.toInt ≤ 10 → 0 ≤ v1.toInt → ((sl : Nat) : Int) ≤ 48 → c267_total.toInt ≤ 24 → 24 ≤ c267_total.toInt → ((n269 : Nat) : Int) ≤ 13824 → 24 ≤ ((n269 : Nat) : Int) → ((n270 : Nat) : Int) ≤ 13824 → 24 ≤ ((n270 : Nat) : Int) → ((n269 : Nat) : Int) ≤ ((n270 : Nat) : Int) → ((n270 : Nat) : Int) ≤ ((n269 : Nat) : Int) → ((sl : Nat) : Int) ≤ ((U : Nat) : Int) → v1.toInt ≤ c248_bars.toInt → dz_rg a269 n269 0 1023 → dz_pt a268 [1] → 0 + 0 + (10 - v1.toInt) * 16 + 8 ≤ ((k : Nat) : Int) → dz_T ((F143_X2_renew fu U c248_groups c248_pots c248_bars a252 a253 c261_many a262 k).2.2.2 v1 sl c267_total c267_lawfulOnes a268 a269 n269 a270 n270 a271 a273) (fun r => r.1.toInt ≤ 24 ∧ 24 ≤ r.1.toInt ∧ r.2.1.toInt ≤ 24 ∧ 0 ≤ r.2.1.toInt ∧ ((r.2.2.2.2.1 : Nat) : Int) ≤ 13824 ∧ 24 ≤ ((r.2.2.2.2.1 : Nat) : Int) ∧ ((r.2.2.2.2.2.2.1 : Nat) : Int) ≤ 13824 ∧ 24 ≤ ((r.2.2.2.2.2.2.1 : Nat) : Int) ∧ ((r.2.2.2.2.1 : Nat) : Int) ≤ ((r.2.2.2.2.2.2.1 : Nat) : Int) ∧ ((r.2.2.2.2.2.2.1 : Nat) : Int) ≤ ((r.2.2.2.2.1 : Nat) : Int) ∧ dz_rg r.2.2.2.1 r.2.2.2.2.1 0 1023 ∧ dz_pt r.2.2.1 [1] ∧ dz_rg r.2.2.2.2.2.1 r.2.1.toInt.toNat 0 23 ∧ (r.1.toInt = 24)))
set_option maxHeartbeats 1000000 in
set_option maxRecDepth 10000 in
theorem t143_X2_renew_h4_g41 (fu : Nat) (hfu : 1000000000000 ≤ fu) (U : Nat) (c248_groups : Int32) (c248_pots : Int32) (c248_bars : Int32) (a252 : Nat → Int32) (a253 : Nat → Int32) (c261_many : Int32) (a262 : Nat → Int32) (p0 : c248_groups.toInt ≤ 4) (p1 : 4 ≤ c248_groups.toInt) (p2 : c248_pots.toInt ≤ 1) (p3 : 1 ≤ c248_pots.toInt) (p4 : c248_bars.toInt ≤ 10) (p5 : 0 ≤ c248_bars.toInt) (p6 : c261_many.toInt ≤ 24) (p7 : 24 ≤ c261_many.toInt) (hr_a262 : dz_rg a262 96 0 3) (k : Nat) (ih : ∀ j9, j9 < k → p143_X2_renew_g41 fu U c248_groups c248_pots c248_bars a252 a253 c261_many a262 j9) : ∀ (v1 : Int32) (sl : Nat) (c267_total : Int32) (c267_lawfulOnes : Int32) (a268 : Nat → Int32) (a269 : Nat → Int32) (n269 : Nat) (a270 : Nat → Int32) (n270 : Nat) (a271 : Nat → Int32) (a273 : Nat → Int32), v1.toInt ≤ 10 → 0 ≤ v1.toInt → ((sl : Nat) : Int) ≤ 48 → c267_total.toInt ≤ 24 → 24 ≤ c267_total.toInt → ((n269 : Nat) : Int) ≤ 13824 → 24 ≤ ((n269 : Nat) : Int) → ((n270 : Nat) : Int) ≤ 13824 → 24 ≤ ((n270 : Nat) : Int) → ((n269 : Nat) : Int) ≤ ((n270 : Nat) : Int) → ((n270 : Nat) : Int) ≤ ((n269 : Nat) : Int) → ((sl : Nat) : Int) ≤ ((U : Nat) : Int) → v1.toInt ≤ c248_bars.toInt → dz_rg a269 n269 0 1023 → dz_pt a268 [1] → 0 + 0 + (10 - v1.toInt) * 16 + 8 ≤ ((k : Nat) : Int) → dz_T ((F143_X2_renew fu U c248_groups c248_pots c248_bars a252 a253 c261_many a262 k).2.2.2 v1 sl c267_total c267_lawfulOnes a268 a269 n269 a270 n270 a271 a273) (fun r => r.1.toInt ≤ 24 ∧ 24 ≤ r.1.toInt ∧ r.2.1.toInt ≤ 24 ∧ 0 ≤ r.2.1.toInt ∧ ((r.2.2.2.2.1 : Nat) : Int) ≤ 13824 ∧ 24 ≤ ((r.2.2.2.2.1 : Nat) : Int) ∧ ((r.2.2.2.2.2.2.1 : Nat) : Int) ≤ 13824 ∧ 24 ≤ ((r.2.2.2.2.2.2.1 : Nat) : Int) ∧ ((r.2.2.2.2.1 : Nat) : Int) ≤ ((r.2.2.2.2.2.2.1 : Nat) : Int) ∧ ((r.2.2.2.2.2.2.1 : Nat) : Int) ≤ ((r.2.2.2.2.1 : Nat) : Int) ∧ dz_rg r.2.2.2.1 r.2.2.2.2.1 0 1023 ∧ dz_pt r.2.2.1 [1] ∧ dz_rg r.2.2.2.2.2.1 r.2.1.toInt.toNat 0 23 ∧ (r.1.toInt = 24)) := by
  intro v1 sl c267_total c267_lawfulOnes a268 a269 n269 a270 n270 a271 a273 i0 i1 i2 i3 i4 i5 i6 i7 i8 i9 i10 i11 i12 hr_a269 hr_a268 hm
  obtain ⟨k0, rfl⟩ : ∃ x, k = x + 1 := ⟨k - 1, by omega⟩
  show dz_T (s143_X2_renew_4 fu U c248_groups c248_pots c248_bars a252 a253 c261_many a262 (F143_X2_renew fu U c248_groups c248_pots c248_bars a252 a253 c261_many a262 k0).2.2.1 (F143_X2_renew fu U c248_groups c248_pots c248_bars a252 a253 c261_many a262 k0).2.2.2  v1 sl c267_total c267_lawfulOnes a268 a269 n269 a270 n270 a271 a273) _
  unfold s143_X2_renew_4
  refine dz_Tg (by omega) ?_
  refine dz_Tle (fun h1 => ?_) (fun h1 => ?_)
  · skip
    obtain ⟨k1, rfl⟩ : ∃ x, k0 = x + 1 := ⟨k0 - 1, by omega⟩
    show dz_T (s143_X2_renew_3 fu U c248_groups c248_pots c248_bars a252 a253 c261_many a262 sl c267_total c267_lawfulOnes a268 a269 n269 a270 n270 a271 a273) _
    unfold s143_X2_renew_3
    refine dz_Tg (by omega) ?_
    refine dz_Tb (t136_X2_listLawful_g41 fu hfu _ _ _ _ _ _ i3 i4 i5 (by first | assumption | omega) i7 (by first | assumption | omega) (by first | assumption | omega) (by first | assumption | omega) i9 i10 (hr_a269)) (fun r1 q => ?_)
    obtain ⟨q1_0, q1_1, qa1_1⟩ := q
    refine dz_Tb (t139_X2_tellWithin_g4 fu hfu _ _ _ _ _ p4 p5 (by first | assumption | omega) (by first | assumption | omega) i5 (by first | assumption | omega) (by first | assumption | omega) (hr_a269)) (fun r2 _ => ?_)
    refine dz_Ts ?_
    dsimp only
    exact ⟨i3, i4, q1_0, q1_1, i5, i6, i7, i8, i9, i10, (hr_a269), (hr_a268), (dz_rgs (qa1_1) (by omega)), (by omega)⟩
  · skip
    refine dz_Tin (by omega) (by omega) ?_
    refine dz_Tb (t140_X2_tellHeld_g4 fu hfu _ _ _ _ _ _ p0 p1 (by first | assumption | omega) (by first | assumption | omega) p6 p7 (hr_a262)) (fun r3 _ => ?_)
    refine dz_Tin (by omega) (by omega) ?_
    have e2 := dz_l1
    have e3 := dz_l31
    have e4 := dz_andr (a := v1) (b := (31 : Int32)) (by omega)
    have e5 := dz_andl (a := v1) (b := (31 : Int32)) (by omega)
    have e6 := dz_shl1 (b := v1) 0 9 (by omega) (by omega) (by omega)
    have e7 := dz_l30583
    have e8 := dz_rng (a253 v1.toNatClampNeg)
    refine dz_Tb (t142_X2_breakBar_g41 fu hfu _ _ _ _ _ _ _ _ _ p2 p3 p6 p7 i3 i4 i5 (by first | assumption | omega) (by first | assumption | omega) p3 (by omega) (by omega) (hr_a268) (hr_a269)) (fun r4 q => ?_)
    have qa4_0 := q
    have e9 := dz_add (a := v1) (b := (1 : Int32)) (by omega) (by omega)
    exact (ih k0 (by omega)) (v1 + (1 : Int32)) sl c267_total c267_lawfulOnes a268 r4 n269 a270 n270 a271 r3 (by omega) (by omega) i2 i3 i4 i5 i6 i7 i8 i9 i10 i11 (by omega) (qa4_0) (hr_a268) (by omega)
theorem t143_X2_renew_I_g41 (fu : Nat) (hfu : 1000000000000 ≤ fu) (U : Nat) (c248_groups : Int32) (c248_pots : Int32) (c248_bars : Int32) (a252 : Nat → Int32) (a253 : Nat → Int32) (c261_many : Int32) (a262 : Nat → Int32) (p0 : c248_groups.toInt ≤ 4) (p1 : 4 ≤ c248_groups.toInt) (p2 : c248_pots.toInt ≤ 1) (p3 : 1 ≤ c248_pots.toInt) (p4 : c248_bars.toInt ≤ 10) (p5 : 0 ≤ c248_bars.toInt) (p6 : c261_many.toInt ≤ 24) (p7 : 24 ≤ c261_many.toInt) (hr_a262 : dz_rg a262 96 0 3) (k : Nat) : p143_X2_renew_g41 fu U c248_groups c248_pots c248_bars a252 a253 c261_many a262 k := by
  induction k using Nat.strongRecOn with
  | _ k ih => exact t143_X2_renew_h4_g41 fu hfu U c248_groups c248_pots c248_bars a252 a253 c261_many a262 p0 p1 p2 p3 p4 p5 p6 p7 hr_a262 k ih
set_option maxHeartbeats 1000000 in
set_option maxRecDepth 10000 in
theorem t143_X2_renew_E_g41 (fu : Nat) (hfu : 1000000000000 ≤ fu) (U : Nat) (c248_groups : Int32) (c248_pots : Int32) (c248_bars : Int32) (a252 : Nat → Int32) (a253 : Nat → Int32) (c261_many : Int32) (a262 : Nat → Int32) (c267_total : Int32) (c267_lawfulOnes : Int32) (a268 : Nat → Int32) (a269 : Nat → Int32) (n269 : Nat) (a270 : Nat → Int32) (n270 : Nat) (a271 : Nat → Int32) (a273 : Nat → Int32) (p0 : c248_groups.toInt ≤ 4) (p1 : 4 ≤ c248_groups.toInt) (p2 : c248_pots.toInt ≤ 1) (p3 : 1 ≤ c248_pots.toInt) (p4 : c248_bars.toInt ≤ 10) (p5 : 0 ≤ c248_bars.toInt) (p6 : c261_many.toInt ≤ 24) (p7 : 24 ≤ c261_many.toInt) (p8 : ((n269 : Nat) : Int) ≤ 13824) (p9 : 1 ≤ ((n269 : Nat) : Int)) (p10 : ((n270 : Nat) : Int) ≤ 13824) (p11 : 1 ≤ ((n270 : Nat) : Int)) (p12 : ((n269 : Nat) : Int) ≤ ((n270 : Nat) : Int)) (p13 : ((n270 : Nat) : Int) ≤ ((n269 : Nat) : Int)) (hr_a262 : dz_rg a262 96 0 3) (hr_a269 : dz_rg a269 n269 0 1023) (o0 : (24 ≤ n269) ∨ 2 * 24 ≤ U) (kv : Nat) (hkv : 1000000000000 ≤ kv) : dz_T (s143_X2_renew_0 fu U c248_groups c248_pots c248_bars a252 a253 c261_many a262 (F143_X2_renew fu U c248_groups c248_pots c248_bars a252 a253 c261_many a262 kv).1  c267_total c267_lawfulOnes a268 a269 n269 a270 n270 a271 a273) (fun r => r.1.toInt ≤ 24 ∧ 24 ≤ r.1.toInt ∧ r.2.1.toInt ≤ 24 ∧ 0 ≤ r.2.1.toInt ∧ ((r.2.2.2.2.1 : Nat) : Int) ≤ 13824 ∧ 24 ≤ ((r.2.2.2.2.1 : Nat) : Int) ∧ ((r.2.2.2.2.2.2.1 : Nat) : Int) ≤ 13824 ∧ 24 ≤ ((r.2.2.2.2.2.2.1 : Nat) : Int) ∧ ((r.2.2.2.2.1 : Nat) : Int) ≤ ((r.2.2.2.2.2.2.1 : Nat) : Int) ∧ ((r.2.2.2.2.2.2.1 : Nat) : Int) ≤ ((r.2.2.2.2.1 : Nat) : Int) ∧ dz_rg r.2.2.2.1 r.2.2.2.2.1 0 1023 ∧ dz_pt r.2.2.1 [1] ∧ dz_rg r.2.2.2.2.2.1 r.2.1.toInt.toNat 0 23 ∧ (r.1.toInt = 24)) := by
  unfold s143_X2_renew_0
  have e1 := dz_l1
  have e2 := dz_sub (a := c248_pots) (b := (1 : Int32)) (by omega) (by omega)
  generalize (c248_pots - (1 : Int32)) = zz10 at *
  obtain ⟨k1, rfl⟩ : ∃ x, kv = x + 1 := ⟨kv - 1, by omega⟩
  rw [dz_Fu143]
  unfold s143_X2_renew_1
  refine dz_Tg (by omega) ?_
  have e3 := dz_l0
  refine dz_Tlt (fun h4 => ?_) (fun h4 => ?_)
  · skip
    exfalso; omega
  · skip
    refine dz_Tin (by omega) (by omega) ?_
    have e5 := dz_lm1
    have e6 := dz_add (a := zz10) (b := (-(1 : Int32))) (by omega) (by omega)
    generalize (zz10 + (-(1 : Int32))) = zz11 at *
    have e7 := dz_mull (a := (1 : Int32)) (b := c261_many) 1 (by omega) (by omega) (by omega)
    generalize ((1 : Int32) * c261_many) = zz12 at *
    obtain ⟨k2, rfl⟩ : ∃ x, k1 = x + 1 := ⟨k1 - 1, by omega⟩
    rw [dz_Fu143]
    unfold s143_X2_renew_1
    refine dz_Tg (by omega) ?_
    refine dz_Tlt (fun h8 => ?_) (fun h8 => ?_)
    · skip
      have e9 := dz_ofn (n := n269) (by omega)
      refine dz_Tle (fun h10 => ?_) (fun h10 => ?_)
      · skip
        obtain ⟨k3, rfl⟩ : ∃ x, k2 = x + 1 := ⟨k2 - 1, by omega⟩
        show dz_T (s143_X2_renew_2 fu U c248_groups c248_pots c248_bars a252 a253 c261_many a262 (F143_X2_renew fu U c248_groups c248_pots c248_bars a252 a253 c261_many a262 k3).2.2.1 (F143_X2_renew fu U c248_groups c248_pots c248_bars a252 a253 c261_many a262 k3).2.2.2 0 zz12 c267_lawfulOnes (upd a268 zz10.toNatClampNeg (1 : Int32)) a269 n269 a270 n270 a271 a273) _
        unfold s143_X2_renew_2
        refine dz_Tg (by omega) ?_
        refine dz_Tb (t135_J7_fill_fda19 fu hfu _ _ _ _ _ 0 1023 (by first | assumption | omega) (by omega) (by omega) (by first | assumption | omega) (by omega) (by omega) (hr_a269)) (fun r1 q => ?_)
        have qa1_0 := q
        refine dz_Tle (fun h11 => ?_) (fun h11 => ?_)
        · skip
          exfalso; omega
        · skip
          exact (t143_X2_renew_I_g41 fu hfu U c248_groups c248_pots c248_bars a252 a253 c261_many a262 p0 p1 p2 p3 p4 p5 p6 p7 hr_a262 k3) (0 : Int32) 0 zz12 c267_lawfulOnes (upd a268 zz10.toNatClampNeg (1 : Int32)) r1 n269 a270 n270 a271 a273 (by omega) (by omega) (by first | assumption | omega) (by first | assumption | omega) (by first | assumption | omega) p8 (by first | assumption | omega) p10 (by first | assumption | omega) p12 p13 (by first | assumption | omega) (by omega) (qa1_0) (dz_ptmk1 ((dz_upk (j := zz10) 0 (by omega)).trans (by omega))) (by omega)
      · skip
        refine dz_Tng (by omega) ?_
        have e12 := dz_tn zz12
        refine dz_Tg (by omega) ?_
        refine dz_Tg (by omega) ?_
        refine dz_Tg (by omega) ?_
        refine dz_Tng (by omega) ?_
        refine dz_Tg (by omega) ?_
        refine dz_Tg (by omega) ?_
        refine dz_Tg (by omega) ?_
        obtain ⟨k4, rfl⟩ : ∃ x, k2 = x + 1 := ⟨k2 - 1, by omega⟩
        show dz_T (s143_X2_renew_2 fu U c248_groups c248_pots c248_bars a252 a253 c261_many a262 (F143_X2_renew fu U c248_groups c248_pots c248_bars a252 a253 c261_many a262 k4).2.2.1 (F143_X2_renew fu U c248_groups c248_pots c248_bars a252 a253 c261_many a262 k4).2.2.2 ((0 + zz12.toNatClampNeg) + zz12.toNatClampNeg) zz12 c267_lawfulOnes (upd a268 zz10.toNatClampNeg (1 : Int32)) (jw_l 0 []) zz12.toNatClampNeg (jw_l 0 []) zz12.toNatClampNeg a271 a273) _
        unfold s143_X2_renew_2
        refine dz_Tg (by omega) ?_
        refine dz_Tb (t135_J7_fill_fda19 fu hfu _ _ _ _ _ 0 0 (by first | assumption | omega) (by omega) (by omega) (by first | assumption | omega) (by omega) (by omega) (dz_rg0 (by omega) (by omega))) (fun r2 q => ?_)
        have qa2_0 := q
        refine dz_Tle (fun h13 => ?_) (fun h13 => ?_)
        · skip
          exfalso; omega
        · skip
          exact (t143_X2_renew_I_g41 fu hfu U c248_groups c248_pots c248_bars a252 a253 c261_many a262 p0 p1 p2 p3 p4 p5 p6 p7 hr_a262 k4) (0 : Int32) ((0 + zz12.toNatClampNeg) + zz12.toNatClampNeg) zz12 c267_lawfulOnes (upd a268 zz10.toNatClampNeg (1 : Int32)) r2 zz12.toNatClampNeg (jw_l 0 []) zz12.toNatClampNeg a271 a273 (by omega) (by omega) (by omega) (by first | assumption | omega) (by first | assumption | omega) (by first | assumption | omega) (by first | assumption | omega) (by first | assumption | omega) (by first | assumption | omega) (by first | assumption | omega) (by first | assumption | omega) (by omega) (by omega) (dz_rgm qa2_0 (by omega) (by omega)) (dz_ptmk1 ((dz_upk (j := zz10) 0 (by omega)).trans (by omega))) (by omega)
    · skip
      exfalso; omega
theorem t143_X2_renew_g41 (fu : Nat) (hfu : 1000000000000 ≤ fu) (U : Nat) (c248_groups : Int32) (c248_pots : Int32) (c248_bars : Int32) (a252 : Nat → Int32) (a253 : Nat → Int32) (c261_many : Int32) (a262 : Nat → Int32) (c267_total : Int32) (c267_lawfulOnes : Int32) (a268 : Nat → Int32) (a269 : Nat → Int32) (n269 : Nat) (a270 : Nat → Int32) (n270 : Nat) (a271 : Nat → Int32) (a273 : Nat → Int32) (p0 : c248_groups.toInt ≤ 4) (p1 : 4 ≤ c248_groups.toInt) (p2 : c248_pots.toInt ≤ 1) (p3 : 1 ≤ c248_pots.toInt) (p4 : c248_bars.toInt ≤ 10) (p5 : 0 ≤ c248_bars.toInt) (p6 : c261_many.toInt ≤ 24) (p7 : 24 ≤ c261_many.toInt) (p8 : ((n269 : Nat) : Int) ≤ 13824) (p9 : 1 ≤ ((n269 : Nat) : Int)) (p10 : ((n270 : Nat) : Int) ≤ 13824) (p11 : 1 ≤ ((n270 : Nat) : Int)) (p12 : ((n269 : Nat) : Int) ≤ ((n270 : Nat) : Int)) (p13 : ((n270 : Nat) : Int) ≤ ((n269 : Nat) : Int)) (hr_a262 : dz_rg a262 96 0 3) (hr_a269 : dz_rg a269 n269 0 1023) (o0 : (24 ≤ n269) ∨ 2 * 24 ≤ U) : dz_T (f143_X2_renew fu U c248_groups c248_pots c248_bars a252 a253 c261_many a262 c267_total c267_lawfulOnes a268 a269 n269 a270 n270 a271 a273) (fun r => r.1.toInt ≤ 24 ∧ 24 ≤ r.1.toInt ∧ r.2.1.toInt ≤ 24 ∧ 0 ≤ r.2.1.toInt ∧ ((r.2.2.2.2.1 : Nat) : Int) ≤ 13824 ∧ 24 ≤ ((r.2.2.2.2.1 : Nat) : Int) ∧ ((r.2.2.2.2.2.2.1 : Nat) : Int) ≤ 13824 ∧ 24 ≤ ((r.2.2.2.2.2.2.1 : Nat) : Int) ∧ ((r.2.2.2.2.1 : Nat) : Int) ≤ ((r.2.2.2.2.2.2.1 : Nat) : Int) ∧ ((r.2.2.2.2.2.2.1 : Nat) : Int) ≤ ((r.2.2.2.2.1 : Nat) : Int) ∧ dz_rg r.2.2.2.1 r.2.2.2.2.1 0 1023 ∧ dz_pt r.2.2.1 [1] ∧ dz_rg r.2.2.2.2.2.1 r.2.1.toInt.toNat 0 23 ∧ (r.1.toInt = 24)) :=
  t143_X2_renew_E_g41 fu hfu U c248_groups c248_pots c248_bars a252 a253 c261_many a262 c267_total c267_lawfulOnes a268 a269 n269 a270 n270 a271 a273 p0 p1 p2 p3 p4 p5 p6 p7 p8 p9 p10 p11 p12 p13 hr_a262 hr_a269 o0 fu hfu
abbrev p143_X2_renew_g42 (fu : Nat) (U : Nat) (c248_groups : Int32) (c248_pots : Int32) (c248_bars : Int32) (a252 : Nat → Int32) (a253 : Nat → Int32) (c261_many : Int32) (a262 : Nat → Int32) (k : Nat) : Prop :=
  (∀ (v1 : Int32) (sl : Nat) (c267_total : Int32) (c267_lawfulOnes : Int32) (a268 : Nat → Int32) (a269 : Nat → Int32) (n269 : Nat) (a270 : Nat → Int32) (n270 : Nat) (a271 : Nat → Int32) (a273 : Nat → Int32), v1.toInt ≤ 10 → 0 ≤ v1.toInt → ((sl : Nat) : Int) ≤ 1152 → c267_total.toInt ≤ 576 → 576 ≤ c267_total.toInt → ((n269 : Nat) : Int) ≤ 13824 → 576 ≤ ((n269 : Nat) : Int) → ((n270 : Nat) : Int) ≤ 13824 → 576 ≤ ((n270 : Nat) : Int) → ((n269 : Nat) : Int) ≤ ((n270 : Nat) : Int) → ((n270 : Nat) : Int) ≤ ((n269 : Nat) : Int) → ((sl : Nat) : Int) ≤ ((U : Nat) : Int) → v1.toInt ≤ c248_bars.toInt → dz_rg a269 n269 0 1023 → dz_pt a268 [24, 1] → 0 + 0 + (10 - v1.toInt) * 16 + 8 ≤ ((k : Nat) : Int) → dz_T ((F143_X2_renew fu U c248_groups c248_pots c248_bars a252 a253 c261_many a262 k).2.2.2 v1 sl c267_total c267_lawfulOnes a268 a269 n269 a270 n270 a271 a273) (fun r => r.1.toInt ≤ 576 ∧ 576 ≤ r.1.toInt ∧ r.2.1.toInt ≤ 576 ∧ 0 ≤ r.2.1.toInt ∧ ((r.2.2.2.2.1 : Nat) : Int) ≤ 13824 ∧ 576 ≤ ((r.2.2.2.2.1 : Nat) : Int) ∧ ((r.2.2.2.2.2.2.1 : Nat) : Int) ≤ 13824 ∧ 576 ≤ ((r.2.2.2.2.2.2.1 : Nat) : Int) ∧ ((r.2.2.2.2.1 : Nat) : Int) ≤ ((r.2.2.2.2.2.2.1 : Nat) : Int) ∧ ((r.2.2.2.2.2.2.1 : Nat) : Int) ≤ ((r.2.2.2.2.1 : Nat) : Int) ∧ dz_rg r.2.2.2.1 r.2.2.2.2.1 0 1023 ∧ dz_pt r.2.2.1 [24, 1] ∧ dz_rg r.2.2.2.2.2.1 r.2.1.toInt.toNat 0 575 ∧ (r.1.toInt = 576)))
set_option maxHeartbeats 1000000 in
set_option maxRecDepth 10000 in
theorem t143_X2_renew_h4_g42 (fu : Nat) (hfu : 1000000000000 ≤ fu) (U : Nat) (c248_groups : Int32) (c248_pots : Int32) (c248_bars : Int32) (a252 : Nat → Int32) (a253 : Nat → Int32) (c261_many : Int32) (a262 : Nat → Int32) (p0 : c248_groups.toInt ≤ 4) (p1 : 4 ≤ c248_groups.toInt) (p2 : c248_pots.toInt ≤ 2) (p3 : 2 ≤ c248_pots.toInt) (p4 : c248_bars.toInt ≤ 10) (p5 : 0 ≤ c248_bars.toInt) (p6 : c261_many.toInt ≤ 24) (p7 : 24 ≤ c261_many.toInt) (hr_a262 : dz_rg a262 96 0 3) (k : Nat) (ih : ∀ j9, j9 < k → p143_X2_renew_g42 fu U c248_groups c248_pots c248_bars a252 a253 c261_many a262 j9) : ∀ (v1 : Int32) (sl : Nat) (c267_total : Int32) (c267_lawfulOnes : Int32) (a268 : Nat → Int32) (a269 : Nat → Int32) (n269 : Nat) (a270 : Nat → Int32) (n270 : Nat) (a271 : Nat → Int32) (a273 : Nat → Int32), v1.toInt ≤ 10 → 0 ≤ v1.toInt → ((sl : Nat) : Int) ≤ 1152 → c267_total.toInt ≤ 576 → 576 ≤ c267_total.toInt → ((n269 : Nat) : Int) ≤ 13824 → 576 ≤ ((n269 : Nat) : Int) → ((n270 : Nat) : Int) ≤ 13824 → 576 ≤ ((n270 : Nat) : Int) → ((n269 : Nat) : Int) ≤ ((n270 : Nat) : Int) → ((n270 : Nat) : Int) ≤ ((n269 : Nat) : Int) → ((sl : Nat) : Int) ≤ ((U : Nat) : Int) → v1.toInt ≤ c248_bars.toInt → dz_rg a269 n269 0 1023 → dz_pt a268 [24, 1] → 0 + 0 + (10 - v1.toInt) * 16 + 8 ≤ ((k : Nat) : Int) → dz_T ((F143_X2_renew fu U c248_groups c248_pots c248_bars a252 a253 c261_many a262 k).2.2.2 v1 sl c267_total c267_lawfulOnes a268 a269 n269 a270 n270 a271 a273) (fun r => r.1.toInt ≤ 576 ∧ 576 ≤ r.1.toInt ∧ r.2.1.toInt ≤ 576 ∧ 0 ≤ r.2.1.toInt ∧ ((r.2.2.2.2.1 : Nat) : Int) ≤ 13824 ∧ 576 ≤ ((r.2.2.2.2.1 : Nat) : Int) ∧ ((r.2.2.2.2.2.2.1 : Nat) : Int) ≤ 13824 ∧ 576 ≤ ((r.2.2.2.2.2.2.1 : Nat) : Int) ∧ ((r.2.2.2.2.1 : Nat) : Int) ≤ ((r.2.2.2.2.2.2.1 : Nat) : Int) ∧ ((r.2.2.2.2.2.2.1 : Nat) : Int) ≤ ((r.2.2.2.2.1 : Nat) : Int) ∧ dz_rg r.2.2.2.1 r.2.2.2.2.1 0 1023 ∧ dz_pt r.2.2.1 [24, 1] ∧ dz_rg r.2.2.2.2.2.1 r.2.1.toInt.toNat 0 575 ∧ (r.1.toInt = 576)) := by
  intro v1 sl c267_total c267_lawfulOnes a268 a269 n269 a270 n270 a271 a273 i0 i1 i2 i3 i4 i5 i6 i7 i8 i9 i10 i11 i12 hr_a269 hr_a268 hm
  obtain ⟨k0, rfl⟩ : ∃ x, k = x + 1 := ⟨k - 1, by omega⟩
  show dz_T (s143_X2_renew_4 fu U c248_groups c248_pots c248_bars a252 a253 c261_many a262 (F143_X2_renew fu U c248_groups c248_pots c248_bars a252 a253 c261_many a262 k0).2.2.1 (F143_X2_renew fu U c248_groups c248_pots c248_bars a252 a253 c261_many a262 k0).2.2.2  v1 sl c267_total c267_lawfulOnes a268 a269 n269 a270 n270 a271 a273) _
  unfold s143_X2_renew_4
  refine dz_Tg (by omega) ?_
  refine dz_Tle (fun h1 => ?_) (fun h1 => ?_)
  · skip
    obtain ⟨k1, rfl⟩ : ∃ x, k0 = x + 1 := ⟨k0 - 1, by omega⟩
    show dz_T (s143_X2_renew_3 fu U c248_groups c248_pots c248_bars a252 a253 c261_many a262 sl c267_total c267_lawfulOnes a268 a269 n269 a270 n270 a271 a273) _
    unfold s143_X2_renew_3
    refine dz_Tg (by omega) ?_
    refine dz_Tb (t136_X2_listLawful_g42 fu hfu _ _ _ _ _ _ i3 i4 i5 (by first | assumption | omega) i7 (by first | assumption | omega) (by first | assumption | omega) (by first | assumption | omega) i9 i10 (hr_a269)) (fun r1 q => ?_)
    obtain ⟨q1_0, q1_1, qa1_1⟩ := q
    refine dz_Tb (t139_X2_tellWithin_g4 fu hfu _ _ _ _ _ p4 p5 (by first | assumption | omega) (by first | assumption | omega) i5 (by first | assumption | omega) (by first | assumption | omega) (hr_a269)) (fun r2 _ => ?_)
    refine dz_Ts ?_
    dsimp only
    exact ⟨i3, i4, q1_0, q1_1, i5, i6, i7, i8, i9, i10, (hr_a269), (hr_a268), (dz_rgs (qa1_1) (by omega)), (by omega)⟩
  · skip
    refine dz_Tin (by omega) (by omega) ?_
    refine dz_Tb (t140_X2_tellHeld_g4 fu hfu _ _ _ _ _ _ p0 p1 (by first | assumption | omega) (by first | assumption | omega) p6 p7 (hr_a262)) (fun r3 _ => ?_)
    refine dz_Tin (by omega) (by omega) ?_
    have e2 := dz_l1
    have e3 := dz_l31
    have e4 := dz_andr (a := v1) (b := (31 : Int32)) (by omega)
    have e5 := dz_andl (a := v1) (b := (31 : Int32)) (by omega)
    have e6 := dz_shl1 (b := v1) 0 9 (by omega) (by omega) (by omega)
    have e7 := dz_l30583
    have e8 := dz_rng (a253 v1.toNatClampNeg)
    refine dz_Tb (t142_X2_breakBar_g42 fu hfu _ _ _ _ _ _ _ _ _ p2 p3 p6 p7 i3 i4 i5 (by first | assumption | omega) (by first | assumption | omega) (by first | assumption | omega) (by omega) (by omega) (hr_a268) (hr_a269)) (fun r4 q => ?_)
    have qa4_0 := q
    have e9 := dz_add (a := v1) (b := (1 : Int32)) (by omega) (by omega)
    exact (ih k0 (by omega)) (v1 + (1 : Int32)) sl c267_total c267_lawfulOnes a268 r4 n269 a270 n270 a271 r3 (by omega) (by omega) i2 i3 i4 i5 i6 i7 i8 i9 i10 i11 (by omega) (qa4_0) (hr_a268) (by omega)
theorem t143_X2_renew_I_g42 (fu : Nat) (hfu : 1000000000000 ≤ fu) (U : Nat) (c248_groups : Int32) (c248_pots : Int32) (c248_bars : Int32) (a252 : Nat → Int32) (a253 : Nat → Int32) (c261_many : Int32) (a262 : Nat → Int32) (p0 : c248_groups.toInt ≤ 4) (p1 : 4 ≤ c248_groups.toInt) (p2 : c248_pots.toInt ≤ 2) (p3 : 2 ≤ c248_pots.toInt) (p4 : c248_bars.toInt ≤ 10) (p5 : 0 ≤ c248_bars.toInt) (p6 : c261_many.toInt ≤ 24) (p7 : 24 ≤ c261_many.toInt) (hr_a262 : dz_rg a262 96 0 3) (k : Nat) : p143_X2_renew_g42 fu U c248_groups c248_pots c248_bars a252 a253 c261_many a262 k := by
  induction k using Nat.strongRecOn with
  | _ k ih => exact t143_X2_renew_h4_g42 fu hfu U c248_groups c248_pots c248_bars a252 a253 c261_many a262 p0 p1 p2 p3 p4 p5 p6 p7 hr_a262 k ih
set_option maxHeartbeats 1000000 in
set_option maxRecDepth 10000 in
theorem t143_X2_renew_E_g42 (fu : Nat) (hfu : 1000000000000 ≤ fu) (U : Nat) (c248_groups : Int32) (c248_pots : Int32) (c248_bars : Int32) (a252 : Nat → Int32) (a253 : Nat → Int32) (c261_many : Int32) (a262 : Nat → Int32) (c267_total : Int32) (c267_lawfulOnes : Int32) (a268 : Nat → Int32) (a269 : Nat → Int32) (n269 : Nat) (a270 : Nat → Int32) (n270 : Nat) (a271 : Nat → Int32) (a273 : Nat → Int32) (p0 : c248_groups.toInt ≤ 4) (p1 : 4 ≤ c248_groups.toInt) (p2 : c248_pots.toInt ≤ 2) (p3 : 2 ≤ c248_pots.toInt) (p4 : c248_bars.toInt ≤ 10) (p5 : 0 ≤ c248_bars.toInt) (p6 : c261_many.toInt ≤ 24) (p7 : 24 ≤ c261_many.toInt) (p8 : ((n269 : Nat) : Int) ≤ 13824) (p9 : 1 ≤ ((n269 : Nat) : Int)) (p10 : ((n270 : Nat) : Int) ≤ 13824) (p11 : 1 ≤ ((n270 : Nat) : Int)) (p12 : ((n269 : Nat) : Int) ≤ ((n270 : Nat) : Int)) (p13 : ((n270 : Nat) : Int) ≤ ((n269 : Nat) : Int)) (hr_a262 : dz_rg a262 96 0 3) (hr_a269 : dz_rg a269 n269 0 1023) (o0 : (576 ≤ n269) ∨ 2 * 576 ≤ U) (kv : Nat) (hkv : 1000000000000 ≤ kv) : dz_T (s143_X2_renew_0 fu U c248_groups c248_pots c248_bars a252 a253 c261_many a262 (F143_X2_renew fu U c248_groups c248_pots c248_bars a252 a253 c261_many a262 kv).1  c267_total c267_lawfulOnes a268 a269 n269 a270 n270 a271 a273) (fun r => r.1.toInt ≤ 576 ∧ 576 ≤ r.1.toInt ∧ r.2.1.toInt ≤ 576 ∧ 0 ≤ r.2.1.toInt ∧ ((r.2.2.2.2.1 : Nat) : Int) ≤ 13824 ∧ 576 ≤ ((r.2.2.2.2.1 : Nat) : Int) ∧ ((r.2.2.2.2.2.2.1 : Nat) : Int) ≤ 13824 ∧ 576 ≤ ((r.2.2.2.2.2.2.1 : Nat) : Int) ∧ ((r.2.2.2.2.1 : Nat) : Int) ≤ ((r.2.2.2.2.2.2.1 : Nat) : Int) ∧ ((r.2.2.2.2.2.2.1 : Nat) : Int) ≤ ((r.2.2.2.2.1 : Nat) : Int) ∧ dz_rg r.2.2.2.1 r.2.2.2.2.1 0 1023 ∧ dz_pt r.2.2.1 [24, 1] ∧ dz_rg r.2.2.2.2.2.1 r.2.1.toInt.toNat 0 575 ∧ (r.1.toInt = 576)) := by
  unfold s143_X2_renew_0
  have e1 := dz_l1
  have e2 := dz_sub (a := c248_pots) (b := (1 : Int32)) (by omega) (by omega)
  generalize (c248_pots - (1 : Int32)) = zz16 at *
  obtain ⟨k1, rfl⟩ : ∃ x, kv = x + 1 := ⟨kv - 1, by omega⟩
  rw [dz_Fu143]
  unfold s143_X2_renew_1
  refine dz_Tg (by omega) ?_
  have e3 := dz_l0
  refine dz_Tlt (fun h4 => ?_) (fun h4 => ?_)
  · skip
    exfalso; omega
  · skip
    refine dz_Tin (by omega) (by omega) ?_
    have e5 := dz_lm1
    have e6 := dz_add (a := zz16) (b := (-(1 : Int32))) (by omega) (by omega)
    generalize (zz16 + (-(1 : Int32))) = zz17 at *
    have e7 := dz_mull (a := (1 : Int32)) (b := c261_many) 1 (by omega) (by omega) (by omega)
    generalize ((1 : Int32) * c261_many) = zz18 at *
    obtain ⟨k2, rfl⟩ : ∃ x, k1 = x + 1 := ⟨k1 - 1, by omega⟩
    rw [dz_Fu143]
    unfold s143_X2_renew_1
    refine dz_Tg (by omega) ?_
    refine dz_Tlt (fun h8 => ?_) (fun h8 => ?_)
    · skip
      exfalso; omega
    · skip
      refine dz_Tin (by omega) (by omega) ?_
      have e9 := dz_add (a := zz17) (b := (-(1 : Int32))) (by omega) (by omega)
      generalize (zz17 + (-(1 : Int32))) = zz19 at *
      have e10 := dz_mull (a := zz18) (b := c261_many) 24 (by omega) (by omega) (by omega)
      generalize (zz18 * c261_many) = zz20 at *
      obtain ⟨k3, rfl⟩ : ∃ x, k2 = x + 1 := ⟨k2 - 1, by omega⟩
      rw [dz_Fu143]
      unfold s143_X2_renew_1
      refine dz_Tg (by omega) ?_
      refine dz_Tlt (fun h11 => ?_) (fun h11 => ?_)
      · skip
        have e12 := dz_ofn (n := n269) (by omega)
        refine dz_Tle (fun h13 => ?_) (fun h13 => ?_)
        · skip
          obtain ⟨k4, rfl⟩ : ∃ x, k3 = x + 1 := ⟨k3 - 1, by omega⟩
          show dz_T (s143_X2_renew_2 fu U c248_groups c248_pots c248_bars a252 a253 c261_many a262 (F143_X2_renew fu U c248_groups c248_pots c248_bars a252 a253 c261_many a262 k4).2.2.1 (F143_X2_renew fu U c248_groups c248_pots c248_bars a252 a253 c261_many a262 k4).2.2.2 0 zz20 c267_lawfulOnes (upd (upd a268 zz16.toNatClampNeg (1 : Int32)) zz17.toNatClampNeg zz18) a269 n269 a270 n270 a271 a273) _
          unfold s143_X2_renew_2
          refine dz_Tg (by omega) ?_
          refine dz_Tb (t135_J7_fill_fda19 fu hfu _ _ _ _ _ 0 1023 (by first | assumption | omega) (by omega) (by omega) (by first | assumption | omega) (by omega) (by omega) (hr_a269)) (fun r1 q => ?_)
          have qa1_0 := q
          refine dz_Tle (fun h14 => ?_) (fun h14 => ?_)
          · skip
            exfalso; omega
          · skip
            exact (t143_X2_renew_I_g42 fu hfu U c248_groups c248_pots c248_bars a252 a253 c261_many a262 p0 p1 p2 p3 p4 p5 p6 p7 hr_a262 k4) (0 : Int32) 0 zz20 c267_lawfulOnes (upd (upd a268 zz16.toNatClampNeg (1 : Int32)) zz17.toNatClampNeg zz18) r1 n269 a270 n270 a271 a273 (by omega) (by omega) (by first | assumption | omega) (by first | assumption | omega) (by first | assumption | omega) p8 (by first | assumption | omega) p10 (by first | assumption | omega) p12 p13 (by first | assumption | omega) (by omega) (qa1_0) (dz_ptmk2 ((dz_upk (j := zz17) 0 (by omega)).trans (by omega)) ((dz_upo (j := zz17) 1 (by omega)).trans ((dz_upk (j := zz16) 1 (by omega)).trans (by omega)))) (by omega)
        · skip
          refine dz_Tng (by omega) ?_
          have e15 := dz_tn zz20
          refine dz_Tg (by omega) ?_
          refine dz_Tg (by omega) ?_
          refine dz_Tg (by omega) ?_
          refine dz_Tng (by omega) ?_
          refine dz_Tg (by omega) ?_
          refine dz_Tg (by omega) ?_
          refine dz_Tg (by omega) ?_
          obtain ⟨k5, rfl⟩ : ∃ x, k3 = x + 1 := ⟨k3 - 1, by omega⟩
          show dz_T (s143_X2_renew_2 fu U c248_groups c248_pots c248_bars a252 a253 c261_many a262 (F143_X2_renew fu U c248_groups c248_pots c248_bars a252 a253 c261_many a262 k5).2.2.1 (F143_X2_renew fu U c248_groups c248_pots c248_bars a252 a253 c261_many a262 k5).2.2.2 ((0 + zz20.toNatClampNeg) + zz20.toNatClampNeg) zz20 c267_lawfulOnes (upd (upd a268 zz16.toNatClampNeg (1 : Int32)) zz17.toNatClampNeg zz18) (jw_l 0 []) zz20.toNatClampNeg (jw_l 0 []) zz20.toNatClampNeg a271 a273) _
          unfold s143_X2_renew_2
          refine dz_Tg (by omega) ?_
          refine dz_Tb (t135_J7_fill_fda19 fu hfu _ _ _ _ _ 0 0 (by first | assumption | omega) (by omega) (by omega) (by first | assumption | omega) (by omega) (by omega) (dz_rg0 (by omega) (by omega))) (fun r2 q => ?_)
          have qa2_0 := q
          refine dz_Tle (fun h16 => ?_) (fun h16 => ?_)
          · skip
            exfalso; omega
          · skip
            exact (t143_X2_renew_I_g42 fu hfu U c248_groups c248_pots c248_bars a252 a253 c261_many a262 p0 p1 p2 p3 p4 p5 p6 p7 hr_a262 k5) (0 : Int32) ((0 + zz20.toNatClampNeg) + zz20.toNatClampNeg) zz20 c267_lawfulOnes (upd (upd a268 zz16.toNatClampNeg (1 : Int32)) zz17.toNatClampNeg zz18) r2 zz20.toNatClampNeg (jw_l 0 []) zz20.toNatClampNeg a271 a273 (by omega) (by omega) (by omega) (by first | assumption | omega) (by first | assumption | omega) (by first | assumption | omega) (by first | assumption | omega) (by first | assumption | omega) (by first | assumption | omega) (by first | assumption | omega) (by first | assumption | omega) (by omega) (by omega) (dz_rgm qa2_0 (by omega) (by omega)) (dz_ptmk2 ((dz_upk (j := zz17) 0 (by omega)).trans (by omega)) ((dz_upo (j := zz17) 1 (by omega)).trans ((dz_upk (j := zz16) 1 (by omega)).trans (by omega)))) (by omega)
      · skip
        exfalso; omega
theorem t143_X2_renew_g42 (fu : Nat) (hfu : 1000000000000 ≤ fu) (U : Nat) (c248_groups : Int32) (c248_pots : Int32) (c248_bars : Int32) (a252 : Nat → Int32) (a253 : Nat → Int32) (c261_many : Int32) (a262 : Nat → Int32) (c267_total : Int32) (c267_lawfulOnes : Int32) (a268 : Nat → Int32) (a269 : Nat → Int32) (n269 : Nat) (a270 : Nat → Int32) (n270 : Nat) (a271 : Nat → Int32) (a273 : Nat → Int32) (p0 : c248_groups.toInt ≤ 4) (p1 : 4 ≤ c248_groups.toInt) (p2 : c248_pots.toInt ≤ 2) (p3 : 2 ≤ c248_pots.toInt) (p4 : c248_bars.toInt ≤ 10) (p5 : 0 ≤ c248_bars.toInt) (p6 : c261_many.toInt ≤ 24) (p7 : 24 ≤ c261_many.toInt) (p8 : ((n269 : Nat) : Int) ≤ 13824) (p9 : 1 ≤ ((n269 : Nat) : Int)) (p10 : ((n270 : Nat) : Int) ≤ 13824) (p11 : 1 ≤ ((n270 : Nat) : Int)) (p12 : ((n269 : Nat) : Int) ≤ ((n270 : Nat) : Int)) (p13 : ((n270 : Nat) : Int) ≤ ((n269 : Nat) : Int)) (hr_a262 : dz_rg a262 96 0 3) (hr_a269 : dz_rg a269 n269 0 1023) (o0 : (576 ≤ n269) ∨ 2 * 576 ≤ U) : dz_T (f143_X2_renew fu U c248_groups c248_pots c248_bars a252 a253 c261_many a262 c267_total c267_lawfulOnes a268 a269 n269 a270 n270 a271 a273) (fun r => r.1.toInt ≤ 576 ∧ 576 ≤ r.1.toInt ∧ r.2.1.toInt ≤ 576 ∧ 0 ≤ r.2.1.toInt ∧ ((r.2.2.2.2.1 : Nat) : Int) ≤ 13824 ∧ 576 ≤ ((r.2.2.2.2.1 : Nat) : Int) ∧ ((r.2.2.2.2.2.2.1 : Nat) : Int) ≤ 13824 ∧ 576 ≤ ((r.2.2.2.2.2.2.1 : Nat) : Int) ∧ ((r.2.2.2.2.1 : Nat) : Int) ≤ ((r.2.2.2.2.2.2.1 : Nat) : Int) ∧ ((r.2.2.2.2.2.2.1 : Nat) : Int) ≤ ((r.2.2.2.2.1 : Nat) : Int) ∧ dz_rg r.2.2.2.1 r.2.2.2.2.1 0 1023 ∧ dz_pt r.2.2.1 [24, 1] ∧ dz_rg r.2.2.2.2.2.1 r.2.1.toInt.toNat 0 575 ∧ (r.1.toInt = 576)) :=
  t143_X2_renew_E_g42 fu hfu U c248_groups c248_pots c248_bars a252 a253 c261_many a262 c267_total c267_lawfulOnes a268 a269 n269 a270 n270 a271 a273 p0 p1 p2 p3 p4 p5 p6 p7 p8 p9 p10 p11 p12 p13 hr_a262 hr_a269 o0 fu hfu
abbrev p143_X2_renew_g43 (fu : Nat) (U : Nat) (c248_groups : Int32) (c248_pots : Int32) (c248_bars : Int32) (a252 : Nat → Int32) (a253 : Nat → Int32) (c261_many : Int32) (a262 : Nat → Int32) (k : Nat) : Prop :=
  (∀ (v1 : Int32) (sl : Nat) (c267_total : Int32) (c267_lawfulOnes : Int32) (a268 : Nat → Int32) (a269 : Nat → Int32) (n269 : Nat) (a270 : Nat → Int32) (n270 : Nat) (a271 : Nat → Int32) (a273 : Nat → Int32), v1.toInt ≤ 10 → 0 ≤ v1.toInt → ((sl : Nat) : Int) ≤ 27648 → c267_total.toInt ≤ 13824 → 13824 ≤ c267_total.toInt → ((n269 : Nat) : Int) ≤ 13824 → 13824 ≤ ((n269 : Nat) : Int) → ((n270 : Nat) : Int) ≤ 13824 → 13824 ≤ ((n270 : Nat) : Int) → ((sl : Nat) : Int) ≤ ((U : Nat) : Int) → v1.toInt ≤ c248_bars.toInt → dz_rg a269 n269 0 1023 → dz_pt a268 [576, 24, 1] → 0 + 0 + (10 - v1.toInt) * 16 + 8 ≤ ((k : Nat) : Int) → dz_T ((F143_X2_renew fu U c248_groups c248_pots c248_bars a252 a253 c261_many a262 k).2.2.2 v1 sl c267_total c267_lawfulOnes a268 a269 n269 a270 n270 a271 a273) (fun r => r.1.toInt ≤ 13824 ∧ 13824 ≤ r.1.toInt ∧ r.2.1.toInt ≤ 13824 ∧ 0 ≤ r.2.1.toInt ∧ ((r.2.2.2.2.1 : Nat) : Int) ≤ 13824 ∧ 13824 ≤ ((r.2.2.2.2.1 : Nat) : Int) ∧ ((r.2.2.2.2.2.2.1 : Nat) : Int) ≤ 13824 ∧ 13824 ≤ ((r.2.2.2.2.2.2.1 : Nat) : Int) ∧ dz_rg r.2.2.2.1 r.2.2.2.2.1 0 1023 ∧ dz_pt r.2.2.1 [576, 24, 1] ∧ dz_rg r.2.2.2.2.2.1 r.2.1.toInt.toNat 0 13823 ∧ (r.1.toInt = 13824)))
set_option maxHeartbeats 1000000 in
set_option maxRecDepth 10000 in
theorem t143_X2_renew_h4_g43 (fu : Nat) (hfu : 1000000000000 ≤ fu) (U : Nat) (c248_groups : Int32) (c248_pots : Int32) (c248_bars : Int32) (a252 : Nat → Int32) (a253 : Nat → Int32) (c261_many : Int32) (a262 : Nat → Int32) (p0 : c248_groups.toInt ≤ 4) (p1 : 4 ≤ c248_groups.toInt) (p2 : c248_pots.toInt ≤ 3) (p3 : 3 ≤ c248_pots.toInt) (p4 : c248_bars.toInt ≤ 10) (p5 : 0 ≤ c248_bars.toInt) (p6 : c261_many.toInt ≤ 24) (p7 : 24 ≤ c261_many.toInt) (hr_a262 : dz_rg a262 96 0 3) (k : Nat) (ih : ∀ j9, j9 < k → p143_X2_renew_g43 fu U c248_groups c248_pots c248_bars a252 a253 c261_many a262 j9) : ∀ (v1 : Int32) (sl : Nat) (c267_total : Int32) (c267_lawfulOnes : Int32) (a268 : Nat → Int32) (a269 : Nat → Int32) (n269 : Nat) (a270 : Nat → Int32) (n270 : Nat) (a271 : Nat → Int32) (a273 : Nat → Int32), v1.toInt ≤ 10 → 0 ≤ v1.toInt → ((sl : Nat) : Int) ≤ 27648 → c267_total.toInt ≤ 13824 → 13824 ≤ c267_total.toInt → ((n269 : Nat) : Int) ≤ 13824 → 13824 ≤ ((n269 : Nat) : Int) → ((n270 : Nat) : Int) ≤ 13824 → 13824 ≤ ((n270 : Nat) : Int) → ((sl : Nat) : Int) ≤ ((U : Nat) : Int) → v1.toInt ≤ c248_bars.toInt → dz_rg a269 n269 0 1023 → dz_pt a268 [576, 24, 1] → 0 + 0 + (10 - v1.toInt) * 16 + 8 ≤ ((k : Nat) : Int) → dz_T ((F143_X2_renew fu U c248_groups c248_pots c248_bars a252 a253 c261_many a262 k).2.2.2 v1 sl c267_total c267_lawfulOnes a268 a269 n269 a270 n270 a271 a273) (fun r => r.1.toInt ≤ 13824 ∧ 13824 ≤ r.1.toInt ∧ r.2.1.toInt ≤ 13824 ∧ 0 ≤ r.2.1.toInt ∧ ((r.2.2.2.2.1 : Nat) : Int) ≤ 13824 ∧ 13824 ≤ ((r.2.2.2.2.1 : Nat) : Int) ∧ ((r.2.2.2.2.2.2.1 : Nat) : Int) ≤ 13824 ∧ 13824 ≤ ((r.2.2.2.2.2.2.1 : Nat) : Int) ∧ dz_rg r.2.2.2.1 r.2.2.2.2.1 0 1023 ∧ dz_pt r.2.2.1 [576, 24, 1] ∧ dz_rg r.2.2.2.2.2.1 r.2.1.toInt.toNat 0 13823 ∧ (r.1.toInt = 13824)) := by
  intro v1 sl c267_total c267_lawfulOnes a268 a269 n269 a270 n270 a271 a273 i0 i1 i2 i3 i4 i5 i6 i7 i8 i9 i10 hr_a269 hr_a268 hm
  obtain ⟨k0, rfl⟩ : ∃ x, k = x + 1 := ⟨k - 1, by omega⟩
  show dz_T (s143_X2_renew_4 fu U c248_groups c248_pots c248_bars a252 a253 c261_many a262 (F143_X2_renew fu U c248_groups c248_pots c248_bars a252 a253 c261_many a262 k0).2.2.1 (F143_X2_renew fu U c248_groups c248_pots c248_bars a252 a253 c261_many a262 k0).2.2.2  v1 sl c267_total c267_lawfulOnes a268 a269 n269 a270 n270 a271 a273) _
  unfold s143_X2_renew_4
  refine dz_Tg (by omega) ?_
  refine dz_Tle (fun h1 => ?_) (fun h1 => ?_)
  · skip
    obtain ⟨k1, rfl⟩ : ∃ x, k0 = x + 1 := ⟨k0 - 1, by omega⟩
    show dz_T (s143_X2_renew_3 fu U c248_groups c248_pots c248_bars a252 a253 c261_many a262 sl c267_total c267_lawfulOnes a268 a269 n269 a270 n270 a271 a273) _
    unfold s143_X2_renew_3
    refine dz_Tg (by omega) ?_
    refine dz_Tb (t136_X2_listLawful_g43 fu hfu _ _ _ _ _ _ i3 i4 i5 (by first | assumption | omega) i7 (by first | assumption | omega) (by first | assumption | omega) (by first | assumption | omega) (by first | assumption | omega) (by first | assumption | omega) (hr_a269)) (fun r1 q => ?_)
    obtain ⟨q1_0, q1_1, qa1_1⟩ := q
    refine dz_Tb (t139_X2_tellWithin_g4 fu hfu _ _ _ _ _ p4 p5 i3 (by first | assumption | omega) i5 (by first | assumption | omega) (by first | assumption | omega) (hr_a269)) (fun r2 _ => ?_)
    refine dz_Ts ?_
    dsimp only
    exact ⟨i3, i4, q1_0, q1_1, i5, i6, i7, i8, (hr_a269), (hr_a268), (dz_rgs (qa1_1) (by omega)), (by omega)⟩
  · skip
    refine dz_Tin (by omega) (by omega) ?_
    refine dz_Tb (t140_X2_tellHeld_g4 fu hfu _ _ _ _ _ _ p0 p1 p2 (by first | assumption | omega) p6 p7 (hr_a262)) (fun r3 _ => ?_)
    refine dz_Tin (by omega) (by omega) ?_
    have e2 := dz_l1
    have e3 := dz_l31
    have e4 := dz_andr (a := v1) (b := (31 : Int32)) (by omega)
    have e5 := dz_andl (a := v1) (b := (31 : Int32)) (by omega)
    have e6 := dz_shl1 (b := v1) 0 9 (by omega) (by omega) (by omega)
    have e7 := dz_l30583
    have e8 := dz_rng (a253 v1.toNatClampNeg)
    refine dz_Tb (t142_X2_breakBar_g43 fu hfu _ _ _ _ _ _ _ _ _ p2 p3 p6 p7 i3 i4 i5 (by first | assumption | omega) (by first | assumption | omega) (by first | assumption | omega) (by omega) (by omega) (hr_a268) (hr_a269)) (fun r4 q => ?_)
    have qa4_0 := q
    have e9 := dz_add (a := v1) (b := (1 : Int32)) (by omega) (by omega)
    exact (ih k0 (by omega)) (v1 + (1 : Int32)) sl c267_total c267_lawfulOnes a268 r4 n269 a270 n270 a271 r3 (by omega) (by omega) i2 i3 i4 i5 i6 i7 i8 i9 (by omega) (qa4_0) (hr_a268) (by omega)
theorem t143_X2_renew_I_g43 (fu : Nat) (hfu : 1000000000000 ≤ fu) (U : Nat) (c248_groups : Int32) (c248_pots : Int32) (c248_bars : Int32) (a252 : Nat → Int32) (a253 : Nat → Int32) (c261_many : Int32) (a262 : Nat → Int32) (p0 : c248_groups.toInt ≤ 4) (p1 : 4 ≤ c248_groups.toInt) (p2 : c248_pots.toInt ≤ 3) (p3 : 3 ≤ c248_pots.toInt) (p4 : c248_bars.toInt ≤ 10) (p5 : 0 ≤ c248_bars.toInt) (p6 : c261_many.toInt ≤ 24) (p7 : 24 ≤ c261_many.toInt) (hr_a262 : dz_rg a262 96 0 3) (k : Nat) : p143_X2_renew_g43 fu U c248_groups c248_pots c248_bars a252 a253 c261_many a262 k := by
  induction k using Nat.strongRecOn with
  | _ k ih => exact t143_X2_renew_h4_g43 fu hfu U c248_groups c248_pots c248_bars a252 a253 c261_many a262 p0 p1 p2 p3 p4 p5 p6 p7 hr_a262 k ih
set_option maxHeartbeats 1000000 in
set_option maxRecDepth 10000 in
theorem t143_X2_renew_E_g43 (fu : Nat) (hfu : 1000000000000 ≤ fu) (U : Nat) (c248_groups : Int32) (c248_pots : Int32) (c248_bars : Int32) (a252 : Nat → Int32) (a253 : Nat → Int32) (c261_many : Int32) (a262 : Nat → Int32) (c267_total : Int32) (c267_lawfulOnes : Int32) (a268 : Nat → Int32) (a269 : Nat → Int32) (n269 : Nat) (a270 : Nat → Int32) (n270 : Nat) (a271 : Nat → Int32) (a273 : Nat → Int32) (p0 : c248_groups.toInt ≤ 4) (p1 : 4 ≤ c248_groups.toInt) (p2 : c248_pots.toInt ≤ 3) (p3 : 3 ≤ c248_pots.toInt) (p4 : c248_bars.toInt ≤ 10) (p5 : 0 ≤ c248_bars.toInt) (p6 : c261_many.toInt ≤ 24) (p7 : 24 ≤ c261_many.toInt) (p8 : ((n269 : Nat) : Int) ≤ 13824) (p9 : 1 ≤ ((n269 : Nat) : Int)) (p10 : ((n270 : Nat) : Int) ≤ 13824) (p11 : 1 ≤ ((n270 : Nat) : Int)) (p12 : ((n269 : Nat) : Int) ≤ ((n270 : Nat) : Int)) (p13 : ((n270 : Nat) : Int) ≤ ((n269 : Nat) : Int)) (hr_a262 : dz_rg a262 96 0 3) (hr_a269 : dz_rg a269 n269 0 1023) (o0 : (13824 ≤ n269) ∨ 2 * 13824 ≤ U) (kv : Nat) (hkv : 1000000000000 ≤ kv) : dz_T (s143_X2_renew_0 fu U c248_groups c248_pots c248_bars a252 a253 c261_many a262 (F143_X2_renew fu U c248_groups c248_pots c248_bars a252 a253 c261_many a262 kv).1  c267_total c267_lawfulOnes a268 a269 n269 a270 n270 a271 a273) (fun r => r.1.toInt ≤ 13824 ∧ 13824 ≤ r.1.toInt ∧ r.2.1.toInt ≤ 13824 ∧ 0 ≤ r.2.1.toInt ∧ ((r.2.2.2.2.1 : Nat) : Int) ≤ 13824 ∧ 13824 ≤ ((r.2.2.2.2.1 : Nat) : Int) ∧ ((r.2.2.2.2.2.2.1 : Nat) : Int) ≤ 13824 ∧ 13824 ≤ ((r.2.2.2.2.2.2.1 : Nat) : Int) ∧ dz_rg r.2.2.2.1 r.2.2.2.2.1 0 1023 ∧ dz_pt r.2.2.1 [576, 24, 1] ∧ dz_rg r.2.2.2.2.2.1 r.2.1.toInt.toNat 0 13823 ∧ (r.1.toInt = 13824)) := by
  unfold s143_X2_renew_0
  have e1 := dz_l1
  have e2 := dz_sub (a := c248_pots) (b := (1 : Int32)) (by omega) (by omega)
  generalize (c248_pots - (1 : Int32)) = zz22 at *
  obtain ⟨k1, rfl⟩ : ∃ x, kv = x + 1 := ⟨kv - 1, by omega⟩
  rw [dz_Fu143]
  unfold s143_X2_renew_1
  refine dz_Tg (by omega) ?_
  have e3 := dz_l0
  refine dz_Tlt (fun h4 => ?_) (fun h4 => ?_)
  · skip
    exfalso; omega
  · skip
    refine dz_Tin (by omega) (by omega) ?_
    have e5 := dz_lm1
    have e6 := dz_add (a := zz22) (b := (-(1 : Int32))) (by omega) (by omega)
    generalize (zz22 + (-(1 : Int32))) = zz23 at *
    have e7 := dz_mull (a := (1 : Int32)) (b := c261_many) 1 (by omega) (by omega) (by omega)
    generalize ((1 : Int32) * c261_many) = zz24 at *
    obtain ⟨k2, rfl⟩ : ∃ x, k1 = x + 1 := ⟨k1 - 1, by omega⟩
    rw [dz_Fu143]
    unfold s143_X2_renew_1
    refine dz_Tg (by omega) ?_
    refine dz_Tlt (fun h8 => ?_) (fun h8 => ?_)
    · skip
      exfalso; omega
    · skip
      refine dz_Tin (by omega) (by omega) ?_
      have e9 := dz_add (a := zz23) (b := (-(1 : Int32))) (by omega) (by omega)
      generalize (zz23 + (-(1 : Int32))) = zz25 at *
      have e10 := dz_mull (a := zz24) (b := c261_many) 24 (by omega) (by omega) (by omega)
      generalize (zz24 * c261_many) = zz26 at *
      obtain ⟨k3, rfl⟩ : ∃ x, k2 = x + 1 := ⟨k2 - 1, by omega⟩
      rw [dz_Fu143]
      unfold s143_X2_renew_1
      refine dz_Tg (by omega) ?_
      refine dz_Tlt (fun h11 => ?_) (fun h11 => ?_)
      · skip
        exfalso; omega
      · skip
        refine dz_Tin (by omega) (by omega) ?_
        have e12 := dz_add (a := zz25) (b := (-(1 : Int32))) (by omega) (by omega)
        generalize (zz25 + (-(1 : Int32))) = zz27 at *
        have e13 := dz_mull (a := zz26) (b := c261_many) 576 (by omega) (by omega) (by omega)
        generalize (zz26 * c261_many) = zz28 at *
        obtain ⟨k4, rfl⟩ : ∃ x, k3 = x + 1 := ⟨k3 - 1, by omega⟩
        rw [dz_Fu143]
        unfold s143_X2_renew_1
        refine dz_Tg (by omega) ?_
        refine dz_Tlt (fun h14 => ?_) (fun h14 => ?_)
        · skip
          have e15 := dz_ofn (n := n269) (by omega)
          refine dz_Tle (fun h16 => ?_) (fun h16 => ?_)
          · skip
            obtain ⟨k5, rfl⟩ : ∃ x, k4 = x + 1 := ⟨k4 - 1, by omega⟩
            show dz_T (s143_X2_renew_2 fu U c248_groups c248_pots c248_bars a252 a253 c261_many a262 (F143_X2_renew fu U c248_groups c248_pots c248_bars a252 a253 c261_many a262 k5).2.2.1 (F143_X2_renew fu U c248_groups c248_pots c248_bars a252 a253 c261_many a262 k5).2.2.2 0 zz28 c267_lawfulOnes (upd (upd (upd a268 zz22.toNatClampNeg (1 : Int32)) zz23.toNatClampNeg zz24) zz25.toNatClampNeg zz26) a269 n269 a270 n270 a271 a273) _
            unfold s143_X2_renew_2
            refine dz_Tg (by omega) ?_
            refine dz_Tb (t135_J7_fill_fda19 fu hfu _ _ _ _ _ 0 1023 (by first | assumption | omega) (by omega) (by omega) (by first | assumption | omega) (by omega) (by omega) (hr_a269)) (fun r1 q => ?_)
            have qa1_0 := q
            refine dz_Tle (fun h17 => ?_) (fun h17 => ?_)
            · skip
              exfalso; omega
            · skip
              exact (t143_X2_renew_I_g43 fu hfu U c248_groups c248_pots c248_bars a252 a253 c261_many a262 p0 p1 p2 p3 p4 p5 p6 p7 hr_a262 k5) (0 : Int32) 0 zz28 c267_lawfulOnes (upd (upd (upd a268 zz22.toNatClampNeg (1 : Int32)) zz23.toNatClampNeg zz24) zz25.toNatClampNeg zz26) r1 n269 a270 n270 a271 a273 (by omega) (by omega) (by first | assumption | omega) (by first | assumption | omega) (by first | assumption | omega) p8 (by first | assumption | omega) p10 (by first | assumption | omega) (by first | assumption | omega) (by omega) (qa1_0) (dz_ptmk3 ((dz_upk (j := zz25) 0 (by omega)).trans (by omega)) ((dz_upo (j := zz25) 1 (by omega)).trans ((dz_upk (j := zz23) 1 (by omega)).trans (by omega))) ((dz_upo (j := zz25) 2 (by omega)).trans ((dz_upo (j := zz23) 2 (by omega)).trans ((dz_upk (j := zz22) 2 (by omega)).trans (by omega))))) (by omega)
          · skip
            refine dz_Tng (by omega) ?_
            have e18 := dz_tn zz28
            refine dz_Tg (by omega) ?_
            refine dz_Tg (by omega) ?_
            refine dz_Tg (by omega) ?_
            refine dz_Tng (by omega) ?_
            refine dz_Tg (by omega) ?_
            refine dz_Tg (by omega) ?_
            refine dz_Tg (by omega) ?_
            obtain ⟨k6, rfl⟩ : ∃ x, k4 = x + 1 := ⟨k4 - 1, by omega⟩
            show dz_T (s143_X2_renew_2 fu U c248_groups c248_pots c248_bars a252 a253 c261_many a262 (F143_X2_renew fu U c248_groups c248_pots c248_bars a252 a253 c261_many a262 k6).2.2.1 (F143_X2_renew fu U c248_groups c248_pots c248_bars a252 a253 c261_many a262 k6).2.2.2 ((0 + zz28.toNatClampNeg) + zz28.toNatClampNeg) zz28 c267_lawfulOnes (upd (upd (upd a268 zz22.toNatClampNeg (1 : Int32)) zz23.toNatClampNeg zz24) zz25.toNatClampNeg zz26) (jw_l 0 []) zz28.toNatClampNeg (jw_l 0 []) zz28.toNatClampNeg a271 a273) _
            unfold s143_X2_renew_2
            refine dz_Tg (by omega) ?_
            refine dz_Tb (t135_J7_fill_fda19 fu hfu _ _ _ _ _ 0 0 (by first | assumption | omega) (by omega) (by omega) (by first | assumption | omega) (by omega) (by omega) (dz_rg0 (by omega) (by omega))) (fun r2 q => ?_)
            have qa2_0 := q
            refine dz_Tle (fun h19 => ?_) (fun h19 => ?_)
            · skip
              exfalso; omega
            · skip
              exact (t143_X2_renew_I_g43 fu hfu U c248_groups c248_pots c248_bars a252 a253 c261_many a262 p0 p1 p2 p3 p4 p5 p6 p7 hr_a262 k6) (0 : Int32) ((0 + zz28.toNatClampNeg) + zz28.toNatClampNeg) zz28 c267_lawfulOnes (upd (upd (upd a268 zz22.toNatClampNeg (1 : Int32)) zz23.toNatClampNeg zz24) zz25.toNatClampNeg zz26) r2 zz28.toNatClampNeg (jw_l 0 []) zz28.toNatClampNeg a271 a273 (by omega) (by omega) (by omega) (by first | assumption | omega) (by first | assumption | omega) (by first | assumption | omega) (by first | assumption | omega) (by first | assumption | omega) (by first | assumption | omega) (by omega) (by omega) (dz_rgm qa2_0 (by omega) (by omega)) (dz_ptmk3 ((dz_upk (j := zz25) 0 (by omega)).trans (by omega)) ((dz_upo (j := zz25) 1 (by omega)).trans ((dz_upk (j := zz23) 1 (by omega)).trans (by omega))) ((dz_upo (j := zz25) 2 (by omega)).trans ((dz_upo (j := zz23) 2 (by omega)).trans ((dz_upk (j := zz22) 2 (by omega)).trans (by omega))))) (by omega)
        · skip
          exfalso; omega
theorem t143_X2_renew_g43 (fu : Nat) (hfu : 1000000000000 ≤ fu) (U : Nat) (c248_groups : Int32) (c248_pots : Int32) (c248_bars : Int32) (a252 : Nat → Int32) (a253 : Nat → Int32) (c261_many : Int32) (a262 : Nat → Int32) (c267_total : Int32) (c267_lawfulOnes : Int32) (a268 : Nat → Int32) (a269 : Nat → Int32) (n269 : Nat) (a270 : Nat → Int32) (n270 : Nat) (a271 : Nat → Int32) (a273 : Nat → Int32) (p0 : c248_groups.toInt ≤ 4) (p1 : 4 ≤ c248_groups.toInt) (p2 : c248_pots.toInt ≤ 3) (p3 : 3 ≤ c248_pots.toInt) (p4 : c248_bars.toInt ≤ 10) (p5 : 0 ≤ c248_bars.toInt) (p6 : c261_many.toInt ≤ 24) (p7 : 24 ≤ c261_many.toInt) (p8 : ((n269 : Nat) : Int) ≤ 13824) (p9 : 1 ≤ ((n269 : Nat) : Int)) (p10 : ((n270 : Nat) : Int) ≤ 13824) (p11 : 1 ≤ ((n270 : Nat) : Int)) (p12 : ((n269 : Nat) : Int) ≤ ((n270 : Nat) : Int)) (p13 : ((n270 : Nat) : Int) ≤ ((n269 : Nat) : Int)) (hr_a262 : dz_rg a262 96 0 3) (hr_a269 : dz_rg a269 n269 0 1023) (o0 : (13824 ≤ n269) ∨ 2 * 13824 ≤ U) : dz_T (f143_X2_renew fu U c248_groups c248_pots c248_bars a252 a253 c261_many a262 c267_total c267_lawfulOnes a268 a269 n269 a270 n270 a271 a273) (fun r => r.1.toInt ≤ 13824 ∧ 13824 ≤ r.1.toInt ∧ r.2.1.toInt ≤ 13824 ∧ 0 ≤ r.2.1.toInt ∧ ((r.2.2.2.2.1 : Nat) : Int) ≤ 13824 ∧ 13824 ≤ ((r.2.2.2.2.1 : Nat) : Int) ∧ ((r.2.2.2.2.2.2.1 : Nat) : Int) ≤ 13824 ∧ 13824 ≤ ((r.2.2.2.2.2.2.1 : Nat) : Int) ∧ dz_rg r.2.2.2.1 r.2.2.2.2.1 0 1023 ∧ dz_pt r.2.2.1 [576, 24, 1] ∧ dz_rg r.2.2.2.2.2.1 r.2.1.toInt.toNat 0 13823 ∧ (r.1.toInt = 13824)) :=
  t143_X2_renew_E_g43 fu hfu U c248_groups c248_pots c248_bars a252 a253 c261_many a262 c267_total c267_lawfulOnes a268 a269 n269 a270 n270 a271 a273 p0 p1 p2 p3 p4 p5 p6 p7 p8 p9 p10 p11 p12 p13 hr_a262 hr_a269 o0 fu hfu
set_option maxHeartbeats 1000000 in
theorem t143_X2_renew_s (fu : Nat) (hfu : 1000000000000 ≤ fu) (κ : Nat) (hκ : κ < 14) (U : Nat) (c248_groups : Int32) (c248_pots : Int32) (c248_bars : Int32) (a252 : Nat → Int32) (a253 : Nat → Int32) (c261_many : Int32) (a262 : Nat → Int32) (c267_total : Int32) (c267_lawfulOnes : Int32) (a268 : Nat → Int32) (a269 : Nat → Int32) (n269 : Nat) (a270 : Nat → Int32) (n270 : Nat) (a271 : Nat → Int32) (a273 : Nat → Int32) (p0 : c248_groups.toInt ≤ 4) (p1 : 2 ≤ c248_groups.toInt) (p2 : c248_pots.toInt ≤ 4) (p3 : 0 ≤ c248_pots.toInt) (p4 : c248_bars.toInt ≤ 10) (p5 : 0 ≤ c248_bars.toInt) (p6 : c261_many.toInt ≤ 24) (p7 : 0 ≤ c261_many.toInt) (p8 : ((n269 : Nat) : Int) ≤ 13824) (p9 : 1 ≤ ((n269 : Nat) : Int)) (p10 : ((n270 : Nat) : Int) ≤ 13824) (p11 : 1 ≤ ((n270 : Nat) : Int)) (p12 : ((n269 : Nat) : Int) ≤ ((n270 : Nat) : Int)) (p13 : ((n270 : Nat) : Int) ≤ ((n269 : Nat) : Int)) (hr_a262 : dz_rg a262 96 0 3) (hr_a269 : dz_rg a269 n269 0 1023) (o0 : (((dz_kt κ : Nat) : Int) ≤ n269) ∨ 2 * ((dz_kt κ : Nat) : Int) ≤ U) (o1 : c248_groups.toInt = ((dz_kg κ : Nat) : Int)) (o2 : c248_pots.toInt = ((dz_kp κ : Nat) : Int)) (o3 : c261_many.toInt = ((dz_kr κ : Nat) : Int)) : dz_T (f143_X2_renew fu U c248_groups c248_pots c248_bars a252 a253 c261_many a262 c267_total c267_lawfulOnes a268 a269 n269 a270 n270 a271 a273) (fun r => r.1.toInt ≤ 13824 ∧ 1 ≤ r.1.toInt ∧ r.2.1.toInt ≤ 13824 ∧ 0 ≤ r.2.1.toInt ∧ ((r.2.2.2.2.1 : Nat) : Int) ≤ 13824 ∧ 1 ≤ ((r.2.2.2.2.1 : Nat) : Int) ∧ ((r.2.2.2.2.2.2.1 : Nat) : Int) ≤ 13824 ∧ 1 ≤ ((r.2.2.2.2.2.2.1 : Nat) : Int) ∧ c248_pots.toInt + 1 ≤ r.1.toInt ∧ c248_pots.toInt + 1 ≤ ((r.2.2.2.2.1 : Nat) : Int) ∧ c248_pots.toInt + 1 ≤ ((r.2.2.2.2.2.2.1 : Nat) : Int) ∧ r.1.toInt ≤ ((r.2.2.2.2.1 : Nat) : Int) ∧ r.1.toInt ≤ ((r.2.2.2.2.2.2.1 : Nat) : Int) ∧ r.2.1.toInt ≤ r.1.toInt ∧ ((r.2.2.2.2.1 : Nat) : Int) ≤ ((r.2.2.2.2.2.2.1 : Nat) : Int) ∧ ((r.2.2.2.2.2.2.1 : Nat) : Int) ≤ ((r.2.2.2.2.1 : Nat) : Int) ∧ dz_rg r.2.2.2.1 r.2.2.2.2.1 0 1023 ∧ dz_rg r.2.2.2.2.2.1 r.2.1.toInt.toNat 0 (((dz_kt κ : Nat) : Int) - 1) ∧ dz_pt r.2.2.1 (dz_kS κ) ∧ (r.1.toInt = ((dz_kt κ : Nat) : Int))) := by
  rcases (show κ = 0 ∨ κ = 1 ∨ κ = 2 ∨ κ = 3 ∨ κ = 4 ∨ κ = 5 ∨ κ = 6 ∨ κ = 7 ∨ κ = 8 ∨ κ = 9 ∨ κ = 10 ∨ κ = 11 ∨ κ = 12 ∨ κ = 13 by omega) with rfl | rfl | rfl | rfl | rfl | rfl | rfl | rfl | rfl | rfl | rfl | rfl | rfl | rfl
  · skip
    have o0 : ((1 : Int) ≤ n269) ∨ 2 * (1 : Int) ≤ U := o0
    have o1 : c248_groups.toInt = (2 : Int) := o1
    have o2 : c248_pots.toInt = (0 : Int) := o2
    have o3 : c261_many.toInt = (2 : Int) := o3
    have hdz_kt : ((dz_kt 0 : Nat) : Int) = (1 : Int) := rfl
    refine dz_Tw (t143_X2_renew_g20 fu hfu U c248_groups c248_pots c248_bars a252 a253 c261_many a262 c267_total c267_lawfulOnes a268 a269 n269 a270 n270 a271 a273 (by first | assumption | omega) (by first | assumption | omega) (by first | assumption | omega) (by first | assumption | omega) (by first | assumption | omega) (by first | assumption | omega) (by first | assumption | omega) (by first | assumption | omega) (by first | assumption | omega) (by first | assumption | omega) (by first | assumption | omega) (by first | assumption | omega) (by first | assumption | omega) (by first | assumption | omega) (by first | exact hr_a262 | exact dz_rgm hr_a262 (by omega) (by omega) | exact dz_pmr hr_a262 (by decide) (by omega) (by omega) (by omega) | exact dz_ptr hr_a262 (by decide) (by decide) (by omega) | exact dz_ptr hr_a262 (by decide) (by decide) (by show _ ≤ 0; omega) | exact dz_rgs hr_a262 (by omega)) (by first | exact hr_a269 | exact dz_rgm hr_a269 (by omega) (by omega) | exact dz_pmr hr_a269 (by decide) (by omega) (by omega) (by omega) | exact dz_ptr hr_a269 (by decide) (by decide) (by omega) | exact dz_ptr hr_a269 (by decide) (by decide) (by show _ ≤ 0; omega) | exact dz_rgs hr_a269 (by omega)) (by first | assumption | omega)) (fun r h => ?_)
    obtain ⟨g0, g1, g2, g3, g4, g5, g6, g7, g8, g9, g10, g11, g12⟩ := h
    exact ⟨(by first | assumption | omega), (by first | assumption | omega), (by first | assumption | omega), (by first | assumption | omega), (by first | assumption | omega), (by first | assumption | omega), (by first | assumption | omega), (by first | assumption | omega), (by first | assumption | omega), (by first | assumption | omega), (by first | assumption | omega), (by first | assumption | omega), (by first | assumption | omega), (by first | assumption | omega), (by first | assumption | omega), (by first | assumption | omega), (by first | exact g10 | exact dz_rgm g10 (by omega) (by omega)), (by first | exact g11 | exact dz_rgm g11 (by omega) (by omega)), dz_ptmk0, (by first | assumption | omega)⟩
  · skip
    have o0 : ((2 : Int) ≤ n269) ∨ 2 * (2 : Int) ≤ U := o0
    have o1 : c248_groups.toInt = (2 : Int) := o1
    have o2 : c248_pots.toInt = (1 : Int) := o2
    have o3 : c261_many.toInt = (2 : Int) := o3
    have hdz_kt : ((dz_kt 1 : Nat) : Int) = (2 : Int) := rfl
    refine dz_Tw (t143_X2_renew_g21 fu hfu U c248_groups c248_pots c248_bars a252 a253 c261_many a262 c267_total c267_lawfulOnes a268 a269 n269 a270 n270 a271 a273 (by first | assumption | omega) (by first | assumption | omega) (by first | assumption | omega) (by first | assumption | omega) (by first | assumption | omega) (by first | assumption | omega) (by first | assumption | omega) (by first | assumption | omega) (by first | assumption | omega) (by first | assumption | omega) (by first | assumption | omega) (by first | assumption | omega) (by first | assumption | omega) (by first | assumption | omega) (by first | exact hr_a262 | exact dz_rgm hr_a262 (by omega) (by omega) | exact dz_pmr hr_a262 (by decide) (by omega) (by omega) (by omega) | exact dz_ptr hr_a262 (by decide) (by decide) (by omega) | exact dz_ptr hr_a262 (by decide) (by decide) (by show _ ≤ 1; omega) | exact dz_rgs hr_a262 (by omega)) (by first | exact hr_a269 | exact dz_rgm hr_a269 (by omega) (by omega) | exact dz_pmr hr_a269 (by decide) (by omega) (by omega) (by omega) | exact dz_ptr hr_a269 (by decide) (by decide) (by omega) | exact dz_ptr hr_a269 (by decide) (by decide) (by show _ ≤ 1; omega) | exact dz_rgs hr_a269 (by omega)) (by first | assumption | omega)) (fun r h => ?_)
    obtain ⟨g0, g1, g2, g3, g4, g5, g6, g7, g8, g9, g10, g11, g12, g13⟩ := h
    exact ⟨(by first | assumption | omega), (by first | assumption | omega), (by first | assumption | omega), (by first | assumption | omega), (by first | assumption | omega), (by first | assumption | omega), (by first | assumption | omega), (by first | assumption | omega), (by first | assumption | omega), (by first | assumption | omega), (by first | assumption | omega), (by first | assumption | omega), (by first | assumption | omega), (by first | assumption | omega), (by first | assumption | omega), (by first | assumption | omega), (by first | exact g10 | exact dz_rgm g10 (by omega) (by omega)), (by first | exact g12 | exact dz_rgm g12 (by omega) (by omega)), (by first | exact g11 | exact dz_rgm g11 (by omega) (by omega)), (by first | assumption | omega)⟩
  · skip
    have o0 : ((4 : Int) ≤ n269) ∨ 2 * (4 : Int) ≤ U := o0
    have o1 : c248_groups.toInt = (2 : Int) := o1
    have o2 : c248_pots.toInt = (2 : Int) := o2
    have o3 : c261_many.toInt = (2 : Int) := o3
    have hdz_kt : ((dz_kt 2 : Nat) : Int) = (4 : Int) := rfl
    refine dz_Tw (t143_X2_renew_g22 fu hfu U c248_groups c248_pots c248_bars a252 a253 c261_many a262 c267_total c267_lawfulOnes a268 a269 n269 a270 n270 a271 a273 (by first | assumption | omega) (by first | assumption | omega) (by first | assumption | omega) (by first | assumption | omega) (by first | assumption | omega) (by first | assumption | omega) (by first | assumption | omega) (by first | assumption | omega) (by first | assumption | omega) (by first | assumption | omega) (by first | assumption | omega) (by first | assumption | omega) (by first | assumption | omega) (by first | assumption | omega) (by first | exact hr_a262 | exact dz_rgm hr_a262 (by omega) (by omega) | exact dz_pmr hr_a262 (by decide) (by omega) (by omega) (by omega) | exact dz_ptr hr_a262 (by decide) (by decide) (by omega) | exact dz_ptr hr_a262 (by decide) (by decide) (by show _ ≤ 2; omega) | exact dz_rgs hr_a262 (by omega)) (by first | exact hr_a269 | exact dz_rgm hr_a269 (by omega) (by omega) | exact dz_pmr hr_a269 (by decide) (by omega) (by omega) (by omega) | exact dz_ptr hr_a269 (by decide) (by decide) (by omega) | exact dz_ptr hr_a269 (by decide) (by decide) (by show _ ≤ 2; omega) | exact dz_rgs hr_a269 (by omega)) (by first | assumption | omega)) (fun r h => ?_)
    obtain ⟨g0, g1, g2, g3, g4, g5, g6, g7, g8, g9, g10, g11, g12, g13⟩ := h
    exact ⟨(by first | assumption | omega), (by first | assumption | omega), (by first | assumption | omega), (by first | assumption | omega), (by first | assumption | omega), (by first | assumption | omega), (by first | assumption | omega), (by first | assumption | omega), (by first | assumption | omega), (by first | assumption | omega), (by first | assumption | omega), (by first | assumption | omega), (by first | assumption | omega), (by first | assumption | omega), (by first | assumption | omega), (by first | assumption | omega), (by first | exact g10 | exact dz_rgm g10 (by omega) (by omega)), (by first | exact g12 | exact dz_rgm g12 (by omega) (by omega)), (by first | exact g11 | exact dz_rgm g11 (by omega) (by omega)), (by first | assumption | omega)⟩
  · skip
    have o0 : ((8 : Int) ≤ n269) ∨ 2 * (8 : Int) ≤ U := o0
    have o1 : c248_groups.toInt = (2 : Int) := o1
    have o2 : c248_pots.toInt = (3 : Int) := o2
    have o3 : c261_many.toInt = (2 : Int) := o3
    have hdz_kt : ((dz_kt 3 : Nat) : Int) = (8 : Int) := rfl
    refine dz_Tw (t143_X2_renew_g23 fu hfu U c248_groups c248_pots c248_bars a252 a253 c261_many a262 c267_total c267_lawfulOnes a268 a269 n269 a270 n270 a271 a273 (by first | assumption | omega) (by first | assumption | omega) (by first | assumption | omega) (by first | assumption | omega) (by first | assumption | omega) (by first | assumption | omega) (by first | assumption | omega) (by first | assumption | omega) (by first | assumption | omega) (by first | assumption | omega) (by first | assumption | omega) (by first | assumption | omega) (by first | assumption | omega) (by first | assumption | omega) (by first | exact hr_a262 | exact dz_rgm hr_a262 (by omega) (by omega) | exact dz_pmr hr_a262 (by decide) (by omega) (by omega) (by omega) | exact dz_ptr hr_a262 (by decide) (by decide) (by omega) | exact dz_ptr hr_a262 (by decide) (by decide) (by show _ ≤ 3; omega) | exact dz_rgs hr_a262 (by omega)) (by first | exact hr_a269 | exact dz_rgm hr_a269 (by omega) (by omega) | exact dz_pmr hr_a269 (by decide) (by omega) (by omega) (by omega) | exact dz_ptr hr_a269 (by decide) (by decide) (by omega) | exact dz_ptr hr_a269 (by decide) (by decide) (by show _ ≤ 3; omega) | exact dz_rgs hr_a269 (by omega)) (by first | assumption | omega)) (fun r h => ?_)
    obtain ⟨g0, g1, g2, g3, g4, g5, g6, g7, g8, g9, g10, g11, g12, g13⟩ := h
    exact ⟨(by first | assumption | omega), (by first | assumption | omega), (by first | assumption | omega), (by first | assumption | omega), (by first | assumption | omega), (by first | assumption | omega), (by first | assumption | omega), (by first | assumption | omega), (by first | assumption | omega), (by first | assumption | omega), (by first | assumption | omega), (by first | assumption | omega), (by first | assumption | omega), (by first | assumption | omega), (by first | assumption | omega), (by first | assumption | omega), (by first | exact g10 | exact dz_rgm g10 (by omega) (by omega)), (by first | exact g12 | exact dz_rgm g12 (by omega) (by omega)), (by first | exact g11 | exact dz_rgm g11 (by omega) (by omega)), (by first | assumption | omega)⟩
  · skip
    have o0 : ((16 : Int) ≤ n269) ∨ 2 * (16 : Int) ≤ U := o0
    have o1 : c248_groups.toInt = (2 : Int) := o1
    have o2 : c248_pots.toInt = (4 : Int) := o2
    have o3 : c261_many.toInt = (2 : Int) := o3
    have hdz_kt : ((dz_kt 4 : Nat) : Int) = (16 : Int) := rfl
    refine dz_Tw (t143_X2_renew_g24 fu hfu U c248_groups c248_pots c248_bars a252 a253 c261_many a262 c267_total c267_lawfulOnes a268 a269 n269 a270 n270 a271 a273 (by first | assumption | omega) (by first | assumption | omega) (by first | assumption | omega) (by first | assumption | omega) (by first | assumption | omega) (by first | assumption | omega) (by first | assumption | omega) (by first | assumption | omega) (by first | assumption | omega) (by first | assumption | omega) (by first | assumption | omega) (by first | assumption | omega) (by first | assumption | omega) (by first | assumption | omega) (by first | exact hr_a262 | exact dz_rgm hr_a262 (by omega) (by omega) | exact dz_pmr hr_a262 (by decide) (by omega) (by omega) (by omega) | exact dz_ptr hr_a262 (by decide) (by decide) (by omega) | exact dz_ptr hr_a262 (by decide) (by decide) (by show _ ≤ 4; omega) | exact dz_rgs hr_a262 (by omega)) (by first | exact hr_a269 | exact dz_rgm hr_a269 (by omega) (by omega) | exact dz_pmr hr_a269 (by decide) (by omega) (by omega) (by omega) | exact dz_ptr hr_a269 (by decide) (by decide) (by omega) | exact dz_ptr hr_a269 (by decide) (by decide) (by show _ ≤ 4; omega) | exact dz_rgs hr_a269 (by omega)) (by first | assumption | omega)) (fun r h => ?_)
    obtain ⟨g0, g1, g2, g3, g4, g5, g6, g7, g8, g9, g10, g11, g12, g13⟩ := h
    exact ⟨(by first | assumption | omega), (by first | assumption | omega), (by first | assumption | omega), (by first | assumption | omega), (by first | assumption | omega), (by first | assumption | omega), (by first | assumption | omega), (by first | assumption | omega), (by first | assumption | omega), (by first | assumption | omega), (by first | assumption | omega), (by first | assumption | omega), (by first | assumption | omega), (by first | assumption | omega), (by first | assumption | omega), (by first | assumption | omega), (by first | exact g10 | exact dz_rgm g10 (by omega) (by omega)), (by first | exact g12 | exact dz_rgm g12 (by omega) (by omega)), (by first | exact g11 | exact dz_rgm g11 (by omega) (by omega)), (by first | assumption | omega)⟩
  · skip
    have o0 : ((1 : Int) ≤ n269) ∨ 2 * (1 : Int) ≤ U := o0
    have o1 : c248_groups.toInt = (3 : Int) := o1
    have o2 : c248_pots.toInt = (0 : Int) := o2
    have o3 : c261_many.toInt = (6 : Int) := o3
    have hdz_kt : ((dz_kt 5 : Nat) : Int) = (1 : Int) := rfl
    refine dz_Tw (t143_X2_renew_g30 fu hfu U c248_groups c248_pots c248_bars a252 a253 c261_many a262 c267_total c267_lawfulOnes a268 a269 n269 a270 n270 a271 a273 (by first | assumption | omega) (by first | assumption | omega) (by first | assumption | omega) (by first | assumption | omega) (by first | assumption | omega) (by first | assumption | omega) (by first | assumption | omega) (by first | assumption | omega) (by first | assumption | omega) (by first | assumption | omega) (by first | assumption | omega) (by first | assumption | omega) (by first | assumption | omega) (by first | assumption | omega) (by first | exact hr_a262 | exact dz_rgm hr_a262 (by omega) (by omega) | exact dz_pmr hr_a262 (by decide) (by omega) (by omega) (by omega) | exact dz_ptr hr_a262 (by decide) (by decide) (by omega) | exact dz_ptr hr_a262 (by decide) (by decide) (by show _ ≤ 0; omega) | exact dz_rgs hr_a262 (by omega)) (by first | exact hr_a269 | exact dz_rgm hr_a269 (by omega) (by omega) | exact dz_pmr hr_a269 (by decide) (by omega) (by omega) (by omega) | exact dz_ptr hr_a269 (by decide) (by decide) (by omega) | exact dz_ptr hr_a269 (by decide) (by decide) (by show _ ≤ 0; omega) | exact dz_rgs hr_a269 (by omega)) (by first | assumption | omega)) (fun r h => ?_)
    obtain ⟨g0, g1, g2, g3, g4, g5, g6, g7, g8, g9, g10, g11, g12⟩ := h
    exact ⟨(by first | assumption | omega), (by first | assumption | omega), (by first | assumption | omega), (by first | assumption | omega), (by first | assumption | omega), (by first | assumption | omega), (by first | assumption | omega), (by first | assumption | omega), (by first | assumption | omega), (by first | assumption | omega), (by first | assumption | omega), (by first | assumption | omega), (by first | assumption | omega), (by first | assumption | omega), (by first | assumption | omega), (by first | assumption | omega), (by first | exact g10 | exact dz_rgm g10 (by omega) (by omega)), (by first | exact g11 | exact dz_rgm g11 (by omega) (by omega)), dz_ptmk0, (by first | assumption | omega)⟩
  · skip
    have o0 : ((6 : Int) ≤ n269) ∨ 2 * (6 : Int) ≤ U := o0
    have o1 : c248_groups.toInt = (3 : Int) := o1
    have o2 : c248_pots.toInt = (1 : Int) := o2
    have o3 : c261_many.toInt = (6 : Int) := o3
    have hdz_kt : ((dz_kt 6 : Nat) : Int) = (6 : Int) := rfl
    refine dz_Tw (t143_X2_renew_g31 fu hfu U c248_groups c248_pots c248_bars a252 a253 c261_many a262 c267_total c267_lawfulOnes a268 a269 n269 a270 n270 a271 a273 (by first | assumption | omega) (by first | assumption | omega) (by first | assumption | omega) (by first | assumption | omega) (by first | assumption | omega) (by first | assumption | omega) (by first | assumption | omega) (by first | assumption | omega) (by first | assumption | omega) (by first | assumption | omega) (by first | assumption | omega) (by first | assumption | omega) (by first | assumption | omega) (by first | assumption | omega) (by first | exact hr_a262 | exact dz_rgm hr_a262 (by omega) (by omega) | exact dz_pmr hr_a262 (by decide) (by omega) (by omega) (by omega) | exact dz_ptr hr_a262 (by decide) (by decide) (by omega) | exact dz_ptr hr_a262 (by decide) (by decide) (by show _ ≤ 1; omega) | exact dz_rgs hr_a262 (by omega)) (by first | exact hr_a269 | exact dz_rgm hr_a269 (by omega) (by omega) | exact dz_pmr hr_a269 (by decide) (by omega) (by omega) (by omega) | exact dz_ptr hr_a269 (by decide) (by decide) (by omega) | exact dz_ptr hr_a269 (by decide) (by decide) (by show _ ≤ 1; omega) | exact dz_rgs hr_a269 (by omega)) (by first | assumption | omega)) (fun r h => ?_)
    obtain ⟨g0, g1, g2, g3, g4, g5, g6, g7, g8, g9, g10, g11, g12, g13⟩ := h
    exact ⟨(by first | assumption | omega), (by first | assumption | omega), (by first | assumption | omega), (by first | assumption | omega), (by first | assumption | omega), (by first | assumption | omega), (by first | assumption | omega), (by first | assumption | omega), (by first | assumption | omega), (by first | assumption | omega), (by first | assumption | omega), (by first | assumption | omega), (by first | assumption | omega), (by first | assumption | omega), (by first | assumption | omega), (by first | assumption | omega), (by first | exact g10 | exact dz_rgm g10 (by omega) (by omega)), (by first | exact g12 | exact dz_rgm g12 (by omega) (by omega)), (by first | exact g11 | exact dz_rgm g11 (by omega) (by omega)), (by first | assumption | omega)⟩
  · skip
    have o0 : ((36 : Int) ≤ n269) ∨ 2 * (36 : Int) ≤ U := o0
    have o1 : c248_groups.toInt = (3 : Int) := o1
    have o2 : c248_pots.toInt = (2 : Int) := o2
    have o3 : c261_many.toInt = (6 : Int) := o3
    have hdz_kt : ((dz_kt 7 : Nat) : Int) = (36 : Int) := rfl
    refine dz_Tw (t143_X2_renew_g32 fu hfu U c248_groups c248_pots c248_bars a252 a253 c261_many a262 c267_total c267_lawfulOnes a268 a269 n269 a270 n270 a271 a273 (by first | assumption | omega) (by first | assumption | omega) (by first | assumption | omega) (by first | assumption | omega) (by first | assumption | omega) (by first | assumption | omega) (by first | assumption | omega) (by first | assumption | omega) (by first | assumption | omega) (by first | assumption | omega) (by first | assumption | omega) (by first | assumption | omega) (by first | assumption | omega) (by first | assumption | omega) (by first | exact hr_a262 | exact dz_rgm hr_a262 (by omega) (by omega) | exact dz_pmr hr_a262 (by decide) (by omega) (by omega) (by omega) | exact dz_ptr hr_a262 (by decide) (by decide) (by omega) | exact dz_ptr hr_a262 (by decide) (by decide) (by show _ ≤ 2; omega) | exact dz_rgs hr_a262 (by omega)) (by first | exact hr_a269 | exact dz_rgm hr_a269 (by omega) (by omega) | exact dz_pmr hr_a269 (by decide) (by omega) (by omega) (by omega) | exact dz_ptr hr_a269 (by decide) (by decide) (by omega) | exact dz_ptr hr_a269 (by decide) (by decide) (by show _ ≤ 2; omega) | exact dz_rgs hr_a269 (by omega)) (by first | assumption | omega)) (fun r h => ?_)
    obtain ⟨g0, g1, g2, g3, g4, g5, g6, g7, g8, g9, g10, g11, g12, g13⟩ := h
    exact ⟨(by first | assumption | omega), (by first | assumption | omega), (by first | assumption | omega), (by first | assumption | omega), (by first | assumption | omega), (by first | assumption | omega), (by first | assumption | omega), (by first | assumption | omega), (by first | assumption | omega), (by first | assumption | omega), (by first | assumption | omega), (by first | assumption | omega), (by first | assumption | omega), (by first | assumption | omega), (by first | assumption | omega), (by first | assumption | omega), (by first | exact g10 | exact dz_rgm g10 (by omega) (by omega)), (by first | exact g12 | exact dz_rgm g12 (by omega) (by omega)), (by first | exact g11 | exact dz_rgm g11 (by omega) (by omega)), (by first | assumption | omega)⟩
  · skip
    have o0 : ((216 : Int) ≤ n269) ∨ 2 * (216 : Int) ≤ U := o0
    have o1 : c248_groups.toInt = (3 : Int) := o1
    have o2 : c248_pots.toInt = (3 : Int) := o2
    have o3 : c261_many.toInt = (6 : Int) := o3
    have hdz_kt : ((dz_kt 8 : Nat) : Int) = (216 : Int) := rfl
    refine dz_Tw (t143_X2_renew_g33 fu hfu U c248_groups c248_pots c248_bars a252 a253 c261_many a262 c267_total c267_lawfulOnes a268 a269 n269 a270 n270 a271 a273 (by first | assumption | omega) (by first | assumption | omega) (by first | assumption | omega) (by first | assumption | omega) (by first | assumption | omega) (by first | assumption | omega) (by first | assumption | omega) (by first | assumption | omega) (by first | assumption | omega) (by first | assumption | omega) (by first | assumption | omega) (by first | assumption | omega) (by first | assumption | omega) (by first | assumption | omega) (by first | exact hr_a262 | exact dz_rgm hr_a262 (by omega) (by omega) | exact dz_pmr hr_a262 (by decide) (by omega) (by omega) (by omega) | exact dz_ptr hr_a262 (by decide) (by decide) (by omega) | exact dz_ptr hr_a262 (by decide) (by decide) (by show _ ≤ 3; omega) | exact dz_rgs hr_a262 (by omega)) (by first | exact hr_a269 | exact dz_rgm hr_a269 (by omega) (by omega) | exact dz_pmr hr_a269 (by decide) (by omega) (by omega) (by omega) | exact dz_ptr hr_a269 (by decide) (by decide) (by omega) | exact dz_ptr hr_a269 (by decide) (by decide) (by show _ ≤ 3; omega) | exact dz_rgs hr_a269 (by omega)) (by first | assumption | omega)) (fun r h => ?_)
    obtain ⟨g0, g1, g2, g3, g4, g5, g6, g7, g8, g9, g10, g11, g12, g13⟩ := h
    exact ⟨(by first | assumption | omega), (by first | assumption | omega), (by first | assumption | omega), (by first | assumption | omega), (by first | assumption | omega), (by first | assumption | omega), (by first | assumption | omega), (by first | assumption | omega), (by first | assumption | omega), (by first | assumption | omega), (by first | assumption | omega), (by first | assumption | omega), (by first | assumption | omega), (by first | assumption | omega), (by first | assumption | omega), (by first | assumption | omega), (by first | exact g10 | exact dz_rgm g10 (by omega) (by omega)), (by first | exact g12 | exact dz_rgm g12 (by omega) (by omega)), (by first | exact g11 | exact dz_rgm g11 (by omega) (by omega)), (by first | assumption | omega)⟩
  · skip
    have o0 : ((1296 : Int) ≤ n269) ∨ 2 * (1296 : Int) ≤ U := o0
    have o1 : c248_groups.toInt = (3 : Int) := o1
    have o2 : c248_pots.toInt = (4 : Int) := o2
    have o3 : c261_many.toInt = (6 : Int) := o3
    have hdz_kt : ((dz_kt 9 : Nat) : Int) = (1296 : Int) := rfl
    refine dz_Tw (t143_X2_renew_g34 fu hfu U c248_groups c248_pots c248_bars a252 a253 c261_many a262 c267_total c267_lawfulOnes a268 a269 n269 a270 n270 a271 a273 (by first | assumption | omega) (by first | assumption | omega) (by first | assumption | omega) (by first | assumption | omega) (by first | assumption | omega) (by first | assumption | omega) (by first | assumption | omega) (by first | assumption | omega) (by first | assumption | omega) (by first | assumption | omega) (by first | assumption | omega) (by first | assumption | omega) (by first | assumption | omega) (by first | assumption | omega) (by first | exact hr_a262 | exact dz_rgm hr_a262 (by omega) (by omega) | exact dz_pmr hr_a262 (by decide) (by omega) (by omega) (by omega) | exact dz_ptr hr_a262 (by decide) (by decide) (by omega) | exact dz_ptr hr_a262 (by decide) (by decide) (by show _ ≤ 4; omega) | exact dz_rgs hr_a262 (by omega)) (by first | exact hr_a269 | exact dz_rgm hr_a269 (by omega) (by omega) | exact dz_pmr hr_a269 (by decide) (by omega) (by omega) (by omega) | exact dz_ptr hr_a269 (by decide) (by decide) (by omega) | exact dz_ptr hr_a269 (by decide) (by decide) (by show _ ≤ 4; omega) | exact dz_rgs hr_a269 (by omega)) (by first | assumption | omega)) (fun r h => ?_)
    obtain ⟨g0, g1, g2, g3, g4, g5, g6, g7, g8, g9, g10, g11, g12, g13⟩ := h
    exact ⟨(by first | assumption | omega), (by first | assumption | omega), (by first | assumption | omega), (by first | assumption | omega), (by first | assumption | omega), (by first | assumption | omega), (by first | assumption | omega), (by first | assumption | omega), (by first | assumption | omega), (by first | assumption | omega), (by first | assumption | omega), (by first | assumption | omega), (by first | assumption | omega), (by first | assumption | omega), (by first | assumption | omega), (by first | assumption | omega), (by first | exact g10 | exact dz_rgm g10 (by omega) (by omega)), (by first | exact g12 | exact dz_rgm g12 (by omega) (by omega)), (by first | exact g11 | exact dz_rgm g11 (by omega) (by omega)), (by first | assumption | omega)⟩
  · skip
    have o0 : ((1 : Int) ≤ n269) ∨ 2 * (1 : Int) ≤ U := o0
    have o1 : c248_groups.toInt = (4 : Int) := o1
    have o2 : c248_pots.toInt = (0 : Int) := o2
    have o3 : c261_many.toInt = (24 : Int) := o3
    have hdz_kt : ((dz_kt 10 : Nat) : Int) = (1 : Int) := rfl
    refine dz_Tw (t143_X2_renew_g40 fu hfu U c248_groups c248_pots c248_bars a252 a253 c261_many a262 c267_total c267_lawfulOnes a268 a269 n269 a270 n270 a271 a273 (by first | assumption | omega) (by first | assumption | omega) (by first | assumption | omega) (by first | assumption | omega) (by first | assumption | omega) (by first | assumption | omega) (by first | assumption | omega) (by first | assumption | omega) (by first | assumption | omega) (by first | assumption | omega) (by first | assumption | omega) (by first | assumption | omega) (by first | assumption | omega) (by first | assumption | omega) (by first | exact hr_a262 | exact dz_rgm hr_a262 (by omega) (by omega) | exact dz_pmr hr_a262 (by decide) (by omega) (by omega) (by omega) | exact dz_ptr hr_a262 (by decide) (by decide) (by omega) | exact dz_ptr hr_a262 (by decide) (by decide) (by show _ ≤ 0; omega) | exact dz_rgs hr_a262 (by omega)) (by first | exact hr_a269 | exact dz_rgm hr_a269 (by omega) (by omega) | exact dz_pmr hr_a269 (by decide) (by omega) (by omega) (by omega) | exact dz_ptr hr_a269 (by decide) (by decide) (by omega) | exact dz_ptr hr_a269 (by decide) (by decide) (by show _ ≤ 0; omega) | exact dz_rgs hr_a269 (by omega)) (by first | assumption | omega)) (fun r h => ?_)
    obtain ⟨g0, g1, g2, g3, g4, g5, g6, g7, g8, g9, g10, g11, g12⟩ := h
    exact ⟨(by first | assumption | omega), (by first | assumption | omega), (by first | assumption | omega), (by first | assumption | omega), (by first | assumption | omega), (by first | assumption | omega), (by first | assumption | omega), (by first | assumption | omega), (by first | assumption | omega), (by first | assumption | omega), (by first | assumption | omega), (by first | assumption | omega), (by first | assumption | omega), (by first | assumption | omega), (by first | assumption | omega), (by first | assumption | omega), (by first | exact g10 | exact dz_rgm g10 (by omega) (by omega)), (by first | exact g11 | exact dz_rgm g11 (by omega) (by omega)), dz_ptmk0, (by first | assumption | omega)⟩
  · skip
    have o0 : ((24 : Int) ≤ n269) ∨ 2 * (24 : Int) ≤ U := o0
    have o1 : c248_groups.toInt = (4 : Int) := o1
    have o2 : c248_pots.toInt = (1 : Int) := o2
    have o3 : c261_many.toInt = (24 : Int) := o3
    have hdz_kt : ((dz_kt 11 : Nat) : Int) = (24 : Int) := rfl
    refine dz_Tw (t143_X2_renew_g41 fu hfu U c248_groups c248_pots c248_bars a252 a253 c261_many a262 c267_total c267_lawfulOnes a268 a269 n269 a270 n270 a271 a273 (by first | assumption | omega) (by first | assumption | omega) (by first | assumption | omega) (by first | assumption | omega) (by first | assumption | omega) (by first | assumption | omega) (by first | assumption | omega) (by first | assumption | omega) (by first | assumption | omega) (by first | assumption | omega) (by first | assumption | omega) (by first | assumption | omega) (by first | assumption | omega) (by first | assumption | omega) (by first | exact hr_a262 | exact dz_rgm hr_a262 (by omega) (by omega) | exact dz_pmr hr_a262 (by decide) (by omega) (by omega) (by omega) | exact dz_ptr hr_a262 (by decide) (by decide) (by omega) | exact dz_ptr hr_a262 (by decide) (by decide) (by show _ ≤ 1; omega) | exact dz_rgs hr_a262 (by omega)) (by first | exact hr_a269 | exact dz_rgm hr_a269 (by omega) (by omega) | exact dz_pmr hr_a269 (by decide) (by omega) (by omega) (by omega) | exact dz_ptr hr_a269 (by decide) (by decide) (by omega) | exact dz_ptr hr_a269 (by decide) (by decide) (by show _ ≤ 1; omega) | exact dz_rgs hr_a269 (by omega)) (by first | assumption | omega)) (fun r h => ?_)
    obtain ⟨g0, g1, g2, g3, g4, g5, g6, g7, g8, g9, g10, g11, g12, g13⟩ := h
    exact ⟨(by first | assumption | omega), (by first | assumption | omega), (by first | assumption | omega), (by first | assumption | omega), (by first | assumption | omega), (by first | assumption | omega), (by first | assumption | omega), (by first | assumption | omega), (by first | assumption | omega), (by first | assumption | omega), (by first | assumption | omega), (by first | assumption | omega), (by first | assumption | omega), (by first | assumption | omega), (by first | assumption | omega), (by first | assumption | omega), (by first | exact g10 | exact dz_rgm g10 (by omega) (by omega)), (by first | exact g12 | exact dz_rgm g12 (by omega) (by omega)), (by first | exact g11 | exact dz_rgm g11 (by omega) (by omega)), (by first | assumption | omega)⟩
  · skip
    have o0 : ((576 : Int) ≤ n269) ∨ 2 * (576 : Int) ≤ U := o0
    have o1 : c248_groups.toInt = (4 : Int) := o1
    have o2 : c248_pots.toInt = (2 : Int) := o2
    have o3 : c261_many.toInt = (24 : Int) := o3
    have hdz_kt : ((dz_kt 12 : Nat) : Int) = (576 : Int) := rfl
    refine dz_Tw (t143_X2_renew_g42 fu hfu U c248_groups c248_pots c248_bars a252 a253 c261_many a262 c267_total c267_lawfulOnes a268 a269 n269 a270 n270 a271 a273 (by first | assumption | omega) (by first | assumption | omega) (by first | assumption | omega) (by first | assumption | omega) (by first | assumption | omega) (by first | assumption | omega) (by first | assumption | omega) (by first | assumption | omega) (by first | assumption | omega) (by first | assumption | omega) (by first | assumption | omega) (by first | assumption | omega) (by first | assumption | omega) (by first | assumption | omega) (by first | exact hr_a262 | exact dz_rgm hr_a262 (by omega) (by omega) | exact dz_pmr hr_a262 (by decide) (by omega) (by omega) (by omega) | exact dz_ptr hr_a262 (by decide) (by decide) (by omega) | exact dz_ptr hr_a262 (by decide) (by decide) (by show _ ≤ 2; omega) | exact dz_rgs hr_a262 (by omega)) (by first | exact hr_a269 | exact dz_rgm hr_a269 (by omega) (by omega) | exact dz_pmr hr_a269 (by decide) (by omega) (by omega) (by omega) | exact dz_ptr hr_a269 (by decide) (by decide) (by omega) | exact dz_ptr hr_a269 (by decide) (by decide) (by show _ ≤ 2; omega) | exact dz_rgs hr_a269 (by omega)) (by first | assumption | omega)) (fun r h => ?_)
    obtain ⟨g0, g1, g2, g3, g4, g5, g6, g7, g8, g9, g10, g11, g12, g13⟩ := h
    exact ⟨(by first | assumption | omega), (by first | assumption | omega), (by first | assumption | omega), (by first | assumption | omega), (by first | assumption | omega), (by first | assumption | omega), (by first | assumption | omega), (by first | assumption | omega), (by first | assumption | omega), (by first | assumption | omega), (by first | assumption | omega), (by first | assumption | omega), (by first | assumption | omega), (by first | assumption | omega), (by first | assumption | omega), (by first | assumption | omega), (by first | exact g10 | exact dz_rgm g10 (by omega) (by omega)), (by first | exact g12 | exact dz_rgm g12 (by omega) (by omega)), (by first | exact g11 | exact dz_rgm g11 (by omega) (by omega)), (by first | assumption | omega)⟩
  · skip
    have o0 : ((13824 : Int) ≤ n269) ∨ 2 * (13824 : Int) ≤ U := o0
    have o1 : c248_groups.toInt = (4 : Int) := o1
    have o2 : c248_pots.toInt = (3 : Int) := o2
    have o3 : c261_many.toInt = (24 : Int) := o3
    have hdz_kt : ((dz_kt 13 : Nat) : Int) = (13824 : Int) := rfl
    refine dz_Tw (t143_X2_renew_g43 fu hfu U c248_groups c248_pots c248_bars a252 a253 c261_many a262 c267_total c267_lawfulOnes a268 a269 n269 a270 n270 a271 a273 (by first | assumption | omega) (by first | assumption | omega) (by first | assumption | omega) (by first | assumption | omega) (by first | assumption | omega) (by first | assumption | omega) (by first | assumption | omega) (by first | assumption | omega) (by first | assumption | omega) (by first | assumption | omega) (by first | assumption | omega) (by first | assumption | omega) (by first | assumption | omega) (by first | assumption | omega) (by first | exact hr_a262 | exact dz_rgm hr_a262 (by omega) (by omega) | exact dz_pmr hr_a262 (by decide) (by omega) (by omega) (by omega) | exact dz_ptr hr_a262 (by decide) (by decide) (by omega) | exact dz_ptr hr_a262 (by decide) (by decide) (by show _ ≤ 3; omega) | exact dz_rgs hr_a262 (by omega)) (by first | exact hr_a269 | exact dz_rgm hr_a269 (by omega) (by omega) | exact dz_pmr hr_a269 (by decide) (by omega) (by omega) (by omega) | exact dz_ptr hr_a269 (by decide) (by decide) (by omega) | exact dz_ptr hr_a269 (by decide) (by decide) (by show _ ≤ 3; omega) | exact dz_rgs hr_a269 (by omega)) (by first | assumption | omega)) (fun r h => ?_)
    obtain ⟨g0, g1, g2, g3, g4, g5, g6, g7, g8, g9, g10, g11⟩ := h
    exact ⟨(by first | assumption | omega), (by first | assumption | omega), (by first | assumption | omega), (by first | assumption | omega), (by first | assumption | omega), (by first | assumption | omega), (by first | assumption | omega), (by first | assumption | omega), (by first | assumption | omega), (by first | assumption | omega), (by first | assumption | omega), (by first | assumption | omega), (by first | assumption | omega), (by first | assumption | omega), (by first | assumption | omega), (by first | assumption | omega), (by first | exact g8 | exact dz_rgm g8 (by omega) (by omega)), (by first | exact g10 | exact dz_rgm g10 (by omega) (by omega)), (by first | exact g9 | exact dz_rgm g9 (by omega) (by omega)), (by first | assumption | omega)⟩
set_option maxHeartbeats 1000000 in
set_option maxRecDepth 10000 in
theorem t145_X8_empty (fu : Nat) (hfu : 1000000000000 ≤ fu) (c274_out : Int32) (a277 : Nat → Int32) (p0 : c274_out.toInt ≤ 12) (p1 : 0 ≤ c274_out.toInt) (hr_a277 : dz_rg a277 12 (-1) 3) : dz_T (f145_X8_empty fu c274_out a277) (fun r => r.1.toInt ≤ 0 ∧ 0 ≤ r.1.toInt ∧ dz_rg r.2 12 (-1) 3) := by
  unfold f145_X8_empty s145_X8_empty_0
  have e1 := dz_lm1
  refine dz_Tb (t144_J7_fill_53178 fu hfu _ _ (-1) 3 (by omega) (by omega) (hr_a277)) (fun r1 q => ?_)
  have qa1_0 := q
  have e2 := dz_l0
  refine dz_Ts ?_
  dsimp only
  exact ⟨(by omega), (by omega), (qa1_0)⟩
set_option maxHeartbeats 1000000 in
set_option maxRecDepth 10000 in
theorem t146_X8_putInTurn_s (fu : Nat) (hfu : 1000000000000 ≤ fu) (κ : Nat) (hκ : κ < 14) (c274_out : Int32) (a275 : Nat → Int32) (a276 : Nat → Int32) (a277 : Nat → Int32) (p0 : 0 ≤ c274_out.toInt) (p1 : c274_out.toInt ≤ 12) (hr_a276 : dz_rg a276 4 0 3) (hr_a277 : dz_rg a277 12 (-1) 3) : dz_T (f146_X8_putInTurn fu c274_out a275 a276 a277) (fun r => r.1.toInt ≤ 0 ∧ 0 ≤ r.1.toInt ∧ dz_rg r.2.2.1 4 0 3 ∧ dz_rg r.2.2.2 12 (-1) 3 ∧ dz_pm r.2.1 (dz_kp κ)) := by
  unfold f146_X8_putInTurn s146_X8_putInTurn_0
  have e1 := dz_l0
  refine dz_Tng (by omega) ?_
  refine dz_Tng (by omega) ?_
  have e2 := dz_l4
  refine dz_Tng (by omega) ?_
  have e3 := dz_tn (0 : Int32)
  have e4 := dz_tn (4 : Int32)
  refine dz_Tg (by omega) ?_
  refine dz_Tg (by omega) ?_
  refine dz_Tng (by omega) ?_
  refine dz_Tng (by omega) ?_
  refine dz_Tng (by omega) ?_
  refine dz_Tg (by omega) ?_
  refine dz_Tg (by omega) ?_
  refine dz_Tb (t145_X8_empty fu hfu _ _ p1 p0 (hr_a277)) (fun r1 q => ?_)
  obtain ⟨q1_0, q1_1, qa1_1⟩ := q
  refine dz_Ts ?_
  dsimp only
  exact ⟨q1_0, q1_1, (dz_rgc0 (dz_rs0) (hr_a276)), (qa1_1), (dz_pmsk hκ)⟩
set_option maxHeartbeats 1000000 in
set_option maxRecDepth 10000 in
theorem t147_X9_forget (fu : Nat) (hfu : 1000000000000 ≤ fu) (c307_done : Int32) (c307_partsFresh : Int32) (p0 : c307_done.toInt ≤ 5) (p1 : (-1) ≤ c307_done.toInt) : dz_T (f147_X9_forget fu c307_done c307_partsFresh) (fun r => r.1.toInt ≤ (-1) ∧ (-1) ≤ r.1.toInt ∧ (r.2.toInt = 0)) := by
  unfold f147_X9_forget s147_X9_forget_0
  have e1 := dz_lm1
  have e2 := dz_l0
  refine dz_Ts ?_
  dsimp only
  exact ⟨(by omega), (by omega), (by omega)⟩
abbrev p148_X11_stageChanged (fu : Nat) (k : Nat) : Prop :=
  (∀ (v1 : Int32) (c313_fresh : Int32) (c319_fresh : Int32) (c325_fresh : Int32), v1.toInt ≤ 3 → 0 ≤ v1.toInt → 0 + 0 + (3 - v1.toInt) * 10 + 5 ≤ ((k : Nat) : Int) → dz_T ((F148_X11_stageChanged fu k) v1 c313_fresh c319_fresh c325_fresh) (fun r => True))
set_option maxHeartbeats 1000000 in
set_option maxRecDepth 10000 in
theorem t148_X11_stageChanged_h1 (fu : Nat) (hfu : 1000000000000 ≤ fu) (k : Nat) (ih : ∀ j9, j9 < k → p148_X11_stageChanged fu j9) : ∀ (v1 : Int32) (c313_fresh : Int32) (c319_fresh : Int32) (c325_fresh : Int32), v1.toInt ≤ 3 → 0 ≤ v1.toInt → 0 + 0 + (3 - v1.toInt) * 10 + 5 ≤ ((k : Nat) : Int) → dz_T ((F148_X11_stageChanged fu k) v1 c313_fresh c319_fresh c325_fresh) (fun r => True) := by
  intro v1 c313_fresh c319_fresh c325_fresh i0 i1 hm
  obtain ⟨k0, rfl⟩ : ∃ x, k = x + 1 := ⟨k - 1, by omega⟩
  show dz_T (s148_X11_stageChanged_1 fu (F148_X11_stageChanged fu k0)  v1 c313_fresh c319_fresh c325_fresh) _
  unfold s148_X11_stageChanged_1
  have e1 := dz_l3
  refine dz_Tle (fun h2 => ?_) (fun h2 => ?_)
  · skip
    exact dz_Ts trivial
  · skip
    have e3 := dz_l0
    refine dz_Teq (fun h4 => ?_) (fun h4 => ?_)
    · skip
      have e5 := dz_l1
      have e6 := dz_add (a := v1) (b := (1 : Int32)) (by omega) (by omega)
      exact (ih k0 (by omega)) (v1 + (1 : Int32)) (0 : Int32) c319_fresh c325_fresh (by omega) (by omega) (by omega)
    · skip
      have e7 := dz_l1
      refine dz_Teq (fun h8 => ?_) (fun h8 => ?_)
      · skip
        have e9 := dz_add (a := v1) (b := (1 : Int32)) (by omega) (by omega)
        exact (ih k0 (by omega)) (v1 + (1 : Int32)) c313_fresh (0 : Int32) c325_fresh (by omega) (by omega) (by omega)
      · skip
        have e10 := dz_l2
        refine dz_Tg (Int32.toInt_inj.mp (by omega)) ?_
        have e11 := dz_add (a := v1) (b := (1 : Int32)) (by omega) (by omega)
        exact (ih k0 (by omega)) (v1 + (1 : Int32)) c313_fresh c319_fresh (0 : Int32) (by omega) (by omega) (by omega)
theorem t148_X11_stageChanged_I (fu : Nat) (hfu : 1000000000000 ≤ fu) (k : Nat) : p148_X11_stageChanged fu k := by
  induction k using Nat.strongRecOn with
  | _ k ih => exact t148_X11_stageChanged_h1 fu hfu k ih
set_option maxHeartbeats 1000000 in
set_option maxRecDepth 10000 in
theorem t148_X11_stageChanged_E (fu : Nat) (hfu : 1000000000000 ≤ fu) (c313_fresh : Int32) (c319_fresh : Int32) (c325_fresh : Int32) (kv : Nat) (hkv : 1000000000000 ≤ kv) : dz_T (s148_X11_stageChanged_0 fu (F148_X11_stageChanged fu kv)  c313_fresh c319_fresh c325_fresh) (fun r => True) := by
  unfold s148_X11_stageChanged_0
  have e1 := dz_l0
  exact (t148_X11_stageChanged_I fu hfu kv) (0 : Int32) c313_fresh c319_fresh c325_fresh (by omega) (by omega) (by omega)
theorem t148_X11_stageChanged (fu : Nat) (hfu : 1000000000000 ≤ fu) (c313_fresh : Int32) (c319_fresh : Int32) (c325_fresh : Int32) : dz_T (f148_X11_stageChanged fu c313_fresh c319_fresh c325_fresh) (fun r => True) :=
  t148_X11_stageChanged_E fu hfu c313_fresh c319_fresh c325_fresh fu hfu
set_option maxHeartbeats 1000000 in
set_option maxRecDepth 10000 in
theorem t149_X11_startChanged (fu : Nat) (hfu : 1000000000000 ≤ fu) (c310_fresh : Int32) (c313_fresh : Int32) (c319_fresh : Int32) (c322_fresh : Int32) (c325_fresh : Int32) : dz_T (f149_X11_startChanged fu c310_fresh c313_fresh c319_fresh c322_fresh c325_fresh) (fun r => True) := by
  unfold f149_X11_startChanged s149_X11_startChanged_0
  refine dz_Tb (t148_X11_stageChanged fu hfu _ _ _ ) (fun r1 _ => ?_)
  have e1 := dz_l0
  exact dz_Ts trivial
set_option maxHeartbeats 1000000 in
set_option maxRecDepth 10000 in
theorem t152_X11_fault (fu : Nat) (hfu : 1000000000000 ≤ fu) (c254_fault : Int32) (c254_place : Int32) (v1 : Int32) : dz_T (f152_X11_fault fu c254_fault c254_place v1) (fun r => True) := by
  unfold f152_X11_fault s152_X11_fault_0
  have e1 := dz_l0
  refine dz_Teq (fun h2 => ?_) (fun h2 => ?_)
  · skip
    exact dz_Ts trivial
  · skip
    have e3 := dz_l1
    refine dz_Teq (fun h4 => ?_) (fun h4 => ?_)
    · skip
      exact dz_Ts trivial
    · skip
      have e5 := dz_lm1
      exact dz_Ts trivial
set_option maxHeartbeats 1000000 in
set_option maxRecDepth 10000 in
theorem t153_X11_named_s (fu : Nat) (hfu : 1000000000000 ≤ fu) (κ : Nat) (hκ : κ < 14) (c248_teams : Int32) (c248_marks : Int32) (a249 : Nat → Int32) (a251 : Nat → Int32) (v1 : Int32) (v2 : Int32) (p0 : c248_teams.toInt ≤ 12) (p1 : 0 ≤ c248_teams.toInt) (p2 : c248_marks.toInt ≤ 6) (p3 : 0 ≤ c248_marks.toInt) (o0 : c248_teams.toInt = ((dz_km κ : Nat) : Int)) : dz_T (f153_X11_named fu c248_teams c248_marks a249 a251 v1 v2) (fun r => r.toInt ≤ 11 ∧ (-1) ≤ r.toInt) := by
  unfold f153_X11_named s153_X11_named_0
  have e1 := dz_l0
  refine dz_Teq (fun h2 => ?_) (fun h2 => ?_)
  · skip
    refine dz_Tb (t102_X3_teamNamed fu hfu _ _ _ p0 p1) (fun r1 q => ?_)
    obtain ⟨q1_0, q1_1⟩ := q
    exact dz_Ts ⟨q1_0, q1_1⟩
  · skip
    have e3 := dz_l1
    refine dz_Teq (fun h4 => ?_) (fun h4 => ?_)
    · skip
      refine dz_Tb (t109_X3_markNamed fu hfu _ _ _ p2 p3) (fun r2 q => ?_)
      obtain ⟨q2_0, q2_1⟩ := q
      exact dz_Ts ⟨(by first | assumption | omega), q2_1⟩
    · skip
      have e5 := dz_lm1
      exact dz_Ts ⟨(by omega), (by omega)⟩
set_option maxHeartbeats 1000000 in
set_option maxRecDepth 10000 in
theorem t154_X11_lawful_s (fu : Nat) (hfu : 1000000000000 ≤ fu) (κ : Nat) (hκ : κ < 14) (c267_lawfulOnes : Int32) (p0 : c267_lawfulOnes.toInt ≤ 13824) (p1 : 0 ≤ c267_lawfulOnes.toInt) : dz_T (f154_X11_lawful fu c267_lawfulOnes) (fun r => r.toInt ≤ 13824 ∧ 0 ≤ r.toInt ∧ r.toInt ≤ c267_lawfulOnes.toInt ∧ c267_lawfulOnes.toInt ≤ r.toInt) := by
  unfold f154_X11_lawful s154_X11_lawful_0
  exact dz_Ts ⟨p0, p1, (by first | assumption | omega), (by first | assumption | omega)⟩
set_option maxHeartbeats 1000000 in
set_option maxRecDepth 10000 in
theorem t156_X11_without (fu : Nat) (hfu : 1000000000000 ≤ fu) (c248_bars : Int32) (a271 : Nat → Int32) (v1 : Int32) (p0 : c248_bars.toInt ≤ 10) (p1 : 0 ≤ c248_bars.toInt) : dz_T (f156_X11_without fu c248_bars a271 v1) (fun r => True) := by
  unfold f156_X11_without s156_X11_without_0
  refine dz_Tbe (show f155_X11_isBar fu c248_bars v1 = (if (v1 < (0 : Int32)) then (some (0 : Int32)) else (if (c248_bars ≤ v1) then (some (0 : Int32)) else (some (1 : Int32)))) from rfl) ?_
  have e1 := dz_l0
  refine dz_Tltb (fun h2 => ?_) (fun h2 => ?_)
  · skip
    refine dz_Tsb ?_
    refine dz_Teq (fun h3 => ?_) (fun h3 => ?_)
    · skip
      have e4 := dz_lm1
      exact dz_Ts trivial
    · skip
      exfalso; omega
  · skip
    refine dz_Tleb (fun h5 => ?_) (fun h5 => ?_)
    · skip
      refine dz_Tsb ?_
      refine dz_Teq (fun h6 => ?_) (fun h6 => ?_)
      · skip
        have e7 := dz_lm1
        exact dz_Ts trivial
      · skip
        exfalso; omega
    · skip
      refine dz_Tsb ?_
      have e8 := dz_l1
      refine dz_Teq (fun h9 => ?_) (fun h9 => ?_)
      · skip
        exfalso; omega
      · skip
        have e10 := dz_l31
        have e11 := dz_andr (a := v1) (b := (31 : Int32)) (by omega)
        have e12 := dz_andl (a := v1) (b := (31 : Int32)) (by omega)
        have e13 := dz_shl1 (b := v1) 0 9 (by omega) (by omega) (by omega)
        refine dz_Tin (by omega) (by omega) ?_
        exact dz_Ts trivial
abbrev p157_X2_fewest (fu : Nat) (a271 : Nat → Int32) (k : Nat) : Prop :=
  (∀ (v2 : Int32) (v3 : Int32) (v4 : Int32), v2.toInt ≤ 1023 → 0 ≤ v2.toInt → v3.toInt ≤ 1023 → 0 ≤ v3.toInt → v4.toInt ≤ 1024 → 0 ≤ v4.toInt → v3.toInt ≤ v2.toInt → v4.toInt ≤ v2.toInt + 1 → 0 + 0 + (1024 - v4.toInt) * 12 + 6 ≤ ((k : Nat) : Int) → dz_T ((F157_X2_fewest fu a271 k).1 v2 v3 v4) (fun r => r.toInt ≤ 1023 ∧ 0 ≤ r.toInt))
set_option maxHeartbeats 1000000 in
set_option maxRecDepth 10000 in
theorem t157_X2_fewest_h1 (fu : Nat) (hfu : 1000000000000 ≤ fu) (a271 : Nat → Int32) (k : Nat) (ih : ∀ j9, j9 < k → p157_X2_fewest fu a271 j9) : ∀ (v2 : Int32) (v3 : Int32) (v4 : Int32), v2.toInt ≤ 1023 → 0 ≤ v2.toInt → v3.toInt ≤ 1023 → 0 ≤ v3.toInt → v4.toInt ≤ 1024 → 0 ≤ v4.toInt → v3.toInt ≤ v2.toInt → v4.toInt ≤ v2.toInt + 1 → 0 + 0 + (1024 - v4.toInt) * 12 + 6 ≤ ((k : Nat) : Int) → dz_T ((F157_X2_fewest fu a271 k).1 v2 v3 v4) (fun r => r.toInt ≤ 1023 ∧ 0 ≤ r.toInt) := by
  intro v2 v3 v4 i0 i1 i2 i3 i4 i5 i6 i7 hm
  obtain ⟨k0, rfl⟩ : ∃ x, k = x + 1 := ⟨k - 1, by omega⟩
  show dz_T (s157_X2_fewest_1 fu a271 (F157_X2_fewest fu a271 k0).2  v2 v3 v4) _
  unfold s157_X2_fewest_1
  refine dz_Tlt (fun h1 => ?_) (fun h1 => ?_)
  · skip
    exact dz_Ts ⟨i2, i3⟩
  · skip
    have e2 := dz_xorb (a := v2) (b := v4) 10 (by omega) (by omega) (by omega) (by omega) (by omega)
    refine dz_Tin (by omega) (by omega) ?_
    have e3 := dz_l0
    refine dz_Teq (fun h4 => ?_) (fun h4 => ?_)
    · skip
      refine dz_Tb (t128_J6_bitCount fu hfu _ ) (fun r1 _ => ?_)
      refine dz_Tb (t128_J6_bitCount fu hfu _ ) (fun r2 _ => ?_)
      refine dz_Tle (fun h5 => ?_) (fun h5 => ?_)
      · skip
        obtain ⟨k1, rfl⟩ : ∃ x, k0 = x + 1 := ⟨k0 - 1, by omega⟩
        show dz_T (s157_X2_fewest_2 fu a271 (F157_X2_fewest fu a271 k1).1 v2 v3 v4) _
        unfold s157_X2_fewest_2
        have e6 := dz_l1
        have e7 := dz_add (a := v4) (b := (1 : Int32)) (by omega) (by omega)
        exact (ih k1 (by omega)) v2 v3 (v4 + (1 : Int32)) i0 i1 i2 i3 (by omega) (by omega) i6 (by omega) (by omega)
      · skip
        obtain ⟨k2, rfl⟩ : ∃ x, k0 = x + 1 := ⟨k0 - 1, by omega⟩
        show dz_T (s157_X2_fewest_2 fu a271 (F157_X2_fewest fu a271 k2).1 v2 v4 v4) _
        unfold s157_X2_fewest_2
        have e8 := dz_l1
        have e9 := dz_add (a := v4) (b := (1 : Int32)) (by omega) (by omega)
        exact (ih k2 (by omega)) v2 v4 (v4 + (1 : Int32)) i0 i1 (by first | assumption | omega) i5 (by omega) (by omega) (by first | assumption | omega) (by omega) (by omega)
    · skip
      obtain ⟨k3, rfl⟩ : ∃ x, k0 = x + 1 := ⟨k0 - 1, by omega⟩
      show dz_T (s157_X2_fewest_2 fu a271 (F157_X2_fewest fu a271 k3).1 v2 v3 v4) _
      unfold s157_X2_fewest_2
      have e10 := dz_l1
      have e11 := dz_add (a := v4) (b := (1 : Int32)) (by omega) (by omega)
      exact (ih k3 (by omega)) v2 v3 (v4 + (1 : Int32)) i0 i1 i2 i3 (by omega) (by omega) i6 (by omega) (by omega)
theorem t157_X2_fewest_I (fu : Nat) (hfu : 1000000000000 ≤ fu) (a271 : Nat → Int32) (k : Nat) : p157_X2_fewest fu a271 k := by
  induction k using Nat.strongRecOn with
  | _ k ih => exact t157_X2_fewest_h1 fu hfu a271 k ih
set_option maxHeartbeats 1000000 in
set_option maxRecDepth 10000 in
theorem t157_X2_fewest_E (fu : Nat) (hfu : 1000000000000 ≤ fu) (a271 : Nat → Int32) (v1 : Int32) (p0 : 0 ≤ v1.toInt) (p1 : v1.toInt ≤ 10) (kv : Nat) (hkv : 1000000000000 ≤ kv) : dz_T (s157_X2_fewest_0 fu a271 (F157_X2_fewest fu a271 kv).1  v1) (fun r => r.toInt ≤ 1023 ∧ 0 ≤ r.toInt) := by
  unfold s157_X2_fewest_0
  have e1 := dz_l1
  have e2 := dz_l31
  have e3 := dz_andr (a := v1) (b := (31 : Int32)) (by omega)
  have e4 := dz_andl (a := v1) (b := (31 : Int32)) (by omega)
  have e5 := dz_shl1 (b := v1) 0 10 (by omega) (by omega) (by omega)
  have e6 := dz_sub (a := ((1 : Int32) <<< (v1 &&& (31 : Int32)))) (b := (1 : Int32)) (by omega) (by omega)
  have e7 := dz_l0
  exact (t157_X2_fewest_I fu hfu a271 kv) (((1 : Int32) <<< (v1 &&& (31 : Int32))) - (1 : Int32)) (((1 : Int32) <<< (v1 &&& (31 : Int32))) - (1 : Int32)) (0 : Int32) (by omega) (by omega) (by omega) (by omega) (by omega) (by omega) (by omega) (by omega) (by omega)
theorem t157_X2_fewest (fu : Nat) (hfu : 1000000000000 ≤ fu) (a271 : Nat → Int32) (v1 : Int32) (p0 : 0 ≤ v1.toInt) (p1 : v1.toInt ≤ 10) : dz_T (f157_X2_fewest fu a271 v1) (fun r => r.toInt ≤ 1023 ∧ 0 ≤ r.toInt) :=
  t157_X2_fewest_E fu hfu a271 v1 p0 p1 fu hfu
set_option maxHeartbeats 1000000 in
set_option maxRecDepth 10000 in
theorem t158_X11_forbids_s (fu : Nat) (hfu : 1000000000000 ≤ fu) (κ : Nat) (hκ : κ < 14) (c248_bars : Int32) (c267_lawfulOnes : Int32) (a271 : Nat → Int32) (p0 : c248_bars.toInt ≤ 10) (p1 : 0 ≤ c248_bars.toInt) (p2 : c267_lawfulOnes.toInt ≤ 13824) (p3 : 0 ≤ c267_lawfulOnes.toInt) : dz_T (f158_X11_forbids fu c248_bars c267_lawfulOnes a271) (fun r => r.toInt ≤ 1023 ∧ 0 ≤ r.toInt) := by
  unfold f158_X11_forbids s158_X11_forbids_0
  have e1 := dz_l0
  refine dz_Tle (fun h2 => ?_) (fun h2 => ?_)
  · skip
    refine dz_Tb (t157_X2_fewest fu hfu _ _ p1 p0) (fun r1 q => ?_)
    obtain ⟨q1_0, q1_1⟩ := q
    exact dz_Ts ⟨q1_0, q1_1⟩
  · skip
    exact dz_Ts ⟨(by omega), (by omega)⟩
set_option maxHeartbeats 1000000 in
set_option maxRecDepth 10000 in
theorem t162_X2_groupIn_g20 (fu : Nat) (hfu : 1000000000000 ≤ fu) (c248_groups : Int32) (c261_many : Int32) (a262 : Nat → Int32) (a268 : Nat → Int32) (v1 : Int32) (v2 : Int32) (p0 : c248_groups.toInt ≤ 2) (p1 : 2 ≤ c248_groups.toInt) (p2 : c261_many.toInt ≤ 2) (p3 : 2 ≤ c261_many.toInt) (p4 : 0 ≤ v1.toInt) (p5 : v1.toInt ≤ 13823) (p6 : 0 ≤ v2.toInt) (p7 : v2.toInt ≤ (-1)) (hr_a262 : dz_rg a262 96 0 3) : dz_T (f162_X2_groupIn fu c248_groups c261_many a262 a268 v1 v2) (fun r => True) := by
  unfold f162_X2_groupIn s162_X2_groupIn_0
  exfalso; omega
set_option maxHeartbeats 1000000 in
set_option maxRecDepth 10000 in
theorem t162_X2_groupIn_g21 (fu : Nat) (hfu : 1000000000000 ≤ fu) (c248_groups : Int32) (c261_many : Int32) (a262 : Nat → Int32) (a268 : Nat → Int32) (v1 : Int32) (v2 : Int32) (p0 : c248_groups.toInt ≤ 2) (p1 : 2 ≤ c248_groups.toInt) (p2 : c261_many.toInt ≤ 2) (p3 : 2 ≤ c261_many.toInt) (p4 : 0 ≤ v1.toInt) (p5 : v1.toInt ≤ 13823) (p6 : 0 ≤ v2.toInt) (p7 : v2.toInt ≤ 1) (hr_a262 : dz_rg a262 96 0 3) (hr_a268 : dz_pt a268 [1]) : dz_T (f162_X2_groupIn fu c248_groups c261_many a262 a268 v1 v2) (fun r => r.toInt ≤ 3 ∧ 0 ≤ r.toInt) := by
  unfold f162_X2_groupIn s162_X2_groupIn_0
  refine dz_Tbe (show f160_X3_potOf fu c248_groups v2 = (if (c248_groups ≤ (0 : Int32)) then (some (0 : Int32)) else (if (¬ (c248_groups = (0 : Int32))) then (some (v2 / c248_groups)) else none)) from rfl) ?_
  have e1 := dz_l0
  refine dz_Tleb (fun h2 => ?_) (fun h2 => ?_)
  · skip
    exfalso; omega
  · skip
    refine dz_Tzb (by omega) ?_
    refine dz_Tsb ?_
    refine dz_Tbe (show f141_X2_rankIn fu c261_many a268 v1 (v2 / c248_groups) = (if dz_in (v2 / c248_groups) 4 then (if ((a268 (v2 / c248_groups).toNatClampNeg) ≤ (0 : Int32)) then (some (0 : Int32)) else (if (c261_many ≤ (0 : Int32)) then (some (0 : Int32)) else (if (¬ ((a268 (v2 / c248_groups).toNatClampNeg) = (0 : Int32))) then (if (¬ (c261_many = (0 : Int32))) then (some (dz_rem (v1 / (a268 (v2 / c248_groups).toNatClampNeg)) c261_many)) else none) else none))) else none) from rfl) ?_
    have e3 := dz_divn (a := v2) (b := c248_groups) 2 (by omega) (by omega) (by omega)
    refine dz_Tinb (by omega) (by omega) ?_
    have e4 := dz_ptat (hr_a268) (i := (v2 / c248_groups)) (x := 1) 0 (by omega) (by decide)
    refine dz_Tleb (fun h5 => ?_) (fun h5 => ?_)
    · skip
      exfalso; omega
    · skip
      refine dz_Tleb (fun h6 => ?_) (fun h6 => ?_)
      · skip
        exfalso; omega
      · skip
        refine dz_Tzb (by omega) ?_
        refine dz_Tzb (by omega) ?_
        refine dz_Tsb ?_
        refine dz_Tbe (show f161_X3_placeOf fu c248_groups v2 = (if (c248_groups ≤ (0 : Int32)) then (some (0 : Int32)) else (if (¬ (c248_groups = (0 : Int32))) then (some (dz_rem v2 c248_groups)) else none)) from rfl) ?_
        refine dz_Tleb (fun h7 => ?_) (fun h7 => ?_)
        · skip
          exfalso; omega
        · skip
          refine dz_Tzb (by omega) ?_
          refine dz_Tsb ?_
          have e8 := dz_divn (a := v1) (b := (a268 (v2 / c248_groups).toNatClampNeg)) 1 (by omega) (by omega) (by omega)
          have e9 := dz_remn (a := (v1 / (a268 (v2 / c248_groups).toNatClampNeg))) (b := c261_many) 2 (by omega) (by omega) (by omega)
          have e10 := dz_remn (a := v2) (b := c248_groups) 2 (by omega) (by omega) (by omega)
          refine dz_Tb (t130_X4_groupAt fu hfu _ _ _ (by omega) (by omega) (by omega) (by omega) (hr_a262)) (fun r4 q => ?_)
          obtain ⟨q4_0, q4_1⟩ := q
          exact dz_Ts ⟨q4_0, q4_1⟩
set_option maxHeartbeats 1000000 in
set_option maxRecDepth 10000 in
theorem t162_X2_groupIn_g22 (fu : Nat) (hfu : 1000000000000 ≤ fu) (c248_groups : Int32) (c261_many : Int32) (a262 : Nat → Int32) (a268 : Nat → Int32) (v1 : Int32) (v2 : Int32) (p0 : c248_groups.toInt ≤ 2) (p1 : 2 ≤ c248_groups.toInt) (p2 : c261_many.toInt ≤ 2) (p3 : 2 ≤ c261_many.toInt) (p4 : 0 ≤ v1.toInt) (p5 : v1.toInt ≤ 13823) (p6 : 0 ≤ v2.toInt) (p7 : v2.toInt ≤ 3) (hr_a262 : dz_rg a262 96 0 3) (hr_a268 : dz_pt a268 [2, 1]) : dz_T (f162_X2_groupIn fu c248_groups c261_many a262 a268 v1 v2) (fun r => r.toInt ≤ 3 ∧ 0 ≤ r.toInt) := by
  unfold f162_X2_groupIn s162_X2_groupIn_0
  refine dz_Tbe (show f160_X3_potOf fu c248_groups v2 = (if (c248_groups ≤ (0 : Int32)) then (some (0 : Int32)) else (if (¬ (c248_groups = (0 : Int32))) then (some (v2 / c248_groups)) else none)) from rfl) ?_
  have e1 := dz_l0
  refine dz_Tleb (fun h2 => ?_) (fun h2 => ?_)
  · skip
    exfalso; omega
  · skip
    refine dz_Tzb (by omega) ?_
    refine dz_Tsb ?_
    refine dz_Tbe (show f141_X2_rankIn fu c261_many a268 v1 (v2 / c248_groups) = (if dz_in (v2 / c248_groups) 4 then (if ((a268 (v2 / c248_groups).toNatClampNeg) ≤ (0 : Int32)) then (some (0 : Int32)) else (if (c261_many ≤ (0 : Int32)) then (some (0 : Int32)) else (if (¬ ((a268 (v2 / c248_groups).toNatClampNeg) = (0 : Int32))) then (if (¬ (c261_many = (0 : Int32))) then (some (dz_rem (v1 / (a268 (v2 / c248_groups).toNatClampNeg)) c261_many)) else none) else none))) else none) from rfl) ?_
    have e3 := dz_divn (a := v2) (b := c248_groups) 2 (by omega) (by omega) (by omega)
    refine dz_Tinb (by omega) (by omega) ?_
    have e4 := dz_ptrg (hr_a268) (i := (v2 / c248_groups)) 1 2 (by decide) (by omega) (by show _ < ((2 : Nat) : Int); omega)
    refine dz_Tleb (fun h5 => ?_) (fun h5 => ?_)
    · skip
      exfalso; omega
    · skip
      refine dz_Tleb (fun h6 => ?_) (fun h6 => ?_)
      · skip
        exfalso; omega
      · skip
        refine dz_Tzb (by omega) ?_
        refine dz_Tzb (by omega) ?_
        refine dz_Tsb ?_
        refine dz_Tbe (show f161_X3_placeOf fu c248_groups v2 = (if (c248_groups ≤ (0 : Int32)) then (some (0 : Int32)) else (if (¬ (c248_groups = (0 : Int32))) then (some (dz_rem v2 c248_groups)) else none)) from rfl) ?_
        refine dz_Tleb (fun h7 => ?_) (fun h7 => ?_)
        · skip
          exfalso; omega
        · skip
          refine dz_Tzb (by omega) ?_
          refine dz_Tsb ?_
          have e8 := dz_divq (a := v1) (b := (a268 (v2 / c248_groups).toNatClampNeg)) 1 13823 (by omega) (by omega) (by omega) (by omega)
          have e9 := dz_remn (a := (v1 / (a268 (v2 / c248_groups).toNatClampNeg))) (b := c261_many) 2 (by omega) (by omega) (by omega)
          have e10 := dz_remn (a := v2) (b := c248_groups) 2 (by omega) (by omega) (by omega)
          refine dz_Tb (t130_X4_groupAt fu hfu _ _ _ (by omega) (by omega) (by omega) (by omega) (hr_a262)) (fun r4 q => ?_)
          obtain ⟨q4_0, q4_1⟩ := q
          exact dz_Ts ⟨q4_0, q4_1⟩
set_option maxHeartbeats 1000000 in
set_option maxRecDepth 10000 in
theorem t162_X2_groupIn_g23 (fu : Nat) (hfu : 1000000000000 ≤ fu) (c248_groups : Int32) (c261_many : Int32) (a262 : Nat → Int32) (a268 : Nat → Int32) (v1 : Int32) (v2 : Int32) (p0 : c248_groups.toInt ≤ 2) (p1 : 2 ≤ c248_groups.toInt) (p2 : c261_many.toInt ≤ 2) (p3 : 2 ≤ c261_many.toInt) (p4 : 0 ≤ v1.toInt) (p5 : v1.toInt ≤ 13823) (p6 : 0 ≤ v2.toInt) (p7 : v2.toInt ≤ 5) (hr_a262 : dz_rg a262 96 0 3) (hr_a268 : dz_pt a268 [4, 2, 1]) : dz_T (f162_X2_groupIn fu c248_groups c261_many a262 a268 v1 v2) (fun r => r.toInt ≤ 3 ∧ 0 ≤ r.toInt) := by
  unfold f162_X2_groupIn s162_X2_groupIn_0
  refine dz_Tbe (show f160_X3_potOf fu c248_groups v2 = (if (c248_groups ≤ (0 : Int32)) then (some (0 : Int32)) else (if (¬ (c248_groups = (0 : Int32))) then (some (v2 / c248_groups)) else none)) from rfl) ?_
  have e1 := dz_l0
  refine dz_Tleb (fun h2 => ?_) (fun h2 => ?_)
  · skip
    exfalso; omega
  · skip
    refine dz_Tzb (by omega) ?_
    refine dz_Tsb ?_
    refine dz_Tbe (show f141_X2_rankIn fu c261_many a268 v1 (v2 / c248_groups) = (if dz_in (v2 / c248_groups) 4 then (if ((a268 (v2 / c248_groups).toNatClampNeg) ≤ (0 : Int32)) then (some (0 : Int32)) else (if (c261_many ≤ (0 : Int32)) then (some (0 : Int32)) else (if (¬ ((a268 (v2 / c248_groups).toNatClampNeg) = (0 : Int32))) then (if (¬ (c261_many = (0 : Int32))) then (some (dz_rem (v1 / (a268 (v2 / c248_groups).toNatClampNeg)) c261_many)) else none) else none))) else none) from rfl) ?_
    have e3 := dz_divn (a := v2) (b := c248_groups) 2 (by omega) (by omega) (by omega)
    refine dz_Tinb (by omega) (by omega) ?_
    have e4 := dz_ptrg (hr_a268) (i := (v2 / c248_groups)) 1 4 (by decide) (by omega) (by show _ < ((3 : Nat) : Int); omega)
    refine dz_Tleb (fun h5 => ?_) (fun h5 => ?_)
    · skip
      exfalso; omega
    · skip
      refine dz_Tleb (fun h6 => ?_) (fun h6 => ?_)
      · skip
        exfalso; omega
      · skip
        refine dz_Tzb (by omega) ?_
        refine dz_Tzb (by omega) ?_
        refine dz_Tsb ?_
        refine dz_Tbe (show f161_X3_placeOf fu c248_groups v2 = (if (c248_groups ≤ (0 : Int32)) then (some (0 : Int32)) else (if (¬ (c248_groups = (0 : Int32))) then (some (dz_rem v2 c248_groups)) else none)) from rfl) ?_
        refine dz_Tleb (fun h7 => ?_) (fun h7 => ?_)
        · skip
          exfalso; omega
        · skip
          refine dz_Tzb (by omega) ?_
          refine dz_Tsb ?_
          have e8 := dz_divq (a := v1) (b := (a268 (v2 / c248_groups).toNatClampNeg)) 1 13823 (by omega) (by omega) (by omega) (by omega)
          have e9 := dz_remn (a := (v1 / (a268 (v2 / c248_groups).toNatClampNeg))) (b := c261_many) 2 (by omega) (by omega) (by omega)
          have e10 := dz_remn (a := v2) (b := c248_groups) 2 (by omega) (by omega) (by omega)
          refine dz_Tb (t130_X4_groupAt fu hfu _ _ _ (by omega) (by omega) (by omega) (by omega) (hr_a262)) (fun r4 q => ?_)
          obtain ⟨q4_0, q4_1⟩ := q
          exact dz_Ts ⟨q4_0, q4_1⟩
set_option maxHeartbeats 1000000 in
set_option maxRecDepth 10000 in
theorem t162_X2_groupIn_g24 (fu : Nat) (hfu : 1000000000000 ≤ fu) (c248_groups : Int32) (c261_many : Int32) (a262 : Nat → Int32) (a268 : Nat → Int32) (v1 : Int32) (v2 : Int32) (p0 : c248_groups.toInt ≤ 2) (p1 : 2 ≤ c248_groups.toInt) (p2 : c261_many.toInt ≤ 2) (p3 : 2 ≤ c261_many.toInt) (p4 : 0 ≤ v1.toInt) (p5 : v1.toInt ≤ 13823) (p6 : 0 ≤ v2.toInt) (p7 : v2.toInt ≤ 7) (hr_a262 : dz_rg a262 96 0 3) (hr_a268 : dz_pt a268 [8, 4, 2, 1]) : dz_T (f162_X2_groupIn fu c248_groups c261_many a262 a268 v1 v2) (fun r => r.toInt ≤ 3 ∧ 0 ≤ r.toInt) := by
  unfold f162_X2_groupIn s162_X2_groupIn_0
  refine dz_Tbe (show f160_X3_potOf fu c248_groups v2 = (if (c248_groups ≤ (0 : Int32)) then (some (0 : Int32)) else (if (¬ (c248_groups = (0 : Int32))) then (some (v2 / c248_groups)) else none)) from rfl) ?_
  have e1 := dz_l0
  refine dz_Tleb (fun h2 => ?_) (fun h2 => ?_)
  · skip
    exfalso; omega
  · skip
    refine dz_Tzb (by omega) ?_
    refine dz_Tsb ?_
    refine dz_Tbe (show f141_X2_rankIn fu c261_many a268 v1 (v2 / c248_groups) = (if dz_in (v2 / c248_groups) 4 then (if ((a268 (v2 / c248_groups).toNatClampNeg) ≤ (0 : Int32)) then (some (0 : Int32)) else (if (c261_many ≤ (0 : Int32)) then (some (0 : Int32)) else (if (¬ ((a268 (v2 / c248_groups).toNatClampNeg) = (0 : Int32))) then (if (¬ (c261_many = (0 : Int32))) then (some (dz_rem (v1 / (a268 (v2 / c248_groups).toNatClampNeg)) c261_many)) else none) else none))) else none) from rfl) ?_
    have e3 := dz_divn (a := v2) (b := c248_groups) 2 (by omega) (by omega) (by omega)
    refine dz_Tinb (by omega) (by omega) ?_
    have e4 := dz_ptrg (hr_a268) (i := (v2 / c248_groups)) 1 8 (by decide) (by omega) (by show _ < ((4 : Nat) : Int); omega)
    refine dz_Tleb (fun h5 => ?_) (fun h5 => ?_)
    · skip
      exfalso; omega
    · skip
      refine dz_Tleb (fun h6 => ?_) (fun h6 => ?_)
      · skip
        exfalso; omega
      · skip
        refine dz_Tzb (by omega) ?_
        refine dz_Tzb (by omega) ?_
        refine dz_Tsb ?_
        refine dz_Tbe (show f161_X3_placeOf fu c248_groups v2 = (if (c248_groups ≤ (0 : Int32)) then (some (0 : Int32)) else (if (¬ (c248_groups = (0 : Int32))) then (some (dz_rem v2 c248_groups)) else none)) from rfl) ?_
        refine dz_Tleb (fun h7 => ?_) (fun h7 => ?_)
        · skip
          exfalso; omega
        · skip
          refine dz_Tzb (by omega) ?_
          refine dz_Tsb ?_
          have e8 := dz_divq (a := v1) (b := (a268 (v2 / c248_groups).toNatClampNeg)) 1 13823 (by omega) (by omega) (by omega) (by omega)
          have e9 := dz_remn (a := (v1 / (a268 (v2 / c248_groups).toNatClampNeg))) (b := c261_many) 2 (by omega) (by omega) (by omega)
          have e10 := dz_remn (a := v2) (b := c248_groups) 2 (by omega) (by omega) (by omega)
          refine dz_Tb (t130_X4_groupAt fu hfu _ _ _ (by omega) (by omega) (by omega) (by omega) (hr_a262)) (fun r4 q => ?_)
          obtain ⟨q4_0, q4_1⟩ := q
          exact dz_Ts ⟨q4_0, q4_1⟩
set_option maxHeartbeats 1000000 in
set_option maxRecDepth 10000 in
theorem t162_X2_groupIn_g30 (fu : Nat) (hfu : 1000000000000 ≤ fu) (c248_groups : Int32) (c261_many : Int32) (a262 : Nat → Int32) (a268 : Nat → Int32) (v1 : Int32) (v2 : Int32) (p0 : c248_groups.toInt ≤ 3) (p1 : 3 ≤ c248_groups.toInt) (p2 : c261_many.toInt ≤ 6) (p3 : 6 ≤ c261_many.toInt) (p4 : 0 ≤ v1.toInt) (p5 : v1.toInt ≤ 13823) (p6 : 0 ≤ v2.toInt) (p7 : v2.toInt ≤ (-1)) (hr_a262 : dz_rg a262 96 0 3) : dz_T (f162_X2_groupIn fu c248_groups c261_many a262 a268 v1 v2) (fun r => True) := by
  unfold f162_X2_groupIn s162_X2_groupIn_0
  exfalso; omega
set_option maxHeartbeats 1000000 in
set_option maxRecDepth 10000 in
theorem t162_X2_groupIn_g31 (fu : Nat) (hfu : 1000000000000 ≤ fu) (c248_groups : Int32) (c261_many : Int32) (a262 : Nat → Int32) (a268 : Nat → Int32) (v1 : Int32) (v2 : Int32) (p0 : c248_groups.toInt ≤ 3) (p1 : 3 ≤ c248_groups.toInt) (p2 : c261_many.toInt ≤ 6) (p3 : 6 ≤ c261_many.toInt) (p4 : 0 ≤ v1.toInt) (p5 : v1.toInt ≤ 13823) (p6 : 0 ≤ v2.toInt) (p7 : v2.toInt ≤ 2) (hr_a262 : dz_rg a262 96 0 3) (hr_a268 : dz_pt a268 [1]) : dz_T (f162_X2_groupIn fu c248_groups c261_many a262 a268 v1 v2) (fun r => r.toInt ≤ 3 ∧ 0 ≤ r.toInt) := by
  unfold f162_X2_groupIn s162_X2_groupIn_0
  refine dz_Tbe (show f160_X3_potOf fu c248_groups v2 = (if (c248_groups ≤ (0 : Int32)) then (some (0 : Int32)) else (if (¬ (c248_groups = (0 : Int32))) then (some (v2 / c248_groups)) else none)) from rfl) ?_
  have e1 := dz_l0
  refine dz_Tleb (fun h2 => ?_) (fun h2 => ?_)
  · skip
    exfalso; omega
  · skip
    refine dz_Tzb (by omega) ?_
    refine dz_Tsb ?_
    refine dz_Tbe (show f141_X2_rankIn fu c261_many a268 v1 (v2 / c248_groups) = (if dz_in (v2 / c248_groups) 4 then (if ((a268 (v2 / c248_groups).toNatClampNeg) ≤ (0 : Int32)) then (some (0 : Int32)) else (if (c261_many ≤ (0 : Int32)) then (some (0 : Int32)) else (if (¬ ((a268 (v2 / c248_groups).toNatClampNeg) = (0 : Int32))) then (if (¬ (c261_many = (0 : Int32))) then (some (dz_rem (v1 / (a268 (v2 / c248_groups).toNatClampNeg)) c261_many)) else none) else none))) else none) from rfl) ?_
    have e3 := dz_divn (a := v2) (b := c248_groups) 3 (by omega) (by omega) (by omega)
    refine dz_Tinb (by omega) (by omega) ?_
    have e4 := dz_ptat (hr_a268) (i := (v2 / c248_groups)) (x := 1) 0 (by omega) (by decide)
    refine dz_Tleb (fun h5 => ?_) (fun h5 => ?_)
    · skip
      exfalso; omega
    · skip
      refine dz_Tleb (fun h6 => ?_) (fun h6 => ?_)
      · skip
        exfalso; omega
      · skip
        refine dz_Tzb (by omega) ?_
        refine dz_Tzb (by omega) ?_
        refine dz_Tsb ?_
        refine dz_Tbe (show f161_X3_placeOf fu c248_groups v2 = (if (c248_groups ≤ (0 : Int32)) then (some (0 : Int32)) else (if (¬ (c248_groups = (0 : Int32))) then (some (dz_rem v2 c248_groups)) else none)) from rfl) ?_
        refine dz_Tleb (fun h7 => ?_) (fun h7 => ?_)
        · skip
          exfalso; omega
        · skip
          refine dz_Tzb (by omega) ?_
          refine dz_Tsb ?_
          have e8 := dz_divn (a := v1) (b := (a268 (v2 / c248_groups).toNatClampNeg)) 1 (by omega) (by omega) (by omega)
          have e9 := dz_remn (a := (v1 / (a268 (v2 / c248_groups).toNatClampNeg))) (b := c261_many) 6 (by omega) (by omega) (by omega)
          have e10 := dz_remn (a := v2) (b := c248_groups) 3 (by omega) (by omega) (by omega)
          refine dz_Tb (t130_X4_groupAt fu hfu _ _ _ (by omega) (by omega) (by omega) (by omega) (hr_a262)) (fun r4 q => ?_)
          obtain ⟨q4_0, q4_1⟩ := q
          exact dz_Ts ⟨q4_0, q4_1⟩
set_option maxHeartbeats 1000000 in
set_option maxRecDepth 10000 in
theorem t162_X2_groupIn_g32 (fu : Nat) (hfu : 1000000000000 ≤ fu) (c248_groups : Int32) (c261_many : Int32) (a262 : Nat → Int32) (a268 : Nat → Int32) (v1 : Int32) (v2 : Int32) (p0 : c248_groups.toInt ≤ 3) (p1 : 3 ≤ c248_groups.toInt) (p2 : c261_many.toInt ≤ 6) (p3 : 6 ≤ c261_many.toInt) (p4 : 0 ≤ v1.toInt) (p5 : v1.toInt ≤ 13823) (p6 : 0 ≤ v2.toInt) (p7 : v2.toInt ≤ 5) (hr_a262 : dz_rg a262 96 0 3) (hr_a268 : dz_pt a268 [6, 1]) : dz_T (f162_X2_groupIn fu c248_groups c261_many a262 a268 v1 v2) (fun r => r.toInt ≤ 3 ∧ 0 ≤ r.toInt) := by
  unfold f162_X2_groupIn s162_X2_groupIn_0
  refine dz_Tbe (show f160_X3_potOf fu c248_groups v2 = (if (c248_groups ≤ (0 : Int32)) then (some (0 : Int32)) else (if (¬ (c248_groups = (0 : Int32))) then (some (v2 / c248_groups)) else none)) from rfl) ?_
  have e1 := dz_l0
  refine dz_Tleb (fun h2 => ?_) (fun h2 => ?_)
  · skip
    exfalso; omega
  · skip
    refine dz_Tzb (by omega) ?_
    refine dz_Tsb ?_
    refine dz_Tbe (show f141_X2_rankIn fu c261_many a268 v1 (v2 / c248_groups) = (if dz_in (v2 / c248_groups) 4 then (if ((a268 (v2 / c248_groups).toNatClampNeg) ≤ (0 : Int32)) then (some (0 : Int32)) else (if (c261_many ≤ (0 : Int32)) then (some (0 : Int32)) else (if (¬ ((a268 (v2 / c248_groups).toNatClampNeg) = (0 : Int32))) then (if (¬ (c261_many = (0 : Int32))) then (some (dz_rem (v1 / (a268 (v2 / c248_groups).toNatClampNeg)) c261_many)) else none) else none))) else none) from rfl) ?_
    have e3 := dz_divn (a := v2) (b := c248_groups) 3 (by omega) (by omega) (by omega)
    refine dz_Tinb (by omega) (by omega) ?_
    have e4 := dz_ptrg (hr_a268) (i := (v2 / c248_groups)) 1 6 (by decide) (by omega) (by show _ < ((2 : Nat) : Int); omega)
    refine dz_Tleb (fun h5 => ?_) (fun h5 => ?_)
    · skip
      exfalso; omega
    · skip
      refine dz_Tleb (fun h6 => ?_) (fun h6 => ?_)
      · skip
        exfalso; omega
      · skip
        refine dz_Tzb (by omega) ?_
        refine dz_Tzb (by omega) ?_
        refine dz_Tsb ?_
        refine dz_Tbe (show f161_X3_placeOf fu c248_groups v2 = (if (c248_groups ≤ (0 : Int32)) then (some (0 : Int32)) else (if (¬ (c248_groups = (0 : Int32))) then (some (dz_rem v2 c248_groups)) else none)) from rfl) ?_
        refine dz_Tleb (fun h7 => ?_) (fun h7 => ?_)
        · skip
          exfalso; omega
        · skip
          refine dz_Tzb (by omega) ?_
          refine dz_Tsb ?_
          have e8 := dz_divq (a := v1) (b := (a268 (v2 / c248_groups).toNatClampNeg)) 1 13823 (by omega) (by omega) (by omega) (by omega)
          have e9 := dz_remn (a := (v1 / (a268 (v2 / c248_groups).toNatClampNeg))) (b := c261_many) 6 (by omega) (by omega) (by omega)
          have e10 := dz_remn (a := v2) (b := c248_groups) 3 (by omega) (by omega) (by omega)
          refine dz_Tb (t130_X4_groupAt fu hfu _ _ _ (by omega) (by omega) (by omega) (by omega) (hr_a262)) (fun r4 q => ?_)
          obtain ⟨q4_0, q4_1⟩ := q
          exact dz_Ts ⟨q4_0, q4_1⟩
set_option maxHeartbeats 1000000 in
set_option maxRecDepth 10000 in
theorem t162_X2_groupIn_g33 (fu : Nat) (hfu : 1000000000000 ≤ fu) (c248_groups : Int32) (c261_many : Int32) (a262 : Nat → Int32) (a268 : Nat → Int32) (v1 : Int32) (v2 : Int32) (p0 : c248_groups.toInt ≤ 3) (p1 : 3 ≤ c248_groups.toInt) (p2 : c261_many.toInt ≤ 6) (p3 : 6 ≤ c261_many.toInt) (p4 : 0 ≤ v1.toInt) (p5 : v1.toInt ≤ 13823) (p6 : 0 ≤ v2.toInt) (p7 : v2.toInt ≤ 8) (hr_a262 : dz_rg a262 96 0 3) (hr_a268 : dz_pt a268 [36, 6, 1]) : dz_T (f162_X2_groupIn fu c248_groups c261_many a262 a268 v1 v2) (fun r => r.toInt ≤ 3 ∧ 0 ≤ r.toInt) := by
  unfold f162_X2_groupIn s162_X2_groupIn_0
  refine dz_Tbe (show f160_X3_potOf fu c248_groups v2 = (if (c248_groups ≤ (0 : Int32)) then (some (0 : Int32)) else (if (¬ (c248_groups = (0 : Int32))) then (some (v2 / c248_groups)) else none)) from rfl) ?_
  have e1 := dz_l0
  refine dz_Tleb (fun h2 => ?_) (fun h2 => ?_)
  · skip
    exfalso; omega
  · skip
    refine dz_Tzb (by omega) ?_
    refine dz_Tsb ?_
    refine dz_Tbe (show f141_X2_rankIn fu c261_many a268 v1 (v2 / c248_groups) = (if dz_in (v2 / c248_groups) 4 then (if ((a268 (v2 / c248_groups).toNatClampNeg) ≤ (0 : Int32)) then (some (0 : Int32)) else (if (c261_many ≤ (0 : Int32)) then (some (0 : Int32)) else (if (¬ ((a268 (v2 / c248_groups).toNatClampNeg) = (0 : Int32))) then (if (¬ (c261_many = (0 : Int32))) then (some (dz_rem (v1 / (a268 (v2 / c248_groups).toNatClampNeg)) c261_many)) else none) else none))) else none) from rfl) ?_
    have e3 := dz_divn (a := v2) (b := c248_groups) 3 (by omega) (by omega) (by omega)
    refine dz_Tinb (by omega) (by omega) ?_
    have e4 := dz_ptrg (hr_a268) (i := (v2 / c248_groups)) 1 36 (by decide) (by omega) (by show _ < ((3 : Nat) : Int); omega)
    refine dz_Tleb (fun h5 => ?_) (fun h5 => ?_)
    · skip
      exfalso; omega
    · skip
      refine dz_Tleb (fun h6 => ?_) (fun h6 => ?_)
      · skip
        exfalso; omega
      · skip
        refine dz_Tzb (by omega) ?_
        refine dz_Tzb (by omega) ?_
        refine dz_Tsb ?_
        refine dz_Tbe (show f161_X3_placeOf fu c248_groups v2 = (if (c248_groups ≤ (0 : Int32)) then (some (0 : Int32)) else (if (¬ (c248_groups = (0 : Int32))) then (some (dz_rem v2 c248_groups)) else none)) from rfl) ?_
        refine dz_Tleb (fun h7 => ?_) (fun h7 => ?_)
        · skip
          exfalso; omega
        · skip
          refine dz_Tzb (by omega) ?_
          refine dz_Tsb ?_
          have e8 := dz_divq (a := v1) (b := (a268 (v2 / c248_groups).toNatClampNeg)) 1 13823 (by omega) (by omega) (by omega) (by omega)
          have e9 := dz_remn (a := (v1 / (a268 (v2 / c248_groups).toNatClampNeg))) (b := c261_many) 6 (by omega) (by omega) (by omega)
          have e10 := dz_remn (a := v2) (b := c248_groups) 3 (by omega) (by omega) (by omega)
          refine dz_Tb (t130_X4_groupAt fu hfu _ _ _ (by omega) (by omega) (by omega) (by omega) (hr_a262)) (fun r4 q => ?_)
          obtain ⟨q4_0, q4_1⟩ := q
          exact dz_Ts ⟨q4_0, q4_1⟩
set_option maxHeartbeats 1000000 in
set_option maxRecDepth 10000 in
theorem t162_X2_groupIn_g34 (fu : Nat) (hfu : 1000000000000 ≤ fu) (c248_groups : Int32) (c261_many : Int32) (a262 : Nat → Int32) (a268 : Nat → Int32) (v1 : Int32) (v2 : Int32) (p0 : c248_groups.toInt ≤ 3) (p1 : 3 ≤ c248_groups.toInt) (p2 : c261_many.toInt ≤ 6) (p3 : 6 ≤ c261_many.toInt) (p4 : 0 ≤ v1.toInt) (p5 : v1.toInt ≤ 13823) (p6 : 0 ≤ v2.toInt) (p7 : v2.toInt ≤ 11) (hr_a262 : dz_rg a262 96 0 3) (hr_a268 : dz_pt a268 [216, 36, 6, 1]) : dz_T (f162_X2_groupIn fu c248_groups c261_many a262 a268 v1 v2) (fun r => r.toInt ≤ 3 ∧ 0 ≤ r.toInt) := by
  unfold f162_X2_groupIn s162_X2_groupIn_0
  refine dz_Tbe (show f160_X3_potOf fu c248_groups v2 = (if (c248_groups ≤ (0 : Int32)) then (some (0 : Int32)) else (if (¬ (c248_groups = (0 : Int32))) then (some (v2 / c248_groups)) else none)) from rfl) ?_
  have e1 := dz_l0
  refine dz_Tleb (fun h2 => ?_) (fun h2 => ?_)
  · skip
    exfalso; omega
  · skip
    refine dz_Tzb (by omega) ?_
    refine dz_Tsb ?_
    refine dz_Tbe (show f141_X2_rankIn fu c261_many a268 v1 (v2 / c248_groups) = (if dz_in (v2 / c248_groups) 4 then (if ((a268 (v2 / c248_groups).toNatClampNeg) ≤ (0 : Int32)) then (some (0 : Int32)) else (if (c261_many ≤ (0 : Int32)) then (some (0 : Int32)) else (if (¬ ((a268 (v2 / c248_groups).toNatClampNeg) = (0 : Int32))) then (if (¬ (c261_many = (0 : Int32))) then (some (dz_rem (v1 / (a268 (v2 / c248_groups).toNatClampNeg)) c261_many)) else none) else none))) else none) from rfl) ?_
    have e3 := dz_divn (a := v2) (b := c248_groups) 3 (by omega) (by omega) (by omega)
    refine dz_Tinb (by omega) (by omega) ?_
    have e4 := dz_ptrg (hr_a268) (i := (v2 / c248_groups)) 1 216 (by decide) (by omega) (by show _ < ((4 : Nat) : Int); omega)
    refine dz_Tleb (fun h5 => ?_) (fun h5 => ?_)
    · skip
      exfalso; omega
    · skip
      refine dz_Tleb (fun h6 => ?_) (fun h6 => ?_)
      · skip
        exfalso; omega
      · skip
        refine dz_Tzb (by omega) ?_
        refine dz_Tzb (by omega) ?_
        refine dz_Tsb ?_
        refine dz_Tbe (show f161_X3_placeOf fu c248_groups v2 = (if (c248_groups ≤ (0 : Int32)) then (some (0 : Int32)) else (if (¬ (c248_groups = (0 : Int32))) then (some (dz_rem v2 c248_groups)) else none)) from rfl) ?_
        refine dz_Tleb (fun h7 => ?_) (fun h7 => ?_)
        · skip
          exfalso; omega
        · skip
          refine dz_Tzb (by omega) ?_
          refine dz_Tsb ?_
          have e8 := dz_divq (a := v1) (b := (a268 (v2 / c248_groups).toNatClampNeg)) 1 13823 (by omega) (by omega) (by omega) (by omega)
          have e9 := dz_remn (a := (v1 / (a268 (v2 / c248_groups).toNatClampNeg))) (b := c261_many) 6 (by omega) (by omega) (by omega)
          have e10 := dz_remn (a := v2) (b := c248_groups) 3 (by omega) (by omega) (by omega)
          refine dz_Tb (t130_X4_groupAt fu hfu _ _ _ (by omega) (by omega) (by omega) (by omega) (hr_a262)) (fun r4 q => ?_)
          obtain ⟨q4_0, q4_1⟩ := q
          exact dz_Ts ⟨q4_0, q4_1⟩
set_option maxHeartbeats 1000000 in
set_option maxRecDepth 10000 in
theorem t162_X2_groupIn_g40 (fu : Nat) (hfu : 1000000000000 ≤ fu) (c248_groups : Int32) (c261_many : Int32) (a262 : Nat → Int32) (a268 : Nat → Int32) (v1 : Int32) (v2 : Int32) (p0 : c248_groups.toInt ≤ 4) (p1 : 4 ≤ c248_groups.toInt) (p2 : c261_many.toInt ≤ 24) (p3 : 24 ≤ c261_many.toInt) (p4 : 0 ≤ v1.toInt) (p5 : v1.toInt ≤ 13823) (p6 : 0 ≤ v2.toInt) (p7 : v2.toInt ≤ (-1)) (hr_a262 : dz_rg a262 96 0 3) : dz_T (f162_X2_groupIn fu c248_groups c261_many a262 a268 v1 v2) (fun r => True) := by
  unfold f162_X2_groupIn s162_X2_groupIn_0
  exfalso; omega
