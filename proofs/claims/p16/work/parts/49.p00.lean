abbrev p0_X12_feed (fu : Nat) (k : Nat) : Prop :=
  (∀ (v1 : Int32) (v2 : Int32) (v3 : Int32) (v4 : Int32) (v5 : Int32) (v6 : Int32) (c2_tapeSize : Int32) (c2_thrown : Int32) (a38 : Nat → Int32), v6.toInt ≤ 20 → 0 ≤ v6.toInt → c2_tapeSize.toInt ≤ 380 → 0 ≤ c2_tapeSize.toInt → c2_thrown.toInt ≤ 0 → 0 ≤ c2_thrown.toInt → 0 + 0 + (20 - v6.toInt) * 12 + 6 ≤ ((k : Nat) : Int) → dz_T ((F0_X12_feed fu k).1 v1 v2 v3 v4 v5 v6 c2_tapeSize c2_thrown a38) (fun r => r.1.toInt ≤ 400 ∧ (-1) ≤ r.1.toInt ∧ r.2.1.toInt ≤ 400 ∧ 20 ≤ r.2.1.toInt ∧ r.1.toInt ≤ r.2.1.toInt))
set_option maxHeartbeats 4000000 in
set_option maxRecDepth 10000 in
theorem t0_X12_feed_h1 (fu : Nat) (hfu : 1000000000000 ≤ fu) (k : Nat) (ih : ∀ j9, j9 < k → p0_X12_feed fu j9) : ∀ (v1 : Int32) (v2 : Int32) (v3 : Int32) (v4 : Int32) (v5 : Int32) (v6 : Int32) (c2_tapeSize : Int32) (c2_thrown : Int32) (a38 : Nat → Int32), v6.toInt ≤ 20 → 0 ≤ v6.toInt → c2_tapeSize.toInt ≤ 380 → 0 ≤ c2_tapeSize.toInt → c2_thrown.toInt ≤ 0 → 0 ≤ c2_thrown.toInt → 0 + 0 + (20 - v6.toInt) * 12 + 6 ≤ ((k : Nat) : Int) → dz_T ((F0_X12_feed fu k).1 v1 v2 v3 v4 v5 v6 c2_tapeSize c2_thrown a38) (fun r => r.1.toInt ≤ 400 ∧ (-1) ≤ r.1.toInt ∧ r.2.1.toInt ≤ 400 ∧ 20 ≤ r.2.1.toInt ∧ r.1.toInt ≤ r.2.1.toInt) := by
  intro v1 v2 v3 v4 v5 v6 c2_tapeSize c2_thrown a38 i0 i1 i2 i3 i4 i5 hm
  obtain ⟨k0, rfl⟩ : ∃ x, k = x + 1 := ⟨k - 1, by omega⟩
  show dz_T (s0_X12_feed_1 fu (F0_X12_feed fu k0).2  v1 v2 v3 v4 v5 v6 c2_tapeSize c2_thrown a38) _
  unfold s0_X12_feed_1
  have e1 := dz_l20
  refine dz_Tle (fun h2 => ?_) (fun h2 => ?_)
  · skip
    have e3 := dz_add (a := c2_tapeSize) (b := (20 : Int32)) (by omega) (by omega)
    refine dz_Ts ?_
    dsimp only
    exact ⟨(by omega), (by omega), (by omega), (by omega), (by omega)⟩
  · skip
    have e4 := dz_l4
    refine dz_Tle (fun h5 => ?_) (fun h5 => ?_)
    · skip
      have e6 := dz_l8
      refine dz_Tle (fun h7 => ?_) (fun h7 => ?_)
      · skip
        have e8 := dz_l12
        refine dz_Tle (fun h9 => ?_) (fun h9 => ?_)
        · skip
          have e10 := dz_l16
          refine dz_Tle (fun h11 => ?_) (fun h11 => ?_)
          · skip
            obtain ⟨k1, rfl⟩ : ∃ x, k0 = x + 1 := ⟨k0 - 1, by omega⟩
            show dz_T (s0_X12_feed_2 fu (F0_X12_feed fu k1).1 v1 v2 v3 v4 v5 v6 v5 c2_tapeSize c2_thrown a38) _
            unfold s0_X12_feed_2
            have e12 := dz_add (a := c2_tapeSize) (b := v6) (by omega) (by omega)
            refine dz_Tin (by omega) (by omega) ?_
            have e13 := dz_l1
            have e14 := dz_add (a := v6) (b := (1 : Int32)) (by omega) (by omega)
            exact (ih k1 (by omega)) v1 v2 v3 v4 v5 (v6 + (1 : Int32)) c2_tapeSize c2_thrown (upd a38 (c2_tapeSize + v6).toNatClampNeg ((v5 >>> (((24 : Int32) - ((8 : Int32) * (dz_rem v6 (4 : Int32)))) &&& (31 : Int32))) &&& (255 : Int32))) (by omega) (by omega) i2 i3 i4 i5 (by omega)
          · skip
            obtain ⟨k2, rfl⟩ : ∃ x, k0 = x + 1 := ⟨k0 - 1, by omega⟩
            show dz_T (s0_X12_feed_2 fu (F0_X12_feed fu k2).1 v1 v2 v3 v4 v5 v6 v4 c2_tapeSize c2_thrown a38) _
            unfold s0_X12_feed_2
            have e15 := dz_add (a := c2_tapeSize) (b := v6) (by omega) (by omega)
            refine dz_Tin (by omega) (by omega) ?_
            have e16 := dz_l1
            have e17 := dz_add (a := v6) (b := (1 : Int32)) (by omega) (by omega)
            exact (ih k2 (by omega)) v1 v2 v3 v4 v5 (v6 + (1 : Int32)) c2_tapeSize c2_thrown (upd a38 (c2_tapeSize + v6).toNatClampNeg ((v4 >>> (((24 : Int32) - ((8 : Int32) * (dz_rem v6 (4 : Int32)))) &&& (31 : Int32))) &&& (255 : Int32))) (by omega) (by omega) i2 i3 i4 i5 (by omega)
        · skip
          obtain ⟨k3, rfl⟩ : ∃ x, k0 = x + 1 := ⟨k0 - 1, by omega⟩
          show dz_T (s0_X12_feed_2 fu (F0_X12_feed fu k3).1 v1 v2 v3 v4 v5 v6 v3 c2_tapeSize c2_thrown a38) _
          unfold s0_X12_feed_2
          have e18 := dz_add (a := c2_tapeSize) (b := v6) (by omega) (by omega)
          refine dz_Tin (by omega) (by omega) ?_
          have e19 := dz_l1
          have e20 := dz_add (a := v6) (b := (1 : Int32)) (by omega) (by omega)
          exact (ih k3 (by omega)) v1 v2 v3 v4 v5 (v6 + (1 : Int32)) c2_tapeSize c2_thrown (upd a38 (c2_tapeSize + v6).toNatClampNeg ((v3 >>> (((24 : Int32) - ((8 : Int32) * (dz_rem v6 (4 : Int32)))) &&& (31 : Int32))) &&& (255 : Int32))) (by omega) (by omega) i2 i3 i4 i5 (by omega)
      · skip
        obtain ⟨k4, rfl⟩ : ∃ x, k0 = x + 1 := ⟨k0 - 1, by omega⟩
        show dz_T (s0_X12_feed_2 fu (F0_X12_feed fu k4).1 v1 v2 v3 v4 v5 v6 v2 c2_tapeSize c2_thrown a38) _
        unfold s0_X12_feed_2
        have e21 := dz_add (a := c2_tapeSize) (b := v6) (by omega) (by omega)
        refine dz_Tin (by omega) (by omega) ?_
        have e22 := dz_l1
        have e23 := dz_add (a := v6) (b := (1 : Int32)) (by omega) (by omega)
        exact (ih k4 (by omega)) v1 v2 v3 v4 v5 (v6 + (1 : Int32)) c2_tapeSize c2_thrown (upd a38 (c2_tapeSize + v6).toNatClampNeg ((v2 >>> (((24 : Int32) - ((8 : Int32) * (dz_rem v6 (4 : Int32)))) &&& (31 : Int32))) &&& (255 : Int32))) (by omega) (by omega) i2 i3 i4 i5 (by omega)
    · skip
      obtain ⟨k5, rfl⟩ : ∃ x, k0 = x + 1 := ⟨k0 - 1, by omega⟩
      show dz_T (s0_X12_feed_2 fu (F0_X12_feed fu k5).1 v1 v2 v3 v4 v5 v6 v1 c2_tapeSize c2_thrown a38) _
      unfold s0_X12_feed_2
      have e24 := dz_add (a := c2_tapeSize) (b := v6) (by omega) (by omega)
      refine dz_Tin (by omega) (by omega) ?_
      have e25 := dz_l1
      have e26 := dz_add (a := v6) (b := (1 : Int32)) (by omega) (by omega)
      exact (ih k5 (by omega)) v1 v2 v3 v4 v5 (v6 + (1 : Int32)) c2_tapeSize c2_thrown (upd a38 (c2_tapeSize + v6).toNatClampNeg ((v1 >>> (((24 : Int32) - ((8 : Int32) * (dz_rem v6 (4 : Int32)))) &&& (31 : Int32))) &&& (255 : Int32))) (by omega) (by omega) i2 i3 i4 i5 (by omega)
theorem t0_X12_feed_I (fu : Nat) (hfu : 1000000000000 ≤ fu) (k : Nat) : p0_X12_feed fu k := by
  induction k using Nat.strongRecOn with
  | _ k ih => exact t0_X12_feed_h1 fu hfu k ih
set_option maxHeartbeats 4000000 in
set_option maxRecDepth 10000 in
theorem t0_X12_feed_E (fu : Nat) (hfu : 1000000000000 ≤ fu) (v1 : Int32) (v2 : Int32) (v3 : Int32) (v4 : Int32) (v5 : Int32) (c2_tapeSize : Int32) (c2_thrown : Int32) (a38 : Nat → Int32) (p0 : c2_tapeSize.toInt ≤ 400) (p1 : 0 ≤ c2_tapeSize.toInt) (kv : Nat) (hkv : 1000000000000 ≤ kv) : dz_T (s0_X12_feed_0 fu (F0_X12_feed fu kv).1  v1 v2 v3 v4 v5 c2_tapeSize c2_thrown a38) (fun r => r.1.toInt ≤ 400 ∧ (-1) ≤ r.1.toInt ∧ r.2.1.toInt ≤ 400 ∧ 20 ≤ r.2.1.toInt ∧ r.1.toInt ≤ r.2.1.toInt) := by
  unfold s0_X12_feed_0
  have e1 := dz_l20
  have e2 := dz_add (a := c2_tapeSize) (b := (20 : Int32)) (by omega) (by omega)
  have e3 := dz_l400
  refine dz_Tle (fun h4 => ?_) (fun h4 => ?_)
  · skip
    have e5 := dz_l0
    exact (t0_X12_feed_I fu hfu kv) v1 v2 v3 v4 v5 (0 : Int32) c2_tapeSize (0 : Int32) a38 (by omega) (by omega) (by first | assumption | omega) p1 (by omega) (by omega) (by omega)
  · skip
    have e6 := dz_lm1
    have e7 := dz_l0
    refine dz_Ts ?_
    dsimp only
    exact ⟨(by omega), (by omega), p0, (by first | assumption | omega), (by omega)⟩
theorem t0_X12_feed (fu : Nat) (hfu : 1000000000000 ≤ fu) (v1 : Int32) (v2 : Int32) (v3 : Int32) (v4 : Int32) (v5 : Int32) (c2_tapeSize : Int32) (c2_thrown : Int32) (a38 : Nat → Int32) (p0 : c2_tapeSize.toInt ≤ 400) (p1 : 0 ≤ c2_tapeSize.toInt) : dz_T (f0_X12_feed fu v1 v2 v3 v4 v5 c2_tapeSize c2_thrown a38) (fun r => r.1.toInt ≤ 400 ∧ (-1) ≤ r.1.toInt ∧ r.2.1.toInt ≤ 400 ∧ 20 ≤ r.2.1.toInt ∧ r.1.toInt ≤ r.2.1.toInt) :=
  t0_X12_feed_E fu hfu v1 v2 v3 v4 v5 c2_tapeSize c2_thrown a38 p0 p1 fu hfu
set_option maxHeartbeats 4000000 in
set_option maxRecDepth 10000 in
theorem t23_X12_fault (fu : Nat) (hfu : 1000000000000 ≤ fu) (c2_fault : Int32) (c2_faultPlace : Int32) (v1 : Int32) (c2_thrown : Int32) : dz_T (f23_X12_fault fu c2_fault c2_faultPlace v1 c2_thrown) (fun r => True) := by
  unfold f23_X12_fault s23_X12_fault_0
  have e1 := dz_l0
  refine dz_Teq (fun h2 => ?_) (fun h2 => ?_)
  · skip
    exact dz_Ts trivial
  · skip
    have e3 := dz_l1
    refine dz_Teq (fun h4 => ?_) (fun h4 => ?_)
    · skip
      exact dz_Ts trivial
    · skip
      have e5 := dz_lm1
      exact dz_Ts trivial
set_option maxHeartbeats 4000000 in
set_option maxRecDepth 10000 in
theorem t25_X12_lawful (fu : Nat) (hfu : 1000000000000 ≤ fu) (c2_lawful : Int32) (c2_thrown : Int32) (p0 : c2_lawful.toInt ≤ 13824) (p1 : 0 ≤ c2_lawful.toInt) : dz_T (f25_X12_lawful fu c2_lawful c2_thrown) (fun r => r.1.toInt ≤ 13824 ∧ 0 ≤ r.1.toInt ∧ r.1.toInt ≤ c2_lawful.toInt ∧ c2_lawful.toInt ≤ r.1.toInt) := by
  unfold f25_X12_lawful s25_X12_lawful_0
  have e1 := dz_l0
  refine dz_Ts ?_
  dsimp only
  exact ⟨p0, p1, (by first | assumption | omega), (by first | assumption | omega)⟩
abbrev p26_X12_lawfulBut_s (fu : Nat) (κ : Nat) (c2_draws : Int32) (a49 : Nat → Int32) (k : Nat) : Prop :=
  (∀ (v1 : Int32) (v2 : Int32) (v3 : Int32), v2.toInt ≤ 13824 → 0 ≤ v2.toInt → v3.toInt ≤ 13824 → 0 ≤ v3.toInt → v2.toInt ≤ c2_draws.toInt → v2.toInt ≤ v3.toInt → v3.toInt ≤ c2_draws.toInt → 0 + 0 + (13824 - v3.toInt) * 12 + 6 ≤ ((k : Nat) : Int) → dz_T ((F26_X12_lawfulBut fu c2_draws a49 k).1 v1 v2 v3) (fun r => r.toInt ≤ 13824 ∧ 0 ≤ r.toInt ∧ r.toInt ≤ c2_draws.toInt))
set_option maxHeartbeats 4000000 in
set_option maxRecDepth 10000 in
theorem t26_X12_lawfulBut_h1_s (fu : Nat) (hfu : 1000000000000 ≤ fu) (κ : Nat) (hκ : κ < 14) (c2_draws : Int32) (a49 : Nat → Int32) (p0 : c2_draws.toInt ≤ 13824) (p1 : 1 ≤ c2_draws.toInt) (hr_a49 : dz_rg a49 13824 0 1023) (o0 : c2_draws.toInt = ((dz_kt κ : Nat) : Int)) (k : Nat) (ih : ∀ j9, j9 < k → p26_X12_lawfulBut_s fu κ c2_draws a49 j9) : ∀ (v1 : Int32) (v2 : Int32) (v3 : Int32), v2.toInt ≤ 13824 → 0 ≤ v2.toInt → v3.toInt ≤ 13824 → 0 ≤ v3.toInt → v2.toInt ≤ c2_draws.toInt → v2.toInt ≤ v3.toInt → v3.toInt ≤ c2_draws.toInt → 0 + 0 + (13824 - v3.toInt) * 12 + 6 ≤ ((k : Nat) : Int) → dz_T ((F26_X12_lawfulBut fu c2_draws a49 k).1 v1 v2 v3) (fun r => r.toInt ≤ 13824 ∧ 0 ≤ r.toInt ∧ r.toInt ≤ c2_draws.toInt) := by
  intro v1 v2 v3 i0 i1 i2 i3 i4 i5 i6 hm
  obtain ⟨k0, rfl⟩ : ∃ x, k = x + 1 := ⟨k - 1, by omega⟩
  show dz_T (s26_X12_lawfulBut_1 fu c2_draws a49 (F26_X12_lawfulBut fu c2_draws a49 k0).2  v1 v2 v3) _
  unfold s26_X12_lawfulBut_1
  refine dz_Tle (fun h1 => ?_) (fun h1 => ?_)
  · skip
    exact dz_Ts ⟨i0, i1, i4⟩
  · skip
    refine dz_Tin (by omega) (by omega) ?_
    have e2 := dz_rgat (hr_a49) (i := v3) (by omega) (by omega)
    have e3 := dz_lm1
    have e4 := dz_andl (a := (a49 v3.toNatClampNeg)) (b := (v1 ^^^ (-(1 : Int32)))) (by omega)
    have e5 := dz_l0
    refine dz_Teq (fun h6 => ?_) (fun h6 => ?_)
    · skip
      obtain ⟨k1, rfl⟩ : ∃ x, k0 = x + 1 := ⟨k0 - 1, by omega⟩
      show dz_T (s26_X12_lawfulBut_2 fu c2_draws a49 (F26_X12_lawfulBut fu c2_draws a49 k1).1 v1 v3 (1 : Int32) v2) _
      unfold s26_X12_lawfulBut_2
      have e7 := dz_l1
      have e8 := dz_add (a := v2) (b := (1 : Int32)) (by omega) (by omega)
      have e9 := dz_add (a := v3) (b := (1 : Int32)) (by omega) (by omega)
      exact (ih k1 (by omega)) v1 (v2 + (1 : Int32)) (v3 + (1 : Int32)) (by omega) (by omega) (by omega) (by omega) (by omega) (by omega) (by omega) (by omega)
    · skip
      obtain ⟨k2, rfl⟩ : ∃ x, k0 = x + 1 := ⟨k0 - 1, by omega⟩
      show dz_T (s26_X12_lawfulBut_2 fu c2_draws a49 (F26_X12_lawfulBut fu c2_draws a49 k2).1 v1 v3 (0 : Int32) v2) _
      unfold s26_X12_lawfulBut_2
      have e10 := dz_add (a := v2) (b := (0 : Int32)) (by omega) (by omega)
      have e11 := dz_l1
      have e12 := dz_add (a := v3) (b := (1 : Int32)) (by omega) (by omega)
      exact (ih k2 (by omega)) v1 (v2 + (0 : Int32)) (v3 + (1 : Int32)) (by omega) (by omega) (by omega) (by omega) (by omega) (by omega) (by omega) (by omega)
theorem t26_X12_lawfulBut_I_s (fu : Nat) (hfu : 1000000000000 ≤ fu) (κ : Nat) (hκ : κ < 14) (c2_draws : Int32) (a49 : Nat → Int32) (p0 : c2_draws.toInt ≤ 13824) (p1 : 1 ≤ c2_draws.toInt) (hr_a49 : dz_rg a49 13824 0 1023) (o0 : c2_draws.toInt = ((dz_kt κ : Nat) : Int)) (k : Nat) : p26_X12_lawfulBut_s fu κ c2_draws a49 k := by
  induction k using Nat.strongRecOn with
  | _ k ih => exact t26_X12_lawfulBut_h1_s fu hfu κ hκ c2_draws a49 p0 p1 hr_a49 o0 k ih
set_option maxHeartbeats 4000000 in
set_option maxRecDepth 10000 in
theorem t26_X12_lawfulBut_E_s (fu : Nat) (hfu : 1000000000000 ≤ fu) (κ : Nat) (hκ : κ < 14) (c2_draws : Int32) (a49 : Nat → Int32) (v1 : Int32) (p0 : c2_draws.toInt ≤ 13824) (p1 : 1 ≤ c2_draws.toInt) (hr_a49 : dz_rg a49 13824 0 1023) (o0 : c2_draws.toInt = ((dz_kt κ : Nat) : Int)) (kv : Nat) (hkv : 1000000000000 ≤ kv) : dz_T (s26_X12_lawfulBut_0 fu c2_draws a49 (F26_X12_lawfulBut fu c2_draws a49 kv).1  v1) (fun r => r.toInt ≤ 13824 ∧ 0 ≤ r.toInt ∧ r.toInt ≤ c2_draws.toInt) := by
  unfold s26_X12_lawfulBut_0
  have e1 := dz_l0
  exact (t26_X12_lawfulBut_I_s fu hfu κ hκ c2_draws a49 p0 p1 hr_a49 o0 kv) v1 (0 : Int32) (0 : Int32) (by omega) (by omega) (by omega) (by omega) (by omega) (by omega) (by omega) (by omega)
theorem t26_X12_lawfulBut_s (fu : Nat) (hfu : 1000000000000 ≤ fu) (κ : Nat) (hκ : κ < 14) (c2_draws : Int32) (a49 : Nat → Int32) (v1 : Int32) (p0 : c2_draws.toInt ≤ 13824) (p1 : 1 ≤ c2_draws.toInt) (hr_a49 : dz_rg a49 13824 0 1023) (o0 : c2_draws.toInt = ((dz_kt κ : Nat) : Int)) : dz_T (f26_X12_lawfulBut fu c2_draws a49 v1) (fun r => r.toInt ≤ 13824 ∧ 0 ≤ r.toInt ∧ r.toInt ≤ c2_draws.toInt) :=
  t26_X12_lawfulBut_E_s fu hfu κ hκ c2_draws a49 v1 p0 p1 hr_a49 o0 fu hfu
set_option maxHeartbeats 4000000 in
set_option maxRecDepth 10000 in
theorem t27_X12_without_s (fu : Nat) (hfu : 1000000000000 ≤ fu) (κ : Nat) (hκ : κ < 14) (c2_bars : Int32) (c2_draws : Int32) (a49 : Nat → Int32) (v1 : Int32) (c2_thrown : Int32) (p0 : c2_bars.toInt ≤ 10) (p1 : 0 ≤ c2_bars.toInt) (p2 : c2_draws.toInt ≤ 13824) (p3 : 1 ≤ c2_draws.toInt) (hr_a49 : dz_rg a49 13824 0 1023) (o0 : c2_draws.toInt = ((dz_kt κ : Nat) : Int)) : dz_T (f27_X12_without fu c2_bars c2_draws a49 v1 c2_thrown) (fun r => r.1.toInt ≤ 13824 ∧ (-1) ≤ r.1.toInt ∧ r.1.toInt ≤ c2_draws.toInt) := by
  unfold f27_X12_without s27_X12_without_0
  have e1 := dz_l0
  refine dz_Tlt (fun h2 => ?_) (fun h2 => ?_)
  · skip
    unfold d27_X12_without_1 s27_X12_without_1
    have e3 := dz_lm1
    refine dz_Ts ?_
    dsimp only
    exact ⟨(by omega), (by omega), (by omega)⟩
  · skip
    refine dz_Tlt (fun h4 => ?_) (fun h4 => ?_)
    · skip
      have e5 := dz_l1
      have e6 := dz_l31
      have e7 := dz_andr (a := v1) (b := (31 : Int32)) (by omega)
      have e8 := dz_andl (a := v1) (b := (31 : Int32)) (by omega)
      have e9 := dz_shl1 (b := v1) 0 9 (by omega) (by omega) (by omega)
      refine dz_Tb (t26_X12_lawfulBut_s fu hfu κ hκ _ _ _ p2 p3 (hr_a49) o0) (fun r1 q => ?_)
      obtain ⟨q1_0, q1_1, q1_2⟩ := q
      refine dz_Ts ?_
      dsimp only
      exact ⟨q1_0, (by first | assumption | omega), q1_2⟩
    · skip
      unfold d27_X12_without_1 s27_X12_without_1
      have e10 := dz_lm1
      refine dz_Ts ?_
      dsimp only
      exact ⟨(by omega), (by omega), (by omega)⟩
abbrev p30_X12_forbids_s (fu : Nat) (κ : Nat) (c2_bars : Int32) (c2_draws : Int32) (c2_lawful : Int32) (a49 : Nat → Int32) (k : Nat) : Prop :=
  (∀ (v1 : Int32) (c2_thrown : Int32) (a51 : Nat → Int32), c2_lawful.toInt ≤ 0 → v1.toInt ≤ 1024 → 0 ≤ v1.toInt → c2_thrown.toInt ≤ 0 → 0 ≤ c2_thrown.toInt → 0 + 165906 + (1024 - v1.toInt) * 12 + 6 ≤ ((k : Nat) : Int) → dz_T ((F30_X12_forbids fu c2_bars c2_draws c2_lawful a49 k).1 v1 c2_thrown a51) (fun r => r.1.toInt ≤ 1023 ∧ 0 ≤ r.1.toInt)) ∧ (∀ (v1 : Int32) (c2_thrown : Int32) (a51 : Nat → Int32), c2_lawful.toInt ≤ 0 → v1.toInt ≤ 13824 → 0 ≤ v1.toInt → c2_thrown.toInt ≤ 0 → 0 ≤ c2_thrown.toInt → v1.toInt ≤ c2_draws.toInt → 0 + 0 + (13824 - v1.toInt) * 12 + 6 ≤ ((k : Nat) : Int) → dz_T ((F30_X12_forbids fu c2_bars c2_draws c2_lawful a49 k).2 v1 c2_thrown a51) (fun r => r.1.toInt ≤ 1023 ∧ 0 ≤ r.1.toInt))
set_option maxHeartbeats 4000000 in
set_option maxRecDepth 10000 in
theorem t30_X12_forbids_h1_s (fu : Nat) (hfu : 1000000000000 ≤ fu) (κ : Nat) (hκ : κ < 14) (c2_bars : Int32) (c2_draws : Int32) (c2_lawful : Int32) (a49 : Nat → Int32) (p0 : c2_bars.toInt ≤ 10) (p1 : 0 ≤ c2_bars.toInt) (p2 : c2_draws.toInt ≤ 13824) (p3 : 1 ≤ c2_draws.toInt) (p4 : c2_lawful.toInt ≤ 13824) (p5 : 0 ≤ c2_lawful.toInt) (p6 : c2_lawful.toInt ≤ c2_draws.toInt) (hr_a49 : dz_rg a49 13824 0 1023) (o0 : c2_draws.toInt = ((dz_kt κ : Nat) : Int)) (k : Nat) (ih : ∀ j9, j9 < k → p30_X12_forbids_s fu κ c2_bars c2_draws c2_lawful a49 j9) : ∀ (v1 : Int32) (c2_thrown : Int32) (a51 : Nat → Int32), c2_lawful.toInt ≤ 0 → v1.toInt ≤ 1024 → 0 ≤ v1.toInt → c2_thrown.toInt ≤ 0 → 0 ≤ c2_thrown.toInt → 0 + 165906 + (1024 - v1.toInt) * 12 + 6 ≤ ((k : Nat) : Int) → dz_T ((F30_X12_forbids fu c2_bars c2_draws c2_lawful a49 k).1 v1 c2_thrown a51) (fun r => r.1.toInt ≤ 1023 ∧ 0 ≤ r.1.toInt) := by
  intro v1 c2_thrown a51 i0 i1 i2 i3 i4 hm
  obtain ⟨k0, rfl⟩ : ∃ x, k = x + 1 := ⟨k - 1, by omega⟩
  show dz_T (s30_X12_forbids_1 fu c2_bars c2_draws c2_lawful a49 (F30_X12_forbids fu c2_bars c2_draws c2_lawful a49 k0).1 (F30_X12_forbids fu c2_bars c2_draws c2_lawful a49 k0).2  v1 c2_thrown a51) _
  unfold s30_X12_forbids_1
  have e1 := dz_l1024
  refine dz_Tle (fun h2 => ?_) (fun h2 => ?_)
  · skip
    have e3 := dz_l0
    exact (ih k0 (by omega)).2 (0 : Int32) c2_thrown a51 i0 (by omega) (by omega) i3 i4 (by omega) (by omega)
  · skip
    refine dz_Tin (by omega) (by omega) ?_
    have e4 := dz_l1
    have e5 := dz_add (a := v1) (b := (1 : Int32)) (by omega) (by omega)
    exact (ih k0 (by omega)).1 (v1 + (1 : Int32)) c2_thrown (upd a51 v1.toNatClampNeg (vp_nar .boolean (0 : Int32))) i0 (by omega) (by omega) i3 i4 (by omega)
set_option maxHeartbeats 4000000 in
set_option maxRecDepth 10000 in
theorem t30_X12_forbids_h2_s (fu : Nat) (hfu : 1000000000000 ≤ fu) (κ : Nat) (hκ : κ < 14) (c2_bars : Int32) (c2_draws : Int32) (c2_lawful : Int32) (a49 : Nat → Int32) (p0 : c2_bars.toInt ≤ 10) (p1 : 0 ≤ c2_bars.toInt) (p2 : c2_draws.toInt ≤ 13824) (p3 : 1 ≤ c2_draws.toInt) (p4 : c2_lawful.toInt ≤ 13824) (p5 : 0 ≤ c2_lawful.toInt) (p6 : c2_lawful.toInt ≤ c2_draws.toInt) (hr_a49 : dz_rg a49 13824 0 1023) (o0 : c2_draws.toInt = ((dz_kt κ : Nat) : Int)) (k : Nat) (ih : ∀ j9, j9 < k → p30_X12_forbids_s fu κ c2_bars c2_draws c2_lawful a49 j9) : ∀ (v1 : Int32) (c2_thrown : Int32) (a51 : Nat → Int32), c2_lawful.toInt ≤ 0 → v1.toInt ≤ 13824 → 0 ≤ v1.toInt → c2_thrown.toInt ≤ 0 → 0 ≤ c2_thrown.toInt → v1.toInt ≤ c2_draws.toInt → 0 + 0 + (13824 - v1.toInt) * 12 + 6 ≤ ((k : Nat) : Int) → dz_T ((F30_X12_forbids fu c2_bars c2_draws c2_lawful a49 k).2 v1 c2_thrown a51) (fun r => r.1.toInt ≤ 1023 ∧ 0 ≤ r.1.toInt) := by
  intro v1 c2_thrown a51 i0 i1 i2 i3 i4 i5 hm
  obtain ⟨k0, rfl⟩ : ∃ x, k = x + 1 := ⟨k - 1, by omega⟩
  show dz_T (s30_X12_forbids_2 fu c2_bars c2_draws c2_lawful a49 (F30_X12_forbids fu c2_bars c2_draws c2_lawful a49 k0).2  v1 c2_thrown a51) _
  unfold s30_X12_forbids_2
  refine dz_Tle (fun h1 => ?_) (fun h1 => ?_)
  · skip
    refine dz_Tb (t29_X12_fewest fu hfu _ _ p0 p1) (fun r1 q => ?_)
    obtain ⟨q1_0, q1_1⟩ := q
    refine dz_Ts ?_
    dsimp only
    exact ⟨q1_0, q1_1⟩
  · skip
    refine dz_Tin (by omega) (by omega) ?_
    have e2 := dz_rgat (hr_a49) (i := v1) (by omega) (by omega)
    refine dz_Tin (by omega) (by omega) ?_
    have e3 := dz_l1
    have e4 := dz_add (a := v1) (b := (1 : Int32)) (by omega) (by omega)
    exact (ih k0 (by omega)).2 (v1 + (1 : Int32)) c2_thrown (upd a51 (a49 v1.toNatClampNeg).toNatClampNeg (vp_nar .boolean (1 : Int32))) i0 (by omega) (by omega) i3 i4 (by omega) (by omega)
theorem t30_X12_forbids_I_s (fu : Nat) (hfu : 1000000000000 ≤ fu) (κ : Nat) (hκ : κ < 14) (c2_bars : Int32) (c2_draws : Int32) (c2_lawful : Int32) (a49 : Nat → Int32) (p0 : c2_bars.toInt ≤ 10) (p1 : 0 ≤ c2_bars.toInt) (p2 : c2_draws.toInt ≤ 13824) (p3 : 1 ≤ c2_draws.toInt) (p4 : c2_lawful.toInt ≤ 13824) (p5 : 0 ≤ c2_lawful.toInt) (p6 : c2_lawful.toInt ≤ c2_draws.toInt) (hr_a49 : dz_rg a49 13824 0 1023) (o0 : c2_draws.toInt = ((dz_kt κ : Nat) : Int)) (k : Nat) : p30_X12_forbids_s fu κ c2_bars c2_draws c2_lawful a49 k := by
  induction k using Nat.strongRecOn with
  | _ k ih => exact ⟨t30_X12_forbids_h1_s fu hfu κ hκ c2_bars c2_draws c2_lawful a49 p0 p1 p2 p3 p4 p5 p6 hr_a49 o0 k ih, t30_X12_forbids_h2_s fu hfu κ hκ c2_bars c2_draws c2_lawful a49 p0 p1 p2 p3 p4 p5 p6 hr_a49 o0 k ih⟩
set_option maxHeartbeats 4000000 in
set_option maxRecDepth 10000 in
theorem t30_X12_forbids_E_s (fu : Nat) (hfu : 1000000000000 ≤ fu) (κ : Nat) (hκ : κ < 14) (c2_bars : Int32) (c2_draws : Int32) (c2_lawful : Int32) (a49 : Nat → Int32) (c2_thrown : Int32) (a51 : Nat → Int32) (p0 : c2_bars.toInt ≤ 10) (p1 : 0 ≤ c2_bars.toInt) (p2 : c2_draws.toInt ≤ 13824) (p3 : 1 ≤ c2_draws.toInt) (p4 : c2_lawful.toInt ≤ 13824) (p5 : 0 ≤ c2_lawful.toInt) (p6 : c2_lawful.toInt ≤ c2_draws.toInt) (hr_a49 : dz_rg a49 13824 0 1023) (o0 : c2_draws.toInt = ((dz_kt κ : Nat) : Int)) (kv : Nat) (hkv : 1000000000000 ≤ kv) : dz_T (s30_X12_forbids_0 fu c2_bars c2_draws c2_lawful a49 (F30_X12_forbids fu c2_bars c2_draws c2_lawful a49 kv).1  c2_thrown a51) (fun r => r.1.toInt ≤ 1023 ∧ 0 ≤ r.1.toInt) := by
  unfold s30_X12_forbids_0
  have e1 := dz_l0
  refine dz_Tle (fun h2 => ?_) (fun h2 => ?_)
  · skip
    exact (t30_X12_forbids_I_s fu hfu κ hκ c2_bars c2_draws c2_lawful a49 p0 p1 p2 p3 p4 p5 p6 hr_a49 o0 kv).1 (0 : Int32) (0 : Int32) a51 (by first | assumption | omega) (by omega) (by omega) (by omega) (by omega) (by omega)
  · skip
    refine dz_Ts ?_
    dsimp only
    exact ⟨(by omega), (by omega)⟩
theorem t30_X12_forbids_s (fu : Nat) (hfu : 1000000000000 ≤ fu) (κ : Nat) (hκ : κ < 14) (c2_bars : Int32) (c2_draws : Int32) (c2_lawful : Int32) (a49 : Nat → Int32) (c2_thrown : Int32) (a51 : Nat → Int32) (p0 : c2_bars.toInt ≤ 10) (p1 : 0 ≤ c2_bars.toInt) (p2 : c2_draws.toInt ≤ 13824) (p3 : 1 ≤ c2_draws.toInt) (p4 : c2_lawful.toInt ≤ 13824) (p5 : 0 ≤ c2_lawful.toInt) (p6 : c2_lawful.toInt ≤ c2_draws.toInt) (hr_a49 : dz_rg a49 13824 0 1023) (o0 : c2_draws.toInt = ((dz_kt κ : Nat) : Int)) : dz_T (f30_X12_forbids fu c2_bars c2_draws c2_lawful a49 c2_thrown a51) (fun r => r.1.toInt ≤ 1023 ∧ 0 ≤ r.1.toInt) :=
  t30_X12_forbids_E_s fu hfu κ hκ c2_bars c2_draws c2_lawful a49 c2_thrown a51 p0 p1 p2 p3 p4 p5 p6 hr_a49 o0 fu hfu
abbrev p32_X12_draw_s (fu : Nat) (κ : Nat) (c2_groups : Int32) (c2_pots : Int32) (c2_draws : Int32) (c2_lawful : Int32) (a49 : Nat → Int32) (a50 : Nat → Int32) (k : Nat) : Prop :=
  (∀ (v1 : Int32) (v2 : Int32) (v3 : Int32) (v4 : Int32) (c2_thrown : Int32), 1 ≤ c2_lawful.toInt → v1.toInt ≤ 13823 → 0 ≤ v1.toInt → v2.toInt ≤ 11 → 0 ≤ v2.toInt → v3.toInt ≤ 13823 → 0 ≤ v3.toInt → v4.toInt ≤ 13824 → 0 ≤ v4.toInt → c2_thrown.toInt ≤ 0 → 0 ≤ c2_thrown.toInt → v1.toInt + 1 ≤ c2_draws.toInt → v1.toInt + 1 ≤ c2_lawful.toInt → v3.toInt + 1 ≤ c2_draws.toInt → v3.toInt + 1 ≤ c2_lawful.toInt → v3.toInt ≤ v1.toInt → v3.toInt ≤ v4.toInt → v4.toInt ≤ c2_draws.toInt → v2.toInt ≤ c2_groups.toInt + 8 → 0 + 0 + (13824 - v4.toInt) * 12 + 6 ≤ ((k : Nat) : Int) → dz_T ((F32_X12_draw fu c2_groups c2_pots c2_draws c2_lawful a49 a50 k).1 v1 v2 v3 v4 c2_thrown) (fun r => r.1.toInt ≤ 3 ∧ (-1) ≤ r.1.toInt ∧ r.1.toInt ≤ c2_lawful.toInt + 2))
set_option maxHeartbeats 4000000 in
set_option maxRecDepth 10000 in
theorem t32_X12_draw_h1_s (fu : Nat) (hfu : 1000000000000 ≤ fu) (κ : Nat) (hκ : κ < 14) (c2_groups : Int32) (c2_pots : Int32) (c2_draws : Int32) (c2_lawful : Int32) (a49 : Nat → Int32) (a50 : Nat → Int32) (p0 : c2_groups.toInt ≤ 4) (p1 : 2 ≤ c2_groups.toInt) (p2 : c2_pots.toInt ≤ 4) (p3 : 0 ≤ c2_pots.toInt) (p4 : c2_draws.toInt ≤ 13824) (p5 : 1 ≤ c2_draws.toInt) (p6 : c2_lawful.toInt ≤ 13824) (p7 : 0 ≤ c2_lawful.toInt) (p8 : c2_lawful.toInt ≤ c2_draws.toInt) (hr_a49 : dz_rg a49 13824 0 1023) (hr_a50 : dz_rg a50 165888 0 3) (o0 : c2_groups.toInt = ((dz_kg κ : Nat) : Int)) (o1 : c2_pots.toInt = ((dz_kp κ : Nat) : Int)) (o2 : c2_draws.toInt = ((dz_kt κ : Nat) : Int)) (k : Nat) (ih : ∀ j9, j9 < k → p32_X12_draw_s fu κ c2_groups c2_pots c2_draws c2_lawful a49 a50 j9) : ∀ (v1 : Int32) (v2 : Int32) (v3 : Int32) (v4 : Int32) (c2_thrown : Int32), 1 ≤ c2_lawful.toInt → v1.toInt ≤ 13823 → 0 ≤ v1.toInt → v2.toInt ≤ 11 → 0 ≤ v2.toInt → v3.toInt ≤ 13823 → 0 ≤ v3.toInt → v4.toInt ≤ 13824 → 0 ≤ v4.toInt → c2_thrown.toInt ≤ 0 → 0 ≤ c2_thrown.toInt → v1.toInt + 1 ≤ c2_draws.toInt → v1.toInt + 1 ≤ c2_lawful.toInt → v3.toInt + 1 ≤ c2_draws.toInt → v3.toInt + 1 ≤ c2_lawful.toInt → v3.toInt ≤ v1.toInt → v3.toInt ≤ v4.toInt → v4.toInt ≤ c2_draws.toInt → v2.toInt ≤ c2_groups.toInt + 8 → 0 + 0 + (13824 - v4.toInt) * 12 + 6 ≤ ((k : Nat) : Int) → dz_T ((F32_X12_draw fu c2_groups c2_pots c2_draws c2_lawful a49 a50 k).1 v1 v2 v3 v4 c2_thrown) (fun r => r.1.toInt ≤ 3 ∧ (-1) ≤ r.1.toInt ∧ r.1.toInt ≤ c2_lawful.toInt + 2) := by
  intro v1 v2 v3 v4 c2_thrown i0 i1 i2 i3 i4 i5 i6 i7 i8 i9 i10 i11 i12 i13 i14 i15 i16 i17 i18 hm
  obtain ⟨k0, rfl⟩ : ∃ x, k = x + 1 := ⟨k - 1, by omega⟩
  show dz_T (s32_X12_draw_1 fu c2_groups c2_pots c2_draws c2_lawful a49 a50 (F32_X12_draw fu c2_groups c2_pots c2_draws c2_lawful a49 a50 k0).2  v1 v2 v3 v4 c2_thrown) _
  unfold s32_X12_draw_1
  refine dz_Tle (fun h1 => ?_) (fun h1 => ?_)
  · skip
    have e2 := dz_lm1
    refine dz_Ts ?_
    dsimp only
    exact ⟨(by omega), (by omega), (by omega)⟩
  · skip
    refine dz_Tin (by omega) (by omega) ?_
    have e3 := dz_rgat (hr_a49) (i := v4) (by omega) (by omega)
    have e4 := dz_l0
    refine dz_Teq (fun h5 => ?_) (fun h5 => ?_)
    · skip
      refine dz_Teq (fun h6 => ?_) (fun h6 => ?_)
      · skip
        have e7 := dz_l12
        have e8 := dz_mull (a := (12 : Int32)) (b := v4) 12 (by omega) (by omega) (by omega)
        have e9 := dz_add (a := ((12 : Int32) * v4)) (b := v2) (by omega) (by omega)
        refine dz_Tin (by omega) (by omega) ?_
        have e10 := dz_rgat (hr_a50) (i := (((12 : Int32) * v4) + v2)) (by omega) (by omega)
        refine dz_Ts ?_
        dsimp only
        exact ⟨(by omega), (by omega), (by omega)⟩
      · skip
        obtain ⟨k1, rfl⟩ : ∃ x, k0 = x + 1 := ⟨k0 - 1, by omega⟩
        show dz_T (s32_X12_draw_2 fu c2_groups c2_pots c2_draws c2_lawful a49 a50 (F32_X12_draw fu c2_groups c2_pots c2_draws c2_lawful a49 a50 k1).1 v1 v2 (v3 + (1 : Int32)) v4 c2_thrown) _
        unfold s32_X12_draw_2
        have e11 := dz_l1
        have e12 := dz_add (a := v3) (b := (1 : Int32)) (by omega) (by omega)
        have e13 := dz_add (a := v4) (b := (1 : Int32)) (by omega) (by omega)
        exact (ih k1 (by omega)) v1 v2 (v3 + (1 : Int32)) (v4 + (1 : Int32)) c2_thrown i0 i1 i2 i3 i4 (by omega) (by omega) (by omega) (by omega) i9 i10 i11 i12 (by omega) (by omega) (by omega) (by omega) (by omega) i18 (by omega)
    · skip
      obtain ⟨k2, rfl⟩ : ∃ x, k0 = x + 1 := ⟨k0 - 1, by omega⟩
      show dz_T (s32_X12_draw_2 fu c2_groups c2_pots c2_draws c2_lawful a49 a50 (F32_X12_draw fu c2_groups c2_pots c2_draws c2_lawful a49 a50 k2).1 v1 v2 v3 v4 c2_thrown) _
      unfold s32_X12_draw_2
      have e14 := dz_l1
      have e15 := dz_add (a := v4) (b := (1 : Int32)) (by omega) (by omega)
      exact (ih k2 (by omega)) v1 v2 v3 (v4 + (1 : Int32)) c2_thrown i0 i1 i2 i3 i4 i5 i6 (by omega) (by omega) i9 i10 i11 i12 i13 i14 i15 (by omega) (by omega) i18 (by omega)
theorem t32_X12_draw_I_s (fu : Nat) (hfu : 1000000000000 ≤ fu) (κ : Nat) (hκ : κ < 14) (c2_groups : Int32) (c2_pots : Int32) (c2_draws : Int32) (c2_lawful : Int32) (a49 : Nat → Int32) (a50 : Nat → Int32) (p0 : c2_groups.toInt ≤ 4) (p1 : 2 ≤ c2_groups.toInt) (p2 : c2_pots.toInt ≤ 4) (p3 : 0 ≤ c2_pots.toInt) (p4 : c2_draws.toInt ≤ 13824) (p5 : 1 ≤ c2_draws.toInt) (p6 : c2_lawful.toInt ≤ 13824) (p7 : 0 ≤ c2_lawful.toInt) (p8 : c2_lawful.toInt ≤ c2_draws.toInt) (hr_a49 : dz_rg a49 13824 0 1023) (hr_a50 : dz_rg a50 165888 0 3) (o0 : c2_groups.toInt = ((dz_kg κ : Nat) : Int)) (o1 : c2_pots.toInt = ((dz_kp κ : Nat) : Int)) (o2 : c2_draws.toInt = ((dz_kt κ : Nat) : Int)) (k : Nat) : p32_X12_draw_s fu κ c2_groups c2_pots c2_draws c2_lawful a49 a50 k := by
  induction k using Nat.strongRecOn with
  | _ k ih => exact t32_X12_draw_h1_s fu hfu κ hκ c2_groups c2_pots c2_draws c2_lawful a49 a50 p0 p1 p2 p3 p4 p5 p6 p7 p8 hr_a49 hr_a50 o0 o1 o2 k ih
set_option maxHeartbeats 4000000 in
set_option maxRecDepth 10000 in
theorem t32_X12_draw_E_s (fu : Nat) (hfu : 1000000000000 ≤ fu) (κ : Nat) (hκ : κ < 14) (c2_groups : Int32) (c2_pots : Int32) (c2_draws : Int32) (c2_lawful : Int32) (a49 : Nat → Int32) (a50 : Nat → Int32) (v1 : Int32) (v2 : Int32) (c2_thrown : Int32) (p0 : c2_groups.toInt ≤ 4) (p1 : 2 ≤ c2_groups.toInt) (p2 : c2_pots.toInt ≤ 4) (p3 : 0 ≤ c2_pots.toInt) (p4 : c2_draws.toInt ≤ 13824) (p5 : 1 ≤ c2_draws.toInt) (p6 : c2_lawful.toInt ≤ 13824) (p7 : 0 ≤ c2_lawful.toInt) (p8 : c2_lawful.toInt ≤ c2_draws.toInt) (hr_a49 : dz_rg a49 13824 0 1023) (hr_a50 : dz_rg a50 165888 0 3) (o0 : c2_groups.toInt = ((dz_kg κ : Nat) : Int)) (o1 : c2_pots.toInt = ((dz_kp κ : Nat) : Int)) (o2 : c2_draws.toInt = ((dz_kt κ : Nat) : Int)) (kv : Nat) (hkv : 1000000000000 ≤ kv) : dz_T (s32_X12_draw_0 fu c2_groups c2_pots c2_draws c2_lawful a49 a50 (F32_X12_draw fu c2_groups c2_pots c2_draws c2_lawful a49 a50 kv).1  v1 v2 c2_thrown) (fun r => r.1.toInt ≤ 3 ∧ (-1) ≤ r.1.toInt ∧ r.1.toInt ≤ c2_lawful.toInt + 2) := by
  unfold s32_X12_draw_0
  have e1 := dz_l0
  refine dz_Tlt (fun h2 => ?_) (fun h2 => ?_)
  · skip
    have e3 := dz_lm1
    refine dz_Ts ?_
    dsimp only
    exact ⟨(by omega), (by omega), (by omega)⟩
  · skip
    refine dz_Tle (fun h4 => ?_) (fun h4 => ?_)
    · skip
      have e5 := dz_lm1
      refine dz_Ts ?_
      dsimp only
      exact ⟨(by omega), (by omega), (by omega)⟩
    · skip
      refine dz_Tbe (show f31_X12_isTeam fu c2_groups c2_pots v2 = (if (v2 < (0 : Int32)) then (some (0 : Int32)) else (Option.bind (f9_X12_teams fu c2_groups c2_pots) (fun b2 => (if (b2 ≤ v2) then (some (0 : Int32)) else (some (1 : Int32)))))) from rfl) ?_
      refine dz_Tltb (fun h6 => ?_) (fun h6 => ?_)
      · skip
        refine dz_Tsb ?_
        refine dz_Teq (fun h7 => ?_) (fun h7 => ?_)
        · skip
          have e8 := dz_lm1
          refine dz_Ts ?_
          dsimp only
          exact ⟨(by omega), (by omega), (by omega)⟩
        · skip
          exfalso; omega
      · skip
        refine dz_Tba ?_
        refine dz_Tb (t9_X12_teams_s fu hfu κ hκ _ _ p0 p1 p2 p3 o0 o1) (fun r3 q => ?_)
        obtain ⟨q3_0, q3_1, q3_2, qo3_0⟩ := q
        refine dz_Tleb (fun h9 => ?_) (fun h9 => ?_)
        · skip
          refine dz_Tsb ?_
          refine dz_Teq (fun h10 => ?_) (fun h10 => ?_)
          · skip
            have e11 := dz_lm1
            refine dz_Ts ?_
            dsimp only
            exact ⟨(by omega), (by omega), (by omega)⟩
          · skip
            exfalso; omega
        · skip
          refine dz_Tsb ?_
          have e12 := dz_l1
          refine dz_Teq (fun h13 => ?_) (fun h13 => ?_)
          · skip
            exfalso; omega
          · skip
            exact (t32_X12_draw_I_s fu hfu κ hκ c2_groups c2_pots c2_draws c2_lawful a49 a50 p0 p1 p2 p3 p4 p5 p6 p7 p8 hr_a49 hr_a50 o0 o1 o2 kv) v1 v2 (0 : Int32) (0 : Int32) (0 : Int32) (by first | assumption | omega) (by first | assumption | omega) (by first | assumption | omega) (by first | assumption | omega) (by first | assumption | omega) (by omega) (by omega) (by omega) (by omega) (by omega) (by omega) (by first | assumption | omega) (by first | assumption | omega) (by omega) (by omega) (by omega) (by omega) (by omega) (by first | assumption | omega) (by omega)
theorem t32_X12_draw_s (fu : Nat) (hfu : 1000000000000 ≤ fu) (κ : Nat) (hκ : κ < 14) (c2_groups : Int32) (c2_pots : Int32) (c2_draws : Int32) (c2_lawful : Int32) (a49 : Nat → Int32) (a50 : Nat → Int32) (v1 : Int32) (v2 : Int32) (c2_thrown : Int32) (p0 : c2_groups.toInt ≤ 4) (p1 : 2 ≤ c2_groups.toInt) (p2 : c2_pots.toInt ≤ 4) (p3 : 0 ≤ c2_pots.toInt) (p4 : c2_draws.toInt ≤ 13824) (p5 : 1 ≤ c2_draws.toInt) (p6 : c2_lawful.toInt ≤ 13824) (p7 : 0 ≤ c2_lawful.toInt) (p8 : c2_lawful.toInt ≤ c2_draws.toInt) (hr_a49 : dz_rg a49 13824 0 1023) (hr_a50 : dz_rg a50 165888 0 3) (o0 : c2_groups.toInt = ((dz_kg κ : Nat) : Int)) (o1 : c2_pots.toInt = ((dz_kp κ : Nat) : Int)) (o2 : c2_draws.toInt = ((dz_kt κ : Nat) : Int)) : dz_T (f32_X12_draw fu c2_groups c2_pots c2_draws c2_lawful a49 a50 v1 v2 c2_thrown) (fun r => r.1.toInt ≤ 3 ∧ (-1) ≤ r.1.toInt ∧ r.1.toInt ≤ c2_lawful.toInt + 2) :=
  t32_X12_draw_E_s fu hfu κ hκ c2_groups c2_pots c2_draws c2_lawful a49 a50 v1 v2 c2_thrown p0 p1 p2 p3 p4 p5 p6 p7 p8 hr_a49 hr_a50 o0 o1 o2 fu hfu
set_option maxHeartbeats 4000000 in
set_option maxRecDepth 10000 in
theorem t33_X12_judge_s (fu : Nat) (hfu : 1000000000000 ≤ fu) (κ : Nat) (hκ : κ < 14) (c2_draws : Int32) (a49 : Nat → Int32) (v1 : Int32) (c2_thrown : Int32) (p0 : c2_draws.toInt ≤ 13824) (p1 : 1 ≤ c2_draws.toInt) (hr_a49 : dz_rg a49 13824 0 1023) (o0 : c2_draws.toInt = ((dz_kt κ : Nat) : Int)) : dz_T (f33_X12_judge fu c2_draws a49 v1 c2_thrown) (fun r => r.1.toInt ≤ 1 ∧ (-1) ≤ r.1.toInt) := by
  unfold f33_X12_judge s33_X12_judge_0
  have e1 := dz_l0
  refine dz_Tlt (fun h2 => ?_) (fun h2 => ?_)
  · skip
    unfold d33_X12_judge_1 s33_X12_judge_1
    have e3 := dz_lm1
    refine dz_Ts ?_
    dsimp only
    exact ⟨(by omega), (by omega)⟩
  · skip
    refine dz_Tlt (fun h4 => ?_) (fun h4 => ?_)
    · skip
      refine dz_Tin (by omega) (by omega) ?_
      have e5 := dz_rgat (hr_a49) (i := v1) (by omega) (by omega)
      refine dz_Teq (fun h6 => ?_) (fun h6 => ?_)
      · skip
        have e7 := dz_l1
        refine dz_Ts ?_
        dsimp only
        exact ⟨(by omega), (by omega)⟩
      · skip
        refine dz_Ts ?_
        dsimp only
        exact ⟨(by omega), (by omega)⟩
    · skip
      unfold d33_X12_judge_1 s33_X12_judge_1
      have e8 := dz_lm1
      refine dz_Ts ?_
      dsimp only
      exact ⟨(by omega), (by omega)⟩
abbrev p71_X12_moves_s (fu : Nat) (κ : Nat) (c2_groups : Int32) (c2_pots : Int32) (c2_bars : Int32) (c2_draws : Int32) (c2_lawful : Int32) (a49 : Nat → Int32) (a50 : Nat → Int32) (k : Nat) : Prop :=
  (∀ (v1 : Int32) (v2 : Int32) (v3 : Int32) (v4 : Int64) (v6 : Int64) (v8 : Int32) (c2_thrown : Int32), 1 ≤ c2_bars.toInt → v1.toInt ≤ 9 → 0 ≤ v1.toInt → v2.toInt ≤ 11 → 0 ≤ v2.toInt → v3.toInt ≤ 11 → 0 ≤ v3.toInt → v8.toInt ≤ 13824 → 0 ≤ v8.toInt → c2_thrown.toInt ≤ 0 → 0 ≤ c2_thrown.toInt → v1.toInt + 1 ≤ c2_bars.toInt → v8.toInt ≤ c2_draws.toInt → v2.toInt ≤ c2_groups.toInt + 8 → v3.toInt ≤ c2_groups.toInt + 8 → 0 + 0 + (13824 - v8.toInt) * 16 + 8 ≤ ((k : Nat) : Int) → dz_T ((F71_X12_moves fu c2_groups c2_pots c2_bars c2_draws c2_lawful a49 a50 k).1 v1 v2 v3 v4 v6 v8 c2_thrown) (fun r => True))
set_option maxHeartbeats 4000000 in
set_option maxRecDepth 10000 in
theorem t71_X12_moves_h1_s (fu : Nat) (hfu : 1000000000000 ≤ fu) (κ : Nat) (hκ : κ < 14) (c2_groups : Int32) (c2_pots : Int32) (c2_bars : Int32) (c2_draws : Int32) (c2_lawful : Int32) (a49 : Nat → Int32) (a50 : Nat → Int32) (p0 : c2_groups.toInt ≤ 4) (p1 : 2 ≤ c2_groups.toInt) (p2 : c2_pots.toInt ≤ 4) (p3 : 0 ≤ c2_pots.toInt) (p4 : c2_bars.toInt ≤ 10) (p5 : 0 ≤ c2_bars.toInt) (p6 : c2_draws.toInt ≤ 13824) (p7 : 1 ≤ c2_draws.toInt) (p8 : c2_lawful.toInt ≤ 13824) (p9 : 0 ≤ c2_lawful.toInt) (p10 : c2_lawful.toInt ≤ c2_draws.toInt) (hr_a49 : dz_rg a49 13824 0 1023) (hr_a50 : dz_rg a50 165888 0 3) (o0 : c2_groups.toInt = ((dz_kg κ : Nat) : Int)) (o1 : c2_pots.toInt = ((dz_kp κ : Nat) : Int)) (o2 : c2_draws.toInt = ((dz_kt κ : Nat) : Int)) (k : Nat) (ih : ∀ j9, j9 < k → p71_X12_moves_s fu κ c2_groups c2_pots c2_bars c2_draws c2_lawful a49 a50 j9) : ∀ (v1 : Int32) (v2 : Int32) (v3 : Int32) (v4 : Int64) (v6 : Int64) (v8 : Int32) (c2_thrown : Int32), 1 ≤ c2_bars.toInt → v1.toInt ≤ 9 → 0 ≤ v1.toInt → v2.toInt ≤ 11 → 0 ≤ v2.toInt → v3.toInt ≤ 11 → 0 ≤ v3.toInt → v8.toInt ≤ 13824 → 0 ≤ v8.toInt → c2_thrown.toInt ≤ 0 → 0 ≤ c2_thrown.toInt → v1.toInt + 1 ≤ c2_bars.toInt → v8.toInt ≤ c2_draws.toInt → v2.toInt ≤ c2_groups.toInt + 8 → v3.toInt ≤ c2_groups.toInt + 8 → 0 + 0 + (13824 - v8.toInt) * 16 + 8 ≤ ((k : Nat) : Int) → dz_T ((F71_X12_moves fu c2_groups c2_pots c2_bars c2_draws c2_lawful a49 a50 k).1 v1 v2 v3 v4 v6 v8 c2_thrown) (fun r => True) := by
  intro v1 v2 v3 v4 v6 v8 c2_thrown i0 i1 i2 i3 i4 i5 i6 i7 i8 i9 i10 i11 i12 i13 i14 hm
  obtain ⟨k0, rfl⟩ : ∃ x, k = x + 1 := ⟨k - 1, by omega⟩
  show dz_T (s71_X12_moves_1 fu c2_groups c2_pots c2_bars c2_draws c2_lawful a49 a50 (F71_X12_moves fu c2_groups c2_pots c2_bars c2_draws c2_lawful a49 a50 k0).2.1 (F71_X12_moves fu c2_groups c2_pots c2_bars c2_draws c2_lawful a49 a50 k0).2.2.1  v1 v2 v3 v4 v6 v8 c2_thrown) _
  unfold s71_X12_moves_1
  refine dz_Tle (fun h1 => ?_) (fun h1 => ?_)
  · skip
    have e2 := dz_l1
    have e3 := dz_l31
    have e4 := dz_andr (a := v1) (b := (31 : Int32)) (by omega)
    have e5 := dz_andl (a := v1) (b := (31 : Int32)) (by omega)
    have e6 := dz_shl1 (b := v1) 0 9 (by omega) (by omega) (by omega)
    refine dz_Tb (t26_X12_lawfulBut_s fu hfu κ hκ _ _ _ p6 p7 (hr_a49) o2) (fun r1 q => ?_)
    obtain ⟨q1_0, q1_1, q1_2⟩ := q
    exact dz_Ts trivial
  · skip
    have e7 := dz_l12
    have e8 := dz_mull (a := (12 : Int32)) (b := v8) 12 (by omega) (by omega) (by omega)
    have e9 := dz_add (a := ((12 : Int32) * v8)) (b := v2) (by omega) (by omega)
    refine dz_Tin (by omega) (by omega) ?_
    have e10 := dz_add (a := ((12 : Int32) * v8)) (b := v3) (by omega) (by omega)
    refine dz_Tin (by omega) (by omega) ?_
    have e11 := dz_rgat (hr_a50) (i := (((12 : Int32) * v8) + v2)) (by omega) (by omega)
    have e12 := dz_rgat (hr_a50) (i := (((12 : Int32) * v8) + v3)) (by omega) (by omega)
    refine dz_Teq (fun h13 => ?_) (fun h13 => ?_)
    · skip
      refine dz_Tin (by omega) (by omega) ?_
      have e14 := dz_rgat (hr_a49) (i := v8) (by omega) (by omega)
      have e15 := dz_l0
      refine dz_Teq (fun h16 => ?_) (fun h16 => ?_)
      · skip
        obtain ⟨k1, rfl⟩ : ∃ x, k0 = x + 1 := ⟨k0 - 1, by omega⟩
        show dz_T (s71_X12_moves_2 fu c2_groups c2_pots c2_bars c2_draws c2_lawful a49 a50 (F71_X12_moves fu c2_groups c2_pots c2_bars c2_draws c2_lawful a49 a50 k1).2.2.2 v1 v2 v3 v6 v8 (1 : Int64) v4 c2_thrown) _
        unfold s71_X12_moves_2
        refine dz_Tin (by omega) (by omega) ?_
        have e17 := dz_l1
        have e18 := dz_l31
        have e19 := dz_andr (a := v1) (b := (31 : Int32)) (by omega)
        have e20 := dz_andl (a := v1) (b := (31 : Int32)) (by omega)
        have e21 := dz_shl1 (b := v1) 0 9 (by omega) (by omega) (by omega)
        have e22 := dz_lm1
        have e23 := dz_andl (a := (a49 v8.toNatClampNeg)) (b := (((1 : Int32) <<< (v1 &&& (31 : Int32))) ^^^ (-(1 : Int32)))) (by omega)
        refine dz_Teq (fun h24 => ?_) (fun h24 => ?_)
        · skip
          obtain ⟨k2, rfl⟩ : ∃ x, k1 = x + 1 := ⟨k1 - 1, by omega⟩
          show dz_T (s71_X12_moves_4 fu c2_groups c2_pots c2_bars c2_draws c2_lawful a49 a50 (F71_X12_moves fu c2_groups c2_pots c2_bars c2_draws c2_lawful a49 a50 k2).2.2.1 v1 v2 v3 (v4 + 1) v8 (1 : Int64) v6 c2_thrown) _
          unfold s71_X12_moves_4
          obtain ⟨k3, rfl⟩ : ∃ x, k2 = x + 1 := ⟨k2 - 1, by omega⟩
          show dz_T (s71_X12_moves_3 fu c2_groups c2_pots c2_bars c2_draws c2_lawful a49 a50 (F71_X12_moves fu c2_groups c2_pots c2_bars c2_draws c2_lawful a49 a50 k3).1 v1 v2 v3 (v4 + 1) (v6 + 1) v8 c2_thrown) _
          unfold s71_X12_moves_3
          have e25 := dz_add (a := v8) (b := (1 : Int32)) (by omega) (by omega)
          exact (ih k3 (by omega)) v1 v2 v3 (v4 + 1) (v6 + 1) (v8 + (1 : Int32)) c2_thrown i0 i1 i2 i3 i4 i5 i6 (by omega) (by omega) i9 i10 i11 (by omega) i13 i14 (by omega)
        · skip
          exfalso; omega
      · skip
        obtain ⟨k4, rfl⟩ : ∃ x, k0 = x + 1 := ⟨k0 - 1, by omega⟩
        show dz_T (s71_X12_moves_2 fu c2_groups c2_pots c2_bars c2_draws c2_lawful a49 a50 (F71_X12_moves fu c2_groups c2_pots c2_bars c2_draws c2_lawful a49 a50 k4).2.2.2 v1 v2 v3 v6 v8 (0 : Int64) v4 c2_thrown) _
        unfold s71_X12_moves_2
        refine dz_Tin (by omega) (by omega) ?_
        have e26 := dz_l1
        have e27 := dz_l31
        have e28 := dz_andr (a := v1) (b := (31 : Int32)) (by omega)
        have e29 := dz_andl (a := v1) (b := (31 : Int32)) (by omega)
        have e30 := dz_shl1 (b := v1) 0 9 (by omega) (by omega) (by omega)
        have e31 := dz_lm1
        have e32 := dz_andl (a := (a49 v8.toNatClampNeg)) (b := (((1 : Int32) <<< (v1 &&& (31 : Int32))) ^^^ (-(1 : Int32)))) (by omega)
        refine dz_Teq (fun h33 => ?_) (fun h33 => ?_)
        · skip
          obtain ⟨k5, rfl⟩ : ∃ x, k4 = x + 1 := ⟨k4 - 1, by omega⟩
          show dz_T (s71_X12_moves_4 fu c2_groups c2_pots c2_bars c2_draws c2_lawful a49 a50 (F71_X12_moves fu c2_groups c2_pots c2_bars c2_draws c2_lawful a49 a50 k5).2.2.1 v1 v2 v3 (v4 + 0) v8 (1 : Int64) v6 c2_thrown) _
          unfold s71_X12_moves_4
          obtain ⟨k6, rfl⟩ : ∃ x, k5 = x + 1 := ⟨k5 - 1, by omega⟩
          show dz_T (s71_X12_moves_3 fu c2_groups c2_pots c2_bars c2_draws c2_lawful a49 a50 (F71_X12_moves fu c2_groups c2_pots c2_bars c2_draws c2_lawful a49 a50 k6).1 v1 v2 v3 (v4 + 0) (v6 + 1) v8 c2_thrown) _
          unfold s71_X12_moves_3
          have e34 := dz_add (a := v8) (b := (1 : Int32)) (by omega) (by omega)
          exact (ih k6 (by omega)) v1 v2 v3 (v4 + 0) (v6 + 1) (v8 + (1 : Int32)) c2_thrown i0 i1 i2 i3 i4 i5 i6 (by omega) (by omega) i9 i10 i11 (by omega) i13 i14 (by omega)
        · skip
          obtain ⟨k7, rfl⟩ : ∃ x, k4 = x + 1 := ⟨k4 - 1, by omega⟩
          show dz_T (s71_X12_moves_4 fu c2_groups c2_pots c2_bars c2_draws c2_lawful a49 a50 (F71_X12_moves fu c2_groups c2_pots c2_bars c2_draws c2_lawful a49 a50 k7).2.2.1 v1 v2 v3 (v4 + 0) v8 (0 : Int64) v6 c2_thrown) _
          unfold s71_X12_moves_4
          obtain ⟨k8, rfl⟩ : ∃ x, k7 = x + 1 := ⟨k7 - 1, by omega⟩
          show dz_T (s71_X12_moves_3 fu c2_groups c2_pots c2_bars c2_draws c2_lawful a49 a50 (F71_X12_moves fu c2_groups c2_pots c2_bars c2_draws c2_lawful a49 a50 k8).1 v1 v2 v3 (v4 + 0) (v6 + 0) v8 c2_thrown) _
          unfold s71_X12_moves_3
          have e35 := dz_add (a := v8) (b := (1 : Int32)) (by omega) (by omega)
          exact (ih k8 (by omega)) v1 v2 v3 (v4 + 0) (v6 + 0) (v8 + (1 : Int32)) c2_thrown i0 i1 i2 i3 i4 i5 i6 (by omega) (by omega) i9 i10 i11 (by omega) i13 i14 (by omega)
    · skip
      obtain ⟨k9, rfl⟩ : ∃ x, k0 = x + 1 := ⟨k0 - 1, by omega⟩
      show dz_T (s71_X12_moves_3 fu c2_groups c2_pots c2_bars c2_draws c2_lawful a49 a50 (F71_X12_moves fu c2_groups c2_pots c2_bars c2_draws c2_lawful a49 a50 k9).1 v1 v2 v3 v4 v6 v8 c2_thrown) _
      unfold s71_X12_moves_3
      have e36 := dz_l1
      have e37 := dz_add (a := v8) (b := (1 : Int32)) (by omega) (by omega)
      exact (ih k9 (by omega)) v1 v2 v3 v4 v6 (v8 + (1 : Int32)) c2_thrown i0 i1 i2 i3 i4 i5 i6 (by omega) (by omega) i9 i10 i11 (by omega) i13 i14 (by omega)
theorem t71_X12_moves_I_s (fu : Nat) (hfu : 1000000000000 ≤ fu) (κ : Nat) (hκ : κ < 14) (c2_groups : Int32) (c2_pots : Int32) (c2_bars : Int32) (c2_draws : Int32) (c2_lawful : Int32) (a49 : Nat → Int32) (a50 : Nat → Int32) (p0 : c2_groups.toInt ≤ 4) (p1 : 2 ≤ c2_groups.toInt) (p2 : c2_pots.toInt ≤ 4) (p3 : 0 ≤ c2_pots.toInt) (p4 : c2_bars.toInt ≤ 10) (p5 : 0 ≤ c2_bars.toInt) (p6 : c2_draws.toInt ≤ 13824) (p7 : 1 ≤ c2_draws.toInt) (p8 : c2_lawful.toInt ≤ 13824) (p9 : 0 ≤ c2_lawful.toInt) (p10 : c2_lawful.toInt ≤ c2_draws.toInt) (hr_a49 : dz_rg a49 13824 0 1023) (hr_a50 : dz_rg a50 165888 0 3) (o0 : c2_groups.toInt = ((dz_kg κ : Nat) : Int)) (o1 : c2_pots.toInt = ((dz_kp κ : Nat) : Int)) (o2 : c2_draws.toInt = ((dz_kt κ : Nat) : Int)) (k : Nat) : p71_X12_moves_s fu κ c2_groups c2_pots c2_bars c2_draws c2_lawful a49 a50 k := by
  induction k using Nat.strongRecOn with
  | _ k ih => exact t71_X12_moves_h1_s fu hfu κ hκ c2_groups c2_pots c2_bars c2_draws c2_lawful a49 a50 p0 p1 p2 p3 p4 p5 p6 p7 p8 p9 p10 hr_a49 hr_a50 o0 o1 o2 k ih
set_option maxHeartbeats 4000000 in
set_option maxRecDepth 10000 in
theorem t71_X12_moves_E_s (fu : Nat) (hfu : 1000000000000 ≤ fu) (κ : Nat) (hκ : κ < 14) (c2_groups : Int32) (c2_pots : Int32) (c2_bars : Int32) (c2_draws : Int32) (c2_lawful : Int32) (a49 : Nat → Int32) (a50 : Nat → Int32) (v1 : Int32) (v2 : Int32) (v3 : Int32) (c2_thrown : Int32) (p0 : c2_groups.toInt ≤ 4) (p1 : 2 ≤ c2_groups.toInt) (p2 : c2_pots.toInt ≤ 4) (p3 : 0 ≤ c2_pots.toInt) (p4 : c2_bars.toInt ≤ 10) (p5 : 0 ≤ c2_bars.toInt) (p6 : c2_draws.toInt ≤ 13824) (p7 : 1 ≤ c2_draws.toInt) (p8 : c2_lawful.toInt ≤ 13824) (p9 : 0 ≤ c2_lawful.toInt) (p10 : c2_lawful.toInt ≤ c2_draws.toInt) (hr_a49 : dz_rg a49 13824 0 1023) (hr_a50 : dz_rg a50 165888 0 3) (o0 : c2_groups.toInt = ((dz_kg κ : Nat) : Int)) (o1 : c2_pots.toInt = ((dz_kp κ : Nat) : Int)) (o2 : c2_draws.toInt = ((dz_kt κ : Nat) : Int)) (kv : Nat) (hkv : 1000000000000 ≤ kv) : dz_T (s71_X12_moves_0 fu c2_groups c2_pots c2_bars c2_draws c2_lawful a49 a50 (F71_X12_moves fu c2_groups c2_pots c2_bars c2_draws c2_lawful a49 a50 kv).1  v1 v2 v3 c2_thrown) (fun r => True) := by
  unfold s71_X12_moves_0
  have e1 := dz_l0
  refine dz_Tlt (fun h2 => ?_) (fun h2 => ?_)
  · skip
    exact dz_Ts trivial
  · skip
    refine dz_Tle (fun h3 => ?_) (fun h3 => ?_)
    · skip
      exact dz_Ts trivial
    · skip
      refine dz_Tbe (show f31_X12_isTeam fu c2_groups c2_pots v2 = (if (v2 < (0 : Int32)) then (some (0 : Int32)) else (Option.bind (f9_X12_teams fu c2_groups c2_pots) (fun b2 => (if (b2 ≤ v2) then (some (0 : Int32)) else (some (1 : Int32)))))) from rfl) ?_
      refine dz_Tltb (fun h4 => ?_) (fun h4 => ?_)
      · skip
        refine dz_Tsb ?_
        refine dz_Teq (fun h5 => ?_) (fun h5 => ?_)
        · skip
          exact dz_Ts trivial
        · skip
          exfalso; omega
      · skip
        refine dz_Tba ?_
        refine dz_Tb (t9_X12_teams_s fu hfu κ hκ _ _ p0 p1 p2 p3 o0 o1) (fun r3 q => ?_)
        obtain ⟨q3_0, q3_1, q3_2, qo3_0⟩ := q
        refine dz_Tleb (fun h6 => ?_) (fun h6 => ?_)
        · skip
          refine dz_Tsb ?_
          refine dz_Teq (fun h7 => ?_) (fun h7 => ?_)
          · skip
            exact dz_Ts trivial
          · skip
            exfalso; omega
        · skip
          refine dz_Tsb ?_
          have e8 := dz_l1
          refine dz_Teq (fun h9 => ?_) (fun h9 => ?_)
          · skip
            exfalso; omega
          · skip
            refine dz_Tbe (show f31_X12_isTeam fu c2_groups c2_pots v3 = (if (v3 < (0 : Int32)) then (some (0 : Int32)) else (Option.bind (f9_X12_teams fu c2_groups c2_pots) (fun b5 => (if (b5 ≤ v3) then (some (0 : Int32)) else (some (1 : Int32)))))) from rfl) ?_
            refine dz_Tltb (fun h10 => ?_) (fun h10 => ?_)
            · skip
              refine dz_Tsb ?_
              refine dz_Teq (fun h11 => ?_) (fun h11 => ?_)
              · skip
                exact dz_Ts trivial
              · skip
                exfalso; omega
            · skip
              refine dz_Tba ?_
              refine dz_Tb (t9_X12_teams_s fu hfu κ hκ _ _ p0 p1 p2 p3 o0 o1) (fun r6 q => ?_)
              obtain ⟨q6_0, q6_1, q6_2, qo6_0⟩ := q
              refine dz_Tleb (fun h12 => ?_) (fun h12 => ?_)
              · skip
                refine dz_Tsb ?_
                refine dz_Teq (fun h13 => ?_) (fun h13 => ?_)
                · skip
                  exact dz_Ts trivial
                · skip
                  exfalso; omega
              · skip
                refine dz_Tsb ?_
                refine dz_Teq (fun h14 => ?_) (fun h14 => ?_)
                · skip
                  exfalso; omega
                · skip
                  refine dz_Teq (fun h15 => ?_) (fun h15 => ?_)
                  · skip
                    exact dz_Ts trivial
                  · skip
                    exact (t71_X12_moves_I_s fu hfu κ hκ c2_groups c2_pots c2_bars c2_draws c2_lawful a49 a50 p0 p1 p2 p3 p4 p5 p6 p7 p8 p9 p10 hr_a49 hr_a50 o0 o1 o2 kv) v1 v2 v3 (0 : Int64) (0 : Int64) (0 : Int32) (0 : Int32) (by first | assumption | omega) (by first | assumption | omega) (by first | assumption | omega) (by first | assumption | omega) (by first | assumption | omega) (by first | assumption | omega) (by first | assumption | omega) (by omega) (by omega) (by omega) (by omega) (by first | assumption | omega) (by omega) (by first | assumption | omega) (by first | assumption | omega) (by omega)
theorem t71_X12_moves_s (fu : Nat) (hfu : 1000000000000 ≤ fu) (κ : Nat) (hκ : κ < 14) (c2_groups : Int32) (c2_pots : Int32) (c2_bars : Int32) (c2_draws : Int32) (c2_lawful : Int32) (a49 : Nat → Int32) (a50 : Nat → Int32) (v1 : Int32) (v2 : Int32) (v3 : Int32) (c2_thrown : Int32) (p0 : c2_groups.toInt ≤ 4) (p1 : 2 ≤ c2_groups.toInt) (p2 : c2_pots.toInt ≤ 4) (p3 : 0 ≤ c2_pots.toInt) (p4 : c2_bars.toInt ≤ 10) (p5 : 0 ≤ c2_bars.toInt) (p6 : c2_draws.toInt ≤ 13824) (p7 : 1 ≤ c2_draws.toInt) (p8 : c2_lawful.toInt ≤ 13824) (p9 : 0 ≤ c2_lawful.toInt) (p10 : c2_lawful.toInt ≤ c2_draws.toInt) (hr_a49 : dz_rg a49 13824 0 1023) (hr_a50 : dz_rg a50 165888 0 3) (o0 : c2_groups.toInt = ((dz_kg κ : Nat) : Int)) (o1 : c2_pots.toInt = ((dz_kp κ : Nat) : Int)) (o2 : c2_draws.toInt = ((dz_kt κ : Nat) : Int)) : dz_T (f71_X12_moves fu c2_groups c2_pots c2_bars c2_draws c2_lawful a49 a50 v1 v2 v3 c2_thrown) (fun r => True) :=
  t71_X12_moves_E_s fu hfu κ hκ c2_groups c2_pots c2_bars c2_draws c2_lawful a49 a50 v1 v2 v3 c2_thrown p0 p1 p2 p3 p4 p5 p6 p7 p8 p9 p10 hr_a49 hr_a50 o0 o1 o2 fu hfu
abbrev p60_X12_pairRows_s (fu : Nat) (κ : Nat) (c2_draws : Int32) (a50 : Nat → Int32) (a65 : Nat → Int64) (k : Nat) : Prop :=
  (∀ (v1 : Int32) (v2 : Int32) (v3 : Int64) (v5 : Int32), v1.toInt ≤ 11 → 0 ≤ v1.toInt → v2.toInt ≤ 11 → 0 ≤ v2.toInt → v5.toInt ≤ 13824 → 0 ≤ v5.toInt → v5.toInt ≤ c2_draws.toInt → 0 + 0 + (13824 - v5.toInt) * 12 + 6 ≤ ((k : Nat) : Int) → dz_T ((F60_X12_pairRows fu c2_draws a50 a65 k).1 v1 v2 v3 v5) (fun r => True))
set_option maxHeartbeats 4000000 in
set_option maxRecDepth 10000 in
theorem t60_X12_pairRows_h1_s (fu : Nat) (hfu : 1000000000000 ≤ fu) (κ : Nat) (hκ : κ < 14) (c2_draws : Int32) (a50 : Nat → Int32) (a65 : Nat → Int64) (p0 : c2_draws.toInt ≤ 13824) (p1 : 1 ≤ c2_draws.toInt) (hr_a50 : dz_rg a50 165888 0 3) (o0 : c2_draws.toInt = ((dz_kt κ : Nat) : Int)) (k : Nat) (ih : ∀ j9, j9 < k → p60_X12_pairRows_s fu κ c2_draws a50 a65 j9) : ∀ (v1 : Int32) (v2 : Int32) (v3 : Int64) (v5 : Int32), v1.toInt ≤ 11 → 0 ≤ v1.toInt → v2.toInt ≤ 11 → 0 ≤ v2.toInt → v5.toInt ≤ 13824 → 0 ≤ v5.toInt → v5.toInt ≤ c2_draws.toInt → 0 + 0 + (13824 - v5.toInt) * 12 + 6 ≤ ((k : Nat) : Int) → dz_T ((F60_X12_pairRows fu c2_draws a50 a65 k).1 v1 v2 v3 v5) (fun r => True) := by
  intro v1 v2 v3 v5 i0 i1 i2 i3 i4 i5 i6 hm
  obtain ⟨k0, rfl⟩ : ∃ x, k = x + 1 := ⟨k - 1, by omega⟩
  show dz_T (s60_X12_pairRows_1 fu c2_draws a50 a65 (F60_X12_pairRows fu c2_draws a50 a65 k0).2  v1 v2 v3 v5) _
  unfold s60_X12_pairRows_1
  refine dz_Tle (fun h1 => ?_) (fun h1 => ?_)
  · skip
    exact dz_Ts trivial
  · skip
    have e2 := dz_l12
    have e3 := dz_mull (a := (12 : Int32)) (b := v5) 12 (by omega) (by omega) (by omega)
    have e4 := dz_add (a := ((12 : Int32) * v5)) (b := v1) (by omega) (by omega)
    refine dz_Tin (by omega) (by omega) ?_
    have e5 := dz_add (a := ((12 : Int32) * v5)) (b := v2) (by omega) (by omega)
    refine dz_Tin (by omega) (by omega) ?_
    have e6 := dz_rgat (hr_a50) (i := (((12 : Int32) * v5) + v1)) (by omega) (by omega)
    have e7 := dz_rgat (hr_a50) (i := (((12 : Int32) * v5) + v2)) (by omega) (by omega)
    refine dz_Teq (fun h8 => ?_) (fun h8 => ?_)
    · skip
      refine dz_Tin (by omega) (by omega) ?_
      obtain ⟨k1, rfl⟩ : ∃ x, k0 = x + 1 := ⟨k0 - 1, by omega⟩
      show dz_T (s60_X12_pairRows_2 fu c2_draws a50 a65 (F60_X12_pairRows fu c2_draws a50 a65 k1).1 v1 v2 v5 (a65 v5.toNatClampNeg) v3) _
      unfold s60_X12_pairRows_2
      have e9 := dz_l1
      have e10 := dz_add (a := v5) (b := (1 : Int32)) (by omega) (by omega)
      exact (ih k1 (by omega)) v1 v2 (v3 + (a65 v5.toNatClampNeg)) (v5 + (1 : Int32)) i0 i1 i2 i3 (by omega) (by omega) (by omega) (by omega)
    · skip
      obtain ⟨k2, rfl⟩ : ∃ x, k0 = x + 1 := ⟨k0 - 1, by omega⟩
      show dz_T (s60_X12_pairRows_2 fu c2_draws a50 a65 (F60_X12_pairRows fu c2_draws a50 a65 k2).1 v1 v2 v5 (0 : Int64) v3) _
      unfold s60_X12_pairRows_2
      have e11 := dz_l1
      have e12 := dz_add (a := v5) (b := (1 : Int32)) (by omega) (by omega)
      exact (ih k2 (by omega)) v1 v2 (v3 + 0) (v5 + (1 : Int32)) i0 i1 i2 i3 (by omega) (by omega) (by omega) (by omega)
theorem t60_X12_pairRows_I_s (fu : Nat) (hfu : 1000000000000 ≤ fu) (κ : Nat) (hκ : κ < 14) (c2_draws : Int32) (a50 : Nat → Int32) (a65 : Nat → Int64) (p0 : c2_draws.toInt ≤ 13824) (p1 : 1 ≤ c2_draws.toInt) (hr_a50 : dz_rg a50 165888 0 3) (o0 : c2_draws.toInt = ((dz_kt κ : Nat) : Int)) (k : Nat) : p60_X12_pairRows_s fu κ c2_draws a50 a65 k := by
  induction k using Nat.strongRecOn with
  | _ k ih => exact t60_X12_pairRows_h1_s fu hfu κ hκ c2_draws a50 a65 p0 p1 hr_a50 o0 k ih
set_option maxHeartbeats 4000000 in
set_option maxRecDepth 10000 in
theorem t60_X12_pairRows_E_s (fu : Nat) (hfu : 1000000000000 ≤ fu) (κ : Nat) (hκ : κ < 14) (c2_draws : Int32) (a50 : Nat → Int32) (a65 : Nat → Int64) (v1 : Int32) (v2 : Int32) (p0 : c2_draws.toInt ≤ 13824) (p1 : 1 ≤ c2_draws.toInt) (p2 : 0 ≤ v1.toInt) (p3 : v1.toInt ≤ 11) (p4 : 0 ≤ v2.toInt) (p5 : v2.toInt ≤ 11) (hr_a50 : dz_rg a50 165888 0 3) (o0 : c2_draws.toInt = ((dz_kt κ : Nat) : Int)) (kv : Nat) (hkv : 1000000000000 ≤ kv) : dz_T (s60_X12_pairRows_0 fu c2_draws a50 a65 (F60_X12_pairRows fu c2_draws a50 a65 kv).1  v1 v2) (fun r => True) := by
  unfold s60_X12_pairRows_0
  have e1 := dz_l0
  exact (t60_X12_pairRows_I_s fu hfu κ hκ c2_draws a50 a65 p0 p1 hr_a50 o0 kv) v1 v2 (0 : Int64) (0 : Int32) p3 p2 p5 p4 (by omega) (by omega) (by omega) (by omega)
theorem t60_X12_pairRows_s (fu : Nat) (hfu : 1000000000000 ≤ fu) (κ : Nat) (hκ : κ < 14) (c2_draws : Int32) (a50 : Nat → Int32) (a65 : Nat → Int64) (v1 : Int32) (v2 : Int32) (p0 : c2_draws.toInt ≤ 13824) (p1 : 1 ≤ c2_draws.toInt) (p2 : 0 ≤ v1.toInt) (p3 : v1.toInt ≤ 11) (p4 : 0 ≤ v2.toInt) (p5 : v2.toInt ≤ 11) (hr_a50 : dz_rg a50 165888 0 3) (o0 : c2_draws.toInt = ((dz_kt κ : Nat) : Int)) : dz_T (f60_X12_pairRows fu c2_draws a50 a65 v1 v2) (fun r => True) :=
  t60_X12_pairRows_E_s fu hfu κ hκ c2_draws a50 a65 v1 v2 p0 p1 p2 p3 p4 p5 hr_a50 o0 fu hfu
