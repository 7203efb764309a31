theorem t125_J7_fill_53178_h (fu : Nat) (lo hi : Int) (k : Nat) : ∀ (v1 v2 v3 : Int32) (a : Nat → Int32), v3.toInt = (16 : Int) → 0 ≤ v2.toInt → v2.toInt ≤ (16 : Int) → lo ≤ v1.toInt → v1.toInt ≤ hi → dz_rg a 16 lo hi → ((16 : Int) - v2.toInt) + 1 ≤ ((k : Nat) : Int) → dz_T (F125_J7_fill_53178 fu k v1 v2 v3 a) (fun r => dz_rg r 16 lo hi) := by
  induction k with
  | zero => intro v1 v2 v3 a e h0 h1 hl hh hr hm; omega
  | succ k ih =>
    intro v1 v2 v3 a e h0 h1 hl hh hr hm
    have r3 := dz_rng v3
    show dz_T (s125_J7_fill_53178_1 fu (F125_J7_fill_53178 fu k) v1 v2 v3 a) _
    unfold s125_J7_fill_53178_1
    have o := dz_l1
    refine dz_Tle (fun h => ?_) (fun h => ?_)
    · exact dz_Ts hr
    · refine dz_Tin (by omega) (by omega) ?_
      have e1 := dz_add (a := v2) (b := (1 : Int32)) (by omega) (by omega)
      exact ih v1 (v2 + 1) v3 _ e (by omega) (by omega) hl hh (dz_rgu hr hl hh) (by omega)
theorem t125_J7_fill_53178 (fu : Nat) (hfu : 1000000000000 ≤ fu) (v1 : Int32) (a264 : Nat → Int32) (lo hi : Int) (p0 : v1.toInt ≤ hi) (p1 : lo ≤ v1.toInt) (hr : dz_rg a264 16 lo hi) : dz_T (f125_J7_fill_53178 fu v1 a264) (fun r => dz_rg r 16 lo hi) := by
  have l0 := dz_l0
  have lN := dz_l16
  exact t125_J7_fill_53178_h fu lo hi fu v1 0 (16 : Int32) a264 (by omega) (by omega) (by omega) p1 p0 hr (by omega)
theorem t125_J7_fill_53178_o (fu : Nat) (hfu : 1000000000000 ≤ fu) (v1 : Int32) (a264 : Nat → Int32) : dz_T (f125_J7_fill_53178 fu v1 a264) (fun _ => True) :=
  dz_Tw (t125_J7_fill_53178 fu hfu v1 a264 (-2147483648) 2147483647 (dz_rng v1).2 (dz_rng v1).1 (fun k _ => dz_rng _)) (fun _ _ => trivial)
theorem t137_J7_fill_53178_h (fu : Nat) (lo hi : Int) (k : Nat) : ∀ (v1 v2 v3 : Int32) (a : Nat → Int32), v3.toInt = (1024 : Int) → 0 ≤ v2.toInt → v2.toInt ≤ (1024 : Int) → lo ≤ v1.toInt → v1.toInt ≤ hi → dz_rg a 1024 lo hi → ((1024 : Int) - v2.toInt) + 1 ≤ ((k : Nat) : Int) → dz_T (F137_J7_fill_53178 fu k v1 v2 v3 a) (fun r => dz_rg r 1024 lo hi) := by
  induction k with
  | zero => intro v1 v2 v3 a e h0 h1 hl hh hr hm; omega
  | succ k ih =>
    intro v1 v2 v3 a e h0 h1 hl hh hr hm
    have r3 := dz_rng v3
    show dz_T (s137_J7_fill_53178_1 fu (F137_J7_fill_53178 fu k) v1 v2 v3 a) _
    unfold s137_J7_fill_53178_1
    have o := dz_l1
    refine dz_Tle (fun h => ?_) (fun h => ?_)
    · exact dz_Ts hr
    · refine dz_Tin (by omega) (by omega) ?_
      have e1 := dz_add (a := v2) (b := (1 : Int32)) (by omega) (by omega)
      exact ih v1 (v2 + 1) v3 _ e (by omega) (by omega) hl hh (dz_rgu hr hl hh) (by omega)
theorem t137_J7_fill_53178 (fu : Nat) (hfu : 1000000000000 ≤ fu) (v1 : Int32) (a271 : Nat → Int32) (lo hi : Int) (p0 : v1.toInt ≤ hi) (p1 : lo ≤ v1.toInt) (hr : dz_rg a271 1024 lo hi) : dz_T (f137_J7_fill_53178 fu v1 a271) (fun r => dz_rg r 1024 lo hi) := by
  have l0 := dz_l0
  have lN := dz_l1024
  exact t137_J7_fill_53178_h fu lo hi fu v1 0 (1024 : Int32) a271 (by omega) (by omega) (by omega) p1 p0 hr (by omega)
theorem t137_J7_fill_53178_o (fu : Nat) (hfu : 1000000000000 ≤ fu) (v1 : Int32) (a271 : Nat → Int32) : dz_T (f137_J7_fill_53178 fu v1 a271) (fun _ => True) :=
  dz_Tw (t137_J7_fill_53178 fu hfu v1 a271 (-2147483648) 2147483647 (dz_rng v1).2 (dz_rng v1).1 (fun k _ => dz_rng _)) (fun _ _ => trivial)
theorem t144_J7_fill_53178_h (fu : Nat) (lo hi : Int) (k : Nat) : ∀ (v1 v2 v3 : Int32) (a : Nat → Int32), v3.toInt = (12 : Int) → 0 ≤ v2.toInt → v2.toInt ≤ (12 : Int) → lo ≤ v1.toInt → v1.toInt ≤ hi → dz_rg a 12 lo hi → ((12 : Int) - v2.toInt) + 1 ≤ ((k : Nat) : Int) → dz_T (F144_J7_fill_53178 fu k v1 v2 v3 a) (fun r => dz_rg r 12 lo hi) := by
  induction k with
  | zero => intro v1 v2 v3 a e h0 h1 hl hh hr hm; omega
  | succ k ih =>
    intro v1 v2 v3 a e h0 h1 hl hh hr hm
    have r3 := dz_rng v3
    show dz_T (s144_J7_fill_53178_1 fu (F144_J7_fill_53178 fu k) v1 v2 v3 a) _
    unfold s144_J7_fill_53178_1
    have o := dz_l1
    refine dz_Tle (fun h => ?_) (fun h => ?_)
    · exact dz_Ts hr
    · refine dz_Tin (by omega) (by omega) ?_
      have e1 := dz_add (a := v2) (b := (1 : Int32)) (by omega) (by omega)
      exact ih v1 (v2 + 1) v3 _ e (by omega) (by omega) hl hh (dz_rgu hr hl hh) (by omega)
theorem t144_J7_fill_53178 (fu : Nat) (hfu : 1000000000000 ≤ fu) (v1 : Int32) (a277 : Nat → Int32) (lo hi : Int) (p0 : v1.toInt ≤ hi) (p1 : lo ≤ v1.toInt) (hr : dz_rg a277 12 lo hi) : dz_T (f144_J7_fill_53178 fu v1 a277) (fun r => dz_rg r 12 lo hi) := by
  have l0 := dz_l0
  have lN := dz_l12
  exact t144_J7_fill_53178_h fu lo hi fu v1 0 (12 : Int32) a277 (by omega) (by omega) (by omega) p1 p0 hr (by omega)
theorem t144_J7_fill_53178_o (fu : Nat) (hfu : 1000000000000 ≤ fu) (v1 : Int32) (a277 : Nat → Int32) : dz_T (f144_J7_fill_53178 fu v1 a277) (fun _ => True) :=
  dz_Tw (t144_J7_fill_53178 fu hfu v1 a277 (-2147483648) 2147483647 (dz_rng v1).2 (dz_rng v1).1 (fun k _ => dz_rng _)) (fun _ _ => trivial)
theorem t200_J7_fill_53178_h (fu : Nat) (lo hi : Int) (k : Nat) : ∀ (v1 v2 v3 : Int32) (a : Nat → Int32), v3.toInt = (64 : Int) → 0 ≤ v2.toInt → v2.toInt ≤ (64 : Int) → lo ≤ v1.toInt → v1.toInt ≤ hi → dz_rg a 64 lo hi → ((64 : Int) - v2.toInt) + 1 ≤ ((k : Nat) : Int) → dz_T (F200_J7_fill_53178 fu k v1 v2 v3 a) (fun r => dz_rg r 64 lo hi) := by
  induction k with
  | zero => intro v1 v2 v3 a e h0 h1 hl hh hr hm; omega
  | succ k ih =>
    intro v1 v2 v3 a e h0 h1 hl hh hr hm
    have r3 := dz_rng v3
    show dz_T (s200_J7_fill_53178_1 fu (F200_J7_fill_53178 fu k) v1 v2 v3 a) _
    unfold s200_J7_fill_53178_1
    have o := dz_l1
    refine dz_Tle (fun h => ?_) (fun h => ?_)
    · exact dz_Ts hr
    · refine dz_Tin (by omega) (by omega) ?_
      have e1 := dz_add (a := v2) (b := (1 : Int32)) (by omega) (by omega)
      exact ih v1 (v2 + 1) v3 _ e (by omega) (by omega) hl hh (dz_rgu hr hl hh) (by omega)
theorem t200_J7_fill_53178 (fu : Nat) (hfu : 1000000000000 ≤ fu) (v1 : Int32) (a298 : Nat → Int32) (lo hi : Int) (p0 : v1.toInt ≤ hi) (p1 : lo ≤ v1.toInt) (hr : dz_rg a298 64 lo hi) : dz_T (f200_J7_fill_53178 fu v1 a298) (fun r => dz_rg r 64 lo hi) := by
  have l0 := dz_l0
  have lN := dz_l64
  exact t200_J7_fill_53178_h fu lo hi fu v1 0 (64 : Int32) a298 (by omega) (by omega) (by omega) p1 p0 hr (by omega)
theorem t200_J7_fill_53178_o (fu : Nat) (hfu : 1000000000000 ≤ fu) (v1 : Int32) (a298 : Nat → Int32) : dz_T (f200_J7_fill_53178 fu v1 a298) (fun _ => True) :=
  dz_Tw (t200_J7_fill_53178 fu hfu v1 a298 (-2147483648) 2147483647 (dz_rng v1).2 (dz_rng v1).1 (fun k _ => dz_rng _)) (fun _ _ => trivial)
theorem t274_J7_fill_53178_h (fu : Nat) (n306 : Nat) (lo hi : Int) (k : Nat) : ∀ (v1 v2 v3 : Int32) (a : Nat → Int32), v3.toInt = ((n306 : Nat) : Int) → 0 ≤ v2.toInt → v2.toInt ≤ ((n306 : Nat) : Int) → lo ≤ v1.toInt → v1.toInt ≤ hi → dz_rg a n306 lo hi → (((n306 : Nat) : Int) - v2.toInt) + 1 ≤ ((k : Nat) : Int) → dz_T (F274_J7_fill_53178 fu n306 k v1 v2 v3 a) (fun r => dz_rg r n306 lo hi) := by
  induction k with
  | zero => intro v1 v2 v3 a e h0 h1 hl hh hr hm; omega
  | succ k ih =>
    intro v1 v2 v3 a e h0 h1 hl hh hr hm
    have r3 := dz_rng v3
    show dz_T (s274_J7_fill_53178_1 fu n306 (F274_J7_fill_53178 fu n306 k) v1 v2 v3 a) _
    unfold s274_J7_fill_53178_1
    have o := dz_l1
    refine dz_Tle (fun h => ?_) (fun h => ?_)
    · exact dz_Ts hr
    · refine dz_Tin (by omega) (by omega) ?_
      have e1 := dz_add (a := v2) (b := (1 : Int32)) (by omega) (by omega)
      exact ih v1 (v2 + 1) v3 _ e (by omega) (by omega) hl hh (dz_rgu hr hl hh) (by omega)
theorem t274_J7_fill_53178 (fu : Nat) (hfu : 1000000000000 ≤ fu) (n306 : Nat) (v1 : Int32) (a306 : Nat → Int32) (lo hi : Int) (pn : ((n306 : Nat) : Int) ≤ 2147483647) (p0 : v1.toInt ≤ hi) (p1 : lo ≤ v1.toInt) (hr : dz_rg a306 n306 lo hi) : dz_T (f274_J7_fill_53178 fu n306 v1 a306) (fun r => dz_rg r n306 lo hi) := by
  have l0 := dz_l0
  have lN := dz_ofn (n := n306) (by omega)
  exact t274_J7_fill_53178_h fu n306 lo hi fu v1 0 (Int32.ofNat n306) a306 (by omega) (by omega) (by omega) p1 p0 hr (by omega)
theorem t274_J7_fill_53178_o (fu : Nat) (hfu : 1000000000000 ≤ fu) (n306 : Nat) (v1 : Int32) (a306 : Nat → Int32) (pn : ((n306 : Nat) : Int) ≤ 2147483647) : dz_T (f274_J7_fill_53178 fu n306 v1 a306) (fun _ => True) :=
  dz_Tw (t274_J7_fill_53178 fu hfu n306 v1 a306 (-2147483648) 2147483647 pn (dz_rng v1).2 (dz_rng v1).1 (fun k _ => dz_rng _)) (fun _ _ => trivial)
theorem t135_J7_fill_fda19_h (fu : Nat) (n269 : Nat) (lo hi : Int) (k : Nat) : ∀ (v2 v3 v4 : Int32) (a : Nat → Int32), v2.toInt ≤ (n269 : Int) → 0 ≤ v4.toInt → v4.toInt ≤ v2.toInt → lo ≤ v3.toInt → v3.toInt ≤ hi → dz_rg a n269 lo hi → (v2.toInt - v4.toInt) + 1 ≤ ((k : Nat) : Int) → dz_T (F135_J7_fill_fda19 fu n269 k v2 v3 v4 a) (fun r => dz_rg r n269 lo hi) := by
  induction k with
  | zero => intro v2 v3 v4 a e h0 h1 hl hh hr hm; omega
  | succ k ih =>
    intro v2 v3 v4 a e h0 h1 hl hh hr hm
    have r2 := dz_rng v2
    show dz_T (s135_J7_fill_fda19_1 fu n269 (F135_J7_fill_fda19 fu n269 k) v2 v3 v4 a) _
    unfold s135_J7_fill_fda19_1
    have o := dz_l1
    refine dz_Tle (fun h => ?_) (fun h => ?_)
    · exact dz_Ts hr
    · refine dz_Tin (by omega) (by omega) ?_
      have e1 := dz_add (a := v4) (b := (1 : Int32)) (by omega) (by omega)
      exact ih v2 v3 (v4 + 1) _ e (by omega) (by omega) hl hh (dz_rgu hr hl hh) (by omega)
theorem t135_J7_fill_fda19 (fu : Nat) (hfu : 1000000000000 ≤ fu) (n269 : Nat) (v1 v2 v3 : Int32) (a269 : Nat → Int32) (lo hi : Int) (pn : ((n269 : Nat) : Int) ≤ 2147483647) (p0 : 0 ≤ v1.toInt) (p1 : v1.toInt ≤ v2.toInt) (p2 : v2.toInt ≤ ((n269 : Nat) : Int)) (p3 : v3.toInt ≤ hi) (p4 : lo ≤ v3.toInt) (hr : dz_rg a269 n269 lo hi) : dz_T (f135_J7_fill_fda19 fu n269 v1 v2 v3 a269) (fun r => dz_rg r n269 lo hi) := by
  have l0 := dz_l0
  have lN := dz_ofn (n := n269) (by omega)
  have r2 := dz_rng v2
  unfold f135_J7_fill_fda19 s135_J7_fill_fda19_0
  refine dz_Tb (P := fun _ => True) ?_ (fun r _ => ?_)
  · unfold f134_J7_rangeCheck_23922 s134_J7_rangeCheck_23922_0
    refine dz_Tg (Int32.le_iff_toInt_le.mpr (by omega)) ?_
    refine dz_Tg (Int32.le_iff_toInt_le.mpr (by omega)) ?_
    refine dz_Tg (Int32.le_iff_toInt_le.mpr (by omega)) ?_
    exact dz_Ts trivial
  · exact t135_J7_fill_fda19_h fu n269 lo hi fu v2 v3 v1 a269 p2 p0 p1 p4 p3 hr (by omega)
theorem t135_J7_fill_fda19_o (fu : Nat) (hfu : 1000000000000 ≤ fu) (n269 : Nat) (v1 v2 v3 : Int32) (a269 : Nat → Int32) (pn : ((n269 : Nat) : Int) ≤ 2147483647) (p0 : 0 ≤ v1.toInt) (p1 : v1.toInt ≤ v2.toInt) (p2 : v2.toInt ≤ ((n269 : Nat) : Int)) : dz_T (f135_J7_fill_fda19 fu n269 v1 v2 v3 a269) (fun _ => True) :=
  dz_Tw (t135_J7_fill_fda19 fu hfu n269 v1 v2 v3 a269 (-2147483648) 2147483647 pn p0 p1 p2 (dz_rng v3).2 (dz_rng v3).1 (fun k _ => dz_rng _)) (fun _ _ => trivial)
def dz_bc (v0 : Int32) : Int32 := (((((((((v0 - ((dz_ush v0 1) &&& 1431655765)) &&& 858993459) + ((dz_ush (v0 - ((dz_ush v0 1) &&& 1431655765)) 2) &&& 858993459)) + (dz_ush (((v0 - ((dz_ush v0 1) &&& 1431655765)) &&& 858993459) + ((dz_ush (v0 - ((dz_ush v0 1) &&& 1431655765)) 2) &&& 858993459)) 4)) &&& 252645135) + (dz_ush (((((v0 - ((dz_ush v0 1) &&& 1431655765)) &&& 858993459) + ((dz_ush (v0 - ((dz_ush v0 1) &&& 1431655765)) 2) &&& 858993459)) + (dz_ush (((v0 - ((dz_ush v0 1) &&& 1431655765)) &&& 858993459) + ((dz_ush (v0 - ((dz_ush v0 1) &&& 1431655765)) 2) &&& 858993459)) 4)) &&& 252645135) 8)) + (dz_ush ((((((v0 - ((dz_ush v0 1) &&& 1431655765)) &&& 858993459) + ((dz_ush (v0 - ((dz_ush v0 1) &&& 1431655765)) 2) &&& 858993459)) + (dz_ush (((v0 - ((dz_ush v0 1) &&& 1431655765)) &&& 858993459) + ((dz_ush (v0 - ((dz_ush v0 1) &&& 1431655765)) 2) &&& 858993459)) 4)) &&& 252645135) + (dz_ush (((((v0 - ((dz_ush v0 1) &&& 1431655765)) &&& 858993459) + ((dz_ush (v0 - ((dz_ush v0 1) &&& 1431655765)) 2) &&& 858993459)) + (dz_ush (((v0 - ((dz_ush v0 1) &&& 1431655765)) &&& 858993459) + ((dz_ush (v0 - ((dz_ush v0 1) &&& 1431655765)) 2) &&& 858993459)) 4)) &&& 252645135) 8)) 16)) &&& 63))
theorem dz_bcf (fu : Nat) (v0 : Int32) : f128_J6_bitCount_0f7a4 fu v0 = some (dz_bc v0) := rfl
theorem t128_J6_bitCount (fu : Nat) (hfu : 1000000000000 ≤ fu) (v0 : Int32) : dz_T (f128_J6_bitCount_0f7a4 fu v0) (fun _ => True) := ⟨_, dz_bcf fu v0, trivial⟩
theorem t128_J6_bitCount_15 (fu : Nat) (hfu : 1000000000000 ≤ fu) (v0 : Int32) (h0 : 0 ≤ v0.toInt) (h1 : v0.toInt ≤ 15) : dz_T (f128_J6_bitCount_0f7a4 fu v0) (fun r => r.toInt ≤ 4 ∧ 0 ≤ r.toInt) := by
  refine ⟨_, dz_bcf fu v0, ?_⟩
  have e := dz_eqn (b := v0) (c := v0.toInt.toNat) (by omega) (by omega)
  have h : ∀ c : Fin 16, (dz_bc (Int32.ofNat c.val)).toInt ≤ 4 ∧ 0 ≤ (dz_bc (Int32.ofNat c.val)).toInt := by decide +kernel
  have h2 := h ⟨v0.toInt.toNat, by omega⟩
  rw [e]; exact h2
theorem dz_and2 (a b : Nat) : (2 * a) &&& (2 * b) = 2 * (a &&& b) := by
  have h := Nat.shiftLeft_and_distrib (a := a) (b := b) (i := 1)
  simp only [Nat.shiftLeft_eq, Nat.pow_one] at h
  rw [Nat.mul_comm 2 a, Nat.mul_comm 2 b, Nat.mul_comm 2 (a &&& b)]
  exact h.symm
theorem dz_lowb (w : Nat) : ∀ x, 0 < x → x < 2 ^ w → ∃ j, j < w ∧ x &&& (2 ^ w - x) = 2 ^ j ∧ 2 ^ j ≤ x ∧ x % 2 ^ (j + 1) = 2 ^ j := by
  induction w with
  | zero => intro x h0 h1; simp at h1; omega
  | succ w ih =>
    intro x h0 h1
    rw [Nat.pow_succ] at h1
    rcases Nat.mod_two_eq_zero_or_one x with e | e
    · obtain ⟨j, hj, h2, h3, h4⟩ := ih (x / 2) (by omega) (by omega)
      refine ⟨j + 1, by omega, ?_, ?_, ?_⟩
      · have hx : x = 2 * (x / 2) := by omega
        have hy : 2 ^ (w + 1) - x = 2 * (2 ^ w - x / 2) := by rw [Nat.pow_succ]; omega
        rw [hy]
        conv => lhs; lhs; rw [hx]
        rw [dz_and2, h2, Nat.pow_succ, Nat.mul_comm]
      · rw [Nat.pow_succ]; omega
      · have hx : x = 2 * (x / 2) := by omega
        rw [hx, Nat.pow_succ 2 (j + 1), Nat.mul_comm (2 ^ (j + 1)) 2, Nat.mul_mod_mul_left, h4, Nat.pow_succ, Nat.mul_comm]
    · refine ⟨0, by omega, ?_, by simp; omega, by simpa using e⟩
      have hy : 2 ^ (w + 1) - x = 2 * (2 ^ w - (x / 2 + 1)) + 1 := by rw [Nat.pow_succ]; omega
      have hx : x = 2 * (x / 2) + 1 := by omega
      apply Nat.eq_of_testBit_eq
      intro i
      rw [Nat.testBit_and, hy]
      cases i with
      | zero => simp [Nat.testBit_zero, e]
      | succ i =>
        rw [hx, Nat.testBit_succ, Nat.testBit_succ]
        have q1 : (2 * (x / 2) + 1) / 2 = x / 2 := by omega
        have q2 : (2 * (2 ^ w - (x / 2 + 1)) + 1) / 2 = 2 ^ w - (x / 2 + 1) := by omega
        have q3 : (2 * (x / 2) + 1) / 2 = x / 2 := by omega
        rw [q1, q2, Nat.testBit_two_pow_sub_succ (by omega)]
        have q4 : Nat.testBit (2 ^ 0) (i + 1) = false := by simp [Nat.testBit_succ]
        rw [q4]
        cases (x / 2).testBit i <;> simp
theorem dz_low (v : Int32) (h0 : 0 < v.toInt) : ∃ j : Nat, j < 31 ∧ ((2 ^ j : Nat) : Int) ≤ v.toInt ∧ (v &&& (-v)) - 1 = Int32.ofNat (2 ^ j - 1) ∧ v.toBitVec.toNat % 2 ^ (j + 1) = 2 ^ j := by
  have b := (dz_bn v).1 (by omega)
  have hv : v.toBitVec.toNat ≠ 0 := by omega
  obtain ⟨j, hj, h2, h3, h4⟩ := dz_lowb 32 v.toBitVec.toNat (by omega) v.toBitVec.isLt
  have hj31 : j < 31 := by
    rcases Nat.lt_or_ge j 31 with h | h
    · exact h
    · have : (2 : Nat) ^ 31 ≤ 2 ^ j := Nat.pow_le_pow_right (by decide) h
      omega
  refine ⟨j, hj31, by omega, ?_, h4⟩
  have hn : (v &&& (-v)).toBitVec.toNat = 2 ^ j := by
    have : (v &&& (-v)).toBitVec.toNat = v.toBitVec.toNat &&& (-v.toBitVec).toNat := BitVec.toNat_and _ _
    rw [this, BitVec.toNat_neg, Nat.mod_eq_of_lt (by omega), h2]
  have hp : (2 : Nat) ^ j ≤ 2 ^ 30 := Nat.pow_le_pow_right (by decide) (by omega)
  have hp1 : 1 ≤ (2 : Nat) ^ j := Nat.one_le_two_pow
  have hi := (dz_bn (v &&& (-v))).2 (by omega)
  have o := dz_l1
  apply Int32.toInt_inj.mp
  rw [dz_sub (by omega) (by omega), Int32.toInt_ofNat_of_lt (by omega)]
  omega
theorem dz_bcp : ∀ j : Fin 31, (dz_bc (Int32.ofNat (2 ^ j.val - 1))).toInt = (j.val : Int) := by decide +kernel
theorem t129_X4_only (fu : Nat) (hfu : 1000000000000 ≤ fu) (v0 : Int32) (n : Nat) (h0 : 0 ≤ v0.toInt) (h1 : v0.toInt < ((2 ^ n : Nat) : Int)) (hn : 1 ≤ n ∧ n ≤ 31) : dz_T (f129_X4_only fu v0) (fun r => r.toInt ≤ (n : Int) - 1 ∧ 0 ≤ r.toInt) := by
  unfold f129_X4_only s129_X4_only_0
  have z := dz_l0
  refine dz_Teq (fun h => ?_) (fun h => ?_)
  · refine dz_Ts ?_
    omega
  · obtain ⟨j, hj, h2, h3, h4⟩ := dz_low v0 (by omega)
    rw [h3]
    refine dz_Tbe (dz_bcf fu _) ?_
    refine dz_Tsb (dz_Ts ?_)
    rw [dz_bcp ⟨j, hj⟩]
    have : j < n := by
      rcases Nat.lt_or_ge j n with h | h
      · exact h
      · have : (2 : Nat) ^ n ≤ 2 ^ j := Nat.pow_le_pow_right (by decide) h
        omega
    show (j : Int) ≤ (n : Int) - 1 ∧ 0 ≤ (j : Int)
    omega

/-- the lowest bit -/
def dz_lw (x r : Int32) : Prop := ∃ j : Nat, j < 31 ∧ r.toInt = (j : Int) ∧ x.toBitVec.toNat % 2 ^ (j + 1) = 2 ^ j
def dz_rb (a : Nat → Int32) (n : Nat) (bars : Int32) : Prop := ∀ k, k < n → 0 ≤ (a k).toInt ∧ (a k).toInt < ((2 ^ bars.toInt.toNat : Nat) : Int)
theorem dz_rbat {a : Nat → Int32} {n : Nat} {bars : Int32} (h : dz_rb a n bars) {i : Int32} (h0 : 0 ≤ i.toInt) (h1 : i.toInt < (n : Int)) : 0 ≤ (a i.toNatClampNeg).toInt ∧ (a i.toNatClampNeg).toInt < ((2 ^ bars.toInt.toNat : Nat) : Int) := h _ (by have := dz_tn i; omega)
theorem dz_lwx (fu : Nat) (v0 : Int32) (h0 : 0 < v0.toInt) : dz_T (f129_X4_only fu v0) (fun r => ∃ j : Nat, j < 31 ∧ r.toInt = (j : Int) ∧ v0.toBitVec.toNat % 2 ^ (j + 1) = 2 ^ j ∧ ((2 ^ j : Nat) : Int) ≤ v0.toInt) := by
  unfold f129_X4_only s129_X4_only_0
  have z := dz_l0
  refine dz_Teq (fun h => ?_) (fun h => ?_)
  · omega
  · obtain ⟨j, hj, h2, h3, h4⟩ := dz_low v0 (by omega)
    rw [h3]
    refine dz_Tbe (dz_bcf fu _) ?_
    refine dz_Tsb (dz_Ts ?_)
    exact ⟨j, hj, dz_bcp ⟨j, hj⟩, h4, h2⟩
theorem dz_jlt {j n : Nat} {x : Int} (h : ((2 ^ j : Nat) : Int) ≤ x) (hx : x < ((2 ^ n : Nat) : Int)) : j < n := by
  rcases Nat.lt_or_ge j n with h1 | h1
  · exact h1
  · have : (2 : Nat) ^ n ≤ 2 ^ j := Nat.pow_le_pow_right (by decide) h1
    omega
theorem t129_X4_only_b (fu : Nat) (hfu : 1000000000000 ≤ fu) (v0 bars : Int32) (hb : 0 ≤ v0.toInt ∧ v0.toInt < ((2 ^ bars.toInt.toNat : Nat) : Int)) (hn : v0.toInt ≠ 0) (b0 : 0 ≤ bars.toInt) (b1 : bars.toInt ≤ 10) : dz_T (f129_X4_only fu v0) (fun r => r.toInt + 1 ≤ bars.toInt ∧ 0 ≤ r.toInt ∧ dz_lw v0 r) := by
  refine dz_Tw (dz_lwx fu v0 (by omega)) (fun r h => ?_)
  obtain ⟨j, hj, h2, h3, h4⟩ := h
  have := dz_jlt h4 hb.2
  exact ⟨by omega, by omega, j, hj, h2, h3⟩
theorem dz_rest {x j : Nat} (h : x % 2 ^ (j + 1) = 2 ^ j) : (x &&& (x - 1)) % 2 ^ (j + 1) = 0 := by
  apply Nat.eq_of_testBit_eq
  intro i
  rw [Nat.testBit_mod_two_pow, Nat.zero_testBit, Nat.testBit_and]
  rcases Nat.lt_or_ge i (j + 1) with hi | hi
  · have hx1 : 2 ^ j ≤ x := by
      have := Nat.mod_le x (2 ^ (j + 1))
      omega
    have hp : 1 ≤ 2 ^ j := Nat.one_le_two_pow
    have e1 : x.testBit i = (x % 2 ^ (j + 1)).testBit i := by rw [Nat.testBit_mod_two_pow]; simp [hi]
    have hm : (x - 1) % 2 ^ (j + 1) = 2 ^ j - 1 := by
      have hd := Nat.div_add_mod x (2 ^ (j + 1))
      rw [h] at hd
      have : x - 1 = 2 ^ (j + 1) * (x / 2 ^ (j + 1)) + (2 ^ j - 1) := by omega
      rw [this, Nat.mul_add_mod]
      apply Nat.mod_eq_of_lt
      rw [Nat.pow_succ]; omega
    have e2 : (x - 1).testBit i = ((x - 1) % 2 ^ (j + 1)).testBit i := by rw [Nat.testBit_mod_two_pow]; simp [hi]
    rw [e1, e2, h, hm, Nat.testBit_two_pow, Nat.testBit_two_pow_sub_one]
    rcases Nat.lt_trichotomy j i with hij | hij | hij
    · omega
    · simp [hij]
    · have : ¬ j = i := by omega
      simp [this]
  · have : ¬ i < j + 1 := by omega
    simp [this]
theorem t129_X4_only_r (fu : Nat) (hfu : 1000000000000 ≤ fu) (x bars r7 : Int32) (hl : dz_lw x r7) (hb : 0 ≤ x.toInt ∧ x.toInt < ((2 ^ bars.toInt.toNat : Nat) : Int)) (hn : (x &&& (x - 1)).toInt ≠ 0) (b0 : 0 ≤ bars.toInt) (b1 : bars.toInt ≤ 10) : dz_T (f129_X4_only fu (x &&& (x - 1))) (fun r => r.toInt + 1 ≤ bars.toInt ∧ r7.toInt + 1 ≤ r.toInt) := by
  have a1 := dz_andl (a := x) (b := x - 1) hb.1
  refine dz_Tw (dz_lwx fu (x &&& (x - 1)) (by omega)) (fun r h => ?_)
  obtain ⟨j, hj, h2, h3, h4⟩ := h
  obtain ⟨i, hi, g2, g3⟩ := hl
  have hlt := dz_jlt (n := bars.toInt.toNat) h4 (by omega)
  have o := dz_l1
  have bx := (dz_bn x).1 hb.1
  have x0 : 0 < x.toInt := by
    rcases (show x.toInt = 0 ∨ 0 < x.toInt by omega) with q | q
    · exfalso; omega
    · exact q
  have s1 := dz_sub (a := x) (b := 1) (by omega) (by omega)
  have bs := (dz_bn (x - 1)).1 (by omega)
  have en : (x &&& (x - 1)).toBitVec.toNat = x.toBitVec.toNat &&& (x.toBitVec.toNat - 1) := by
    have e : (x &&& (x - 1)).toBitVec.toNat = x.toBitVec.toNat &&& (x - 1).toBitVec.toNat := BitVec.toNat_and _ _
    rw [e, show (x - 1).toBitVec.toNat = x.toBitVec.toNat - 1 by omega]
  have hr := dz_rest g3
  rw [← en] at hr
  have hji : i < j := by
    rcases Nat.lt_or_ge i j with q | q
    · exact q
    · exfalso
      have hd : 2 ^ (j + 1) ∣ 2 ^ (i + 1) := Nat.pow_dvd_pow 2 (by omega)
      have h5 : (x &&& (x - 1)).toBitVec.toNat % 2 ^ (j + 1) = 0 := Nat.mod_eq_zero_of_dvd (Nat.dvd_trans hd (Nat.dvd_of_mod_eq_zero hr))
      have hp : 1 ≤ 2 ^ j := Nat.one_le_two_pow
      omega
  exact ⟨by omega, by omega⟩
theorem dz_needTe {fr bars : Int32} {n : Nat} : (fr.toInt = 0 → (n : Int) < ((1 + bars * (bars + 1) / 2) * 144 : Int32).toInt → dz_needT fr bars n = ((1 + bars * (bars + 1) / 2) * 144 : Int32).toNatClampNeg) := by
  intro h0 h1
  have z := dz_l0
  have e : fr = 0 := Int32.toInt_inj.mp (by rw [h0]; exact z.symm)
  have t := dz_tn ((1 + bars * (bars + 1) / 2) * 144)
  unfold dz_needT
  rw [if_pos e, if_pos (by omega)]
