abbrev p306_X11_leave_s (fu : Nat) (κ : Nat) (U : Nat) (c248_groups : Int32) (c248_pots : Int32) (c248_teams : Int32) (c248_bars : Int32) (c261_many : Int32) (a263 : Nat → Int32) (c267_total : Int32) (a268 : Nat → Int32) (a269 : Nat → Int32) (n269 : Nat) (a271 : Nat → Int32) (k : Nat) : Prop :=
  (∀ (v1 : Int32) (v2 : Int32) (sl : Nat) (c305_fresh : Int32) (a306 : Nat → Int32) (n306 : Nat), v1.toInt ≤ 100 → 0 ≤ v1.toInt → v2.toInt ≤ 10 → 0 ≤ v2.toInt → c305_fresh.toInt ≤ 1 → 0 ≤ c305_fresh.toInt → ((n306 : Nat) : Int) ≤ 8064 → 144 ≤ ((n306 : Nat) : Int) → ((sl : Nat) : Int) ≤ ((U : Nat) : Int) → v2.toInt ≤ c248_bars.toInt → (c305_fresh.toInt = 0 ∧ sl = 0) ∨ (c305_fresh.toInt ≠ 0 ∧ sl ≤ U) → c305_fresh.toInt ≠ 0 ∨ dz_needT c305_fresh c248_bars n306 ≤ U → c305_fresh.toInt = 0 ∨ dz_kn c248_bars ≤ ((n306 : Nat) : Int) → 0 + 1687 + (10 - v2.toInt) * 14 + 7 ≤ ((k : Nat) : Int) → dz_T ((F306_X11_leave fu U c248_groups c248_pots c248_teams c248_bars c261_many a263 c267_total a268 a269 n269 a271 k).1 v1 v2 sl c305_fresh a306 n306) (fun r => r.1.toInt ≤ 1023 ∧ (-1) ≤ r.1.toInt ∧ r.2.1.toInt ≤ 1 ∧ 0 ≤ r.2.1.toInt ∧ ((r.2.2.2 : Nat) : Int) ≤ 8064 ∧ 144 ≤ ((r.2.2.2 : Nat) : Int) ∧ (r.2.1.toInt = 0 ∨ dz_kn c248_bars ≤ ((r.2.2.2 : Nat) : Int)))) ∧ (∀ (v1 : Int32) (v2 : Int32) (sl : Nat) (c305_fresh : Int32) (a306 : Nat → Int32) (n306 : Nat), v1.toInt ≤ 100 → 0 ≤ v1.toInt → v2.toInt ≤ 10 → 1 ≤ v2.toInt → c305_fresh.toInt ≤ 1 → 0 ≤ c305_fresh.toInt → ((n306 : Nat) : Int) ≤ 8064 → 144 ≤ ((n306 : Nat) : Int) → ((sl : Nat) : Int) ≤ ((U : Nat) : Int) → v2.toInt ≤ c248_bars.toInt + 1 → (c305_fresh.toInt = 0 ∧ sl = 0) ∨ (c305_fresh.toInt ≠ 0 ∧ sl ≤ U) → c305_fresh.toInt ≠ 0 ∨ dz_needT c305_fresh c248_bars n306 ≤ U → c305_fresh.toInt = 0 ∨ dz_kn c248_bars ≤ ((n306 : Nat) : Int) → 0 + 0 + (10 - v2.toInt) * 168 + 7 ≤ ((k : Nat) : Int) → dz_T ((F306_X11_leave fu U c248_groups c248_pots c248_teams c248_bars c261_many a263 c267_total a268 a269 n269 a271 k).2.1 v1 v2 sl c305_fresh a306 n306) (fun r => r.1.toInt ≤ 1023 ∧ (-1) ≤ r.1.toInt ∧ r.2.1.toInt ≤ 1 ∧ 0 ≤ r.2.1.toInt ∧ ((r.2.2.2 : Nat) : Int) ≤ 8064 ∧ 144 ≤ ((r.2.2.2 : Nat) : Int) ∧ (r.2.1.toInt = 0 ∨ dz_kn c248_bars ≤ ((r.2.2.2 : Nat) : Int)))) ∧ (∀ (v1 : Int32) (v2 : Int32) (v3 : Int32) (sl : Nat) (c305_fresh : Int32) (a306 : Nat → Int32) (n306 : Nat), 2 ≤ c248_bars.toInt → v1.toInt ≤ 100 → 0 ≤ v1.toInt → v2.toInt ≤ 9 → 1 ≤ v2.toInt → v3.toInt ≤ 9 → 0 ≤ v3.toInt → c305_fresh.toInt ≤ 1 → 0 ≤ c305_fresh.toInt → ((n306 : Nat) : Int) ≤ 8064 → 144 ≤ ((n306 : Nat) : Int) → v2.toInt + 1 ≤ c248_bars.toInt → v3.toInt + 1 ≤ c248_bars.toInt → ((sl : Nat) : Int) ≤ ((U : Nat) : Int) → v3.toInt ≤ v2.toInt → (c305_fresh.toInt = 0 ∧ sl = 0) ∨ (c305_fresh.toInt ≠ 0 ∧ sl ≤ U) → c305_fresh.toInt ≠ 0 ∨ dz_needT c305_fresh c248_bars n306 ≤ U → c305_fresh.toInt = 0 ∨ dz_kn c248_bars ≤ ((n306 : Nat) : Int) → 0 + 0 + ((10 - v2.toInt) - 1) * 168 + 0 + (9 - v3.toInt) * 14 + 14 ≤ ((k : Nat) : Int) → dz_T ((F306_X11_leave fu U c248_groups c248_pots c248_teams c248_bars c261_many a263 c267_total a268 a269 n269 a271 k).2.2 v1 v2 v3 sl c305_fresh a306 n306) (fun r => r.1.toInt ≤ 1023 ∧ (-1) ≤ r.1.toInt ∧ r.2.1.toInt ≤ 1 ∧ 0 ≤ r.2.1.toInt ∧ ((r.2.2.2 : Nat) : Int) ≤ 8064 ∧ 144 ≤ ((r.2.2.2 : Nat) : Int) ∧ (r.2.1.toInt = 0 ∨ dz_kn c248_bars ≤ ((r.2.2.2 : Nat) : Int))))
set_option maxHeartbeats 4000000 in
set_option maxRecDepth 10000 in
theorem t306_X11_leave_h1_s (fu : Nat) (hfu : 1000000000000 ≤ fu) (κ : Nat) (hκ : κ < 14) (U : Nat) (c248_groups : Int32) (c248_pots : Int32) (c248_teams : Int32) (c248_bars : Int32) (c261_many : Int32) (a263 : Nat → Int32) (c267_total : Int32) (a268 : Nat → Int32) (a269 : Nat → Int32) (n269 : Nat) (a271 : Nat → Int32) (p0 : c248_groups.toInt ≤ 4) (p1 : 2 ≤ c248_groups.toInt) (p2 : c248_pots.toInt ≤ 4) (p3 : 0 ≤ c248_pots.toInt) (p4 : c248_teams.toInt ≤ 12) (p5 : 0 ≤ c248_teams.toInt) (p6 : c248_bars.toInt ≤ 10) (p7 : 0 ≤ c248_bars.toInt) (p8 : c261_many.toInt ≤ 24) (p9 : 0 ≤ c261_many.toInt) (p10 : c267_total.toInt ≤ 13824) (p11 : 1 ≤ c267_total.toInt) (p12 : ((n269 : Nat) : Int) ≤ 13824) (p13 : 1 ≤ ((n269 : Nat) : Int)) (p14 : c267_total.toInt ≤ ((n269 : Nat) : Int)) (hr_a263 : dz_rq a263 (dz_kr κ) (dz_kg κ) 0 (((dz_kg κ : Nat) : Int) - 1)) (hr_a268 : dz_pt a268 (dz_kS κ)) (hr_a269 : dz_rg a269 n269 0 1023) (o1 : c248_groups.toInt = ((dz_kg κ : Nat) : Int)) (o2 : c248_pots.toInt = ((dz_kp κ : Nat) : Int)) (o3 : c248_teams.toInt = ((dz_km κ : Nat) : Int)) (o4 : c261_many.toInt = ((dz_kr κ : Nat) : Int)) (o5 : c267_total.toInt = ((dz_kt κ : Nat) : Int)) (o6 : dz_rb a269 (dz_kt κ) c248_bars) (k : Nat) (ih : ∀ j9, j9 < k → p306_X11_leave_s fu κ U c248_groups c248_pots c248_teams c248_bars c261_many a263 c267_total a268 a269 n269 a271 j9) : ∀ (v1 : Int32) (v2 : Int32) (sl : Nat) (c305_fresh : Int32) (a306 : Nat → Int32) (n306 : Nat), v1.toInt ≤ 100 → 0 ≤ v1.toInt → v2.toInt ≤ 10 → 0 ≤ v2.toInt → c305_fresh.toInt ≤ 1 → 0 ≤ c305_fresh.toInt → ((n306 : Nat) : Int) ≤ 8064 → 144 ≤ ((n306 : Nat) : Int) → ((sl : Nat) : Int) ≤ ((U : Nat) : Int) → v2.toInt ≤ c248_bars.toInt → (c305_fresh.toInt = 0 ∧ sl = 0) ∨ (c305_fresh.toInt ≠ 0 ∧ sl ≤ U) → c305_fresh.toInt ≠ 0 ∨ dz_needT c305_fresh c248_bars n306 ≤ U → c305_fresh.toInt = 0 ∨ dz_kn c248_bars ≤ ((n306 : Nat) : Int) → 0 + 1687 + (10 - v2.toInt) * 14 + 7 ≤ ((k : Nat) : Int) → dz_T ((F306_X11_leave fu U c248_groups c248_pots c248_teams c248_bars c261_many a263 c267_total a268 a269 n269 a271 k).1 v1 v2 sl c305_fresh a306 n306) (fun r => r.1.toInt ≤ 1023 ∧ (-1) ≤ r.1.toInt ∧ r.2.1.toInt ≤ 1 ∧ 0 ≤ r.2.1.toInt ∧ ((r.2.2.2 : Nat) : Int) ≤ 8064 ∧ 144 ≤ ((r.2.2.2 : Nat) : Int) ∧ (r.2.1.toInt = 0 ∨ dz_kn c248_bars ≤ ((r.2.2.2 : Nat) : Int))) := by
  intro v1 v2 sl c305_fresh a306 n306 i0 i1 i2 i3 i4 i5 i6 i7 i8 i9 x0 x1 x2 hm
  obtain ⟨k0, rfl⟩ : ∃ x, k = x + 1 := ⟨k - 1, by omega⟩
  show dz_T (s306_X11_leave_1 fu U c248_groups c248_pots c248_teams c248_bars c261_many a263 c267_total a268 a269 n269 a271 (F306_X11_leave fu U c248_groups c248_pots c248_teams c248_bars c261_many a263 c267_total a268 a269 n269 a271 k0).1 (F306_X11_leave fu U c248_groups c248_pots c248_teams c248_bars c261_many a263 c267_total a268 a269 n269 a271 k0).2.1  v1 v2 sl c305_fresh a306 n306) _
  unfold s306_X11_leave_1
  have b0 := dz_needEle (fr := c305_fresh) (bars := c248_bars) (n := n306) (a := a271) (b1 := v2) (b2 := (-1 : Int32)) (teams := c248_teams) (groups := c248_groups)
  have b1 := dz_ntz (fr := c305_fresh) (bars := c248_bars) (n := n306)
  refine dz_Tg (by omega) ?_
  refine dz_Tle (fun h1 => ?_) (fun h1 => ?_)
  · skip
    have e2 := dz_l1
    exact (ih k0 (by omega)).2.1 v1 (1 : Int32) sl c305_fresh a306 n306 i0 i1 (by omega) (by omega) i4 i5 i6 i7 i8 (by omega) (by omega) (by first | assumption | exact dz_ntk qo1_2 x1 | exact dz_ntk qo1_2 (Or.inr o0)) (by first | assumption | omega) (by omega)
  · skip
    refine dz_Tg (by omega) ?_
    have e3 := dz_lm1
    refine dz_Tb (te280_X0_isEvenEnough_s fu hfu κ hκ _ _ _ _ _ _ _ _ _ _ _ _ _ _ _ _ _ _ p0 p1 p2 p3 p4 p5 p6 p7 p8 p9 p10 p11 p12 p13 i4 i5 i6 i7 p14 (by first | assumption | omega) (by first | assumption | omega) (by omega) (by omega) (hr_a263) (hr_a268) (hr_a269) (rfl) (by first | assumption | omega) o1 o2 o3 o4 o5 o6 (by first | assumption | omega)) (fun r1 q => ?_)
    obtain ⟨q1_0, q1_1, q1_2, q1_3, q1_4, q1_5, qo1_0, qo1_1, qo1_2⟩ := q
    have e4 := dz_l0
    refine dz_Teq (fun h5 => ?_) (fun h5 => ?_)
    · skip
      have e6 := dz_l1
      have e7 := dz_add (a := v2) (b := (1 : Int32)) (by omega) (by omega)
      exact (ih k0 (by omega)).1 v1 (v2 + (1 : Int32)) (sl + (dz_needE c305_fresh c248_bars n306 a271 v2 (-1) c248_teams c248_groups)) r1.2.1 r1.2.2.1 r1.2.2.2 i0 i1 (by omega) (by omega) q1_2 q1_3 q1_4 q1_5 (by omega) (by omega) (by omega) (by first | assumption | exact dz_ntk qo1_2 x1 | exact dz_ntk qo1_2 (Or.inr o0)) (by first | assumption | omega) (by omega)
    · skip
      have e8 := dz_l1
      have e9 := dz_l31
      have e10 := dz_andr (a := v2) (b := (31 : Int32)) (by omega)
      have e11 := dz_andl (a := v2) (b := (31 : Int32)) (by omega)
      have e12 := dz_shl1 (b := v2) 0 9 (by omega) (by omega) (by omega)
      refine dz_Ts ?_
      dsimp only
      exact ⟨(by omega), (by omega), q1_2, q1_3, q1_4, q1_5, (by omega)⟩
set_option maxHeartbeats 4000000 in
set_option maxRecDepth 10000 in
theorem t306_X11_leave_h2_s (fu : Nat) (hfu : 1000000000000 ≤ fu) (κ : Nat) (hκ : κ < 14) (U : Nat) (c248_groups : Int32) (c248_pots : Int32) (c248_teams : Int32) (c248_bars : Int32) (c261_many : Int32) (a263 : Nat → Int32) (c267_total : Int32) (a268 : Nat → Int32) (a269 : Nat → Int32) (n269 : Nat) (a271 : Nat → Int32) (p0 : c248_groups.toInt ≤ 4) (p1 : 2 ≤ c248_groups.toInt) (p2 : c248_pots.toInt ≤ 4) (p3 : 0 ≤ c248_pots.toInt) (p4 : c248_teams.toInt ≤ 12) (p5 : 0 ≤ c248_teams.toInt) (p6 : c248_bars.toInt ≤ 10) (p7 : 0 ≤ c248_bars.toInt) (p8 : c261_many.toInt ≤ 24) (p9 : 0 ≤ c261_many.toInt) (p10 : c267_total.toInt ≤ 13824) (p11 : 1 ≤ c267_total.toInt) (p12 : ((n269 : Nat) : Int) ≤ 13824) (p13 : 1 ≤ ((n269 : Nat) : Int)) (p14 : c267_total.toInt ≤ ((n269 : Nat) : Int)) (hr_a263 : dz_rq a263 (dz_kr κ) (dz_kg κ) 0 (((dz_kg κ : Nat) : Int) - 1)) (hr_a268 : dz_pt a268 (dz_kS κ)) (hr_a269 : dz_rg a269 n269 0 1023) (o1 : c248_groups.toInt = ((dz_kg κ : Nat) : Int)) (o2 : c248_pots.toInt = ((dz_kp κ : Nat) : Int)) (o3 : c248_teams.toInt = ((dz_km κ : Nat) : Int)) (o4 : c261_many.toInt = ((dz_kr κ : Nat) : Int)) (o5 : c267_total.toInt = ((dz_kt κ : Nat) : Int)) (o6 : dz_rb a269 (dz_kt κ) c248_bars) (k : Nat) (ih : ∀ j9, j9 < k → p306_X11_leave_s fu κ U c248_groups c248_pots c248_teams c248_bars c261_many a263 c267_total a268 a269 n269 a271 j9) : ∀ (v1 : Int32) (v2 : Int32) (sl : Nat) (c305_fresh : Int32) (a306 : Nat → Int32) (n306 : Nat), v1.toInt ≤ 100 → 0 ≤ v1.toInt → v2.toInt ≤ 10 → 1 ≤ v2.toInt → c305_fresh.toInt ≤ 1 → 0 ≤ c305_fresh.toInt → ((n306 : Nat) : Int) ≤ 8064 → 144 ≤ ((n306 : Nat) : Int) → ((sl : Nat) : Int) ≤ ((U : Nat) : Int) → v2.toInt ≤ c248_bars.toInt + 1 → (c305_fresh.toInt = 0 ∧ sl = 0) ∨ (c305_fresh.toInt ≠ 0 ∧ sl ≤ U) → c305_fresh.toInt ≠ 0 ∨ dz_needT c305_fresh c248_bars n306 ≤ U → c305_fresh.toInt = 0 ∨ dz_kn c248_bars ≤ ((n306 : Nat) : Int) → 0 + 0 + (10 - v2.toInt) * 168 + 7 ≤ ((k : Nat) : Int) → dz_T ((F306_X11_leave fu U c248_groups c248_pots c248_teams c248_bars c261_many a263 c267_total a268 a269 n269 a271 k).2.1 v1 v2 sl c305_fresh a306 n306) (fun r => r.1.toInt ≤ 1023 ∧ (-1) ≤ r.1.toInt ∧ r.2.1.toInt ≤ 1 ∧ 0 ≤ r.2.1.toInt ∧ ((r.2.2.2 : Nat) : Int) ≤ 8064 ∧ 144 ≤ ((r.2.2.2 : Nat) : Int) ∧ (r.2.1.toInt = 0 ∨ dz_kn c248_bars ≤ ((r.2.2.2 : Nat) : Int))) := by
  intro v1 v2 sl c305_fresh a306 n306 i0 i1 i2 i3 i4 i5 i6 i7 i8 i9 x0 x1 x2 hm
  obtain ⟨k0, rfl⟩ : ∃ x, k = x + 1 := ⟨k - 1, by omega⟩
  show dz_T (s306_X11_leave_2 fu U c248_groups c248_pots c248_teams c248_bars c261_many a263 c267_total a268 a269 n269 a271 (F306_X11_leave fu U c248_groups c248_pots c248_teams c248_bars c261_many a263 c267_total a268 a269 n269 a271 k0).2.2  v1 v2 sl c305_fresh a306 n306) _
  unfold s306_X11_leave_2
  have b0 := dz_needEle (fr := c305_fresh) (bars := c248_bars) (n := n306) (a := a271) (b1 := v2) (b2 := (-1 : Int32)) (teams := c248_teams) (groups := c248_groups)
  have b1 := dz_ntz (fr := c305_fresh) (bars := c248_bars) (n := n306)
  refine dz_Tg (by omega) ?_
  refine dz_Tle (fun h1 => ?_) (fun h1 => ?_)
  · skip
    have e2 := dz_lm1
    refine dz_Ts ?_
    dsimp only
    exact ⟨(by omega), (by omega), i4, i5, i6, i7, (by omega)⟩
  · skip
    have e3 := dz_l0
    exact (ih k0 (by omega)).2.2 v1 v2 (0 : Int32) sl c305_fresh a306 n306 (by first | assumption | omega) i0 i1 (by first | assumption | omega) i3 (by omega) (by omega) i4 i5 i6 i7 (by first | assumption | omega) (by omega) i8 (by omega) (by omega) (by first | assumption | exact dz_ntk qo1_2 x1 | exact dz_ntk qo1_2 (Or.inr o0)) (by first | assumption | omega) (by omega)
set_option maxHeartbeats 4000000 in
set_option maxRecDepth 10000 in
theorem t306_X11_leave_h3_s (fu : Nat) (hfu : 1000000000000 ≤ fu) (κ : Nat) (hκ : κ < 14) (U : Nat) (c248_groups : Int32) (c248_pots : Int32) (c248_teams : Int32) (c248_bars : Int32) (c261_many : Int32) (a263 : Nat → Int32) (c267_total : Int32) (a268 : Nat → Int32) (a269 : Nat → Int32) (n269 : Nat) (a271 : Nat → Int32) (p0 : c248_groups.toInt ≤ 4) (p1 : 2 ≤ c248_groups.toInt) (p2 : c248_pots.toInt ≤ 4) (p3 : 0 ≤ c248_pots.toInt) (p4 : c248_teams.toInt ≤ 12) (p5 : 0 ≤ c248_teams.toInt) (p6 : c248_bars.toInt ≤ 10) (p7 : 0 ≤ c248_bars.toInt) (p8 : c261_many.toInt ≤ 24) (p9 : 0 ≤ c261_many.toInt) (p10 : c267_total.toInt ≤ 13824) (p11 : 1 ≤ c267_total.toInt) (p12 : ((n269 : Nat) : Int) ≤ 13824) (p13 : 1 ≤ ((n269 : Nat) : Int)) (p14 : c267_total.toInt ≤ ((n269 : Nat) : Int)) (hr_a263 : dz_rq a263 (dz_kr κ) (dz_kg κ) 0 (((dz_kg κ : Nat) : Int) - 1)) (hr_a268 : dz_pt a268 (dz_kS κ)) (hr_a269 : dz_rg a269 n269 0 1023) (o1 : c248_groups.toInt = ((dz_kg κ : Nat) : Int)) (o2 : c248_pots.toInt = ((dz_kp κ : Nat) : Int)) (o3 : c248_teams.toInt = ((dz_km κ : Nat) : Int)) (o4 : c261_many.toInt = ((dz_kr κ : Nat) : Int)) (o5 : c267_total.toInt = ((dz_kt κ : Nat) : Int)) (o6 : dz_rb a269 (dz_kt κ) c248_bars) (k : Nat) (ih : ∀ j9, j9 < k → p306_X11_leave_s fu κ U c248_groups c248_pots c248_teams c248_bars c261_many a263 c267_total a268 a269 n269 a271 j9) : ∀ (v1 : Int32) (v2 : Int32) (v3 : Int32) (sl : Nat) (c305_fresh : Int32) (a306 : Nat → Int32) (n306 : Nat), 2 ≤ c248_bars.toInt → v1.toInt ≤ 100 → 0 ≤ v1.toInt → v2.toInt ≤ 9 → 1 ≤ v2.toInt → v3.toInt ≤ 9 → 0 ≤ v3.toInt → c305_fresh.toInt ≤ 1 → 0 ≤ c305_fresh.toInt → ((n306 : Nat) : Int) ≤ 8064 → 144 ≤ ((n306 : Nat) : Int) → v2.toInt + 1 ≤ c248_bars.toInt → v3.toInt + 1 ≤ c248_bars.toInt → ((sl : Nat) : Int) ≤ ((U : Nat) : Int) → v3.toInt ≤ v2.toInt → (c305_fresh.toInt = 0 ∧ sl = 0) ∨ (c305_fresh.toInt ≠ 0 ∧ sl ≤ U) → c305_fresh.toInt ≠ 0 ∨ dz_needT c305_fresh c248_bars n306 ≤ U → c305_fresh.toInt = 0 ∨ dz_kn c248_bars ≤ ((n306 : Nat) : Int) → 0 + 0 + ((10 - v2.toInt) - 1) * 168 + 0 + (9 - v3.toInt) * 14 + 14 ≤ ((k : Nat) : Int) → dz_T ((F306_X11_leave fu U c248_groups c248_pots c248_teams c248_bars c261_many a263 c267_total a268 a269 n269 a271 k).2.2 v1 v2 v3 sl c305_fresh a306 n306) (fun r => r.1.toInt ≤ 1023 ∧ (-1) ≤ r.1.toInt ∧ r.2.1.toInt ≤ 1 ∧ 0 ≤ r.2.1.toInt ∧ ((r.2.2.2 : Nat) : Int) ≤ 8064 ∧ 144 ≤ ((r.2.2.2 : Nat) : Int) ∧ (r.2.1.toInt = 0 ∨ dz_kn c248_bars ≤ ((r.2.2.2 : Nat) : Int))) := by
  intro v1 v2 v3 sl c305_fresh a306 n306 i0 i1 i2 i3 i4 i5 i6 i7 i8 i9 i10 i11 i12 i13 i14 x0 x1 x2 hm
  obtain ⟨k0, rfl⟩ : ∃ x, k = x + 1 := ⟨k - 1, by omega⟩
  show dz_T (s306_X11_leave_3 fu U c248_groups c248_pots c248_teams c248_bars c261_many a263 c267_total a268 a269 n269 a271 (F306_X11_leave fu U c248_groups c248_pots c248_teams c248_bars c261_many a263 c267_total a268 a269 n269 a271 k0).2.1 (F306_X11_leave fu U c248_groups c248_pots c248_teams c248_bars c261_many a263 c267_total a268 a269 n269 a271 k0).2.2  v1 v2 v3 sl c305_fresh a306 n306) _
  unfold s306_X11_leave_3
  have b0 := dz_needEle (fr := c305_fresh) (bars := c248_bars) (n := n306) (a := a271) (b1 := v3) (b2 := v2) (teams := c248_teams) (groups := c248_groups)
  have b1 := dz_ntz (fr := c305_fresh) (bars := c248_bars) (n := n306)
  refine dz_Tg (by omega) ?_
  refine dz_Tle (fun h1 => ?_) (fun h1 => ?_)
  · skip
    have e2 := dz_l1
    have e3 := dz_add (a := v2) (b := (1 : Int32)) (by omega) (by omega)
    exact (ih k0 (by omega)).2.1 v1 (v2 + (1 : Int32)) sl c305_fresh a306 n306 i1 i2 (by omega) (by omega) i7 i8 i9 i10 i13 (by omega) (by omega) (by first | assumption | exact dz_ntk qo1_2 x1 | exact dz_ntk qo1_2 (Or.inr o0)) (by first | assumption | omega) (by omega)
  · skip
    refine dz_Tg (by omega) ?_
    refine dz_Tb (te280_X0_isEvenEnough_s fu hfu κ hκ _ _ _ _ _ _ _ _ _ _ _ _ _ _ _ _ _ _ p0 p1 p2 p3 p4 p5 p6 (by first | assumption | omega) p8 p9 p10 p11 p12 p13 i7 i8 i9 i10 p14 (by first | assumption | omega) i12 (by first | assumption | omega) i11 (hr_a263) (hr_a268) (hr_a269) (rfl) (by first | assumption | omega) o1 o2 o3 o4 o5 o6 (by first | assumption | omega)) (fun r1 q => ?_)
    obtain ⟨q1_0, q1_1, q1_2, q1_3, q1_4, q1_5, qo1_0, qo1_1, qo1_2⟩ := q
    have e4 := dz_l0
    refine dz_Teq (fun h5 => ?_) (fun h5 => ?_)
    · skip
      have e6 := dz_l1
      have e7 := dz_add (a := v3) (b := (1 : Int32)) (by omega) (by omega)
      exact (ih k0 (by omega)).2.2 v1 v2 (v3 + (1 : Int32)) (sl + (dz_needE c305_fresh c248_bars n306 a271 v3 v2 c248_teams c248_groups)) r1.2.1 r1.2.2.1 r1.2.2.2 i0 i1 i2 i3 i4 (by omega) (by omega) q1_2 q1_3 q1_4 q1_5 i11 (by omega) (by omega) (by omega) (by omega) (by first | assumption | exact dz_ntk qo1_2 x1 | exact dz_ntk qo1_2 (Or.inr o0)) (by first | assumption | omega) (by omega)
    · skip
      have e8 := dz_l1
      have e9 := dz_l31
      have e10 := dz_andr (a := v2) (b := (31 : Int32)) (by omega)
      have e11 := dz_andl (a := v2) (b := (31 : Int32)) (by omega)
      have e12 := dz_shl1 (b := v2) 1 9 (by omega) (by omega) (by omega)
      have e13 := dz_andr (a := v3) (b := (31 : Int32)) (by omega)
      have e14 := dz_andl (a := v3) (b := (31 : Int32)) (by omega)
      have e15 := dz_shl1 (b := v3) 0 8 (by omega) (by omega) (by omega)
      have e16 := dz_orb (a := ((1 : Int32) <<< (v2 &&& (31 : Int32)))) (b := ((1 : Int32) <<< (v3 &&& (31 : Int32)))) 10 (by omega) (by omega) (by omega) (by omega) (by omega)
      refine dz_Ts ?_
      dsimp only
      exact ⟨(by omega), (by omega), q1_2, q1_3, q1_4, q1_5, (by omega)⟩
theorem t306_X11_leave_I_s (fu : Nat) (hfu : 1000000000000 ≤ fu) (κ : Nat) (hκ : κ < 14) (U : Nat) (c248_groups : Int32) (c248_pots : Int32) (c248_teams : Int32) (c248_bars : Int32) (c261_many : Int32) (a263 : Nat → Int32) (c267_total : Int32) (a268 : Nat → Int32) (a269 : Nat → Int32) (n269 : Nat) (a271 : Nat → Int32) (p0 : c248_groups.toInt ≤ 4) (p1 : 2 ≤ c248_groups.toInt) (p2 : c248_pots.toInt ≤ 4) (p3 : 0 ≤ c248_pots.toInt) (p4 : c248_teams.toInt ≤ 12) (p5 : 0 ≤ c248_teams.toInt) (p6 : c248_bars.toInt ≤ 10) (p7 : 0 ≤ c248_bars.toInt) (p8 : c261_many.toInt ≤ 24) (p9 : 0 ≤ c261_many.toInt) (p10 : c267_total.toInt ≤ 13824) (p11 : 1 ≤ c267_total.toInt) (p12 : ((n269 : Nat) : Int) ≤ 13824) (p13 : 1 ≤ ((n269 : Nat) : Int)) (p14 : c267_total.toInt ≤ ((n269 : Nat) : Int)) (hr_a263 : dz_rq a263 (dz_kr κ) (dz_kg κ) 0 (((dz_kg κ : Nat) : Int) - 1)) (hr_a268 : dz_pt a268 (dz_kS κ)) (hr_a269 : dz_rg a269 n269 0 1023) (o1 : c248_groups.toInt = ((dz_kg κ : Nat) : Int)) (o2 : c248_pots.toInt = ((dz_kp κ : Nat) : Int)) (o3 : c248_teams.toInt = ((dz_km κ : Nat) : Int)) (o4 : c261_many.toInt = ((dz_kr κ : Nat) : Int)) (o5 : c267_total.toInt = ((dz_kt κ : Nat) : Int)) (o6 : dz_rb a269 (dz_kt κ) c248_bars) (k : Nat) : p306_X11_leave_s fu κ U c248_groups c248_pots c248_teams c248_bars c261_many a263 c267_total a268 a269 n269 a271 k := by
  induction k using Nat.strongRecOn with
  | _ k ih => exact ⟨t306_X11_leave_h1_s fu hfu κ hκ U c248_groups c248_pots c248_teams c248_bars c261_many a263 c267_total a268 a269 n269 a271 p0 p1 p2 p3 p4 p5 p6 p7 p8 p9 p10 p11 p12 p13 p14 hr_a263 hr_a268 hr_a269 o1 o2 o3 o4 o5 o6 k ih, t306_X11_leave_h2_s fu hfu κ hκ U c248_groups c248_pots c248_teams c248_bars c261_many a263 c267_total a268 a269 n269 a271 p0 p1 p2 p3 p4 p5 p6 p7 p8 p9 p10 p11 p12 p13 p14 hr_a263 hr_a268 hr_a269 o1 o2 o3 o4 o5 o6 k ih, t306_X11_leave_h3_s fu hfu κ hκ U c248_groups c248_pots c248_teams c248_bars c261_many a263 c267_total a268 a269 n269 a271 p0 p1 p2 p3 p4 p5 p6 p7 p8 p9 p10 p11 p12 p13 p14 hr_a263 hr_a268 hr_a269 o1 o2 o3 o4 o5 o6 k ih⟩
set_option maxHeartbeats 4000000 in
set_option maxRecDepth 10000 in
theorem t306_X11_leave_E_s (fu : Nat) (hfu : 1000000000000 ≤ fu) (κ : Nat) (hκ : κ < 14) (U : Nat) (c248_groups : Int32) (c248_pots : Int32) (c248_teams : Int32) (c248_bars : Int32) (c261_many : Int32) (a263 : Nat → Int32) (c267_total : Int32) (a268 : Nat → Int32) (a269 : Nat → Int32) (n269 : Nat) (a271 : Nat → Int32) (v1 : Int32) (c305_fresh : Int32) (a306 : Nat → Int32) (n306 : Nat) (p0 : c248_groups.toInt ≤ 4) (p1 : 2 ≤ c248_groups.toInt) (p2 : c248_pots.toInt ≤ 4) (p3 : 0 ≤ c248_pots.toInt) (p4 : c248_teams.toInt ≤ 12) (p5 : 0 ≤ c248_teams.toInt) (p6 : c248_bars.toInt ≤ 10) (p7 : 0 ≤ c248_bars.toInt) (p8 : c261_many.toInt ≤ 24) (p9 : 0 ≤ c261_many.toInt) (p10 : c267_total.toInt ≤ 13824) (p11 : 1 ≤ c267_total.toInt) (p12 : ((n269 : Nat) : Int) ≤ 13824) (p13 : 1 ≤ ((n269 : Nat) : Int)) (p14 : c305_fresh.toInt ≤ 1) (p15 : 0 ≤ c305_fresh.toInt) (p16 : ((n306 : Nat) : Int) ≤ 8064) (p17 : 144 ≤ ((n306 : Nat) : Int)) (p18 : c267_total.toInt ≤ ((n269 : Nat) : Int)) (hr_a263 : dz_rq a263 (dz_kr κ) (dz_kg κ) 0 (((dz_kg κ : Nat) : Int) - 1)) (hr_a268 : dz_pt a268 (dz_kS κ)) (hr_a269 : dz_rg a269 n269 0 1023) (o0 : dz_needT c305_fresh c248_bars n306 ≤ U) (o1 : c248_groups.toInt = ((dz_kg κ : Nat) : Int)) (o2 : c248_pots.toInt = ((dz_kp κ : Nat) : Int)) (o3 : c248_teams.toInt = ((dz_km κ : Nat) : Int)) (o4 : c261_many.toInt = ((dz_kr κ : Nat) : Int)) (o5 : c267_total.toInt = ((dz_kt κ : Nat) : Int)) (o6 : dz_rb a269 (dz_kt κ) c248_bars) (o7 : c305_fresh.toInt = 0 ∨ dz_kn c248_bars ≤ ((n306 : Nat) : Int)) (kv : Nat) (hkv : 1000000000000 ≤ kv) : dz_T (s306_X11_leave_0 fu U c248_groups c248_pots c248_teams c248_bars c261_many a263 c267_total a268 a269 n269 a271 (F306_X11_leave fu U c248_groups c248_pots c248_teams c248_bars c261_many a263 c267_total a268 a269 n269 a271 kv).1  v1 c305_fresh a306 n306) (fun r => r.1.toInt ≤ 1023 ∧ (-1) ≤ r.1.toInt ∧ r.2.1.toInt ≤ 1 ∧ 0 ≤ r.2.1.toInt ∧ ((r.2.2.2 : Nat) : Int) ≤ 8064 ∧ 144 ≤ ((r.2.2.2 : Nat) : Int) ∧ (r.2.1.toInt = 0 ∨ dz_kn c248_bars ≤ ((r.2.2.2 : Nat) : Int))) := by
  unfold s306_X11_leave_0
  have b0 := dz_needEle (fr := c305_fresh) (bars := c248_bars) (n := n306) (a := a271) (b1 := (-1 : Int32)) (b2 := (-1 : Int32)) (teams := c248_teams) (groups := c248_groups)
  have b1 := dz_ntz (fr := c305_fresh) (bars := c248_bars) (n := n306)
  have e1 := dz_l0
  refine dz_Tlt (fun h2 => ?_) (fun h2 => ?_)
  · skip
    have e3 := dz_lm1
    refine dz_Ts ?_
    dsimp only
    exact ⟨(by omega), (by omega), p14, p15, p16, p17, (by omega)⟩
  · skip
    have e4 := dz_l100
    refine dz_Tle (fun h5 => ?_) (fun h5 => ?_)
    · skip
      refine dz_Tg (by omega) ?_
      have e6 := dz_lm1
      refine dz_Tb (te280_X0_isEvenEnough_s fu hfu κ hκ _ _ _ _ _ _ _ _ _ _ _ _ _ _ _ _ _ _ p0 p1 p2 p3 p4 p5 p6 p7 p8 p9 p10 p11 p12 p13 p14 p15 p16 p17 p18 (by omega) (by omega) (by omega) (by omega) (hr_a263) (hr_a268) (hr_a269) (rfl) (by first | assumption | omega) o1 o2 o3 o4 o5 o6 o7) (fun r1 q => ?_)
      obtain ⟨q1_0, q1_1, q1_2, q1_3, q1_4, q1_5, qo1_0, qo1_1, qo1_2⟩ := q
      refine dz_Teq (fun h7 => ?_) (fun h7 => ?_)
      · skip
        exact (t306_X11_leave_I_s fu hfu κ hκ U c248_groups c248_pots c248_teams c248_bars c261_many a263 c267_total a268 a269 n269 a271 p0 p1 p2 p3 p4 p5 p6 p7 p8 p9 p10 p11 p12 p13 p18 hr_a263 hr_a268 hr_a269 o1 o2 o3 o4 o5 o6 kv).1 v1 (0 : Int32) (0 + (dz_needE c305_fresh c248_bars n306 a271 (-1) (-1) c248_teams c248_groups)) r1.2.1 r1.2.2.1 r1.2.2.2 (by first | assumption | omega) (by first | assumption | omega) (by omega) (by omega) q1_2 q1_3 q1_4 q1_5 (by omega) (by omega) (by omega) (by first | assumption | exact dz_ntk qo1_2 x1 | exact dz_ntk qo1_2 (Or.inr o0)) (by first | assumption | omega) (by omega)
      · skip
        refine dz_Ts ?_
        dsimp only
        exact ⟨(by omega), (by omega), q1_2, q1_3, q1_4, q1_5, (by omega)⟩
    · skip
      have e8 := dz_lm1
      refine dz_Ts ?_
      dsimp only
      exact ⟨(by omega), (by omega), p14, p15, p16, p17, (by omega)⟩
theorem t306_X11_leave_s (fu : Nat) (hfu : 1000000000000 ≤ fu) (κ : Nat) (hκ : κ < 14) (U : Nat) (c248_groups : Int32) (c248_pots : Int32) (c248_teams : Int32) (c248_bars : Int32) (c261_many : Int32) (a263 : Nat → Int32) (c267_total : Int32) (a268 : Nat → Int32) (a269 : Nat → Int32) (n269 : Nat) (a271 : Nat → Int32) (v1 : Int32) (c305_fresh : Int32) (a306 : Nat → Int32) (n306 : Nat) (p0 : c248_groups.toInt ≤ 4) (p1 : 2 ≤ c248_groups.toInt) (p2 : c248_pots.toInt ≤ 4) (p3 : 0 ≤ c248_pots.toInt) (p4 : c248_teams.toInt ≤ 12) (p5 : 0 ≤ c248_teams.toInt) (p6 : c248_bars.toInt ≤ 10) (p7 : 0 ≤ c248_bars.toInt) (p8 : c261_many.toInt ≤ 24) (p9 : 0 ≤ c261_many.toInt) (p10 : c267_total.toInt ≤ 13824) (p11 : 1 ≤ c267_total.toInt) (p12 : ((n269 : Nat) : Int) ≤ 13824) (p13 : 1 ≤ ((n269 : Nat) : Int)) (p14 : c305_fresh.toInt ≤ 1) (p15 : 0 ≤ c305_fresh.toInt) (p16 : ((n306 : Nat) : Int) ≤ 8064) (p17 : 144 ≤ ((n306 : Nat) : Int)) (p18 : c267_total.toInt ≤ ((n269 : Nat) : Int)) (hr_a263 : dz_rq a263 (dz_kr κ) (dz_kg κ) 0 (((dz_kg κ : Nat) : Int) - 1)) (hr_a268 : dz_pt a268 (dz_kS κ)) (hr_a269 : dz_rg a269 n269 0 1023) (o0 : dz_needT c305_fresh c248_bars n306 ≤ U) (o1 : c248_groups.toInt = ((dz_kg κ : Nat) : Int)) (o2 : c248_pots.toInt = ((dz_kp κ : Nat) : Int)) (o3 : c248_teams.toInt = ((dz_km κ : Nat) : Int)) (o4 : c261_many.toInt = ((dz_kr κ : Nat) : Int)) (o5 : c267_total.toInt = ((dz_kt κ : Nat) : Int)) (o6 : dz_rb a269 (dz_kt κ) c248_bars) (o7 : c305_fresh.toInt = 0 ∨ dz_kn c248_bars ≤ ((n306 : Nat) : Int)) : dz_T (f306_X11_leave fu U c248_groups c248_pots c248_teams c248_bars c261_many a263 c267_total a268 a269 n269 a271 v1 c305_fresh a306 n306) (fun r => r.1.toInt ≤ 1023 ∧ (-1) ≤ r.1.toInt ∧ r.2.1.toInt ≤ 1 ∧ 0 ≤ r.2.1.toInt ∧ ((r.2.2.2 : Nat) : Int) ≤ 8064 ∧ 144 ≤ ((r.2.2.2 : Nat) : Int) ∧ (r.2.1.toInt = 0 ∨ dz_kn c248_bars ≤ ((r.2.2.2 : Nat) : Int))) :=
  t306_X11_leave_E_s fu hfu κ hκ U c248_groups c248_pots c248_teams c248_bars c261_many a263 c267_total a268 a269 n269 a271 v1 c305_fresh a306 n306 p0 p1 p2 p3 p4 p5 p6 p7 p8 p9 p10 p11 p12 p13 p14 p15 p16 p17 p18 hr_a263 hr_a268 hr_a269 o0 o1 o2 o3 o4 o5 o6 o7 fu hfu
