abbrev p257_X11_farthest_s (fu : Nat) (κ : Nat) (c248_groups : Int32) (c248_teams : Int32) (c310_rows : Int64) (a311 : Nat → Int64) (k : Nat) : Prop :=
  (∀ (v3 : Int32) (v4 : Int64) (v6 : Int32), v3.toInt ≤ 143 → (-1) ≤ v3.toInt → v6.toInt ≤ 12 → 0 ≤ v6.toInt → v6.toInt ≤ c248_teams.toInt → 0 + 0 + (12 - v6.toInt) * 350 + 7 ≤ ((k : Nat) : Int) → dz_T ((F257_X11_farthest fu c248_groups c248_teams c310_rows a311 k).1 v3 v4 v6) (fun r => r.toInt ≤ 143 ∧ (-1) ≤ r.toInt)) ∧ (∀ (v3 : Int32) (v4 : Int64) (v6 : Int32) (v7 : Int32), 1 ≤ c248_teams.toInt → v3.toInt ≤ 143 → (-1) ≤ v3.toInt → v6.toInt ≤ 11 → 0 ≤ v6.toInt → v7.toInt ≤ 24 → 2 ≤ v7.toInt → v6.toInt + 1 ≤ c248_teams.toInt → 0 + 0 + ((12 - v6.toInt) - 1) * 350 + 0 + (24 - v7.toInt) * 14 + 14 ≤ ((k : Nat) : Int) → dz_T ((F257_X11_farthest fu c248_groups c248_teams c310_rows a311 k).2.1 v3 v4 v6 v7) (fun r => r.toInt ≤ 143 ∧ (-1) ≤ r.toInt))
set_option maxHeartbeats 1000000 in
set_option maxRecDepth 10000 in
theorem t257_X11_farthest_h1_s (fu : Nat) (hfu : 1000000000000 ≤ fu) (κ : Nat) (hκ : κ < 14) (c248_groups : Int32) (c248_teams : Int32) (c310_rows : Int64) (a311 : Nat → Int64) (p0 : c248_groups.toInt ≤ 4) (p1 : 2 ≤ c248_groups.toInt) (p2 : c248_teams.toInt ≤ 12) (p3 : 0 ≤ c248_teams.toInt) (o0 : c248_groups.toInt = ((dz_kg κ : Nat) : Int)) (o1 : c248_teams.toInt = ((dz_km κ : Nat) : Int)) (k : Nat) (ih : ∀ j9, j9 < k → p257_X11_farthest_s fu κ c248_groups c248_teams c310_rows a311 j9) : ∀ (v3 : Int32) (v4 : Int64) (v6 : Int32), v3.toInt ≤ 143 → (-1) ≤ v3.toInt → v6.toInt ≤ 12 → 0 ≤ v6.toInt → v6.toInt ≤ c248_teams.toInt → 0 + 0 + (12 - v6.toInt) * 350 + 7 ≤ ((k : Nat) : Int) → dz_T ((F257_X11_farthest fu c248_groups c248_teams c310_rows a311 k).1 v3 v4 v6) (fun r => r.toInt ≤ 143 ∧ (-1) ≤ r.toInt) := by
  intro v3 v4 v6 i0 i1 i2 i3 i4 hm
  obtain ⟨k0, rfl⟩ : ∃ x, k = x + 1 := ⟨k - 1, by omega⟩
  show dz_T (s257_X11_farthest_1 fu c248_groups c248_teams c310_rows a311 (F257_X11_farthest fu c248_groups c248_teams c310_rows a311 k0).2.1  v3 v4 v6) _
  unfold s257_X11_farthest_1
  refine dz_Tle (fun h1 => ?_) (fun h1 => ?_)
  · skip
    exact dz_Ts ⟨i0, i1⟩
  · skip
    refine dz_Tbe (show f255_X3_nextPotAfter fu c248_groups v6 = (Option.bind (f160_X3_potOf fu c248_groups v6) (fun b2 => (some ((b2 + (1 : Int32)) * c248_groups)))) from rfl) ?_
    refine dz_Tba ?_
    refine dz_Tbe (show f160_X3_potOf fu c248_groups v6 = (if (c248_groups ≤ (0 : Int32)) then (some (0 : Int32)) else (if (¬ (c248_groups = (0 : Int32))) then (some (v6 / c248_groups)) else none)) from rfl) ?_
    have e2 := dz_l0
    refine dz_Tleb (fun h3 => ?_) (fun h3 => ?_)
    · skip
      exfalso; omega
    · skip
      refine dz_Tzb (by omega) ?_
      refine dz_Tsb ?_
      refine dz_Tsb ?_
      have e4 := dz_divq (a := v6) (b := c248_groups) 2 11 (by omega) (by omega) (by omega) (by omega)
      have e5 := dz_l1
      have e6 := dz_add (a := (v6 / c248_groups)) (b := (1 : Int32)) (by omega) (by omega)
      have e7 := dz_mulc (a := ((v6 / c248_groups) + (1 : Int32))) (b := c248_groups) 1 6 2 4 (by decide) (by decide) (by omega) (by omega) (by omega) (by omega) (by decide)
      exact (ih k0 (by omega)).2 v3 v4 v6 (((v6 / c248_groups) + (1 : Int32)) * c248_groups) (by first | assumption | omega) i0 i1 (by first | assumption | omega) i3 (by omega) (by omega) (by first | assumption | omega) (by omega)
set_option maxHeartbeats 1000000 in
set_option maxRecDepth 10000 in
theorem t257_X11_farthest_h2_s (fu : Nat) (hfu : 1000000000000 ≤ fu) (κ : Nat) (hκ : κ < 14) (c248_groups : Int32) (c248_teams : Int32) (c310_rows : Int64) (a311 : Nat → Int64) (p0 : c248_groups.toInt ≤ 4) (p1 : 2 ≤ c248_groups.toInt) (p2 : c248_teams.toInt ≤ 12) (p3 : 0 ≤ c248_teams.toInt) (o0 : c248_groups.toInt = ((dz_kg κ : Nat) : Int)) (o1 : c248_teams.toInt = ((dz_km κ : Nat) : Int)) (k : Nat) (ih : ∀ j9, j9 < k → p257_X11_farthest_s fu κ c248_groups c248_teams c310_rows a311 j9) : ∀ (v3 : Int32) (v4 : Int64) (v6 : Int32) (v7 : Int32), 1 ≤ c248_teams.toInt → v3.toInt ≤ 143 → (-1) ≤ v3.toInt → v6.toInt ≤ 11 → 0 ≤ v6.toInt → v7.toInt ≤ 24 → 2 ≤ v7.toInt → v6.toInt + 1 ≤ c248_teams.toInt → 0 + 0 + ((12 - v6.toInt) - 1) * 350 + 0 + (24 - v7.toInt) * 14 + 14 ≤ ((k : Nat) : Int) → dz_T ((F257_X11_farthest fu c248_groups c248_teams c310_rows a311 k).2.1 v3 v4 v6 v7) (fun r => r.toInt ≤ 143 ∧ (-1) ≤ r.toInt) := by
  intro v3 v4 v6 v7 i0 i1 i2 i3 i4 i5 i6 i7 hm
  obtain ⟨k0, rfl⟩ : ∃ x, k = x + 1 := ⟨k - 1, by omega⟩
  show dz_T (s257_X11_farthest_2 fu c248_groups c248_teams c310_rows a311 (F257_X11_farthest fu c248_groups c248_teams c310_rows a311 k0).1 (F257_X11_farthest fu c248_groups c248_teams c310_rows a311 k0).2.2  v3 v4 v6 v7) _
  unfold s257_X11_farthest_2
  refine dz_Tle (fun h1 => ?_) (fun h1 => ?_)
  · skip
    have e2 := dz_l1
    have e3 := dz_add (a := v6) (b := (1 : Int32)) (by omega) (by omega)
    exact (ih k0 (by omega)).1 v3 v4 (v6 + (1 : Int32)) i1 i2 (by omega) (by omega) (by omega) (by omega)
  · skip
    refine dz_Tb (t256_X11_far fu hfu _ _ _ _ i4 i3 (by first | assumption | omega) (by first | assumption | omega)) (fun r1 _ => ?_)
    have e4 := dz_l0
    refine dz_Tle (fun h5 => ?_) (fun h5 => ?_)
    · skip
      obtain ⟨k1, rfl⟩ : ∃ x, k0 = x + 1 := ⟨k0 - 1, by omega⟩
      show dz_T (s257_X11_farthest_3 fu c248_groups c248_teams c310_rows a311 (F257_X11_farthest fu c248_groups c248_teams c310_rows a311 k1).2.1 v3 v4 v6 v7) _
      unfold s257_X11_farthest_3
      have e6 := dz_l1
      have e7 := dz_add (a := v7) (b := (1 : Int32)) (by omega) (by omega)
      exact (ih k1 (by omega)).2 v3 v4 v6 (v7 + (1 : Int32)) i0 i1 i2 i3 i4 (by omega) (by omega) i7 (by omega)
    · skip
      obtain ⟨k2, rfl⟩ : ∃ x, k0 = x + 1 := ⟨k0 - 1, by omega⟩
      show dz_T (s257_X11_farthest_3 fu c248_groups c248_teams c310_rows a311 (F257_X11_farthest fu c248_groups c248_teams c310_rows a311 k2).2.1 ((v6 * (12 : Int32)) + v7) (if (0 < r1) then r1 else (-r1)) v6 v7) _
      unfold s257_X11_farthest_3
      have e8 := dz_l12
      have e9 := dz_mulr (a := v6) (b := (12 : Int32)) 12 (by omega) (by omega) (by omega)
      have e10 := dz_add (a := (v6 * (12 : Int32))) (b := v7) (by omega) (by omega)
      have e11 := dz_l1
      have e12 := dz_add (a := v7) (b := (1 : Int32)) (by omega) (by omega)
      exact (ih k2 (by omega)).2 ((v6 * (12 : Int32)) + v7) (if (0 < r1) then r1 else (-r1)) v6 (v7 + (1 : Int32)) i0 (by omega) (by omega) i3 i4 (by omega) (by omega) i7 (by omega)
theorem t257_X11_farthest_I_s (fu : Nat) (hfu : 1000000000000 ≤ fu) (κ : Nat) (hκ : κ < 14) (c248_groups : Int32) (c248_teams : Int32) (c310_rows : Int64) (a311 : Nat → Int64) (p0 : c248_groups.toInt ≤ 4) (p1 : 2 ≤ c248_groups.toInt) (p2 : c248_teams.toInt ≤ 12) (p3 : 0 ≤ c248_teams.toInt) (o0 : c248_groups.toInt = ((dz_kg κ : Nat) : Int)) (o1 : c248_teams.toInt = ((dz_km κ : Nat) : Int)) (k : Nat) : p257_X11_farthest_s fu κ c248_groups c248_teams c310_rows a311 k := by
  induction k using Nat.strongRecOn with
  | _ k ih => exact ⟨t257_X11_farthest_h1_s fu hfu κ hκ c248_groups c248_teams c310_rows a311 p0 p1 p2 p3 o0 o1 k ih, t257_X11_farthest_h2_s fu hfu κ hκ c248_groups c248_teams c310_rows a311 p0 p1 p2 p3 o0 o1 k ih⟩
set_option maxHeartbeats 1000000 in
set_option maxRecDepth 10000 in
theorem t257_X11_farthest_E_s (fu : Nat) (hfu : 1000000000000 ≤ fu) (κ : Nat) (hκ : κ < 14) (c248_groups : Int32) (c248_teams : Int32) (c310_rows : Int64) (a311 : Nat → Int64) (p0 : c248_groups.toInt ≤ 4) (p1 : 2 ≤ c248_groups.toInt) (p2 : c248_teams.toInt ≤ 12) (p3 : 0 ≤ c248_teams.toInt) (o0 : c248_groups.toInt = ((dz_kg κ : Nat) : Int)) (o1 : c248_teams.toInt = ((dz_km κ : Nat) : Int)) (kv : Nat) (hkv : 1000000000000 ≤ kv) : dz_T (s257_X11_farthest_0 fu c248_groups c248_teams c310_rows a311 (F257_X11_farthest fu c248_groups c248_teams c310_rows a311 kv).1 ) (fun r => r.toInt ≤ 143 ∧ (-1) ≤ r.toInt) := by
  unfold s257_X11_farthest_0
  have e1 := dz_lm1
  have e2 := dz_l0
  exact (t257_X11_farthest_I_s fu hfu κ hκ c248_groups c248_teams c310_rows a311 p0 p1 p2 p3 o0 o1 kv).1 (-(1 : Int32)) ((-1) : Int64) (0 : Int32) (by omega) (by omega) (by omega) (by omega) (by omega) (by omega)
theorem t257_X11_farthest_s (fu : Nat) (hfu : 1000000000000 ≤ fu) (κ : Nat) (hκ : κ < 14) (c248_groups : Int32) (c248_teams : Int32) (c310_rows : Int64) (a311 : Nat → Int64) (p0 : c248_groups.toInt ≤ 4) (p1 : 2 ≤ c248_groups.toInt) (p2 : c248_teams.toInt ≤ 12) (p3 : 0 ≤ c248_teams.toInt) (o0 : c248_groups.toInt = ((dz_kg κ : Nat) : Int)) (o1 : c248_teams.toInt = ((dz_km κ : Nat) : Int)) : dz_T (f257_X11_farthest fu c248_groups c248_teams c310_rows a311) (fun r => r.toInt ≤ 143 ∧ (-1) ≤ r.toInt) :=
  t257_X11_farthest_E_s fu hfu κ hκ c248_groups c248_teams c310_rows a311 p0 p1 p2 p3 o0 o1 fu hfu
set_option maxHeartbeats 1000000 in
set_option maxRecDepth 10000 in
theorem t258_X11_sizeOfFarthest_s (fu : Nat) (hfu : 1000000000000 ≤ fu) (κ : Nat) (hκ : κ < 14) (c248_groups : Int32) (c248_teams : Int32) (c310_rows : Int64) (a311 : Nat → Int64) (p0 : c248_groups.toInt ≤ 4) (p1 : 2 ≤ c248_groups.toInt) (p2 : c248_teams.toInt ≤ 12) (p3 : 0 ≤ c248_teams.toInt) (o0 : c248_groups.toInt = ((dz_kg κ : Nat) : Int)) (o1 : c248_teams.toInt = ((dz_km κ : Nat) : Int)) : dz_T (f258_X11_sizeOfFarthest fu c248_groups c248_teams c310_rows a311) (fun r => True) := by
  unfold f258_X11_sizeOfFarthest s258_X11_sizeOfFarthest_0
  refine dz_Tb (t257_X11_farthest_s fu hfu κ hκ _ _ _ _ p0 p1 p2 p3 o0 o1) (fun r1 q => ?_)
  obtain ⟨q1_0, q1_1⟩ := q
  have e1 := dz_lm1
  refine dz_Teq (fun h2 => ?_) (fun h2 => ?_)
  · skip
    exact dz_Ts trivial
  · skip
    have e3 := dz_l12
    have e4 := dz_divn (a := r1) (b := (12 : Int32)) 12 (by omega) (by omega) (by omega)
    have e5 := dz_remn (a := r1) (b := (12 : Int32)) 12 (by omega) (by omega) (by omega)
    refine dz_Tb (t256_X11_far fu hfu _ _ _ _ (by omega) (by omega) (by omega) (by omega)) (fun r2 _ => ?_)
    exact dz_Ts trivial
abbrev p259_X11_sumOfFar_s (fu : Nat) (κ : Nat) (c248_groups : Int32) (c248_teams : Int32) (c310_rows : Int64) (a311 : Nat → Int64) (k : Nat) : Prop :=
  (∀ (v3 : Int64) (v5 : Int32), v5.toInt ≤ 12 → 0 ≤ v5.toInt → v5.toInt ≤ c248_teams.toInt → 0 + 0 + (12 - v5.toInt) * 300 + 6 ≤ ((k : Nat) : Int) → dz_T ((F259_X11_sumOfFar fu c248_groups c248_teams c310_rows a311 k).1 v3 v5) (fun r => True)) ∧ (∀ (v3 : Int64) (v5 : Int32) (v6 : Int32), 1 ≤ c248_teams.toInt → v5.toInt ≤ 11 → 0 ≤ v5.toInt → v6.toInt ≤ 24 → 2 ≤ v6.toInt → v5.toInt + 1 ≤ c248_teams.toInt → 0 + 0 + ((12 - v5.toInt) - 1) * 300 + 0 + (24 - v6.toInt) * 12 + 12 ≤ ((k : Nat) : Int) → dz_T ((F259_X11_sumOfFar fu c248_groups c248_teams c310_rows a311 k).2 v3 v5 v6) (fun r => True))
set_option maxHeartbeats 1000000 in
set_option maxRecDepth 10000 in
theorem t259_X11_sumOfFar_h1_s (fu : Nat) (hfu : 1000000000000 ≤ fu) (κ : Nat) (hκ : κ < 14) (c248_groups : Int32) (c248_teams : Int32) (c310_rows : Int64) (a311 : Nat → Int64) (p0 : c248_groups.toInt ≤ 4) (p1 : 2 ≤ c248_groups.toInt) (p2 : c248_teams.toInt ≤ 12) (p3 : 0 ≤ c248_teams.toInt) (o0 : c248_groups.toInt = ((dz_kg κ : Nat) : Int)) (o1 : c248_teams.toInt = ((dz_km κ : Nat) : Int)) (k : Nat) (ih : ∀ j9, j9 < k → p259_X11_sumOfFar_s fu κ c248_groups c248_teams c310_rows a311 j9) : ∀ (v3 : Int64) (v5 : Int32), v5.toInt ≤ 12 → 0 ≤ v5.toInt → v5.toInt ≤ c248_teams.toInt → 0 + 0 + (12 - v5.toInt) * 300 + 6 ≤ ((k : Nat) : Int) → dz_T ((F259_X11_sumOfFar fu c248_groups c248_teams c310_rows a311 k).1 v3 v5) (fun r => True) := by
  intro v3 v5 i0 i1 i2 hm
  obtain ⟨k0, rfl⟩ : ∃ x, k = x + 1 := ⟨k - 1, by omega⟩
  show dz_T (s259_X11_sumOfFar_1 fu c248_groups c248_teams c310_rows a311 (F259_X11_sumOfFar fu c248_groups c248_teams c310_rows a311 k0).2  v3 v5) _
  unfold s259_X11_sumOfFar_1
  refine dz_Tle (fun h1 => ?_) (fun h1 => ?_)
  · skip
    exact dz_Ts trivial
  · skip
    refine dz_Tbe (show f255_X3_nextPotAfter fu c248_groups v5 = (Option.bind (f160_X3_potOf fu c248_groups v5) (fun b2 => (some ((b2 + (1 : Int32)) * c248_groups)))) from rfl) ?_
    refine dz_Tba ?_
    refine dz_Tbe (show f160_X3_potOf fu c248_groups v5 = (if (c248_groups ≤ (0 : Int32)) then (some (0 : Int32)) else (if (¬ (c248_groups = (0 : Int32))) then (some (v5 / c248_groups)) else none)) from rfl) ?_
    have e2 := dz_l0
    refine dz_Tleb (fun h3 => ?_) (fun h3 => ?_)
    · skip
      exfalso; omega
    · skip
      refine dz_Tzb (by omega) ?_
      refine dz_Tsb ?_
      refine dz_Tsb ?_
      have e4 := dz_divq (a := v5) (b := c248_groups) 2 11 (by omega) (by omega) (by omega) (by omega)
      have e5 := dz_l1
      have e6 := dz_add (a := (v5 / c248_groups)) (b := (1 : Int32)) (by omega) (by omega)
      have e7 := dz_mulc (a := ((v5 / c248_groups) + (1 : Int32))) (b := c248_groups) 1 6 2 4 (by decide) (by decide) (by omega) (by omega) (by omega) (by omega) (by decide)
      exact (ih k0 (by omega)).2 v3 v5 (((v5 / c248_groups) + (1 : Int32)) * c248_groups) (by first | assumption | omega) (by first | assumption | omega) i1 (by omega) (by omega) (by first | assumption | omega) (by omega)
set_option maxHeartbeats 1000000 in
set_option maxRecDepth 10000 in
theorem t259_X11_sumOfFar_h2_s (fu : Nat) (hfu : 1000000000000 ≤ fu) (κ : Nat) (hκ : κ < 14) (c248_groups : Int32) (c248_teams : Int32) (c310_rows : Int64) (a311 : Nat → Int64) (p0 : c248_groups.toInt ≤ 4) (p1 : 2 ≤ c248_groups.toInt) (p2 : c248_teams.toInt ≤ 12) (p3 : 0 ≤ c248_teams.toInt) (o0 : c248_groups.toInt = ((dz_kg κ : Nat) : Int)) (o1 : c248_teams.toInt = ((dz_km κ : Nat) : Int)) (k : Nat) (ih : ∀ j9, j9 < k → p259_X11_sumOfFar_s fu κ c248_groups c248_teams c310_rows a311 j9) : ∀ (v3 : Int64) (v5 : Int32) (v6 : Int32), 1 ≤ c248_teams.toInt → v5.toInt ≤ 11 → 0 ≤ v5.toInt → v6.toInt ≤ 24 → 2 ≤ v6.toInt → v5.toInt + 1 ≤ c248_teams.toInt → 0 + 0 + ((12 - v5.toInt) - 1) * 300 + 0 + (24 - v6.toInt) * 12 + 12 ≤ ((k : Nat) : Int) → dz_T ((F259_X11_sumOfFar fu c248_groups c248_teams c310_rows a311 k).2 v3 v5 v6) (fun r => True) := by
  intro v3 v5 v6 i0 i1 i2 i3 i4 i5 hm
  obtain ⟨k0, rfl⟩ : ∃ x, k = x + 1 := ⟨k - 1, by omega⟩
  show dz_T (s259_X11_sumOfFar_2 fu c248_groups c248_teams c310_rows a311 (F259_X11_sumOfFar fu c248_groups c248_teams c310_rows a311 k0).1 (F259_X11_sumOfFar fu c248_groups c248_teams c310_rows a311 k0).2  v3 v5 v6) _
  unfold s259_X11_sumOfFar_2
  refine dz_Tle (fun h1 => ?_) (fun h1 => ?_)
  · skip
    have e2 := dz_l1
    have e3 := dz_add (a := v5) (b := (1 : Int32)) (by omega) (by omega)
    exact (ih k0 (by omega)).1 v3 (v5 + (1 : Int32)) (by omega) (by omega) (by omega) (by omega)
  · skip
    refine dz_Tb (t256_X11_far fu hfu _ _ _ _ i2 i1 (by first | assumption | omega) (by first | assumption | omega)) (fun r1 _ => ?_)
    have e4 := dz_l1
    have e5 := dz_add (a := v6) (b := (1 : Int32)) (by omega) (by omega)
    exact (ih k0 (by omega)).2 (v3 + (if (0 < r1) then r1 else (-r1))) v5 (v6 + (1 : Int32)) i0 i1 i2 (by omega) (by omega) i5 (by omega)
theorem t259_X11_sumOfFar_I_s (fu : Nat) (hfu : 1000000000000 ≤ fu) (κ : Nat) (hκ : κ < 14) (c248_groups : Int32) (c248_teams : Int32) (c310_rows : Int64) (a311 : Nat → Int64) (p0 : c248_groups.toInt ≤ 4) (p1 : 2 ≤ c248_groups.toInt) (p2 : c248_teams.toInt ≤ 12) (p3 : 0 ≤ c248_teams.toInt) (o0 : c248_groups.toInt = ((dz_kg κ : Nat) : Int)) (o1 : c248_teams.toInt = ((dz_km κ : Nat) : Int)) (k : Nat) : p259_X11_sumOfFar_s fu κ c248_groups c248_teams c310_rows a311 k := by
  induction k using Nat.strongRecOn with
  | _ k ih => exact ⟨t259_X11_sumOfFar_h1_s fu hfu κ hκ c248_groups c248_teams c310_rows a311 p0 p1 p2 p3 o0 o1 k ih, t259_X11_sumOfFar_h2_s fu hfu κ hκ c248_groups c248_teams c310_rows a311 p0 p1 p2 p3 o0 o1 k ih⟩
set_option maxHeartbeats 1000000 in
set_option maxRecDepth 10000 in
theorem t259_X11_sumOfFar_E_s (fu : Nat) (hfu : 1000000000000 ≤ fu) (κ : Nat) (hκ : κ < 14) (c248_groups : Int32) (c248_teams : Int32) (c310_rows : Int64) (a311 : Nat → Int64) (p0 : c248_groups.toInt ≤ 4) (p1 : 2 ≤ c248_groups.toInt) (p2 : c248_teams.toInt ≤ 12) (p3 : 0 ≤ c248_teams.toInt) (o0 : c248_groups.toInt = ((dz_kg κ : Nat) : Int)) (o1 : c248_teams.toInt = ((dz_km κ : Nat) : Int)) (kv : Nat) (hkv : 1000000000000 ≤ kv) : dz_T (s259_X11_sumOfFar_0 fu c248_groups c248_teams c310_rows a311 (F259_X11_sumOfFar fu c248_groups c248_teams c310_rows a311 kv).1 ) (fun r => True) := by
  unfold s259_X11_sumOfFar_0
  have e1 := dz_l0
  exact (t259_X11_sumOfFar_I_s fu hfu κ hκ c248_groups c248_teams c310_rows a311 p0 p1 p2 p3 o0 o1 kv).1 (0 : Int64) (0 : Int32) (by omega) (by omega) (by omega) (by omega)
theorem t259_X11_sumOfFar_s (fu : Nat) (hfu : 1000000000000 ≤ fu) (κ : Nat) (hκ : κ < 14) (c248_groups : Int32) (c248_teams : Int32) (c310_rows : Int64) (a311 : Nat → Int64) (p0 : c248_groups.toInt ≤ 4) (p1 : 2 ≤ c248_groups.toInt) (p2 : c248_teams.toInt ≤ 12) (p3 : 0 ≤ c248_teams.toInt) (o0 : c248_groups.toInt = ((dz_kg κ : Nat) : Int)) (o1 : c248_teams.toInt = ((dz_km κ : Nat) : Int)) : dz_T (f259_X11_sumOfFar fu c248_groups c248_teams c310_rows a311) (fun r => True) :=
  t259_X11_sumOfFar_E_s fu hfu κ hκ c248_groups c248_teams c310_rows a311 p0 p1 p2 p3 o0 o1 fu hfu
set_option maxHeartbeats 1000000 in
set_option maxRecDepth 10000 in
theorem t260_X11_far (fu : Nat) (hfu : 1000000000000 ≤ fu) (c310_rows : Int64) (a311 : Nat → Int64) (c316_rows : Int64) (a317 : Nat → Int64) (v2 : Int32) (v3 : Int32) (p0 : 0 ≤ v2.toInt) (p1 : v2.toInt ≤ 11) (p2 : 0 ≤ v3.toInt) (p3 : v3.toInt ≤ 11) : dz_T (f260_X11_far fu c310_rows a311 c316_rows a317 v2 v3) (fun r => True) := by
  unfold f260_X11_far s260_X11_far_0
  refine dz_Tb (t247_X1_ofPair fu hfu _ _ _ p0 p1 p2 p3) (fun r1 _ => ?_)
  refine dz_Tb (t247_X1_ofPair fu hfu _ _ _ p0 p1 p2 p3) (fun r2 _ => ?_)
  exact dz_Ts trivial
abbrev p261_X11_farthest_s (fu : Nat) (κ : Nat) (c248_groups : Int32) (c248_teams : Int32) (c310_rows : Int64) (a311 : Nat → Int64) (c316_rows : Int64) (a317 : Nat → Int64) (k : Nat) : Prop :=
  (∀ (v3 : Int32) (v4 : Int64) (v6 : Int32), v3.toInt ≤ 143 → (-1) ≤ v3.toInt → v6.toInt ≤ 12 → 0 ≤ v6.toInt → v6.toInt ≤ c248_teams.toInt → 0 + 0 + (12 - v6.toInt) * 350 + 7 ≤ ((k : Nat) : Int) → dz_T ((F261_X11_farthest fu c248_groups c248_teams c310_rows a311 c316_rows a317 k).1 v3 v4 v6) (fun r => r.toInt ≤ 143 ∧ (-1) ≤ r.toInt)) ∧ (∀ (v3 : Int32) (v4 : Int64) (v6 : Int32) (v7 : Int32), 1 ≤ c248_teams.toInt → v3.toInt ≤ 143 → (-1) ≤ v3.toInt → v6.toInt ≤ 11 → 0 ≤ v6.toInt → v7.toInt ≤ 24 → 2 ≤ v7.toInt → v6.toInt + 1 ≤ c248_teams.toInt → 0 + 0 + ((12 - v6.toInt) - 1) * 350 + 0 + (24 - v7.toInt) * 14 + 14 ≤ ((k : Nat) : Int) → dz_T ((F261_X11_farthest fu c248_groups c248_teams c310_rows a311 c316_rows a317 k).2.1 v3 v4 v6 v7) (fun r => r.toInt ≤ 143 ∧ (-1) ≤ r.toInt))
set_option maxHeartbeats 1000000 in
set_option maxRecDepth 10000 in
theorem t261_X11_farthest_h1_s (fu : Nat) (hfu : 1000000000000 ≤ fu) (κ : Nat) (hκ : κ < 14) (c248_groups : Int32) (c248_teams : Int32) (c310_rows : Int64) (a311 : Nat → Int64) (c316_rows : Int64) (a317 : Nat → Int64) (p0 : c248_groups.toInt ≤ 4) (p1 : 2 ≤ c248_groups.toInt) (p2 : c248_teams.toInt ≤ 12) (p3 : 0 ≤ c248_teams.toInt) (o0 : c248_groups.toInt = ((dz_kg κ : Nat) : Int)) (o1 : c248_teams.toInt = ((dz_km κ : Nat) : Int)) (k : Nat) (ih : ∀ j9, j9 < k → p261_X11_farthest_s fu κ c248_groups c248_teams c310_rows a311 c316_rows a317 j9) : ∀ (v3 : Int32) (v4 : Int64) (v6 : Int32), v3.toInt ≤ 143 → (-1) ≤ v3.toInt → v6.toInt ≤ 12 → 0 ≤ v6.toInt → v6.toInt ≤ c248_teams.toInt → 0 + 0 + (12 - v6.toInt) * 350 + 7 ≤ ((k : Nat) : Int) → dz_T ((F261_X11_farthest fu c248_groups c248_teams c310_rows a311 c316_rows a317 k).1 v3 v4 v6) (fun r => r.toInt ≤ 143 ∧ (-1) ≤ r.toInt) := by
  intro v3 v4 v6 i0 i1 i2 i3 i4 hm
  obtain ⟨k0, rfl⟩ : ∃ x, k = x + 1 := ⟨k - 1, by omega⟩
  show dz_T (s261_X11_farthest_1 fu c248_groups c248_teams c310_rows a311 c316_rows a317 (F261_X11_farthest fu c248_groups c248_teams c310_rows a311 c316_rows a317 k0).2.1  v3 v4 v6) _
  unfold s261_X11_farthest_1
  refine dz_Tle (fun h1 => ?_) (fun h1 => ?_)
  · skip
    exact dz_Ts ⟨i0, i1⟩
  · skip
    refine dz_Tbe (show f255_X3_nextPotAfter fu c248_groups v6 = (Option.bind (f160_X3_potOf fu c248_groups v6) (fun b2 => (some ((b2 + (1 : Int32)) * c248_groups)))) from rfl) ?_
    refine dz_Tba ?_
    refine dz_Tbe (show f160_X3_potOf fu c248_groups v6 = (if (c248_groups ≤ (0 : Int32)) then (some (0 : Int32)) else (if (¬ (c248_groups = (0 : Int32))) then (some (v6 / c248_groups)) else none)) from rfl) ?_
    have e2 := dz_l0
    refine dz_Tleb (fun h3 => ?_) (fun h3 => ?_)
    · skip
      exfalso; omega
    · skip
      refine dz_Tzb (by omega) ?_
      refine dz_Tsb ?_
      refine dz_Tsb ?_
      have e4 := dz_divq (a := v6) (b := c248_groups) 2 11 (by omega) (by omega) (by omega) (by omega)
      have e5 := dz_l1
      have e6 := dz_add (a := (v6 / c248_groups)) (b := (1 : Int32)) (by omega) (by omega)
      have e7 := dz_mulc (a := ((v6 / c248_groups) + (1 : Int32))) (b := c248_groups) 1 6 2 4 (by decide) (by decide) (by omega) (by omega) (by omega) (by omega) (by decide)
      exact (ih k0 (by omega)).2 v3 v4 v6 (((v6 / c248_groups) + (1 : Int32)) * c248_groups) (by first | assumption | omega) i0 i1 (by first | assumption | omega) i3 (by omega) (by omega) (by first | assumption | omega) (by omega)
set_option maxHeartbeats 1000000 in
set_option maxRecDepth 10000 in
theorem t261_X11_farthest_h2_s (fu : Nat) (hfu : 1000000000000 ≤ fu) (κ : Nat) (hκ : κ < 14) (c248_groups : Int32) (c248_teams : Int32) (c310_rows : Int64) (a311 : Nat → Int64) (c316_rows : Int64) (a317 : Nat → Int64) (p0 : c248_groups.toInt ≤ 4) (p1 : 2 ≤ c248_groups.toInt) (p2 : c248_teams.toInt ≤ 12) (p3 : 0 ≤ c248_teams.toInt) (o0 : c248_groups.toInt = ((dz_kg κ : Nat) : Int)) (o1 : c248_teams.toInt = ((dz_km κ : Nat) : Int)) (k : Nat) (ih : ∀ j9, j9 < k → p261_X11_farthest_s fu κ c248_groups c248_teams c310_rows a311 c316_rows a317 j9) : ∀ (v3 : Int32) (v4 : Int64) (v6 : Int32) (v7 : Int32), 1 ≤ c248_teams.toInt → v3.toInt ≤ 143 → (-1) ≤ v3.toInt → v6.toInt ≤ 11 → 0 ≤ v6.toInt → v7.toInt ≤ 24 → 2 ≤ v7.toInt → v6.toInt + 1 ≤ c248_teams.toInt → 0 + 0 + ((12 - v6.toInt) - 1) * 350 + 0 + (24 - v7.toInt) * 14 + 14 ≤ ((k : Nat) : Int) → dz_T ((F261_X11_farthest fu c248_groups c248_teams c310_rows a311 c316_rows a317 k).2.1 v3 v4 v6 v7) (fun r => r.toInt ≤ 143 ∧ (-1) ≤ r.toInt) := by
  intro v3 v4 v6 v7 i0 i1 i2 i3 i4 i5 i6 i7 hm
  obtain ⟨k0, rfl⟩ : ∃ x, k = x + 1 := ⟨k - 1, by omega⟩
  show dz_T (s261_X11_farthest_2 fu c248_groups c248_teams c310_rows a311 c316_rows a317 (F261_X11_farthest fu c248_groups c248_teams c310_rows a311 c316_rows a317 k0).1 (F261_X11_farthest fu c248_groups c248_teams c310_rows a311 c316_rows a317 k0).2.2  v3 v4 v6 v7) _
  unfold s261_X11_farthest_2
  refine dz_Tle (fun h1 => ?_) (fun h1 => ?_)
  · skip
    have e2 := dz_l1
    have e3 := dz_add (a := v6) (b := (1 : Int32)) (by omega) (by omega)
    exact (ih k0 (by omega)).1 v3 v4 (v6 + (1 : Int32)) i1 i2 (by omega) (by omega) (by omega) (by omega)
  · skip
    refine dz_Tb (t260_X11_far fu hfu _ _ _ _ _ _ i4 i3 (by first | assumption | omega) (by first | assumption | omega)) (fun r1 _ => ?_)
    have e4 := dz_l0
    refine dz_Tle (fun h5 => ?_) (fun h5 => ?_)
    · skip
      obtain ⟨k1, rfl⟩ : ∃ x, k0 = x + 1 := ⟨k0 - 1, by omega⟩
      show dz_T (s261_X11_farthest_3 fu c248_groups c248_teams c310_rows a311 c316_rows a317 (F261_X11_farthest fu c248_groups c248_teams c310_rows a311 c316_rows a317 k1).2.1 v3 v4 v6 v7) _
      unfold s261_X11_farthest_3
      have e6 := dz_l1
      have e7 := dz_add (a := v7) (b := (1 : Int32)) (by omega) (by omega)
      exact (ih k1 (by omega)).2 v3 v4 v6 (v7 + (1 : Int32)) i0 i1 i2 i3 i4 (by omega) (by omega) i7 (by omega)
    · skip
      obtain ⟨k2, rfl⟩ : ∃ x, k0 = x + 1 := ⟨k0 - 1, by omega⟩
      show dz_T (s261_X11_farthest_3 fu c248_groups c248_teams c310_rows a311 c316_rows a317 (F261_X11_farthest fu c248_groups c248_teams c310_rows a311 c316_rows a317 k2).2.1 ((v6 * (12 : Int32)) + v7) (if (0 < r1) then r1 else (-r1)) v6 v7) _
      unfold s261_X11_farthest_3
      have e8 := dz_l12
      have e9 := dz_mulr (a := v6) (b := (12 : Int32)) 12 (by omega) (by omega) (by omega)
      have e10 := dz_add (a := (v6 * (12 : Int32))) (b := v7) (by omega) (by omega)
      have e11 := dz_l1
      have e12 := dz_add (a := v7) (b := (1 : Int32)) (by omega) (by omega)
      exact (ih k2 (by omega)).2 ((v6 * (12 : Int32)) + v7) (if (0 < r1) then r1 else (-r1)) v6 (v7 + (1 : Int32)) i0 (by omega) (by omega) i3 i4 (by omega) (by omega) i7 (by omega)
theorem t261_X11_farthest_I_s (fu : Nat) (hfu : 1000000000000 ≤ fu) (κ : Nat) (hκ : κ < 14) (c248_groups : Int32) (c248_teams : Int32) (c310_rows : Int64) (a311 : Nat → Int64) (c316_rows : Int64) (a317 : Nat → Int64) (p0 : c248_groups.toInt ≤ 4) (p1 : 2 ≤ c248_groups.toInt) (p2 : c248_teams.toInt ≤ 12) (p3 : 0 ≤ c248_teams.toInt) (o0 : c248_groups.toInt = ((dz_kg κ : Nat) : Int)) (o1 : c248_teams.toInt = ((dz_km κ : Nat) : Int)) (k : Nat) : p261_X11_farthest_s fu κ c248_groups c248_teams c310_rows a311 c316_rows a317 k := by
  induction k using Nat.strongRecOn with
  | _ k ih => exact ⟨t261_X11_farthest_h1_s fu hfu κ hκ c248_groups c248_teams c310_rows a311 c316_rows a317 p0 p1 p2 p3 o0 o1 k ih, t261_X11_farthest_h2_s fu hfu κ hκ c248_groups c248_teams c310_rows a311 c316_rows a317 p0 p1 p2 p3 o0 o1 k ih⟩
set_option maxHeartbeats 1000000 in
set_option maxRecDepth 10000 in
theorem t261_X11_farthest_E_s (fu : Nat) (hfu : 1000000000000 ≤ fu) (κ : Nat) (hκ : κ < 14) (c248_groups : Int32) (c248_teams : Int32) (c310_rows : Int64) (a311 : Nat → Int64) (c316_rows : Int64) (a317 : Nat → Int64) (p0 : c248_groups.toInt ≤ 4) (p1 : 2 ≤ c248_groups.toInt) (p2 : c248_teams.toInt ≤ 12) (p3 : 0 ≤ c248_teams.toInt) (o0 : c248_groups.toInt = ((dz_kg κ : Nat) : Int)) (o1 : c248_teams.toInt = ((dz_km κ : Nat) : Int)) (kv : Nat) (hkv : 1000000000000 ≤ kv) : dz_T (s261_X11_farthest_0 fu c248_groups c248_teams c310_rows a311 c316_rows a317 (F261_X11_farthest fu c248_groups c248_teams c310_rows a311 c316_rows a317 kv).1 ) (fun r => r.toInt ≤ 143 ∧ (-1) ≤ r.toInt) := by
  unfold s261_X11_farthest_0
  have e1 := dz_lm1
  have e2 := dz_l0
  exact (t261_X11_farthest_I_s fu hfu κ hκ c248_groups c248_teams c310_rows a311 c316_rows a317 p0 p1 p2 p3 o0 o1 kv).1 (-(1 : Int32)) ((-1) : Int64) (0 : Int32) (by omega) (by omega) (by omega) (by omega) (by omega) (by omega)
theorem t261_X11_farthest_s (fu : Nat) (hfu : 1000000000000 ≤ fu) (κ : Nat) (hκ : κ < 14) (c248_groups : Int32) (c248_teams : Int32) (c310_rows : Int64) (a311 : Nat → Int64) (c316_rows : Int64) (a317 : Nat → Int64) (p0 : c248_groups.toInt ≤ 4) (p1 : 2 ≤ c248_groups.toInt) (p2 : c248_teams.toInt ≤ 12) (p3 : 0 ≤ c248_teams.toInt) (o0 : c248_groups.toInt = ((dz_kg κ : Nat) : Int)) (o1 : c248_teams.toInt = ((dz_km κ : Nat) : Int)) : dz_T (f261_X11_farthest fu c248_groups c248_teams c310_rows a311 c316_rows a317) (fun r => r.toInt ≤ 143 ∧ (-1) ≤ r.toInt) :=
  t261_X11_farthest_E_s fu hfu κ hκ c248_groups c248_teams c310_rows a311 c316_rows a317 p0 p1 p2 p3 o0 o1 fu hfu
set_option maxHeartbeats 1000000 in
set_option maxRecDepth 10000 in
theorem t262_X11_sizeOfFarthest_s (fu : Nat) (hfu : 1000000000000 ≤ fu) (κ : Nat) (hκ : κ < 14) (c248_groups : Int32) (c248_teams : Int32) (c310_rows : Int64) (a311 : Nat → Int64) (c316_rows : Int64) (a317 : Nat → Int64) (p0 : c248_groups.toInt ≤ 4) (p1 : 2 ≤ c248_groups.toInt) (p2 : c248_teams.toInt ≤ 12) (p3 : 0 ≤ c248_teams.toInt) (o0 : c248_groups.toInt = ((dz_kg κ : Nat) : Int)) (o1 : c248_teams.toInt = ((dz_km κ : Nat) : Int)) : dz_T (f262_X11_sizeOfFarthest fu c248_groups c248_teams c310_rows a311 c316_rows a317) (fun r => True) := by
  unfold f262_X11_sizeOfFarthest s262_X11_sizeOfFarthest_0
  refine dz_Tb (t261_X11_farthest_s fu hfu κ hκ _ _ _ _ _ _ p0 p1 p2 p3 o0 o1) (fun r1 q => ?_)
  obtain ⟨q1_0, q1_1⟩ := q
  have e1 := dz_lm1
  refine dz_Teq (fun h2 => ?_) (fun h2 => ?_)
  · skip
    exact dz_Ts trivial
  · skip
    have e3 := dz_l12
    have e4 := dz_divn (a := r1) (b := (12 : Int32)) 12 (by omega) (by omega) (by omega)
    have e5 := dz_remn (a := r1) (b := (12 : Int32)) 12 (by omega) (by omega) (by omega)
    refine dz_Tb (t260_X11_far fu hfu _ _ _ _ _ _ (by omega) (by omega) (by omega) (by omega)) (fun r2 _ => ?_)
    exact dz_Ts trivial
abbrev p263_X11_sumOfFar_s (fu : Nat) (κ : Nat) (c248_groups : Int32) (c248_teams : Int32) (c310_rows : Int64) (a311 : Nat → Int64) (c316_rows : Int64) (a317 : Nat → Int64) (k : Nat) : Prop :=
  (∀ (v3 : Int64) (v5 : Int32), v5.toInt ≤ 12 → 0 ≤ v5.toInt → v5.toInt ≤ c248_teams.toInt → 0 + 0 + (12 - v5.toInt) * 300 + 6 ≤ ((k : Nat) : Int) → dz_T ((F263_X11_sumOfFar fu c248_groups c248_teams c310_rows a311 c316_rows a317 k).1 v3 v5) (fun r => True)) ∧ (∀ (v3 : Int64) (v5 : Int32) (v6 : Int32), 1 ≤ c248_teams.toInt → v5.toInt ≤ 11 → 0 ≤ v5.toInt → v6.toInt ≤ 24 → 2 ≤ v6.toInt → v5.toInt + 1 ≤ c248_teams.toInt → 0 + 0 + ((12 - v5.toInt) - 1) * 300 + 0 + (24 - v6.toInt) * 12 + 12 ≤ ((k : Nat) : Int) → dz_T ((F263_X11_sumOfFar fu c248_groups c248_teams c310_rows a311 c316_rows a317 k).2 v3 v5 v6) (fun r => True))
set_option maxHeartbeats 1000000 in
set_option maxRecDepth 10000 in
theorem t263_X11_sumOfFar_h1_s (fu : Nat) (hfu : 1000000000000 ≤ fu) (κ : Nat) (hκ : κ < 14) (c248_groups : Int32) (c248_teams : Int32) (c310_rows : Int64) (a311 : Nat → Int64) (c316_rows : Int64) (a317 : Nat → Int64) (p0 : c248_groups.toInt ≤ 4) (p1 : 2 ≤ c248_groups.toInt) (p2 : c248_teams.toInt ≤ 12) (p3 : 0 ≤ c248_teams.toInt) (o0 : c248_groups.toInt = ((dz_kg κ : Nat) : Int)) (o1 : c248_teams.toInt = ((dz_km κ : Nat) : Int)) (k : Nat) (ih : ∀ j9, j9 < k → p263_X11_sumOfFar_s fu κ c248_groups c248_teams c310_rows a311 c316_rows a317 j9) : ∀ (v3 : Int64) (v5 : Int32), v5.toInt ≤ 12 → 0 ≤ v5.toInt → v5.toInt ≤ c248_teams.toInt → 0 + 0 + (12 - v5.toInt) * 300 + 6 ≤ ((k : Nat) : Int) → dz_T ((F263_X11_sumOfFar fu c248_groups c248_teams c310_rows a311 c316_rows a317 k).1 v3 v5) (fun r => True) := by
  intro v3 v5 i0 i1 i2 hm
  obtain ⟨k0, rfl⟩ : ∃ x, k = x + 1 := ⟨k - 1, by omega⟩
  show dz_T (s263_X11_sumOfFar_1 fu c248_groups c248_teams c310_rows a311 c316_rows a317 (F263_X11_sumOfFar fu c248_groups c248_teams c310_rows a311 c316_rows a317 k0).2  v3 v5) _
  unfold s263_X11_sumOfFar_1
  refine dz_Tle (fun h1 => ?_) (fun h1 => ?_)
  · skip
    exact dz_Ts trivial
  · skip
    refine dz_Tbe (show f255_X3_nextPotAfter fu c248_groups v5 = (Option.bind (f160_X3_potOf fu c248_groups v5) (fun b2 => (some ((b2 + (1 : Int32)) * c248_groups)))) from rfl) ?_
    refine dz_Tba ?_
    refine dz_Tbe (show f160_X3_potOf fu c248_groups v5 = (if (c248_groups ≤ (0 : Int32)) then (some (0 : Int32)) else (if (¬ (c248_groups = (0 : Int32))) then (some (v5 / c248_groups)) else none)) from rfl) ?_
    have e2 := dz_l0
    refine dz_Tleb (fun h3 => ?_) (fun h3 => ?_)
    · skip
      exfalso; omega
    · skip
      refine dz_Tzb (by omega) ?_
      refine dz_Tsb ?_
      refine dz_Tsb ?_
      have e4 := dz_divq (a := v5) (b := c248_groups) 2 11 (by omega) (by omega) (by omega) (by omega)
      have e5 := dz_l1
      have e6 := dz_add (a := (v5 / c248_groups)) (b := (1 : Int32)) (by omega) (by omega)
      have e7 := dz_mulc (a := ((v5 / c248_groups) + (1 : Int32))) (b := c248_groups) 1 6 2 4 (by decide) (by decide) (by omega) (by omega) (by omega) (by omega) (by decide)
      exact (ih k0 (by omega)).2 v3 v5 (((v5 / c248_groups) + (1 : Int32)) * c248_groups) (by first | assumption | omega) (by first | assumption | omega) i1 (by omega) (by omega) (by first | assumption | omega) (by omega)
set_option maxHeartbeats 1000000 in
set_option maxRecDepth 10000 in
theorem t263_X11_sumOfFar_h2_s (fu : Nat) (hfu : 1000000000000 ≤ fu) (κ : Nat) (hκ : κ < 14) (c248_groups : Int32) (c248_teams : Int32) (c310_rows : Int64) (a311 : Nat → Int64) (c316_rows : Int64) (a317 : Nat → Int64) (p0 : c248_groups.toInt ≤ 4) (p1 : 2 ≤ c248_groups.toInt) (p2 : c248_teams.toInt ≤ 12) (p3 : 0 ≤ c248_teams.toInt) (o0 : c248_groups.toInt = ((dz_kg κ : Nat) : Int)) (o1 : c248_teams.toInt = ((dz_km κ : Nat) : Int)) (k : Nat) (ih : ∀ j9, j9 < k → p263_X11_sumOfFar_s fu κ c248_groups c248_teams c310_rows a311 c316_rows a317 j9) : ∀ (v3 : Int64) (v5 : Int32) (v6 : Int32), 1 ≤ c248_teams.toInt → v5.toInt ≤ 11 → 0 ≤ v5.toInt → v6.toInt ≤ 24 → 2 ≤ v6.toInt → v5.toInt + 1 ≤ c248_teams.toInt → 0 + 0 + ((12 - v5.toInt) - 1) * 300 + 0 + (24 - v6.toInt) * 12 + 12 ≤ ((k : Nat) : Int) → dz_T ((F263_X11_sumOfFar fu c248_groups c248_teams c310_rows a311 c316_rows a317 k).2 v3 v5 v6) (fun r => True) := by
  intro v3 v5 v6 i0 i1 i2 i3 i4 i5 hm
  obtain ⟨k0, rfl⟩ : ∃ x, k = x + 1 := ⟨k - 1, by omega⟩
  show dz_T (s263_X11_sumOfFar_2 fu c248_groups c248_teams c310_rows a311 c316_rows a317 (F263_X11_sumOfFar fu c248_groups c248_teams c310_rows a311 c316_rows a317 k0).1 (F263_X11_sumOfFar fu c248_groups c248_teams c310_rows a311 c316_rows a317 k0).2  v3 v5 v6) _
  unfold s263_X11_sumOfFar_2
  refine dz_Tle (fun h1 => ?_) (fun h1 => ?_)
  · skip
    have e2 := dz_l1
    have e3 := dz_add (a := v5) (b := (1 : Int32)) (by omega) (by omega)
    exact (ih k0 (by omega)).1 v3 (v5 + (1 : Int32)) (by omega) (by omega) (by omega) (by omega)
  · skip
    refine dz_Tb (t260_X11_far fu hfu _ _ _ _ _ _ i2 i1 (by first | assumption | omega) (by first | assumption | omega)) (fun r1 _ => ?_)
    have e4 := dz_l1
    have e5 := dz_add (a := v6) (b := (1 : Int32)) (by omega) (by omega)
    exact (ih k0 (by omega)).2 (v3 + (if (0 < r1) then r1 else (-r1))) v5 (v6 + (1 : Int32)) i0 i1 i2 (by omega) (by omega) i5 (by omega)
theorem t263_X11_sumOfFar_I_s (fu : Nat) (hfu : 1000000000000 ≤ fu) (κ : Nat) (hκ : κ < 14) (c248_groups : Int32) (c248_teams : Int32) (c310_rows : Int64) (a311 : Nat → Int64) (c316_rows : Int64) (a317 : Nat → Int64) (p0 : c248_groups.toInt ≤ 4) (p1 : 2 ≤ c248_groups.toInt) (p2 : c248_teams.toInt ≤ 12) (p3 : 0 ≤ c248_teams.toInt) (o0 : c248_groups.toInt = ((dz_kg κ : Nat) : Int)) (o1 : c248_teams.toInt = ((dz_km κ : Nat) : Int)) (k : Nat) : p263_X11_sumOfFar_s fu κ c248_groups c248_teams c310_rows a311 c316_rows a317 k := by
  induction k using Nat.strongRecOn with
  | _ k ih => exact ⟨t263_X11_sumOfFar_h1_s fu hfu κ hκ c248_groups c248_teams c310_rows a311 c316_rows a317 p0 p1 p2 p3 o0 o1 k ih, t263_X11_sumOfFar_h2_s fu hfu κ hκ c248_groups c248_teams c310_rows a311 c316_rows a317 p0 p1 p2 p3 o0 o1 k ih⟩
set_option maxHeartbeats 1000000 in
set_option maxRecDepth 10000 in
theorem t263_X11_sumOfFar_E_s (fu : Nat) (hfu : 1000000000000 ≤ fu) (κ : Nat) (hκ : κ < 14) (c248_groups : Int32) (c248_teams : Int32) (c310_rows : Int64) (a311 : Nat → Int64) (c316_rows : Int64) (a317 : Nat → Int64) (p0 : c248_groups.toInt ≤ 4) (p1 : 2 ≤ c248_groups.toInt) (p2 : c248_teams.toInt ≤ 12) (p3 : 0 ≤ c248_teams.toInt) (o0 : c248_groups.toInt = ((dz_kg κ : Nat) : Int)) (o1 : c248_teams.toInt = ((dz_km κ : Nat) : Int)) (kv : Nat) (hkv : 1000000000000 ≤ kv) : dz_T (s263_X11_sumOfFar_0 fu c248_groups c248_teams c310_rows a311 c316_rows a317 (F263_X11_sumOfFar fu c248_groups c248_teams c310_rows a311 c316_rows a317 kv).1 ) (fun r => True) := by
  unfold s263_X11_sumOfFar_0
  have e1 := dz_l0
  exact (t263_X11_sumOfFar_I_s fu hfu κ hκ c248_groups c248_teams c310_rows a311 c316_rows a317 p0 p1 p2 p3 o0 o1 kv).1 (0 : Int64) (0 : Int32) (by omega) (by omega) (by omega) (by omega)
theorem t263_X11_sumOfFar_s (fu : Nat) (hfu : 1000000000000 ≤ fu) (κ : Nat) (hκ : κ < 14) (c248_groups : Int32) (c248_teams : Int32) (c310_rows : Int64) (a311 : Nat → Int64) (c316_rows : Int64) (a317 : Nat → Int64) (p0 : c248_groups.toInt ≤ 4) (p1 : 2 ≤ c248_groups.toInt) (p2 : c248_teams.toInt ≤ 12) (p3 : 0 ≤ c248_teams.toInt) (o0 : c248_groups.toInt = ((dz_kg κ : Nat) : Int)) (o1 : c248_teams.toInt = ((dz_km κ : Nat) : Int)) : dz_T (f263_X11_sumOfFar fu c248_groups c248_teams c310_rows a311 c316_rows a317) (fun r => True) :=
  t263_X11_sumOfFar_E_s fu hfu κ hκ c248_groups c248_teams c310_rows a311 c316_rows a317 p0 p1 p2 p3 o0 o1 fu hfu
set_option maxHeartbeats 1000000 in
set_option maxRecDepth 10000 in
theorem t264_X11_apart_s (fu : Nat) (hfu : 1000000000000 ≤ fu) (κ : Nat) (hκ : κ < 14) (c248_groups : Int32) (c248_pots : Int32) (c248_teams : Int32) (c261_groups : Int32) (c261_many : Int32) (c261_everyRank : Int32) (a262 : Nat → Int32) (a263 : Nat → Int32) (a264 : Nat → Int32) (c267_total : Int32) (c267_lawfulOnes : Int32) (a268 : Nat → Int32) (a269 : Nat → Int32) (n269 : Nat) (a275 : Nat → Int32) (a276 : Nat → Int32) (v1 : Int32) (v2 : Int32) (v3 : Int32) (c280_fresh : Int32) (a281 : Nat → Int32) (a282 : Nat → Int32) (a283 : Nat → Int32) (c292_firstLevel : Int32) (c292_firstPrefix : Int32) (c292_firstOpen : Int32) (c292_firstLeft : Int32) (a293 : Nat → Int32) (a294 : Nat → Int64) (c295_way : Int32) (a296 : Nat → Int32) (a297 : Nat → Int64) (a298 : Nat → Int32) (a299 : Nat → Int64) (c310_rows : Int64) (c310_fresh : Int32) (a311 : Nat → Int64) (a312 : Nat → Int64) (c316_rows : Int64) (c316_fresh : Int32) (a317 : Nat → Int64) (a318 : Nat → Int64) (c322_rows : Int64) (c322_fresh : Int32) (a323 : Nat → Int64) (a324 : Nat → Int64) (p0 : c248_groups.toInt ≤ 4) (p1 : 2 ≤ c248_groups.toInt) (p2 : c248_pots.toInt ≤ 4) (p3 : 0 ≤ c248_pots.toInt) (p4 : c248_teams.toInt ≤ 12) (p5 : 0 ≤ c248_teams.toInt) (p6 : c261_groups.toInt ≤ 4) (p7 : 0 ≤ c261_groups.toInt) (p8 : c261_many.toInt ≤ 24) (p9 : 0 ≤ c261_many.toInt) (p10 : c261_everyRank.toInt ≤ 16777215) (p11 : 0 ≤ c261_everyRank.toInt) (p12 : c267_total.toInt ≤ 13824) (p13 : 1 ≤ c267_total.toInt) (p14 : c267_lawfulOnes.toInt ≤ 13824) (p15 : 0 ≤ c267_lawfulOnes.toInt) (p16 : ((n269 : Nat) : Int) ≤ 13824) (p17 : 1 ≤ ((n269 : Nat) : Int)) (p18 : c280_fresh.toInt ≤ 1) (p19 : 0 ≤ c280_fresh.toInt) (p20 : c292_firstLevel.toInt ≤ 4) (p21 : 0 ≤ c292_firstLevel.toInt) (p22 : c292_firstPrefix.toInt ≤ 331775) (p23 : 0 ≤ c292_firstPrefix.toInt) (p24 : c292_firstOpen.toInt ≤ 16777215) (p25 : 0 ≤ c292_firstOpen.toInt) (p26 : c292_firstLeft.toInt ≤ 15) (p27 : 0 ≤ c292_firstLeft.toInt) (p28 : c267_total.toInt ≤ ((n269 : Nat) : Int)) (p29 : c267_lawfulOnes.toInt ≤ c267_total.toInt) (hr_a262 : dz_rg a262 96 0 3) (hr_a263 : dz_rq a263 (dz_kr κ) (dz_kg κ) 0 (((dz_kg κ : Nat) : Int) - 1)) (hr_a264 : dz_rg a264 16 0 16777215) (hr_a268 : dz_pt a268 (dz_kS κ)) (hr_a269 : dz_rg a269 n269 0 1023) (hr_a275 : dz_pm a275 (dz_kp κ)) (hr_a276 : dz_rg a276 4 0 3) (hr_a281 : dz_rg a281 601 0 16777215) (hr_a282 : dz_rg a282 5 0 14425) (hr_a283 : (c280_fresh.toInt = 0 ∨ dz_pm a283 (dz_kp κ))) (hr_a296 : dz_rg a296 4 0 3) (o0 : c248_groups.toInt = ((dz_kg κ : Nat) : Int)) (o1 : c248_pots.toInt = ((dz_kp κ : Nat) : Int)) (o2 : c248_teams.toInt = ((dz_km κ : Nat) : Int)) (o3 : c261_groups.toInt = ((dz_kg κ : Nat) : Int)) (o4 : c261_many.toInt = ((dz_kr κ : Nat) : Int)) (o5 : c261_everyRank.toInt = ((dz_ke κ : Nat) : Int)) (o6 : c267_total.toInt = ((dz_kt κ : Nat) : Int)) : dz_T (f264_X11_apart fu c248_groups c248_pots c248_teams c261_groups c261_many c261_everyRank a262 a263 a264 c267_total c267_lawfulOnes a268 a269 n269 a275 a276 v1 v2 v3 c280_fresh a281 a282 a283 c292_firstLevel c292_firstPrefix c292_firstOpen c292_firstLeft a293 a294 c295_way a296 a297 a298 a299 c310_rows c310_fresh a311 a312 c316_rows c316_fresh a317 a318 c322_rows c322_fresh a323 a324) (fun r => r.2.1.toInt ≤ 1 ∧ 0 ≤ r.2.1.toInt ∧ r.2.2.2.2.2.1.toInt ≤ 4 ∧ 0 ≤ r.2.2.2.2.2.1.toInt ∧ r.2.2.2.2.2.2.1.toInt ≤ 331775 ∧ 0 ≤ r.2.2.2.2.2.2.1.toInt ∧ r.2.2.2.2.2.2.2.1.toInt ≤ 16777215 ∧ 0 ≤ r.2.2.2.2.2.2.2.1.toInt ∧ r.2.2.2.2.2.2.2.2.1.toInt ≤ 15 ∧ 0 ≤ r.2.2.2.2.2.2.2.2.1.toInt ∧ dz_rg r.2.2.1 601 0 16777215 ∧ dz_rg r.2.2.2.1 5 0 14425 ∧ dz_rg r.2.2.2.2.2.2.2.2.2.2.2.2.1 4 0 3 ∧ (r.2.1.toInt = 0 ∨ dz_pm r.2.2.2.2.1 (dz_kp κ))) := by
  unfold f264_X11_apart s264_X11_apart_0
  refine dz_Tbe (show f199_X11_isWay fu v1 = (if (v1 < (0 : Int32)) then (some (0 : Int32)) else (if ((3 : Int32) ≤ v1) then (some (0 : Int32)) else (some (1 : Int32)))) from rfl) ?_
  have e1 := dz_l0
  refine dz_Tltb (fun h2 => ?_) (fun h2 => ?_)
  · skip
    refine dz_Tsb ?_
    refine dz_Teq (fun h3 => ?_) (fun h3 => ?_)
    · skip
      unfold d264_X11_apart_1 s264_X11_apart_1
      unfold d264_X11_apart_2 s264_X11_apart_2
      have e4 := dz_l1
      refine dz_Teq (fun h5 => ?_) (fun h5 => ?_)
      · skip
        exfalso; omega
      · skip
        refine dz_Ts ?_
        dsimp only
        exact ⟨p18, p19, p20, p21, p22, p23, p24, p25, p26, p27, (hr_a281), (hr_a282), (hr_a296), hr_a283⟩
    · skip
      exfalso; omega
  · skip
    have e6 := dz_l3
    refine dz_Tleb (fun h7 => ?_) (fun h7 => ?_)
    · skip
      refine dz_Tsb ?_
      refine dz_Teq (fun h8 => ?_) (fun h8 => ?_)
      · skip
        unfold d264_X11_apart_1 s264_X11_apart_1
        unfold d264_X11_apart_2 s264_X11_apart_2
        have e9 := dz_l1
        refine dz_Teq (fun h10 => ?_) (fun h10 => ?_)
        · skip
          exfalso; omega
        · skip
          refine dz_Ts ?_
          dsimp only
          exact ⟨p18, p19, p20, p21, p22, p23, p24, p25, p26, p27, (hr_a281), (hr_a282), (hr_a296), hr_a283⟩
      · skip
        exfalso; omega
    · skip
      refine dz_Tsb ?_
      have e11 := dz_l1
      refine dz_Teq (fun h12 => ?_) (fun h12 => ?_)
      · skip
        exfalso; omega
      · skip
        refine dz_Tbe (show f199_X11_isWay fu v2 = (if (v2 < (0 : Int32)) then (some (0 : Int32)) else (if ((3 : Int32) ≤ v2) then (some (0 : Int32)) else (some (1 : Int32)))) from rfl) ?_
        refine dz_Tltb (fun h13 => ?_) (fun h13 => ?_)
        · skip
          refine dz_Tsb ?_
          refine dz_Teq (fun h14 => ?_) (fun h14 => ?_)
          · skip
            unfold d264_X11_apart_1 s264_X11_apart_1
            unfold d264_X11_apart_2 s264_X11_apart_2
            refine dz_Teq (fun h15 => ?_) (fun h15 => ?_)
            · skip
              exfalso; omega
            · skip
              refine dz_Ts ?_
              dsimp only
              exact ⟨p18, p19, p20, p21, p22, p23, p24, p25, p26, p27, (hr_a281), (hr_a282), (hr_a296), hr_a283⟩
          · skip
            exfalso; omega
        · skip
          refine dz_Tleb (fun h16 => ?_) (fun h16 => ?_)
          · skip
            refine dz_Tsb ?_
            refine dz_Teq (fun h17 => ?_) (fun h17 => ?_)
            · skip
              unfold d264_X11_apart_1 s264_X11_apart_1
              unfold d264_X11_apart_2 s264_X11_apart_2
              refine dz_Teq (fun h18 => ?_) (fun h18 => ?_)
              · skip
                exfalso; omega
              · skip
                refine dz_Ts ?_
                dsimp only
                exact ⟨p18, p19, p20, p21, p22, p23, p24, p25, p26, p27, (hr_a281), (hr_a282), (hr_a296), hr_a283⟩
            · skip
              exfalso; omega
          · skip
            refine dz_Tsb ?_
            refine dz_Teq (fun h19 => ?_) (fun h19 => ?_)
            · skip
              exfalso; omega
            · skip
              refine dz_Teq (fun h20 => ?_) (fun h20 => ?_)
              · skip
                unfold d264_X11_apart_1 s264_X11_apart_1
                unfold d264_X11_apart_2 s264_X11_apart_2
                refine dz_Teq (fun h21 => ?_) (fun h21 => ?_)
                · skip
                  exfalso; omega
                · skip
                  refine dz_Ts ?_
                  dsimp only
                  exact ⟨p18, p19, p20, p21, p22, p23, p24, p25, p26, p27, (hr_a281), (hr_a282), (hr_a296), hr_a283⟩
              · skip
                refine dz_Tlt (fun h22 => ?_) (fun h22 => ?_)
                · skip
                  unfold d264_X11_apart_1 s264_X11_apart_1
                  unfold d264_X11_apart_2 s264_X11_apart_2
                  refine dz_Teq (fun h23 => ?_) (fun h23 => ?_)
                  · skip
                    exfalso; omega
                  · skip
                    refine dz_Ts ?_
                    dsimp only
                    exact ⟨p18, p19, p20, p21, p22, p23, p24, p25, p26, p27, (hr_a281), (hr_a282), (hr_a296), hr_a283⟩
                · skip
                  have e24 := dz_l5
                  refine dz_Tle (fun h25 => ?_) (fun h25 => ?_)
                  · skip
                    unfold d264_X11_apart_2 s264_X11_apart_2
                    refine dz_Teq (fun h26 => ?_) (fun h26 => ?_)
                    · skip
                      refine dz_Teq (fun h27 => ?_) (fun h27 => ?_)
                      · skip
                        refine dz_Ts ?_
                        dsimp only
                        exact ⟨p18, p19, p20, p21, p22, p23, p24, p25, p26, p27, (hr_a281), (hr_a282), (hr_a296), hr_a283⟩
                      · skip
                        refine dz_Tb (t245_X11_chancesAtStart_s fu hfu κ hκ _ _ _ _ _ _ _ _ _ _ _ _ _ _ _ _ _ _ _ _ _ _ _ _ _ _ _ _ _ _ _ _ _ _ _ _ _ _ _ _ _ _ p0 p1 p2 p3 p6 p7 p8 p9 p10 p11 p12 p13 p16 p17 p18 p19 p20 p21 p22 p23 p24 p25 p26 p27 p28 (by first | assumption | omega) (by first | assumption | omega) (hr_a262) (hr_a263) (hr_a264) (hr_a268) (hr_a269) (hr_a275) (hr_a276) (hr_a281) (hr_a282) hr_a283 (hr_a296) o0 o1 o3 o4 o5 o6) (fun r3 q => ?_)
                        obtain ⟨q3_0, q3_1, q3_2, q3_3, q3_4, q3_5, q3_6, q3_7, q3_8, q3_9, q3_10, q3_11, q3_12, qa3_2, qa3_3, qa3_12, qa3_4⟩ := q
                        refine dz_Ti (fun h28 => ?_) (fun h28 => ?_)
                        · skip
                          refine dz_Tb (t245_X11_chancesAtStart_s fu hfu κ hκ _ _ _ _ _ _ _ _ _ _ _ _ _ _ _ _ _ _ _ _ _ _ _ _ _ _ _ _ _ _ _ _ _ _ _ _ _ _ _ _ _ _ p0 p1 p2 p3 p6 p7 p8 p9 p10 p11 p12 p13 p16 p17 q3_1 q3_2 q3_3 q3_4 q3_5 q3_6 q3_7 q3_8 q3_9 q3_10 p28 (by first | assumption | omega) (by first | assumption | omega) (hr_a262) (hr_a263) (hr_a264) (hr_a268) (hr_a269) (hr_a275) (hr_a276) (qa3_2) (qa3_3) qa3_4 (qa3_12) o0 o1 o3 o4 o5 o6) (fun r4 q => ?_)
                          obtain ⟨q4_0, q4_1, q4_2, q4_3, q4_4, q4_5, q4_6, q4_7, q4_8, q4_9, q4_10, q4_11, q4_12, qa4_2, qa4_3, qa4_12, qa4_4⟩ := q
                          refine dz_Ti (fun h29 => ?_) (fun h29 => ?_)
                          · skip
                            refine dz_Tb (t257_X11_farthest_s fu hfu κ hκ _ _ _ _ p0 p1 p4 p5 o0 o2) (fun r5 q => ?_)
                            obtain ⟨q5_0, q5_1⟩ := q
                            refine dz_Teq (fun h30 => ?_) (fun h30 => ?_)
                            · skip
                              refine dz_Tb (t258_X11_sizeOfFarthest_s fu hfu κ hκ _ _ _ _ p0 p1 p4 p5 o0 o2) (fun r6 _ => ?_)
                              refine dz_Ts ?_
                              dsimp only
                              exact ⟨q4_1, q4_2, q4_3, q4_4, q4_5, q4_6, q4_7, q4_8, q4_9, q4_10, (qa4_2), (qa4_3), (qa4_12), qa4_4⟩
                            · skip
                              refine dz_Teq (fun h31 => ?_) (fun h31 => ?_)
                              · skip
                                refine dz_Tb (t259_X11_sumOfFar_s fu hfu κ hκ _ _ _ _ p0 p1 p4 p5 o0 o2) (fun r7 _ => ?_)
                                refine dz_Ts ?_
                                dsimp only
                                exact ⟨q4_1, q4_2, q4_3, q4_4, q4_5, q4_6, q4_7, q4_8, q4_9, q4_10, (qa4_2), (qa4_3), (qa4_12), qa4_4⟩
                              · skip
                                have e32 := dz_l2
                                refine dz_Teq (fun h33 => ?_) (fun h33 => ?_)
                                · skip
                                  have e34 := dz_lm1
                                  refine dz_Teq (fun h35 => ?_) (fun h35 => ?_)
                                  · skip
                                    refine dz_Ts ?_
                                    dsimp only
                                    exact ⟨q4_1, q4_2, q4_3, q4_4, q4_5, q4_6, q4_7, q4_8, q4_9, q4_10, (qa4_2), (qa4_3), (qa4_12), qa4_4⟩
                                  · skip
                                    refine dz_Ts ?_
                                    dsimp only
                                    exact ⟨q4_1, q4_2, q4_3, q4_4, q4_5, q4_6, q4_7, q4_8, q4_9, q4_10, (qa4_2), (qa4_3), (qa4_12), qa4_4⟩
                                · skip
                                  refine dz_Teq (fun h36 => ?_) (fun h36 => ?_)
                                  · skip
                                    have e37 := dz_lm1
                                    refine dz_Teq (fun h38 => ?_) (fun h38 => ?_)
                                    · skip
                                      refine dz_Ts ?_
                                      dsimp only
                                      exact ⟨q4_1, q4_2, q4_3, q4_4, q4_5, q4_6, q4_7, q4_8, q4_9, q4_10, (qa4_2), (qa4_3), (qa4_12), qa4_4⟩
                                    · skip
                                      refine dz_Ts ?_
                                      dsimp only
                                      exact ⟨q4_1, q4_2, q4_3, q4_4, q4_5, q4_6, q4_7, q4_8, q4_9, q4_10, (qa4_2), (qa4_3), (qa4_12), qa4_4⟩
                                  · skip
                                    have e39 := dz_l4
                                    refine dz_Teq (fun h40 => ?_) (fun h40 => ?_)
                                    · skip
                                      have e41 := dz_lm1
                                      refine dz_Teq (fun h42 => ?_) (fun h42 => ?_)
                                      · skip
                                        refine dz_Ts ?_
                                        dsimp only
                                        exact ⟨q4_1, q4_2, q4_3, q4_4, q4_5, q4_6, q4_7, q4_8, q4_9, q4_10, (qa4_2), (qa4_3), (qa4_12), qa4_4⟩
                                      · skip
                                        have e43 := dz_l12
                                        have e44 := dz_divn (a := r5) (b := (12 : Int32)) 12 (by omega) (by omega) (by omega)
                                        have e45 := dz_remn (a := r5) (b := (12 : Int32)) 12 (by omega) (by omega) (by omega)
                                        refine dz_Tb (t256_X11_far fu hfu _ _ _ _ (by omega) (by omega) (by omega) (by omega)) (fun r8 _ => ?_)
                                        refine dz_Ts ?_
                                        dsimp only
                                        exact ⟨q4_1, q4_2, q4_3, q4_4, q4_5, q4_6, q4_7, q4_8, q4_9, q4_10, (qa4_2), (qa4_3), (qa4_12), qa4_4⟩
                                    · skip
                                      refine dz_Ts ?_
                                      dsimp only
                                      exact ⟨q4_1, q4_2, q4_3, q4_4, q4_5, q4_6, q4_7, q4_8, q4_9, q4_10, (qa4_2), (qa4_3), (qa4_12), qa4_4⟩
                          · skip
                            refine dz_Ti (fun h46 => ?_) (fun h46 => ?_)
                            · skip
                              refine dz_Tb (t261_X11_farthest_s fu hfu κ hκ _ _ _ _ _ _ p0 p1 p4 p5 o0 o2) (fun r9 q => ?_)
                              obtain ⟨q9_0, q9_1⟩ := q
                              refine dz_Teq (fun h47 => ?_) (fun h47 => ?_)
                              · skip
                                refine dz_Tb (t262_X11_sizeOfFarthest_s fu hfu κ hκ _ _ _ _ _ _ p0 p1 p4 p5 o0 o2) (fun r10 _ => ?_)
                                refine dz_Ts ?_
                                dsimp only
                                exact ⟨q4_1, q4_2, q4_3, q4_4, q4_5, q4_6, q4_7, q4_8, q4_9, q4_10, (qa4_2), (qa4_3), (qa4_12), qa4_4⟩
                              · skip
                                refine dz_Teq (fun h48 => ?_) (fun h48 => ?_)
                                · skip
                                  refine dz_Tb (t263_X11_sumOfFar_s fu hfu κ hκ _ _ _ _ _ _ p0 p1 p4 p5 o0 o2) (fun r11 _ => ?_)
                                  refine dz_Ts ?_
                                  dsimp only
                                  exact ⟨q4_1, q4_2, q4_3, q4_4, q4_5, q4_6, q4_7, q4_8, q4_9, q4_10, (qa4_2), (qa4_3), (qa4_12), qa4_4⟩
                                · skip
                                  have e49 := dz_l2
                                  refine dz_Teq (fun h50 => ?_) (fun h50 => ?_)
                                  · skip
                                    have e51 := dz_lm1
                                    refine dz_Teq (fun h52 => ?_) (fun h52 => ?_)
                                    · skip
                                      refine dz_Ts ?_
                                      dsimp only
                                      exact ⟨q4_1, q4_2, q4_3, q4_4, q4_5, q4_6, q4_7, q4_8, q4_9, q4_10, (qa4_2), (qa4_3), (qa4_12), qa4_4⟩
                                    · skip
                                      refine dz_Ts ?_
                                      dsimp only
                                      exact ⟨q4_1, q4_2, q4_3, q4_4, q4_5, q4_6, q4_7, q4_8, q4_9, q4_10, (qa4_2), (qa4_3), (qa4_12), qa4_4⟩
                                  · skip
                                    refine dz_Teq (fun h53 => ?_) (fun h53 => ?_)
                                    · skip
                                      have e54 := dz_lm1
                                      refine dz_Teq (fun h55 => ?_) (fun h55 => ?_)
                                      · skip
                                        refine dz_Ts ?_
                                        dsimp only
                                        exact ⟨q4_1, q4_2, q4_3, q4_4, q4_5, q4_6, q4_7, q4_8, q4_9, q4_10, (qa4_2), (qa4_3), (qa4_12), qa4_4⟩
                                      · skip
                                        refine dz_Ts ?_
                                        dsimp only
                                        exact ⟨q4_1, q4_2, q4_3, q4_4, q4_5, q4_6, q4_7, q4_8, q4_9, q4_10, (qa4_2), (qa4_3), (qa4_12), qa4_4⟩
                                    · skip
                                      have e56 := dz_l4
                                      refine dz_Teq (fun h57 => ?_) (fun h57 => ?_)
                                      · skip
                                        have e58 := dz_lm1
                                        refine dz_Teq (fun h59 => ?_) (fun h59 => ?_)
                                        · skip
                                          refine dz_Ts ?_
                                          dsimp only
                                          exact ⟨q4_1, q4_2, q4_3, q4_4, q4_5, q4_6, q4_7, q4_8, q4_9, q4_10, (qa4_2), (qa4_3), (qa4_12), qa4_4⟩
                                        · skip
                                          have e60 := dz_l12
                                          have e61 := dz_divn (a := r9) (b := (12 : Int32)) 12 (by omega) (by omega) (by omega)
                                          have e62 := dz_remn (a := r9) (b := (12 : Int32)) 12 (by omega) (by omega) (by omega)
                                          refine dz_Tb (t260_X11_far fu hfu _ _ _ _ _ _ (by omega) (by omega) (by omega) (by omega)) (fun r12 _ => ?_)
                                          refine dz_Ts ?_
                                          dsimp only
                                          exact ⟨q4_1, q4_2, q4_3, q4_4, q4_5, q4_6, q4_7, q4_8, q4_9, q4_10, (qa4_2), (qa4_3), (qa4_12), qa4_4⟩
                                      · skip
                                        refine dz_Ts ?_
                                        dsimp only
                                        exact ⟨q4_1, q4_2, q4_3, q4_4, q4_5, q4_6, q4_7, q4_8, q4_9, q4_10, (qa4_2), (qa4_3), (qa4_12), qa4_4⟩
                            · skip
                              refine dz_Tg (by omega) ?_
                              refine dz_Tb (t261_X11_farthest_s fu hfu κ hκ _ _ _ _ _ _ p0 p1 p4 p5 o0 o2) (fun r13 q => ?_)
                              obtain ⟨q13_0, q13_1⟩ := q
                              refine dz_Teq (fun h63 => ?_) (fun h63 => ?_)
                              · skip
                                refine dz_Tb (t262_X11_sizeOfFarthest_s fu hfu κ hκ _ _ _ _ _ _ p0 p1 p4 p5 o0 o2) (fun r14 _ => ?_)
                                refine dz_Ts ?_
                                dsimp only
                                exact ⟨q4_1, q4_2, q4_3, q4_4, q4_5, q4_6, q4_7, q4_8, q4_9, q4_10, (qa4_2), (qa4_3), (qa4_12), qa4_4⟩
                              · skip
                                refine dz_Teq (fun h64 => ?_) (fun h64 => ?_)
                                · skip
                                  refine dz_Tb (t263_X11_sumOfFar_s fu hfu κ hκ _ _ _ _ _ _ p0 p1 p4 p5 o0 o2) (fun r15 _ => ?_)
                                  refine dz_Ts ?_
                                  dsimp only
                                  exact ⟨q4_1, q4_2, q4_3, q4_4, q4_5, q4_6, q4_7, q4_8, q4_9, q4_10, (qa4_2), (qa4_3), (qa4_12), qa4_4⟩
                                · skip
                                  have e65 := dz_l2
                                  refine dz_Teq (fun h66 => ?_) (fun h66 => ?_)
                                  · skip
                                    have e67 := dz_lm1
                                    refine dz_Teq (fun h68 => ?_) (fun h68 => ?_)
                                    · skip
                                      refine dz_Ts ?_
                                      dsimp only
                                      exact ⟨q4_1, q4_2, q4_3, q4_4, q4_5, q4_6, q4_7, q4_8, q4_9, q4_10, (qa4_2), (qa4_3), (qa4_12), qa4_4⟩
                                    · skip
                                      refine dz_Ts ?_
                                      dsimp only
                                      exact ⟨q4_1, q4_2, q4_3, q4_4, q4_5, q4_6, q4_7, q4_8, q4_9, q4_10, (qa4_2), (qa4_3), (qa4_12), qa4_4⟩
                                  · skip
                                    refine dz_Teq (fun h69 => ?_) (fun h69 => ?_)
                                    · skip
                                      have e70 := dz_lm1
                                      refine dz_Teq (fun h71 => ?_) (fun h71 => ?_)
                                      · skip
                                        refine dz_Ts ?_
                                        dsimp only
                                        exact ⟨q4_1, q4_2, q4_3, q4_4, q4_5, q4_6, q4_7, q4_8, q4_9, q4_10, (qa4_2), (qa4_3), (qa4_12), qa4_4⟩
                                      · skip
                                        refine dz_Ts ?_
                                        dsimp only
                                        exact ⟨q4_1, q4_2, q4_3, q4_4, q4_5, q4_6, q4_7, q4_8, q4_9, q4_10, (qa4_2), (qa4_3), (qa4_12), qa4_4⟩
                                    · skip
                                      have e72 := dz_l4
                                      refine dz_Teq (fun h73 => ?_) (fun h73 => ?_)
                                      · skip
                                        have e74 := dz_lm1
                                        refine dz_Teq (fun h75 => ?_) (fun h75 => ?_)
                                        · skip
                                          refine dz_Ts ?_
                                          dsimp only
                                          exact ⟨q4_1, q4_2, q4_3, q4_4, q4_5, q4_6, q4_7, q4_8, q4_9, q4_10, (qa4_2), (qa4_3), (qa4_12), qa4_4⟩
                                        · skip
                                          have e76 := dz_l12
                                          have e77 := dz_divn (a := r13) (b := (12 : Int32)) 12 (by omega) (by omega) (by omega)
                                          have e78 := dz_remn (a := r13) (b := (12 : Int32)) 12 (by omega) (by omega) (by omega)
                                          refine dz_Tb (t260_X11_far fu hfu _ _ _ _ _ _ (by omega) (by omega) (by omega) (by omega)) (fun r16 _ => ?_)
                                          refine dz_Ts ?_
                                          dsimp only
                                          exact ⟨q4_1, q4_2, q4_3, q4_4, q4_5, q4_6, q4_7, q4_8, q4_9, q4_10, (qa4_2), (qa4_3), (qa4_12), qa4_4⟩
                                      · skip
                                        refine dz_Ts ?_
                                        dsimp only
                                        exact ⟨q4_1, q4_2, q4_3, q4_4, q4_5, q4_6, q4_7, q4_8, q4_9, q4_10, (qa4_2), (qa4_3), (qa4_12), qa4_4⟩
                        · skip
                          refine dz_Ti (fun h79 => ?_) (fun h79 => ?_)
                          · skip
                            refine dz_Tb (t245_X11_chancesAtStart_s fu hfu κ hκ _ _ _ _ _ _ _ _ _ _ _ _ _ _ _ _ _ _ _ _ _ _ _ _ _ _ _ _ _ _ _ _ _ _ _ _ _ _ _ _ _ _ p0 p1 p2 p3 p6 p7 p8 p9 p10 p11 p12 p13 p16 p17 q3_1 q3_2 q3_3 q3_4 q3_5 q3_6 q3_7 q3_8 q3_9 q3_10 p28 (by first | assumption | omega) (by first | assumption | omega) (hr_a262) (hr_a263) (hr_a264) (hr_a268) (hr_a269) (hr_a275) (hr_a276) (qa3_2) (qa3_3) qa3_4 (qa3_12) o0 o1 o3 o4 o5 o6) (fun r17 q => ?_)
                            obtain ⟨q17_0, q17_1, q17_2, q17_3, q17_4, q17_5, q17_6, q17_7, q17_8, q17_9, q17_10, q17_11, q17_12, qa17_2, qa17_3, qa17_12, qa17_4⟩ := q
                            refine dz_Ti (fun h80 => ?_) (fun h80 => ?_)
                            · skip
                              refine dz_Tb (t261_X11_farthest_s fu hfu κ hκ _ _ _ _ _ _ p0 p1 p4 p5 o0 o2) (fun r18 q => ?_)
                              obtain ⟨q18_0, q18_1⟩ := q
                              refine dz_Teq (fun h81 => ?_) (fun h81 => ?_)
                              · skip
                                refine dz_Tb (t262_X11_sizeOfFarthest_s fu hfu κ hκ _ _ _ _ _ _ p0 p1 p4 p5 o0 o2) (fun r19 _ => ?_)
                                refine dz_Ts ?_
                                dsimp only
                                exact ⟨q17_1, q17_2, q17_3, q17_4, q17_5, q17_6, q17_7, q17_8, q17_9, q17_10, (qa17_2), (qa17_3), (qa17_12), qa17_4⟩
                              · skip
                                refine dz_Teq (fun h82 => ?_) (fun h82 => ?_)
                                · skip
                                  refine dz_Tb (t263_X11_sumOfFar_s fu hfu κ hκ _ _ _ _ _ _ p0 p1 p4 p5 o0 o2) (fun r20 _ => ?_)
                                  refine dz_Ts ?_
                                  dsimp only
                                  exact ⟨q17_1, q17_2, q17_3, q17_4, q17_5, q17_6, q17_7, q17_8, q17_9, q17_10, (qa17_2), (qa17_3), (qa17_12), qa17_4⟩
                                · skip
                                  have e83 := dz_l2
                                  refine dz_Teq (fun h84 => ?_) (fun h84 => ?_)
                                  · skip
                                    have e85 := dz_lm1
                                    refine dz_Teq (fun h86 => ?_) (fun h86 => ?_)
                                    · skip
                                      refine dz_Ts ?_
                                      dsimp only
                                      exact ⟨q17_1, q17_2, q17_3, q17_4, q17_5, q17_6, q17_7, q17_8, q17_9, q17_10, (qa17_2), (qa17_3), (qa17_12), qa17_4⟩
                                    · skip
                                      refine dz_Ts ?_
                                      dsimp only
                                      exact ⟨q17_1, q17_2, q17_3, q17_4, q17_5, q17_6, q17_7, q17_8, q17_9, q17_10, (qa17_2), (qa17_3), (qa17_12), qa17_4⟩
                                  · skip
                                    refine dz_Teq (fun h87 => ?_) (fun h87 => ?_)
                                    · skip
                                      have e88 := dz_lm1
                                      refine dz_Teq (fun h89 => ?_) (fun h89 => ?_)
                                      · skip
                                        refine dz_Ts ?_
                                        dsimp only
                                        exact ⟨q17_1, q17_2, q17_3, q17_4, q17_5, q17_6, q17_7, q17_8, q17_9, q17_10, (qa17_2), (qa17_3), (qa17_12), qa17_4⟩
                                      · skip
                                        refine dz_Ts ?_
                                        dsimp only
                                        exact ⟨q17_1, q17_2, q17_3, q17_4, q17_5, q17_6, q17_7, q17_8, q17_9, q17_10, (qa17_2), (qa17_3), (qa17_12), qa17_4⟩
                                    · skip
                                      have e90 := dz_l4
                                      refine dz_Teq (fun h91 => ?_) (fun h91 => ?_)
                                      · skip
                                        have e92 := dz_lm1
                                        refine dz_Teq (fun h93 => ?_) (fun h93 => ?_)
                                        · skip
                                          refine dz_Ts ?_
                                          dsimp only
                                          exact ⟨q17_1, q17_2, q17_3, q17_4, q17_5, q17_6, q17_7, q17_8, q17_9, q17_10, (qa17_2), (qa17_3), (qa17_12), qa17_4⟩
                                        · skip
                                          have e94 := dz_l12
                                          have e95 := dz_divn (a := r18) (b := (12 : Int32)) 12 (by omega) (by omega) (by omega)
                                          have e96 := dz_remn (a := r18) (b := (12 : Int32)) 12 (by omega) (by omega) (by omega)
                                          refine dz_Tb (t260_X11_far fu hfu _ _ _ _ _ _ (by omega) (by omega) (by omega) (by omega)) (fun r21 _ => ?_)
                                          refine dz_Ts ?_
                                          dsimp only
                                          exact ⟨q17_1, q17_2, q17_3, q17_4, q17_5, q17_6, q17_7, q17_8, q17_9, q17_10, (qa17_2), (qa17_3), (qa17_12), qa17_4⟩
                                      · skip
                                        refine dz_Ts ?_
                                        dsimp only
                                        exact ⟨q17_1, q17_2, q17_3, q17_4, q17_5, q17_6, q17_7, q17_8, q17_9, q17_10, (qa17_2), (qa17_3), (qa17_12), qa17_4⟩
                            · skip
                              refine dz_Ti (fun h97 => ?_) (fun h97 => ?_)
                              · skip
                                refine dz_Tb (t257_X11_farthest_s fu hfu κ hκ _ _ _ _ p0 p1 p4 p5 o0 o2) (fun r22 q => ?_)
                                obtain ⟨q22_0, q22_1⟩ := q
                                refine dz_Teq (fun h98 => ?_) (fun h98 => ?_)
                                · skip
                                  refine dz_Tb (t258_X11_sizeOfFarthest_s fu hfu κ hκ _ _ _ _ p0 p1 p4 p5 o0 o2) (fun r23 _ => ?_)
                                  refine dz_Ts ?_
                                  dsimp only
                                  exact ⟨q17_1, q17_2, q17_3, q17_4, q17_5, q17_6, q17_7, q17_8, q17_9, q17_10, (qa17_2), (qa17_3), (qa17_12), qa17_4⟩
                                · skip
                                  refine dz_Teq (fun h99 => ?_) (fun h99 => ?_)
                                  · skip
                                    refine dz_Tb (t259_X11_sumOfFar_s fu hfu κ hκ _ _ _ _ p0 p1 p4 p5 o0 o2) (fun r24 _ => ?_)
                                    refine dz_Ts ?_
                                    dsimp only
                                    exact ⟨q17_1, q17_2, q17_3, q17_4, q17_5, q17_6, q17_7, q17_8, q17_9, q17_10, (qa17_2), (qa17_3), (qa17_12), qa17_4⟩
                                  · skip
                                    have e100 := dz_l2
                                    refine dz_Teq (fun h101 => ?_) (fun h101 => ?_)
                                    · skip
                                      have e102 := dz_lm1
                                      refine dz_Teq (fun h103 => ?_) (fun h103 => ?_)
                                      · skip
                                        refine dz_Ts ?_
                                        dsimp only
                                        exact ⟨q17_1, q17_2, q17_3, q17_4, q17_5, q17_6, q17_7, q17_8, q17_9, q17_10, (qa17_2), (qa17_3), (qa17_12), qa17_4⟩
                                      · skip
                                        refine dz_Ts ?_
                                        dsimp only
                                        exact ⟨q17_1, q17_2, q17_3, q17_4, q17_5, q17_6, q17_7, q17_8, q17_9, q17_10, (qa17_2), (qa17_3), (qa17_12), qa17_4⟩
                                    · skip
                                      refine dz_Teq (fun h104 => ?_) (fun h104 => ?_)
                                      · skip
                                        have e105 := dz_lm1
                                        refine dz_Teq (fun h106 => ?_) (fun h106 => ?_)
                                        · skip
                                          refine dz_Ts ?_
                                          dsimp only
                                          exact ⟨q17_1, q17_2, q17_3, q17_4, q17_5, q17_6, q17_7, q17_8, q17_9, q17_10, (qa17_2), (qa17_3), (qa17_12), qa17_4⟩
                                        · skip
                                          refine dz_Ts ?_
                                          dsimp only
                                          exact ⟨q17_1, q17_2, q17_3, q17_4, q17_5, q17_6, q17_7, q17_8, q17_9, q17_10, (qa17_2), (qa17_3), (qa17_12), qa17_4⟩
                                      · skip
                                        have e107 := dz_l4
                                        refine dz_Teq (fun h108 => ?_) (fun h108 => ?_)
                                        · skip
                                          have e109 := dz_lm1
                                          refine dz_Teq (fun h110 => ?_) (fun h110 => ?_)
                                          · skip
                                            refine dz_Ts ?_
                                            dsimp only
                                            exact ⟨q17_1, q17_2, q17_3, q17_4, q17_5, q17_6, q17_7, q17_8, q17_9, q17_10, (qa17_2), (qa17_3), (qa17_12), qa17_4⟩
                                          · skip
                                            have e111 := dz_l12
                                            have e112 := dz_divn (a := r22) (b := (12 : Int32)) 12 (by omega) (by omega) (by omega)
                                            have e113 := dz_remn (a := r22) (b := (12 : Int32)) 12 (by omega) (by omega) (by omega)
                                            refine dz_Tb (t256_X11_far fu hfu _ _ _ _ (by omega) (by omega) (by omega) (by omega)) (fun r25 _ => ?_)
                                            refine dz_Ts ?_
                                            dsimp only
                                            exact ⟨q17_1, q17_2, q17_3, q17_4, q17_5, q17_6, q17_7, q17_8, q17_9, q17_10, (qa17_2), (qa17_3), (qa17_12), qa17_4⟩
                                        · skip
                                          refine dz_Ts ?_
                                          dsimp only
                                          exact ⟨q17_1, q17_2, q17_3, q17_4, q17_5, q17_6, q17_7, q17_8, q17_9, q17_10, (qa17_2), (qa17_3), (qa17_12), qa17_4⟩
                              · skip
                                refine dz_Tg (by omega) ?_
                                refine dz_Tb (t261_X11_farthest_s fu hfu κ hκ _ _ _ _ _ _ p0 p1 p4 p5 o0 o2) (fun r26 q => ?_)
                                obtain ⟨q26_0, q26_1⟩ := q
                                refine dz_Teq (fun h114 => ?_) (fun h114 => ?_)
                                · skip
                                  refine dz_Tb (t262_X11_sizeOfFarthest_s fu hfu κ hκ _ _ _ _ _ _ p0 p1 p4 p5 o0 o2) (fun r27 _ => ?_)
                                  refine dz_Ts ?_
                                  dsimp only
                                  exact ⟨q17_1, q17_2, q17_3, q17_4, q17_5, q17_6, q17_7, q17_8, q17_9, q17_10, (qa17_2), (qa17_3), (qa17_12), qa17_4⟩
                                · skip
                                  refine dz_Teq (fun h115 => ?_) (fun h115 => ?_)
                                  · skip
                                    refine dz_Tb (t263_X11_sumOfFar_s fu hfu κ hκ _ _ _ _ _ _ p0 p1 p4 p5 o0 o2) (fun r28 _ => ?_)
                                    refine dz_Ts ?_
                                    dsimp only
                                    exact ⟨q17_1, q17_2, q17_3, q17_4, q17_5, q17_6, q17_7, q17_8, q17_9, q17_10, (qa17_2), (qa17_3), (qa17_12), qa17_4⟩
                                  · skip
                                    have e116 := dz_l2
                                    refine dz_Teq (fun h117 => ?_) (fun h117 => ?_)
                                    · skip
                                      have e118 := dz_lm1
                                      refine dz_Teq (fun h119 => ?_) (fun h119 => ?_)
                                      · skip
                                        refine dz_Ts ?_
                                        dsimp only
                                        exact ⟨q17_1, q17_2, q17_3, q17_4, q17_5, q17_6, q17_7, q17_8, q17_9, q17_10, (qa17_2), (qa17_3), (qa17_12), qa17_4⟩
                                      · skip
                                        refine dz_Ts ?_
                                        dsimp only
                                        exact ⟨q17_1, q17_2, q17_3, q17_4, q17_5, q17_6, q17_7, q17_8, q17_9, q17_10, (qa17_2), (qa17_3), (qa17_12), qa17_4⟩
                                    · skip
                                      refine dz_Teq (fun h120 => ?_) (fun h120 => ?_)
                                      · skip
                                        have e121 := dz_lm1
                                        refine dz_Teq (fun h122 => ?_) (fun h122 => ?_)
                                        · skip
                                          refine dz_Ts ?_
                                          dsimp only
                                          exact ⟨q17_1, q17_2, q17_3, q17_4, q17_5, q17_6, q17_7, q17_8, q17_9, q17_10, (qa17_2), (qa17_3), (qa17_12), qa17_4⟩
                                        · skip
                                          refine dz_Ts ?_
                                          dsimp only
                                          exact ⟨q17_1, q17_2, q17_3, q17_4, q17_5, q17_6, q17_7, q17_8, q17_9, q17_10, (qa17_2), (qa17_3), (qa17_12), qa17_4⟩
                                      · skip
                                        have e123 := dz_l4
                                        refine dz_Teq (fun h124 => ?_) (fun h124 => ?_)
                                        · skip
                                          have e125 := dz_lm1
                                          refine dz_Teq (fun h126 => ?_) (fun h126 => ?_)
                                          · skip
                                            refine dz_Ts ?_
                                            dsimp only
                                            exact ⟨q17_1, q17_2, q17_3, q17_4, q17_5, q17_6, q17_7, q17_8, q17_9, q17_10, (qa17_2), (qa17_3), (qa17_12), qa17_4⟩
                                          · skip
                                            have e127 := dz_l12
                                            have e128 := dz_divn (a := r26) (b := (12 : Int32)) 12 (by omega) (by omega) (by omega)
                                            have e129 := dz_remn (a := r26) (b := (12 : Int32)) 12 (by omega) (by omega) (by omega)
                                            refine dz_Tb (t260_X11_far fu hfu _ _ _ _ _ _ (by omega) (by omega) (by omega) (by omega)) (fun r29 _ => ?_)
                                            refine dz_Ts ?_
                                            dsimp only
                                            exact ⟨q17_1, q17_2, q17_3, q17_4, q17_5, q17_6, q17_7, q17_8, q17_9, q17_10, (qa17_2), (qa17_3), (qa17_12), qa17_4⟩
                                        · skip
                                          refine dz_Ts ?_
                                          dsimp only
                                          exact ⟨q17_1, q17_2, q17_3, q17_4, q17_5, q17_6, q17_7, q17_8, q17_9, q17_10, (qa17_2), (qa17_3), (qa17_12), qa17_4⟩
                          · skip
                            refine dz_Tg (by omega) ?_
                            refine dz_Tb (t245_X11_chancesAtStart_s fu hfu κ hκ _ _ _ _ _ _ _ _ _ _ _ _ _ _ _ _ _ _ _ _ _ _ _ _ _ _ _ _ _ _ _ _ _ _ _ _ _ _ _ _ _ _ p0 p1 p2 p3 p6 p7 p8 p9 p10 p11 p12 p13 p16 p17 q3_1 q3_2 q3_3 q3_4 q3_5 q3_6 q3_7 q3_8 q3_9 q3_10 p28 (by first | assumption | omega) (by first | assumption | omega) (hr_a262) (hr_a263) (hr_a264) (hr_a268) (hr_a269) (hr_a275) (hr_a276) (qa3_2) (qa3_3) qa3_4 (qa3_12) o0 o1 o3 o4 o5 o6) (fun r30 q => ?_)
                            obtain ⟨q30_0, q30_1, q30_2, q30_3, q30_4, q30_5, q30_6, q30_7, q30_8, q30_9, q30_10, q30_11, q30_12, qa30_2, qa30_3, qa30_12, qa30_4⟩ := q
                            refine dz_Ti (fun h130 => ?_) (fun h130 => ?_)
                            · skip
                              refine dz_Tb (t261_X11_farthest_s fu hfu κ hκ _ _ _ _ _ _ p0 p1 p4 p5 o0 o2) (fun r31 q => ?_)
                              obtain ⟨q31_0, q31_1⟩ := q
                              refine dz_Teq (fun h131 => ?_) (fun h131 => ?_)
                              · skip
                                refine dz_Tb (t262_X11_sizeOfFarthest_s fu hfu κ hκ _ _ _ _ _ _ p0 p1 p4 p5 o0 o2) (fun r32 _ => ?_)
                                refine dz_Ts ?_
                                dsimp only
                                exact ⟨q30_1, q30_2, q30_3, q30_4, q30_5, q30_6, q30_7, q30_8, q30_9, q30_10, (qa30_2), (qa30_3), (qa30_12), qa30_4⟩
                              · skip
                                refine dz_Teq (fun h132 => ?_) (fun h132 => ?_)
                                · skip
                                  refine dz_Tb (t263_X11_sumOfFar_s fu hfu κ hκ _ _ _ _ _ _ p0 p1 p4 p5 o0 o2) (fun r33 _ => ?_)
                                  refine dz_Ts ?_
                                  dsimp only
                                  exact ⟨q30_1, q30_2, q30_3, q30_4, q30_5, q30_6, q30_7, q30_8, q30_9, q30_10, (qa30_2), (qa30_3), (qa30_12), qa30_4⟩
                                · skip
                                  have e133 := dz_l2
                                  refine dz_Teq (fun h134 => ?_) (fun h134 => ?_)
                                  · skip
                                    have e135 := dz_lm1
                                    refine dz_Teq (fun h136 => ?_) (fun h136 => ?_)
                                    · skip
                                      refine dz_Ts ?_
                                      dsimp only
                                      exact ⟨q30_1, q30_2, q30_3, q30_4, q30_5, q30_6, q30_7, q30_8, q30_9, q30_10, (qa30_2), (qa30_3), (qa30_12), qa30_4⟩
                                    · skip
                                      refine dz_Ts ?_
                                      dsimp only
                                      exact ⟨q30_1, q30_2, q30_3, q30_4, q30_5, q30_6, q30_7, q30_8, q30_9, q30_10, (qa30_2), (qa30_3), (qa30_12), qa30_4⟩
                                  · skip
                                    refine dz_Teq (fun h137 => ?_) (fun h137 => ?_)
                                    · skip
                                      have e138 := dz_lm1
                                      refine dz_Teq (fun h139 => ?_) (fun h139 => ?_)
                                      · skip
                                        refine dz_Ts ?_
                                        dsimp only
                                        exact ⟨q30_1, q30_2, q30_3, q30_4, q30_5, q30_6, q30_7, q30_8, q30_9, q30_10, (qa30_2), (qa30_3), (qa30_12), qa30_4⟩
                                      · skip
                                        refine dz_Ts ?_
                                        dsimp only
                                        exact ⟨q30_1, q30_2, q30_3, q30_4, q30_5, q30_6, q30_7, q30_8, q30_9, q30_10, (qa30_2), (qa30_3), (qa30_12), qa30_4⟩
                                    · skip
                                      have e140 := dz_l4
                                      refine dz_Teq (fun h141 => ?_) (fun h141 => ?_)
                                      · skip
                                        have e142 := dz_lm1
                                        refine dz_Teq (fun h143 => ?_) (fun h143 => ?_)
                                        · skip
                                          refine dz_Ts ?_
                                          dsimp only
                                          exact ⟨q30_1, q30_2, q30_3, q30_4, q30_5, q30_6, q30_7, q30_8, q30_9, q30_10, (qa30_2), (qa30_3), (qa30_12), qa30_4⟩
                                        · skip
                                          have e144 := dz_l12
                                          have e145 := dz_divn (a := r31) (b := (12 : Int32)) 12 (by omega) (by omega) (by omega)
                                          have e146 := dz_remn (a := r31) (b := (12 : Int32)) 12 (by omega) (by omega) (by omega)
                                          refine dz_Tb (t260_X11_far fu hfu _ _ _ _ _ _ (by omega) (by omega) (by omega) (by omega)) (fun r34 _ => ?_)
                                          refine dz_Ts ?_
                                          dsimp only
                                          exact ⟨q30_1, q30_2, q30_3, q30_4, q30_5, q30_6, q30_7, q30_8, q30_9, q30_10, (qa30_2), (qa30_3), (qa30_12), qa30_4⟩
                                      · skip
                                        refine dz_Ts ?_
                                        dsimp only
                                        exact ⟨q30_1, q30_2, q30_3, q30_4, q30_5, q30_6, q30_7, q30_8, q30_9, q30_10, (qa30_2), (qa30_3), (qa30_12), qa30_4⟩
                            · skip
                              refine dz_Ti (fun h147 => ?_) (fun h147 => ?_)
                              · skip
                                refine dz_Tb (t261_X11_farthest_s fu hfu κ hκ _ _ _ _ _ _ p0 p1 p4 p5 o0 o2) (fun r35 q => ?_)
                                obtain ⟨q35_0, q35_1⟩ := q
                                refine dz_Teq (fun h148 => ?_) (fun h148 => ?_)
                                · skip
                                  refine dz_Tb (t262_X11_sizeOfFarthest_s fu hfu κ hκ _ _ _ _ _ _ p0 p1 p4 p5 o0 o2) (fun r36 _ => ?_)
                                  refine dz_Ts ?_
                                  dsimp only
                                  exact ⟨q30_1, q30_2, q30_3, q30_4, q30_5, q30_6, q30_7, q30_8, q30_9, q30_10, (qa30_2), (qa30_3), (qa30_12), qa30_4⟩
                                · skip
                                  refine dz_Teq (fun h149 => ?_) (fun h149 => ?_)
                                  · skip
                                    refine dz_Tb (t263_X11_sumOfFar_s fu hfu κ hκ _ _ _ _ _ _ p0 p1 p4 p5 o0 o2) (fun r37 _ => ?_)
                                    refine dz_Ts ?_
                                    dsimp only
                                    exact ⟨q30_1, q30_2, q30_3, q30_4, q30_5, q30_6, q30_7, q30_8, q30_9, q30_10, (qa30_2), (qa30_3), (qa30_12), qa30_4⟩
                                  · skip
                                    have e150 := dz_l2
                                    refine dz_Teq (fun h151 => ?_) (fun h151 => ?_)
                                    · skip
                                      have e152 := dz_lm1
                                      refine dz_Teq (fun h153 => ?_) (fun h153 => ?_)
                                      · skip
                                        refine dz_Ts ?_
                                        dsimp only
                                        exact ⟨q30_1, q30_2, q30_3, q30_4, q30_5, q30_6, q30_7, q30_8, q30_9, q30_10, (qa30_2), (qa30_3), (qa30_12), qa30_4⟩
                                      · skip
                                        refine dz_Ts ?_
                                        dsimp only
                                        exact ⟨q30_1, q30_2, q30_3, q30_4, q30_5, q30_6, q30_7, q30_8, q30_9, q30_10, (qa30_2), (qa30_3), (qa30_12), qa30_4⟩
                                    · skip
                                      refine dz_Teq (fun h154 => ?_) (fun h154 => ?_)
                                      · skip
                                        have e155 := dz_lm1
                                        refine dz_Teq (fun h156 => ?_) (fun h156 => ?_)
                                        · skip
                                          refine dz_Ts ?_
                                          dsimp only
                                          exact ⟨q30_1, q30_2, q30_3, q30_4, q30_5, q30_6, q30_7, q30_8, q30_9, q30_10, (qa30_2), (qa30_3), (qa30_12), qa30_4⟩
                                        · skip
                                          refine dz_Ts ?_
                                          dsimp only
                                          exact ⟨q30_1, q30_2, q30_3, q30_4, q30_5, q30_6, q30_7, q30_8, q30_9, q30_10, (qa30_2), (qa30_3), (qa30_12), qa30_4⟩
                                      · skip
                                        have e157 := dz_l4
                                        refine dz_Teq (fun h158 => ?_) (fun h158 => ?_)
                                        · skip
                                          have e159 := dz_lm1
                                          refine dz_Teq (fun h160 => ?_) (fun h160 => ?_)
                                          · skip
                                            refine dz_Ts ?_
                                            dsimp only
                                            exact ⟨q30_1, q30_2, q30_3, q30_4, q30_5, q30_6, q30_7, q30_8, q30_9, q30_10, (qa30_2), (qa30_3), (qa30_12), qa30_4⟩
                                          · skip
                                            have e161 := dz_l12
                                            have e162 := dz_divn (a := r35) (b := (12 : Int32)) 12 (by omega) (by omega) (by omega)
                                            have e163 := dz_remn (a := r35) (b := (12 : Int32)) 12 (by omega) (by omega) (by omega)
                                            refine dz_Tb (t260_X11_far fu hfu _ _ _ _ _ _ (by omega) (by omega) (by omega) (by omega)) (fun r38 _ => ?_)
                                            refine dz_Ts ?_
                                            dsimp only
                                            exact ⟨q30_1, q30_2, q30_3, q30_4, q30_5, q30_6, q30_7, q30_8, q30_9, q30_10, (qa30_2), (qa30_3), (qa30_12), qa30_4⟩
                                        · skip
                                          refine dz_Ts ?_
                                          dsimp only
                                          exact ⟨q30_1, q30_2, q30_3, q30_4, q30_5, q30_6, q30_7, q30_8, q30_9, q30_10, (qa30_2), (qa30_3), (qa30_12), qa30_4⟩
                              · skip
                                refine dz_Tg (by omega) ?_
                                refine dz_Tb (t257_X11_farthest_s fu hfu κ hκ _ _ _ _ p0 p1 p4 p5 o0 o2) (fun r39 q => ?_)
                                obtain ⟨q39_0, q39_1⟩ := q
                                refine dz_Teq (fun h164 => ?_) (fun h164 => ?_)
                                · skip
                                  refine dz_Tb (t258_X11_sizeOfFarthest_s fu hfu κ hκ _ _ _ _ p0 p1 p4 p5 o0 o2) (fun r40 _ => ?_)
                                  refine dz_Ts ?_
                                  dsimp only
                                  exact ⟨q30_1, q30_2, q30_3, q30_4, q30_5, q30_6, q30_7, q30_8, q30_9, q30_10, (qa30_2), (qa30_3), (qa30_12), qa30_4⟩
                                · skip
                                  refine dz_Teq (fun h165 => ?_) (fun h165 => ?_)
                                  · skip
                                    refine dz_Tb (t259_X11_sumOfFar_s fu hfu κ hκ _ _ _ _ p0 p1 p4 p5 o0 o2) (fun r41 _ => ?_)
                                    refine dz_Ts ?_
                                    dsimp only
                                    exact ⟨q30_1, q30_2, q30_3, q30_4, q30_5, q30_6, q30_7, q30_8, q30_9, q30_10, (qa30_2), (qa30_3), (qa30_12), qa30_4⟩
                                  · skip
                                    have e166 := dz_l2
                                    refine dz_Teq (fun h167 => ?_) (fun h167 => ?_)
                                    · skip
                                      have e168 := dz_lm1
                                      refine dz_Teq (fun h169 => ?_) (fun h169 => ?_)
                                      · skip
                                        refine dz_Ts ?_
                                        dsimp only
                                        exact ⟨q30_1, q30_2, q30_3, q30_4, q30_5, q30_6, q30_7, q30_8, q30_9, q30_10, (qa30_2), (qa30_3), (qa30_12), qa30_4⟩
                                      · skip
                                        refine dz_Ts ?_
                                        dsimp only
                                        exact ⟨q30_1, q30_2, q30_3, q30_4, q30_5, q30_6, q30_7, q30_8, q30_9, q30_10, (qa30_2), (qa30_3), (qa30_12), qa30_4⟩
                                    · skip
                                      refine dz_Teq (fun h170 => ?_) (fun h170 => ?_)
                                      · skip
                                        have e171 := dz_lm1
                                        refine dz_Teq (fun h172 => ?_) (fun h172 => ?_)
                                        · skip
                                          refine dz_Ts ?_
                                          dsimp only
                                          exact ⟨q30_1, q30_2, q30_3, q30_4, q30_5, q30_6, q30_7, q30_8, q30_9, q30_10, (qa30_2), (qa30_3), (qa30_12), qa30_4⟩
                                        · skip
                                          refine dz_Ts ?_
                                          dsimp only
                                          exact ⟨q30_1, q30_2, q30_3, q30_4, q30_5, q30_6, q30_7, q30_8, q30_9, q30_10, (qa30_2), (qa30_3), (qa30_12), qa30_4⟩
                                      · skip
                                        have e173 := dz_l4
                                        refine dz_Teq (fun h174 => ?_) (fun h174 => ?_)
                                        · skip
                                          have e175 := dz_lm1
                                          refine dz_Teq (fun h176 => ?_) (fun h176 => ?_)
                                          · skip
                                            refine dz_Ts ?_
                                            dsimp only
                                            exact ⟨q30_1, q30_2, q30_3, q30_4, q30_5, q30_6, q30_7, q30_8, q30_9, q30_10, (qa30_2), (qa30_3), (qa30_12), qa30_4⟩
                                          · skip
                                            have e177 := dz_l12
                                            have e178 := dz_divn (a := r39) (b := (12 : Int32)) 12 (by omega) (by omega) (by omega)
                                            have e179 := dz_remn (a := r39) (b := (12 : Int32)) 12 (by omega) (by omega) (by omega)
                                            refine dz_Tb (t256_X11_far fu hfu _ _ _ _ (by omega) (by omega) (by omega) (by omega)) (fun r42 _ => ?_)
                                            refine dz_Ts ?_
                                            dsimp only
                                            exact ⟨q30_1, q30_2, q30_3, q30_4, q30_5, q30_6, q30_7, q30_8, q30_9, q30_10, (qa30_2), (qa30_3), (qa30_12), qa30_4⟩
                                        · skip
                                          refine dz_Ts ?_
                                          dsimp only
                                          exact ⟨q30_1, q30_2, q30_3, q30_4, q30_5, q30_6, q30_7, q30_8, q30_9, q30_10, (qa30_2), (qa30_3), (qa30_12), qa30_4⟩
                    · skip
                      exfalso; omega
                  · skip
                    unfold d264_X11_apart_1 s264_X11_apart_1
                    unfold d264_X11_apart_2 s264_X11_apart_2
                    refine dz_Teq (fun h180 => ?_) (fun h180 => ?_)
                    · skip
                      exfalso; omega
                    · skip
                      refine dz_Ts ?_
                      dsimp only
                      exact ⟨p18, p19, p20, p21, p22, p23, p24, p25, p26, p27, (hr_a281), (hr_a282), (hr_a296), hr_a283⟩
abbrev p266_X11_likeAnEarlierOne_s (fu : Nat) (κ : Nat) (c248_groups : Int32) (c248_groupsNamed : Int32) (a900000 : Nat → Int32) (k : Nat) : Prop :=
  (∀ (v2 : Int32) (v3 : Int32), (-1) ≤ v2.toInt → v3.toInt ≤ 4 → 0 ≤ v3.toInt → v3.toInt ≤ c248_groups.toInt → 0 + 0 + (4 - v3.toInt) * 12 + 6 ≤ ((k : Nat) : Int) → dz_T ((F266_X11_likeAnEarlierOne fu c248_groups c248_groupsNamed a900000 k).1 v2 v3) (fun r => r.toInt ≤ 1 ∧ 0 ≤ r.toInt))
set_option maxHeartbeats 1000000 in
set_option maxRecDepth 10000 in
theorem t266_X11_likeAnEarlierOne_h1_s (fu : Nat) (hfu : 1000000000000 ≤ fu) (κ : Nat) (hκ : κ < 14) (c248_groups : Int32) (c248_groupsNamed : Int32) (a900000 : Nat → Int32) (p0 : c248_groups.toInt ≤ 4) (p1 : 2 ≤ c248_groups.toInt) (o0 : c248_groups.toInt = ((dz_kg κ : Nat) : Int)) (k : Nat) (ih : ∀ j9, j9 < k → p266_X11_likeAnEarlierOne_s fu κ c248_groups c248_groupsNamed a900000 j9) : ∀ (v2 : Int32) (v3 : Int32), (-1) ≤ v2.toInt → v3.toInt ≤ 4 → 0 ≤ v3.toInt → v3.toInt ≤ c248_groups.toInt → 0 + 0 + (4 - v3.toInt) * 12 + 6 ≤ ((k : Nat) : Int) → dz_T ((F266_X11_likeAnEarlierOne fu c248_groups c248_groupsNamed a900000 k).1 v2 v3) (fun r => r.toInt ≤ 1 ∧ 0 ≤ r.toInt) := by
  intro v2 v3 i0 i1 i2 i3 hm
  obtain ⟨k0, rfl⟩ : ∃ x, k = x + 1 := ⟨k - 1, by omega⟩
  show dz_T (s266_X11_likeAnEarlierOne_1 fu c248_groups c248_groupsNamed a900000 (F266_X11_likeAnEarlierOne fu c248_groups c248_groupsNamed a900000 k0).2  v2 v3) _
  unfold s266_X11_likeAnEarlierOne_1
  refine dz_Tle (fun h1 => ?_) (fun h1 => ?_)
  · skip
    have e2 := dz_l0
    exact dz_Ts ⟨(by omega), (by omega)⟩
  · skip
    refine dz_Tin (by omega) (by omega) ?_
    refine dz_Tbe (show f265_X3_isGroupNamed fu c248_groupsNamed (a900000 v3.toNatClampNeg) = (if (((dz_ush c248_groupsNamed (a900000 v3.toNatClampNeg)) &&& (1 : Int32)) = (0 : Int32)) then (some (0 : Int32)) else (some (1 : Int32))) from rfl) ?_
    have e3 := dz_l1
    have e4 := dz_andr (a := (dz_ush c248_groupsNamed (a900000 v3.toNatClampNeg))) (b := (1 : Int32)) (by omega)
    have e5 := dz_l0
    refine dz_Teqb (fun h6 => ?_) (fun h6 => ?_)
    · skip
      refine dz_Tsb ?_
      refine dz_Teq (fun h7 => ?_) (fun h7 => ?_)
      · skip
        refine dz_Tin (by omega) (by omega) ?_
        refine dz_Tle (fun h8 => ?_) (fun h8 => ?_)
        · skip
          refine dz_Tin (by omega) (by omega) ?_
          obtain ⟨k1, rfl⟩ : ∃ x, k0 = x + 1 := ⟨k0 - 1, by omega⟩
          show dz_T (s266_X11_likeAnEarlierOne_2 fu c248_groups c248_groupsNamed a900000 (F266_X11_likeAnEarlierOne fu c248_groups c248_groupsNamed a900000 k1).1 (a900000 v3.toNatClampNeg) v3) _
          unfold s266_X11_likeAnEarlierOne_2
          have e9 := dz_add (a := v3) (b := (1 : Int32)) (by omega) (by omega)
          exact (ih k1 (by omega)) (a900000 v3.toNatClampNeg) (v3 + (1 : Int32)) (by omega) (by omega) (by omega) (by omega) (by omega)
        · skip
          exact dz_Ts ⟨(by omega), (by omega)⟩
      · skip
        exfalso; omega
    · skip
      refine dz_Tsb ?_
      refine dz_Teq (fun h10 => ?_) (fun h10 => ?_)
      · skip
        exfalso; omega
      · skip
        obtain ⟨k2, rfl⟩ : ∃ x, k0 = x + 1 := ⟨k0 - 1, by omega⟩
        show dz_T (s266_X11_likeAnEarlierOne_2 fu c248_groups c248_groupsNamed a900000 (F266_X11_likeAnEarlierOne fu c248_groups c248_groupsNamed a900000 k2).1 v2 v3) _
        unfold s266_X11_likeAnEarlierOne_2
        have e11 := dz_add (a := v3) (b := (1 : Int32)) (by omega) (by omega)
        exact (ih k2 (by omega)) v2 (v3 + (1 : Int32)) i0 (by omega) (by omega) (by omega) (by omega)
theorem t266_X11_likeAnEarlierOne_I_s (fu : Nat) (hfu : 1000000000000 ≤ fu) (κ : Nat) (hκ : κ < 14) (c248_groups : Int32) (c248_groupsNamed : Int32) (a900000 : Nat → Int32) (p0 : c248_groups.toInt ≤ 4) (p1 : 2 ≤ c248_groups.toInt) (o0 : c248_groups.toInt = ((dz_kg κ : Nat) : Int)) (k : Nat) : p266_X11_likeAnEarlierOne_s fu κ c248_groups c248_groupsNamed a900000 k := by
  induction k using Nat.strongRecOn with
  | _ k ih => exact t266_X11_likeAnEarlierOne_h1_s fu hfu κ hκ c248_groups c248_groupsNamed a900000 p0 p1 o0 k ih
set_option maxHeartbeats 1000000 in
set_option maxRecDepth 10000 in
theorem t266_X11_likeAnEarlierOne_E_s (fu : Nat) (hfu : 1000000000000 ≤ fu) (κ : Nat) (hκ : κ < 14) (c248_groups : Int32) (c248_groupsNamed : Int32) (a900000 : Nat → Int32) (p0 : c248_groups.toInt ≤ 4) (p1 : 2 ≤ c248_groups.toInt) (o0 : c248_groups.toInt = ((dz_kg κ : Nat) : Int)) (kv : Nat) (hkv : 1000000000000 ≤ kv) : dz_T (s266_X11_likeAnEarlierOne_0 fu c248_groups c248_groupsNamed a900000 (F266_X11_likeAnEarlierOne fu c248_groups c248_groupsNamed a900000 kv).1 ) (fun r => r.toInt ≤ 1 ∧ 0 ≤ r.toInt) := by
  unfold s266_X11_likeAnEarlierOne_0
  have e1 := dz_lm1
  have e2 := dz_l0
  exact (t266_X11_likeAnEarlierOne_I_s fu hfu κ hκ c248_groups c248_groupsNamed a900000 p0 p1 o0 kv) (-(1 : Int32)) (0 : Int32) (by omega) (by omega) (by omega) (by omega) (by omega)
theorem t266_X11_likeAnEarlierOne_s (fu : Nat) (hfu : 1000000000000 ≤ fu) (κ : Nat) (hκ : κ < 14) (c248_groups : Int32) (c248_groupsNamed : Int32) (a900000 : Nat → Int32) (p0 : c248_groups.toInt ≤ 4) (p1 : 2 ≤ c248_groups.toInt) (o0 : c248_groups.toInt = ((dz_kg κ : Nat) : Int)) : dz_T (f266_X11_likeAnEarlierOne fu c248_groups c248_groupsNamed a900000) (fun r => r.toInt ≤ 1 ∧ 0 ≤ r.toInt) :=
  t266_X11_likeAnEarlierOne_E_s fu hfu κ hκ c248_groups c248_groupsNamed a900000 p0 p1 o0 fu hfu
set_option maxHeartbeats 1000000 in
set_option maxRecDepth 10000 in
theorem t267_X11_apartByArrangement_s (fu : Nat) (hfu : 1000000000000 ≤ fu) (κ : Nat) (hκ : κ < 14) (c248_groups : Int32) (c248_pots : Int32) (c248_teams : Int32) (c261_groups : Int32) (c261_many : Int32) (c261_everyRank : Int32) (a262 : Nat → Int32) (a263 : Nat → Int32) (a264 : Nat → Int32) (c267_total : Int32) (a268 : Nat → Int32) (a269 : Nat → Int32) (n269 : Nat) (a275 : Nat → Int32) (c310_rows : Int64) (a311 : Nat → Int64) (a900000 : Nat → Int32) (c280_fresh : Int32) (a281 : Nat → Int32) (a282 : Nat → Int32) (a283 : Nat → Int32) (c292_firstLevel : Int32) (c292_firstPrefix : Int32) (c292_firstOpen : Int32) (c292_firstLeft : Int32) (a293 : Nat → Int32) (a294 : Nat → Int64) (c295_way : Int32) (a296 : Nat → Int32) (a297 : Nat → Int64) (a298 : Nat → Int32) (a299 : Nat → Int64) (c302_rows : Int64) (c302_fresh : Int32) (a303 : Nat → Int64) (a304 : Nat → Int64) (p0 : c248_groups.toInt ≤ 4) (p1 : 2 ≤ c248_groups.toInt) (p2 : c248_pots.toInt ≤ 4) (p3 : 0 ≤ c248_pots.toInt) (p4 : c248_teams.toInt ≤ 12) (p5 : 0 ≤ c248_teams.toInt) (p6 : c261_groups.toInt ≤ 4) (p7 : 0 ≤ c261_groups.toInt) (p8 : c261_many.toInt ≤ 24) (p9 : 0 ≤ c261_many.toInt) (p10 : c261_everyRank.toInt ≤ 16777215) (p11 : 0 ≤ c261_everyRank.toInt) (p12 : c267_total.toInt ≤ 13824) (p13 : 1 ≤ c267_total.toInt) (p14 : ((n269 : Nat) : Int) ≤ 13824) (p15 : 1 ≤ ((n269 : Nat) : Int)) (p16 : c280_fresh.toInt ≤ 1) (p17 : 0 ≤ c280_fresh.toInt) (p18 : c292_firstLevel.toInt ≤ 4) (p19 : 0 ≤ c292_firstLevel.toInt) (p20 : c292_firstPrefix.toInt ≤ 331775) (p21 : 0 ≤ c292_firstPrefix.toInt) (p22 : c292_firstOpen.toInt ≤ 16777215) (p23 : 0 ≤ c292_firstOpen.toInt) (p24 : c292_firstLeft.toInt ≤ 15) (p25 : 0 ≤ c292_firstLeft.toInt) (p26 : c267_total.toInt ≤ ((n269 : Nat) : Int)) (hr_a262 : dz_rg a262 96 0 3) (hr_a263 : dz_rq a263 (dz_kr κ) (dz_kg κ) 0 (((dz_kg κ : Nat) : Int) - 1)) (hr_a264 : dz_rg a264 16 0 16777215) (hr_a268 : dz_pt a268 (dz_kS κ)) (hr_a269 : dz_rg a269 n269 0 1023) (hr_a275 : dz_pm a275 (dz_kp κ)) (hr_a900000 : dz_rg a900000 4 0 3) (hr_a281 : dz_rg a281 601 0 16777215) (hr_a282 : dz_rg a282 5 0 14425) (hr_a283 : (c280_fresh.toInt = 0 ∨ dz_pm a283 (dz_kp κ))) (hr_a296 : dz_rg a296 4 0 3) (o0 : c248_groups.toInt = ((dz_kg κ : Nat) : Int)) (o1 : c248_pots.toInt = ((dz_kp κ : Nat) : Int)) (o2 : c248_teams.toInt = ((dz_km κ : Nat) : Int)) (o3 : c261_groups.toInt = ((dz_kg κ : Nat) : Int)) (o4 : c261_many.toInt = ((dz_kr κ : Nat) : Int)) (o5 : c261_everyRank.toInt = ((dz_ke κ : Nat) : Int)) (o6 : c267_total.toInt = ((dz_kt κ : Nat) : Int)) : dz_T (f267_X11_apartByArrangement fu c248_groups c248_pots c248_teams c261_groups c261_many c261_everyRank a262 a263 a264 c267_total a268 a269 n269 a275 c310_rows a311 a900000 c280_fresh a281 a282 a283 c292_firstLevel c292_firstPrefix c292_firstOpen c292_firstLeft a293 a294 c295_way a296 a297 a298 a299 c302_rows c302_fresh a303 a304) (fun r => r.2.1.toInt ≤ 1 ∧ 1 ≤ r.2.1.toInt ∧ r.2.2.2.2.2.1.toInt ≤ 0 ∧ 0 ≤ r.2.2.2.2.2.1.toInt ∧ r.2.2.2.2.2.2.1.toInt ≤ 0 ∧ 0 ≤ r.2.2.2.2.2.2.1.toInt ∧ r.2.2.2.2.2.2.2.1.toInt ≤ 16777215 ∧ 0 ≤ r.2.2.2.2.2.2.2.1.toInt ∧ r.2.2.2.2.2.2.2.2.1.toInt ≤ 15 ∧ 3 ≤ r.2.2.2.2.2.2.2.2.1.toInt ∧ dz_rg r.2.2.1 601 0 16777215 ∧ dz_rg r.2.2.2.1 5 0 14425 ∧ dz_pm r.2.2.2.2.1 (dz_kp κ) ∧ dz_rg r.2.2.2.2.2.2.2.2.2.1 r.2.2.2.2.2.1.toInt.toNat 0 (((dz_kr κ : Nat) : Int) - 1) ∧ dz_rg r.2.2.2.2.2.2.2.2.2.2.2.2.1 4 0 3) := by
  unfold f267_X11_apartByArrangement s267_X11_apartByArrangement_0
  have e1 := dz_l0
  refine dz_Tb (t202_X6_beginAtStart_s fu hfu κ hκ _ _ _ _ _ _ _ _ _ _ _ p0 p1 p10 p11 p18 p19 p20 p21 p22 p23 p24 p25 (hr_a900000) (hr_a296) o0 o5) (fun r1 q => ?_)
  obtain ⟨q1_0, q1_1, q1_2, q1_3, q1_4, q1_5, q1_6, q1_7, qa1_5⟩ := q
  refine dz_Tb (t175_X11_treeOfNow_s fu hfu κ hκ _ _ _ _ _ _ _ _ _ _ _ p2 p3 p8 p9 p12 p13 p14 p15 p16 p17 p26 (hr_a268) (hr_a269) (hr_a275) (hr_a281) (hr_a282) hr_a283 o1 o4 o6) (fun r2 q => ?_)
  obtain ⟨q2_0, q2_1, qa2_1, qa2_2, qa2_3⟩ := q
  refine dz_Tb (t244_X6_reckon_s fu hfu κ hκ _ _ _ _ _ _ _ _ _ _ _ _ _ _ _ _ _ _ _ _ _ _ _ _ _ p0 p1 p2 p3 p6 p7 p8 p9 (by first | assumption | omega) q1_1 (by first | assumption | omega) q1_3 q1_4 q1_5 q1_6 (by first | assumption | omega) (hr_a262) (hr_a263) (hr_a264) (qa2_1) (qa2_2) (qa2_3) (qa1_5) (dz_rgz (by omega)) (by first | assumption | omega) o0 o1 o3 o4) (fun r3 q => ?_)
  have qa3_0 := q
  refine dz_Tb (t262_X11_sizeOfFarthest_s fu hfu κ hκ _ _ _ _ _ _ p0 p1 p4 p5 o0 o2) (fun r4 _ => ?_)
  refine dz_Ts ?_
  dsimp only
  exact ⟨q2_0, q2_1, q1_0, q1_1, q1_2, q1_3, q1_4, q1_5, q1_6, q1_7, (qa2_1), (qa2_2), (qa2_3), (qa3_0), (qa1_5)⟩
set_option maxHeartbeats 1000000 in
set_option maxRecDepth 10000 in
theorem t268_X11_apartByOrder_s (fu : Nat) (hfu : 1000000000000 ≤ fu) (κ : Nat) (hκ : κ < 14) (c248_groups : Int32) (c248_pots : Int32) (c248_teams : Int32) (c261_groups : Int32) (c261_many : Int32) (c261_everyRank : Int32) (a262 : Nat → Int32) (a263 : Nat → Int32) (a264 : Nat → Int32) (c267_total : Int32) (a268 : Nat → Int32) (a269 : Nat → Int32) (n269 : Nat) (a276 : Nat → Int32) (c310_rows : Int64) (a311 : Nat → Int64) (a900000 : Nat → Int32) (c288_fresh : Int32) (a289 : Nat → Int32) (a290 : Nat → Int32) (a291 : Nat → Int32) (c292_firstLevel : Int32) (c292_firstPrefix : Int32) (c292_firstOpen : Int32) (c292_firstLeft : Int32) (a293 : Nat → Int32) (a294 : Nat → Int64) (c295_way : Int32) (a296 : Nat → Int32) (a297 : Nat → Int64) (a298 : Nat → Int32) (a299 : Nat → Int64) (c302_rows : Int64) (c302_fresh : Int32) (a303 : Nat → Int64) (a304 : Nat → Int64) (p0 : c248_groups.toInt ≤ 4) (p1 : 2 ≤ c248_groups.toInt) (p2 : c248_pots.toInt ≤ 4) (p3 : 0 ≤ c248_pots.toInt) (p4 : c248_teams.toInt ≤ 12) (p5 : 0 ≤ c248_teams.toInt) (p6 : c261_groups.toInt ≤ 4) (p7 : 0 ≤ c261_groups.toInt) (p8 : c261_many.toInt ≤ 24) (p9 : 0 ≤ c261_many.toInt) (p10 : c261_everyRank.toInt ≤ 16777215) (p11 : 0 ≤ c261_everyRank.toInt) (p12 : c267_total.toInt ≤ 13824) (p13 : 1 ≤ c267_total.toInt) (p14 : ((n269 : Nat) : Int) ≤ 13824) (p15 : 1 ≤ ((n269 : Nat) : Int)) (p16 : c288_fresh.toInt ≤ 1) (p17 : 0 ≤ c288_fresh.toInt) (p18 : c292_firstLevel.toInt ≤ 4) (p19 : 0 ≤ c292_firstLevel.toInt) (p20 : c292_firstPrefix.toInt ≤ 331775) (p21 : 0 ≤ c292_firstPrefix.toInt) (p22 : c292_firstOpen.toInt ≤ 16777215) (p23 : 0 ≤ c292_firstOpen.toInt) (p24 : c292_firstLeft.toInt ≤ 15) (p25 : 0 ≤ c292_firstLeft.toInt) (p26 : c267_total.toInt ≤ ((n269 : Nat) : Int)) (hr_a262 : dz_rg a262 96 0 3) (hr_a263 : dz_rq a263 (dz_kr κ) (dz_kg κ) 0 (((dz_kg κ : Nat) : Int) - 1)) (hr_a264 : dz_rg a264 16 0 16777215) (hr_a268 : dz_pt a268 (dz_kS κ)) (hr_a269 : dz_rg a269 n269 0 1023) (hr_a276 : dz_rg a276 4 0 3) (hr_a900000 : dz_pm a900000 (dz_kp κ)) (hr_a289 : dz_rg a289 601 0 16777215) (hr_a290 : dz_rg a290 5 0 14425) (hr_a296 : dz_rg a296 4 0 3) (o0 : c248_groups.toInt = ((dz_kg κ : Nat) : Int)) (o1 : c248_pots.toInt = ((dz_kp κ : Nat) : Int)) (o2 : c248_teams.toInt = ((dz_km κ : Nat) : Int)) (o3 : c261_groups.toInt = ((dz_kg κ : Nat) : Int)) (o4 : c261_many.toInt = ((dz_kr κ : Nat) : Int)) (o5 : c261_everyRank.toInt = ((dz_ke κ : Nat) : Int)) (o6 : c267_total.toInt = ((dz_kt κ : Nat) : Int)) : dz_T (f268_X11_apartByOrder fu c248_groups c248_pots c248_teams c261_groups c261_many c261_everyRank a262 a263 a264 c267_total a268 a269 n269 a276 c310_rows a311 a900000 c288_fresh a289 a290 a291 c292_firstLevel c292_firstPrefix c292_firstOpen c292_firstLeft a293 a294 c295_way a296 a297 a298 a299 c302_rows c302_fresh a303 a304) (fun r => r.2.1.toInt ≤ 1 ∧ 1 ≤ r.2.1.toInt ∧ r.2.2.2.2.2.1.toInt ≤ 0 ∧ 0 ≤ r.2.2.2.2.2.1.toInt ∧ r.2.2.2.2.2.2.1.toInt ≤ 0 ∧ 0 ≤ r.2.2.2.2.2.2.1.toInt ∧ r.2.2.2.2.2.2.2.1.toInt ≤ 16777215 ∧ 0 ≤ r.2.2.2.2.2.2.2.1.toInt ∧ r.2.2.2.2.2.2.2.2.1.toInt ≤ 15 ∧ 3 ≤ r.2.2.2.2.2.2.2.2.1.toInt ∧ dz_rg r.2.2.1 601 0 16777215 ∧ dz_rg r.2.2.2.1 5 0 14425 ∧ dz_pm r.2.2.2.2.1 (dz_kp κ) ∧ dz_rg r.2.2.2.2.2.2.2.2.2.1 r.2.2.2.2.2.1.toInt.toNat 0 (((dz_kr κ : Nat) : Int) - 1) ∧ dz_rg r.2.2.2.2.2.2.2.2.2.2.2.2.1 4 0 3) := by
  unfold f268_X11_apartByOrder s268_X11_apartByOrder_0
  refine dz_Tb (t174_X10_build_s fu hfu κ hκ _ _ _ _ _ _ _ _ _ _ _ p2 p3 p8 p9 p12 p13 p14 p15 p16 p17 p26 (hr_a268) (hr_a269) (hr_a900000) (hr_a289) (hr_a290) o1 o4 o6) (fun r1 q => ?_)
  obtain ⟨q1_0, q1_1, qa1_1, qa1_2, qa1_3⟩ := q
  have e1 := dz_l0
  refine dz_Tb (t202_X6_beginAtStart_s fu hfu κ hκ _ _ _ _ _ _ _ _ _ _ _ p0 p1 p10 p11 p18 p19 p20 p21 p22 p23 p24 p25 (hr_a276) (hr_a296) o0 o5) (fun r2 q => ?_)
  obtain ⟨q2_0, q2_1, q2_2, q2_3, q2_4, q2_5, q2_6, q2_7, qa2_5⟩ := q
  refine dz_Tb (t244_X6_reckon_s fu hfu κ hκ _ _ _ _ _ _ _ _ _ _ _ _ _ _ _ _ _ _ _ _ _ _ _ _ _ p0 p1 p2 p3 p6 p7 p8 p9 (by first | assumption | omega) q2_1 (by first | assumption | omega) q2_3 q2_4 q2_5 q2_6 (by first | assumption | omega) (hr_a262) (hr_a263) (hr_a264) (qa1_1) (qa1_2) (qa1_3) (qa2_5) (dz_rgz (by omega)) (by first | assumption | omega) o0 o1 o3 o4) (fun r3 q => ?_)
  have qa3_0 := q
  refine dz_Tb (t262_X11_sizeOfFarthest_s fu hfu κ hκ _ _ _ _ _ _ p0 p1 p4 p5 o0 o2) (fun r4 _ => ?_)
  refine dz_Ts ?_
  dsimp only
  exact ⟨q1_0, q1_1, q2_0, q2_1, q2_2, q2_3, q2_4, q2_5, q2_6, q2_7, (qa1_1), (qa1_2), (qa1_3), (qa3_0), (qa2_5)⟩
abbrev p269_X11_bitsOf (fu : Nat) (a900000 : Nat → Int32) (k : Nat) : Prop :=
  (∀ (v1 : Int32) (v2 : Int32) (v3 : Int32), v3.toInt ≤ 4 → 0 ≤ v3.toInt → 0 + 0 + (4 - v3.toInt) * 10 + 5 ≤ ((k : Nat) : Int) → dz_T ((F269_X11_bitsOf fu a900000 k) v1 v2 v3) (fun r => True))
set_option maxHeartbeats 1000000 in
set_option maxRecDepth 10000 in
theorem t269_X11_bitsOf_h1 (fu : Nat) (hfu : 1000000000000 ≤ fu) (a900000 : Nat → Int32) (k : Nat) (ih : ∀ j9, j9 < k → p269_X11_bitsOf fu a900000 j9) : ∀ (v1 : Int32) (v2 : Int32) (v3 : Int32), v3.toInt ≤ 4 → 0 ≤ v3.toInt → 0 + 0 + (4 - v3.toInt) * 10 + 5 ≤ ((k : Nat) : Int) → dz_T ((F269_X11_bitsOf fu a900000 k) v1 v2 v3) (fun r => True) := by
  intro v1 v2 v3 i0 i1 hm
  obtain ⟨k0, rfl⟩ : ∃ x, k = x + 1 := ⟨k - 1, by omega⟩
  show dz_T (s269_X11_bitsOf_1 fu a900000 (F269_X11_bitsOf fu a900000 k0)  v1 v2 v3) _
  unfold s269_X11_bitsOf_1
  refine dz_Tle (fun h1 => ?_) (fun h1 => ?_)
  · skip
    exact dz_Ts trivial
  · skip
    have e2 := dz_l4
    refine dz_Tle (fun h3 => ?_) (fun h3 => ?_)
    · skip
      exact dz_Ts trivial
    · skip
      refine dz_Tin (by omega) (by omega) ?_
      have e4 := dz_l2
      have e5 := dz_mull (a := (2 : Int32)) (b := v3) 2 (by omega) (by omega) (by omega)
      have e6 := dz_l31
      have e7 := dz_andr (a := ((2 : Int32) * v3)) (b := (31 : Int32)) (by omega)
      have e8 := dz_andl (a := ((2 : Int32) * v3)) (b := (31 : Int32)) (by omega)
      have e9 := dz_l1
      have e10 := dz_add (a := v3) (b := (1 : Int32)) (by omega) (by omega)
      exact (ih k0 (by omega)) v1 (v2 ||| ((a900000 v3.toNatClampNeg) <<< (((2 : Int32) * v3) &&& (31 : Int32)))) (v3 + (1 : Int32)) (by omega) (by omega) (by omega)
theorem t269_X11_bitsOf_I (fu : Nat) (hfu : 1000000000000 ≤ fu) (a900000 : Nat → Int32) (k : Nat) : p269_X11_bitsOf fu a900000 k := by
  induction k using Nat.strongRecOn with
  | _ k ih => exact t269_X11_bitsOf_h1 fu hfu a900000 k ih
set_option maxHeartbeats 1000000 in
set_option maxRecDepth 10000 in
theorem t269_X11_bitsOf_E (fu : Nat) (hfu : 1000000000000 ≤ fu) (a900000 : Nat → Int32) (v1 : Int32) (kv : Nat) (hkv : 1000000000000 ≤ kv) : dz_T (s269_X11_bitsOf_0 fu a900000 (F269_X11_bitsOf fu a900000 kv)  v1) (fun r => True) := by
  unfold s269_X11_bitsOf_0
  have e1 := dz_l0
  exact (t269_X11_bitsOf_I fu hfu a900000 kv) v1 (0 : Int32) (0 : Int32) (by omega) (by omega) (by omega)
theorem t269_X11_bitsOf (fu : Nat) (hfu : 1000000000000 ≤ fu) (a900000 : Nat → Int32) (v1 : Int32) : dz_T (f269_X11_bitsOf fu a900000 v1) (fun r => True) :=
  t269_X11_bitsOf_E fu hfu a900000 v1 fu hfu
abbrev p270_X11_findNearest_sa (fu : Nat) (κ : Nat) (U : Nat) (c248_groups : Int32) (c248_pots : Int32) (c248_teams : Int32) (c248_groupsNamed : Int32) (c261_groups : Int32) (c261_many : Int32) (c261_everyRank : Int32) (a262 : Nat → Int32) (a263 : Nat → Int32) (a264 : Nat → Int32) (c267_total : Int32) (a268 : Nat → Int32) (a269 : Nat → Int32) (n269 : Nat) (a275 : Nat → Int32) (a276 : Nat → Int32) (c310_rows : Int64) (a311 : Nat → Int64) (k : Nat) : Prop :=
  (∀ (v1 : Int32) (v2 : Int32) (v5 : Int32) (v6 : Int64) (v8 : Int32) (t1000000 : Nat → Int32) (sl : Nat) (c280_fresh : Int32) (a281 : Nat → Int32) (a282 : Nat → Int32) (a283 : Nat → Int32) (c288_fresh : Int32) (a289 : Nat → Int32) (a290 : Nat → Int32) (a291 : Nat → Int32) (c292_firstLevel : Int32) (c292_firstPrefix : Int32) (c292_firstOpen : Int32) (c292_firstLeft : Int32) (a293 : Nat → Int32) (a294 : Nat → Int64) (c295_way : Int32) (a296 : Nat → Int32) (a297 : Nat → Int64) (a298 : Nat → Int32) (a299 : Nat → Int64) (c302_rows : Int64) (c302_fresh : Int32) (a303 : Nat → Int64) (a304 : Nat → Int64), v1.toInt ≤ 4 → 0 ≤ v1.toInt → v2.toInt ≤ 1 → 1 ≤ v2.toInt → v8.toInt ≤ 256 → 0 ≤ v8.toInt → ((sl : Nat) : Int) ≤ 4 → 4 ≤ ((sl : Nat) : Int) → c280_fresh.toInt ≤ 1 → 0 ≤ c280_fresh.toInt → c288_fresh.toInt ≤ 1 → 0 ≤ c288_fresh.toInt → c292_firstLevel.toInt ≤ 4 → 0 ≤ c292_firstLevel.toInt → c292_firstPrefix.toInt ≤ 331775 → 0 ≤ c292_firstPrefix.toInt → c292_firstOpen.toInt ≤ 16777215 → 0 ≤ c292_firstOpen.toInt → c292_firstLeft.toInt ≤ 15 → 0 ≤ c292_firstLeft.toInt → c248_pots.toInt ≤ v1.toInt → v1.toInt ≤ c248_pots.toInt → dz_rg t1000000 4 0 3 → dz_rg a281 601 0 16777215 → dz_rg a282 5 0 14425 → dz_rg a289 601 0 16777215 → dz_rg a290 5 0 14425 → dz_rg a296 4 0 3 → (c280_fresh.toInt = 0 ∨ dz_pm a283 (dz_kp κ)) → 0 + 0 + (256 - v8.toInt) * 16 + 8 ≤ ((k : Nat) : Int) → dz_T ((F270_X11_findNearest fu U c248_groups c248_pots c248_teams c248_groupsNamed c261_groups c261_many c261_everyRank a262 a263 a264 c267_total a268 a269 n269 a275 a276 c310_rows a311 k).1 v1 v2 v5 v6 v8 t1000000 sl c280_fresh a281 a282 a283 c288_fresh a289 a290 a291 c292_firstLevel c292_firstPrefix c292_firstOpen c292_firstLeft a293 a294 c295_way a296 a297 a298 a299 c302_rows c302_fresh a303 a304) (fun r => r.2.1.toInt ≤ 1 ∧ 0 ≤ r.2.1.toInt ∧ r.2.2.2.2.2.1.toInt ≤ 1 ∧ 0 ≤ r.2.2.2.2.2.1.toInt ∧ r.2.2.2.2.2.2.2.2.2.1.toInt ≤ 4 ∧ 0 ≤ r.2.2.2.2.2.2.2.2.2.1.toInt ∧ r.2.2.2.2.2.2.2.2.2.2.1.toInt ≤ 331775 ∧ 0 ≤ r.2.2.2.2.2.2.2.2.2.2.1.toInt ∧ r.2.2.2.2.2.2.2.2.2.2.2.1.toInt ≤ 16777215 ∧ 0 ≤ r.2.2.2.2.2.2.2.2.2.2.2.1.toInt ∧ r.2.2.2.2.2.2.2.2.2.2.2.2.1.toInt ≤ 15 ∧ 0 ≤ r.2.2.2.2.2.2.2.2.2.2.2.2.1.toInt ∧ dz_rg r.2.2.1 601 0 16777215 ∧ dz_rg r.2.2.2.1 5 0 14425 ∧ dz_rg r.2.2.2.2.2.2.1 601 0 16777215 ∧ dz_rg r.2.2.2.2.2.2.2.1 5 0 14425 ∧ dz_rg r.2.2.2.2.2.2.2.2.2.2.2.2.2.2.2.2.1 4 0 3 ∧ (r.2.1.toInt = 0 ∨ dz_pm r.2.2.2.2.1 (dz_kp κ))))
set_option maxHeartbeats 1000000 in
set_option maxRecDepth 10000 in
theorem t270_X11_findNearest_h1_sa (fu : Nat) (hfu : 1000000000000 ≤ fu) (κ : Nat) (hκ : κ < 14) (U : Nat) (c248_groups : Int32) (c248_pots : Int32) (c248_teams : Int32) (c248_groupsNamed : Int32) (c261_groups : Int32) (c261_many : Int32) (c261_everyRank : Int32) (a262 : Nat → Int32) (a263 : Nat → Int32) (a264 : Nat → Int32) (c267_total : Int32) (a268 : Nat → Int32) (a269 : Nat → Int32) (n269 : Nat) (a275 : Nat → Int32) (a276 : Nat → Int32) (c310_rows : Int64) (a311 : Nat → Int64) (p0 : c248_groups.toInt ≤ 4) (p1 : 2 ≤ c248_groups.toInt) (p2 : c248_pots.toInt ≤ 4) (p3 : 0 ≤ c248_pots.toInt) (p4 : c248_teams.toInt ≤ 12) (p5 : 0 ≤ c248_teams.toInt) (p6 : c261_groups.toInt ≤ 4) (p7 : 0 ≤ c261_groups.toInt) (p8 : c261_many.toInt ≤ 24) (p9 : 0 ≤ c261_many.toInt) (p10 : c261_everyRank.toInt ≤ 16777215) (p11 : 0 ≤ c261_everyRank.toInt) (p12 : c267_total.toInt ≤ 13824) (p13 : 1 ≤ c267_total.toInt) (p14 : ((n269 : Nat) : Int) ≤ 13824) (p15 : 1 ≤ ((n269 : Nat) : Int)) (p16 : c267_total.toInt ≤ ((n269 : Nat) : Int)) (p17 : 4 ≤ ((U : Nat) : Int)) (hr_a262 : dz_rg a262 96 0 3) (hr_a263 : dz_rq a263 (dz_kr κ) (dz_kg κ) 0 (((dz_kg κ : Nat) : Int) - 1)) (hr_a264 : dz_rg a264 16 0 16777215) (hr_a268 : dz_pt a268 (dz_kS κ)) (hr_a269 : dz_rg a269 n269 0 1023) (hr_a275 : dz_pm a275 (dz_kp κ)) (hr_a276 : dz_rg a276 4 0 3) (o0 : c248_groups.toInt = ((dz_kg κ : Nat) : Int)) (o1 : c248_pots.toInt = ((dz_kp κ : Nat) : Int)) (o2 : c248_teams.toInt = ((dz_km κ : Nat) : Int)) (o3 : c261_groups.toInt = ((dz_kg κ : Nat) : Int)) (o4 : c261_many.toInt = ((dz_kr κ : Nat) : Int)) (o5 : c261_everyRank.toInt = ((dz_ke κ : Nat) : Int)) (o6 : c267_total.toInt = ((dz_kt κ : Nat) : Int)) (k : Nat) (ih : ∀ j9, j9 < k → p270_X11_findNearest_sa fu κ U c248_groups c248_pots c248_teams c248_groupsNamed c261_groups c261_many c261_everyRank a262 a263 a264 c267_total a268 a269 n269 a275 a276 c310_rows a311 j9) : ∀ (v1 : Int32) (v2 : Int32) (v5 : Int32) (v6 : Int64) (v8 : Int32) (t1000000 : Nat → Int32) (sl : Nat) (c280_fresh : Int32) (a281 : Nat → Int32) (a282 : Nat → Int32) (a283 : Nat → Int32) (c288_fresh : Int32) (a289 : Nat → Int32) (a290 : Nat → Int32) (a291 : Nat → Int32) (c292_firstLevel : Int32) (c292_firstPrefix : Int32) (c292_firstOpen : Int32) (c292_firstLeft : Int32) (a293 : Nat → Int32) (a294 : Nat → Int64) (c295_way : Int32) (a296 : Nat → Int32) (a297 : Nat → Int64) (a298 : Nat → Int32) (a299 : Nat → Int64) (c302_rows : Int64) (c302_fresh : Int32) (a303 : Nat → Int64) (a304 : Nat → Int64), v1.toInt ≤ 4 → 0 ≤ v1.toInt → v2.toInt ≤ 1 → 1 ≤ v2.toInt → v8.toInt ≤ 256 → 0 ≤ v8.toInt → ((sl : Nat) : Int) ≤ 4 → 4 ≤ ((sl : Nat) : Int) → c280_fresh.toInt ≤ 1 → 0 ≤ c280_fresh.toInt → c288_fresh.toInt ≤ 1 → 0 ≤ c288_fresh.toInt → c292_firstLevel.toInt ≤ 4 → 0 ≤ c292_firstLevel.toInt → c292_firstPrefix.toInt ≤ 331775 → 0 ≤ c292_firstPrefix.toInt → c292_firstOpen.toInt ≤ 16777215 → 0 ≤ c292_firstOpen.toInt → c292_firstLeft.toInt ≤ 15 → 0 ≤ c292_firstLeft.toInt → c248_pots.toInt ≤ v1.toInt → v1.toInt ≤ c248_pots.toInt → dz_rg t1000000 4 0 3 → dz_rg a281 601 0 16777215 → dz_rg a282 5 0 14425 → dz_rg a289 601 0 16777215 → dz_rg a290 5 0 14425 → dz_rg a296 4 0 3 → (c280_fresh.toInt = 0 ∨ dz_pm a283 (dz_kp κ)) → 0 + 0 + (256 - v8.toInt) * 16 + 8 ≤ ((k : Nat) : Int) → dz_T ((F270_X11_findNearest fu U c248_groups c248_pots c248_teams c248_groupsNamed c261_groups c261_many c261_everyRank a262 a263 a264 c267_total a268 a269 n269 a275 a276 c310_rows a311 k).1 v1 v2 v5 v6 v8 t1000000 sl c280_fresh a281 a282 a283 c288_fresh a289 a290 a291 c292_firstLevel c292_firstPrefix c292_firstOpen c292_firstLeft a293 a294 c295_way a296 a297 a298 a299 c302_rows c302_fresh a303 a304) (fun r => r.2.1.toInt ≤ 1 ∧ 0 ≤ r.2.1.toInt ∧ r.2.2.2.2.2.1.toInt ≤ 1 ∧ 0 ≤ r.2.2.2.2.2.1.toInt ∧ r.2.2.2.2.2.2.2.2.2.1.toInt ≤ 4 ∧ 0 ≤ r.2.2.2.2.2.2.2.2.2.1.toInt ∧ r.2.2.2.2.2.2.2.2.2.2.1.toInt ≤ 331775 ∧ 0 ≤ r.2.2.2.2.2.2.2.2.2.2.1.toInt ∧ r.2.2.2.2.2.2.2.2.2.2.2.1.toInt ≤ 16777215 ∧ 0 ≤ r.2.2.2.2.2.2.2.2.2.2.2.1.toInt ∧ r.2.2.2.2.2.2.2.2.2.2.2.2.1.toInt ≤ 15 ∧ 0 ≤ r.2.2.2.2.2.2.2.2.2.2.2.2.1.toInt ∧ dz_rg r.2.2.1 601 0 16777215 ∧ dz_rg r.2.2.2.1 5 0 14425 ∧ dz_rg r.2.2.2.2.2.2.1 601 0 16777215 ∧ dz_rg r.2.2.2.2.2.2.2.1 5 0 14425 ∧ dz_rg r.2.2.2.2.2.2.2.2.2.2.2.2.2.2.2.2.1 4 0 3 ∧ (r.2.1.toInt = 0 ∨ dz_pm r.2.2.2.2.1 (dz_kp κ))) := by
  intro v1 v2 v5 v6 v8 t1000000 sl c280_fresh a281 a282 a283 c288_fresh a289 a290 a291 c292_firstLevel c292_firstPrefix c292_firstOpen c292_firstLeft a293 a294 c295_way a296 a297 a298 a299 c302_rows c302_fresh a303 a304 i0 i1 i2 i3 i4 i5 i6 i7 i8 i9 i10 i11 i12 i13 i14 i15 i16 i17 i18 i19 i20 i21 hr_t1000000 hr_a281 hr_a282 hr_a289 hr_a290 hr_a296 hr_a283 hm
  obtain ⟨k0, rfl⟩ : ∃ x, k = x + 1 := ⟨k - 1, by omega⟩
  show dz_T (s270_X11_findNearest_1 fu U c248_groups c248_pots c248_teams c248_groupsNamed c261_groups c261_many c261_everyRank a262 a263 a264 c267_total a268 a269 n269 a275 a276 c310_rows a311 (F270_X11_findNearest fu U c248_groups c248_pots c248_teams c248_groupsNamed c261_groups c261_many c261_everyRank a262 a263 a264 c267_total a268 a269 n269 a275 a276 c310_rows a311 k0).2.1 (F270_X11_findNearest fu U c248_groups c248_pots c248_teams c248_groupsNamed c261_groups c261_many c261_everyRank a262 a263 a264 c267_total a268 a269 n269 a275 a276 c310_rows a311 k0).2.2.1  v1 v2 v5 v6 v8 t1000000 sl c280_fresh a281 a282 a283 c288_fresh a289 a290 a291 c292_firstLevel c292_firstPrefix c292_firstOpen c292_firstLeft a293 a294 c295_way a296 a297 a298 a299 c302_rows c302_fresh a303 a304) _
  unfold s270_X11_findNearest_1
  refine dz_Tg (by omega) ?_
  have e1 := dz_l1
  have e2 := dz_l2
  have e3 := dz_mull (a := (2 : Int32)) (b := v1) 2 (by omega) (by omega) (by omega)
  have e4 := dz_l31
  have e5 := dz_andr (a := ((2 : Int32) * v1)) (b := (31 : Int32)) (by omega)
  have e6 := dz_andl (a := ((2 : Int32) * v1)) (b := (31 : Int32)) (by omega)
  have e7 := dz_shl1 (b := ((2 : Int32) * v1)) 0 8 (by omega) (by omega) (by omega)
  refine dz_Tle (fun h8 => ?_) (fun h8 => ?_)
  · skip
    refine dz_Ts ?_
    dsimp only
    exact ⟨i8, i9, i10, i11, i12, i13, i14, i15, i16, i17, i18, i19, (hr_a281), (hr_a282), (hr_a289), (hr_a290), (hr_a296), hr_a283⟩
  · skip
    have e9 := dz_l0
    refine dz_Tle (fun h10 => ?_) (fun h10 => ?_)
    · skip
      refine dz_Ts ?_
      dsimp only
      exact ⟨i8, i9, i10, i11, i12, i13, i14, i15, i16, i17, i18, i19, (hr_a281), (hr_a282), (hr_a289), (hr_a290), (hr_a296), hr_a283⟩
    · skip
      refine dz_Tb (t126_X4_readRow_m fu hfu _ _ _ (dz_kp κ) (dz_kp4 hκ) (by omega) (hr_t1000000)) (fun r1 q => ?_)
      obtain ⟨q1_0, q1_1, qa1_1, qo1_0⟩ := q
      refine dz_Teq (fun h11 => ?_) (fun h11 => ?_)
      · skip
        obtain ⟨k1, rfl⟩ : ∃ x, k0 = x + 1 := ⟨k0 - 1, by omega⟩
        show dz_T (s270_X11_findNearest_2 fu U c248_groups c248_pots c248_teams c248_groupsNamed c261_groups c261_many c261_everyRank a262 a263 a264 c267_total a268 a269 n269 a275 a276 c310_rows a311 (F270_X11_findNearest fu U c248_groups c248_pots c248_teams c248_groupsNamed c261_groups c261_many c261_everyRank a262 a263 a264 c267_total a268 a269 n269 a275 a276 c310_rows a311 k1).1 v1 v2 v5 v6 v8 r1.2 sl c280_fresh a281 a282 a283 c288_fresh a289 a290 a291 c292_firstLevel c292_firstPrefix c292_firstOpen c292_firstLeft a293 a294 c295_way a296 a297 a298 a299 c302_rows c302_fresh a303 a304) _
        unfold s270_X11_findNearest_2
        refine dz_Tg (by omega) ?_
        have e12 := dz_add (a := v8) (b := (1 : Int32)) (by omega) (by omega)
        exact (ih k1 (by omega)) v1 v2 v5 v6 (v8 + (1 : Int32)) r1.2 sl c280_fresh a281 a282 a283 c288_fresh a289 a290 a291 c292_firstLevel c292_firstPrefix c292_firstOpen c292_firstLeft a293 a294 c295_way a296 a297 a298 a299 c302_rows c302_fresh a303 a304 i0 i1 i2 i3 (by omega) (by omega) i6 i7 i8 i9 i10 i11 i12 i13 i14 i15 i16 i17 i18 i19 i20 i21 (qa1_1) (hr_a281) (hr_a282) (hr_a289) (hr_a290) (hr_a296) hr_a283 (by omega)
      · skip
        refine dz_Teq (fun h13 => ?_) (fun h13 => ?_)
        · skip
          exfalso; omega
        · skip
          obtain ⟨k2, rfl⟩ : ∃ x, k0 = x + 1 := ⟨k0 - 1, by omega⟩
          show dz_T (s270_X11_findNearest_3 fu U c248_groups c248_pots c248_teams c248_groupsNamed c261_groups c261_many c261_everyRank a262 a263 a264 c267_total a268 a269 n269 a275 a276 c310_rows a311 (F270_X11_findNearest fu U c248_groups c248_pots c248_teams c248_groupsNamed c261_groups c261_many c261_everyRank a262 a263 a264 c267_total a268 a269 n269 a275 a276 c310_rows a311 k2).2.2.2 v1 v2 v5 v6 v8 r1.2 sl c280_fresh a281 a282 a283 c288_fresh a289 a290 a291 c292_firstLevel c292_firstPrefix c292_firstOpen c292_firstLeft a293 a294 c295_way a296 a297 a298 a299 c302_rows c302_fresh a303 a304) _
          unfold s270_X11_findNearest_3
          refine dz_Tg (by omega) ?_
          refine dz_Teq (fun h14 => ?_) (fun h14 => ?_)
          · skip
            exfalso; omega
          · skip
            refine dz_Tb (t268_X11_apartByOrder_s fu hfu κ hκ _ _ _ _ _ _ _ _ _ _ _ _ _ _ _ _ _ _ _ _ _ _ _ _ _ _ _ _ _ _ _ _ _ _ _ _ p0 p1 p2 p3 p4 p5 p6 p7 p8 p9 p10 p11 p12 p13 p14 p15 i10 i11 i12 i13 i14 i15 i16 i17 i18 i19 p16 (hr_a262) (hr_a263) (hr_a264) (hr_a268) (hr_a269) (hr_a276) (qo1_0.resolve_left (by omega)) (hr_a289) (hr_a290) (hr_a296) o0 o1 o2 o3 o4 o5 o6) (fun r2 q => ?_)
            obtain ⟨q2_0, q2_1, q2_2, q2_3, q2_4, q2_5, q2_6, q2_7, q2_8, q2_9, qa2_2, qa2_3, qa2_4, qa2_9, qa2_12⟩ := q
            obtain ⟨k3, rfl⟩ : ∃ x, k2 = x + 1 := ⟨k2 - 1, by omega⟩
            show dz_T (s270_X11_findNearest_4 fu U c248_groups c248_pots c248_teams c248_groupsNamed c261_groups c261_many c261_everyRank a262 a263 a264 c267_total a268 a269 n269 a275 a276 c310_rows a311 (F270_X11_findNearest fu U c248_groups c248_pots c248_teams c248_groupsNamed c261_groups c261_many c261_everyRank a262 a263 a264 c267_total a268 a269 n269 a275 a276 c310_rows a311 k3).2.1 v1 v2 v5 v6 v8 r2.1 r1.2 sl c280_fresh a281 a282 a283 r2.2.1 r2.2.2.1 r2.2.2.2.1 r2.2.2.2.2.1 r2.2.2.2.2.2.1 r2.2.2.2.2.2.2.1 r2.2.2.2.2.2.2.2.1 r2.2.2.2.2.2.2.2.2.1 r2.2.2.2.2.2.2.2.2.2.1 r2.2.2.2.2.2.2.2.2.2.2.1 r2.2.2.2.2.2.2.2.2.2.2.2.1 r2.2.2.2.2.2.2.2.2.2.2.2.2.1 r2.2.2.2.2.2.2.2.2.2.2.2.2.2.1 r2.2.2.2.2.2.2.2.2.2.2.2.2.2.2.1 r2.2.2.2.2.2.2.2.2.2.2.2.2.2.2.2.1 r2.2.2.2.2.2.2.2.2.2.2.2.2.2.2.2.2.1 r2.2.2.2.2.2.2.2.2.2.2.2.2.2.2.2.2.2.1 r2.2.2.2.2.2.2.2.2.2.2.2.2.2.2.2.2.2.2.1 r2.2.2.2.2.2.2.2.2.2.2.2.2.2.2.2.2.2.2.2) _
            unfold s270_X11_findNearest_4
            refine dz_Tg (by omega) ?_
            refine dz_Tle (fun h15 => ?_) (fun h15 => ?_)
            · skip
              obtain ⟨k4, rfl⟩ : ∃ x, k3 = x + 1 := ⟨k3 - 1, by omega⟩
              show dz_T (s270_X11_findNearest_2 fu U c248_groups c248_pots c248_teams c248_groupsNamed c261_groups c261_many c261_everyRank a262 a263 a264 c267_total a268 a269 n269 a275 a276 c310_rows a311 (F270_X11_findNearest fu U c248_groups c248_pots c248_teams c248_groupsNamed c261_groups c261_many c261_everyRank a262 a263 a264 c267_total a268 a269 n269 a275 a276 c310_rows a311 k4).1 v1 v2 v5 v6 v8 r1.2 sl c280_fresh a281 a282 a283 r2.2.1 r2.2.2.1 r2.2.2.2.1 r2.2.2.2.2.1 r2.2.2.2.2.2.1 r2.2.2.2.2.2.2.1 r2.2.2.2.2.2.2.2.1 r2.2.2.2.2.2.2.2.2.1 r2.2.2.2.2.2.2.2.2.2.1 r2.2.2.2.2.2.2.2.2.2.2.1 r2.2.2.2.2.2.2.2.2.2.2.2.1 r2.2.2.2.2.2.2.2.2.2.2.2.2.1 r2.2.2.2.2.2.2.2.2.2.2.2.2.2.1 r2.2.2.2.2.2.2.2.2.2.2.2.2.2.2.1 r2.2.2.2.2.2.2.2.2.2.2.2.2.2.2.2.1 r2.2.2.2.2.2.2.2.2.2.2.2.2.2.2.2.2.1 r2.2.2.2.2.2.2.2.2.2.2.2.2.2.2.2.2.2.1 r2.2.2.2.2.2.2.2.2.2.2.2.2.2.2.2.2.2.2.1 r2.2.2.2.2.2.2.2.2.2.2.2.2.2.2.2.2.2.2.2) _
              unfold s270_X11_findNearest_2
              refine dz_Tg (by omega) ?_
              have e16 := dz_add (a := v8) (b := (1 : Int32)) (by omega) (by omega)
              exact (ih k4 (by omega)) v1 v2 v5 v6 (v8 + (1 : Int32)) r1.2 sl c280_fresh a281 a282 a283 r2.2.1 r2.2.2.1 r2.2.2.2.1 r2.2.2.2.2.1 r2.2.2.2.2.2.1 r2.2.2.2.2.2.2.1 r2.2.2.2.2.2.2.2.1 r2.2.2.2.2.2.2.2.2.1 r2.2.2.2.2.2.2.2.2.2.1 r2.2.2.2.2.2.2.2.2.2.2.1 r2.2.2.2.2.2.2.2.2.2.2.2.1 r2.2.2.2.2.2.2.2.2.2.2.2.2.1 r2.2.2.2.2.2.2.2.2.2.2.2.2.2.1 r2.2.2.2.2.2.2.2.2.2.2.2.2.2.2.1 r2.2.2.2.2.2.2.2.2.2.2.2.2.2.2.2.1 r2.2.2.2.2.2.2.2.2.2.2.2.2.2.2.2.2.1 r2.2.2.2.2.2.2.2.2.2.2.2.2.2.2.2.2.2.1 r2.2.2.2.2.2.2.2.2.2.2.2.2.2.2.2.2.2.2.1 r2.2.2.2.2.2.2.2.2.2.2.2.2.2.2.2.2.2.2.2 i0 i1 i2 i3 (by omega) (by omega) i6 i7 i8 i9 q2_0 (by first | assumption | omega) (by first | assumption | omega) q2_3 (by first | assumption | omega) q2_5 q2_6 q2_7 q2_8 (by first | assumption | omega) i20 i21 (qa1_1) (hr_a281) (hr_a282) (qa2_2) (qa2_3) (qa2_12) hr_a283 (by omega)
            · skip
              refine dz_Tb (t269_X11_bitsOf fu hfu _ _ ) (fun r3 _ => ?_)
              obtain ⟨k5, rfl⟩ : ∃ x, k3 = x + 1 := ⟨k3 - 1, by omega⟩
              show dz_T (s270_X11_findNearest_2 fu U c248_groups c248_pots c248_teams c248_groupsNamed c261_groups c261_many c261_everyRank a262 a263 a264 c267_total a268 a269 n269 a275 a276 c310_rows a311 (F270_X11_findNearest fu U c248_groups c248_pots c248_teams c248_groupsNamed c261_groups c261_many c261_everyRank a262 a263 a264 c267_total a268 a269 n269 a275 a276 c310_rows a311 k5).1 v1 v2 r3 r2.1 v8 r1.2 sl c280_fresh a281 a282 a283 r2.2.1 r2.2.2.1 r2.2.2.2.1 r2.2.2.2.2.1 r2.2.2.2.2.2.1 r2.2.2.2.2.2.2.1 r2.2.2.2.2.2.2.2.1 r2.2.2.2.2.2.2.2.2.1 r2.2.2.2.2.2.2.2.2.2.1 r2.2.2.2.2.2.2.2.2.2.2.1 r2.2.2.2.2.2.2.2.2.2.2.2.1 r2.2.2.2.2.2.2.2.2.2.2.2.2.1 r2.2.2.2.2.2.2.2.2.2.2.2.2.2.1 r2.2.2.2.2.2.2.2.2.2.2.2.2.2.2.1 r2.2.2.2.2.2.2.2.2.2.2.2.2.2.2.2.1 r2.2.2.2.2.2.2.2.2.2.2.2.2.2.2.2.2.1 r2.2.2.2.2.2.2.2.2.2.2.2.2.2.2.2.2.2.1 r2.2.2.2.2.2.2.2.2.2.2.2.2.2.2.2.2.2.2.1 r2.2.2.2.2.2.2.2.2.2.2.2.2.2.2.2.2.2.2.2) _
              unfold s270_X11_findNearest_2
              refine dz_Tg (by omega) ?_
              have e17 := dz_add (a := v8) (b := (1 : Int32)) (by omega) (by omega)
              exact (ih k5 (by omega)) v1 v2 r3 r2.1 (v8 + (1 : Int32)) r1.2 sl c280_fresh a281 a282 a283 r2.2.1 r2.2.2.1 r2.2.2.2.1 r2.2.2.2.2.1 r2.2.2.2.2.2.1 r2.2.2.2.2.2.2.1 r2.2.2.2.2.2.2.2.1 r2.2.2.2.2.2.2.2.2.1 r2.2.2.2.2.2.2.2.2.2.1 r2.2.2.2.2.2.2.2.2.2.2.1 r2.2.2.2.2.2.2.2.2.2.2.2.1 r2.2.2.2.2.2.2.2.2.2.2.2.2.1 r2.2.2.2.2.2.2.2.2.2.2.2.2.2.1 r2.2.2.2.2.2.2.2.2.2.2.2.2.2.2.1 r2.2.2.2.2.2.2.2.2.2.2.2.2.2.2.2.1 r2.2.2.2.2.2.2.2.2.2.2.2.2.2.2.2.2.1 r2.2.2.2.2.2.2.2.2.2.2.2.2.2.2.2.2.2.1 r2.2.2.2.2.2.2.2.2.2.2.2.2.2.2.2.2.2.2.1 r2.2.2.2.2.2.2.2.2.2.2.2.2.2.2.2.2.2.2.2 i0 i1 i2 i3 (by omega) (by omega) i6 i7 i8 i9 q2_0 (by first | assumption | omega) (by first | assumption | omega) q2_3 (by first | assumption | omega) q2_5 q2_6 q2_7 q2_8 (by first | assumption | omega) i20 i21 (qa1_1) (hr_a281) (hr_a282) (qa2_2) (qa2_3) (qa2_12) hr_a283 (by omega)
theorem t270_X11_findNearest_I_sa (fu : Nat) (hfu : 1000000000000 ≤ fu) (κ : Nat) (hκ : κ < 14) (U : Nat) (c248_groups : Int32) (c248_pots : Int32) (c248_teams : Int32) (c248_groupsNamed : Int32) (c261_groups : Int32) (c261_many : Int32) (c261_everyRank : Int32) (a262 : Nat → Int32) (a263 : Nat → Int32) (a264 : Nat → Int32) (c267_total : Int32) (a268 : Nat → Int32) (a269 : Nat → Int32) (n269 : Nat) (a275 : Nat → Int32) (a276 : Nat → Int32) (c310_rows : Int64) (a311 : Nat → Int64) (p0 : c248_groups.toInt ≤ 4) (p1 : 2 ≤ c248_groups.toInt) (p2 : c248_pots.toInt ≤ 4) (p3 : 0 ≤ c248_pots.toInt) (p4 : c248_teams.toInt ≤ 12) (p5 : 0 ≤ c248_teams.toInt) (p6 : c261_groups.toInt ≤ 4) (p7 : 0 ≤ c261_groups.toInt) (p8 : c261_many.toInt ≤ 24) (p9 : 0 ≤ c261_many.toInt) (p10 : c261_everyRank.toInt ≤ 16777215) (p11 : 0 ≤ c261_everyRank.toInt) (p12 : c267_total.toInt ≤ 13824) (p13 : 1 ≤ c267_total.toInt) (p14 : ((n269 : Nat) : Int) ≤ 13824) (p15 : 1 ≤ ((n269 : Nat) : Int)) (p16 : c267_total.toInt ≤ ((n269 : Nat) : Int)) (p17 : 4 ≤ ((U : Nat) : Int)) (hr_a262 : dz_rg a262 96 0 3) (hr_a263 : dz_rq a263 (dz_kr κ) (dz_kg κ) 0 (((dz_kg κ : Nat) : Int) - 1)) (hr_a264 : dz_rg a264 16 0 16777215) (hr_a268 : dz_pt a268 (dz_kS κ)) (hr_a269 : dz_rg a269 n269 0 1023) (hr_a275 : dz_pm a275 (dz_kp κ)) (hr_a276 : dz_rg a276 4 0 3) (o0 : c248_groups.toInt = ((dz_kg κ : Nat) : Int)) (o1 : c248_pots.toInt = ((dz_kp κ : Nat) : Int)) (o2 : c248_teams.toInt = ((dz_km κ : Nat) : Int)) (o3 : c261_groups.toInt = ((dz_kg κ : Nat) : Int)) (o4 : c261_many.toInt = ((dz_kr κ : Nat) : Int)) (o5 : c261_everyRank.toInt = ((dz_ke κ : Nat) : Int)) (o6 : c267_total.toInt = ((dz_kt κ : Nat) : Int)) (k : Nat) : p270_X11_findNearest_sa fu κ U c248_groups c248_pots c248_teams c248_groupsNamed c261_groups c261_many c261_everyRank a262 a263 a264 c267_total a268 a269 n269 a275 a276 c310_rows a311 k := by
  induction k using Nat.strongRecOn with
  | _ k ih => exact t270_X11_findNearest_h1_sa fu hfu κ hκ U c248_groups c248_pots c248_teams c248_groupsNamed c261_groups c261_many c261_everyRank a262 a263 a264 c267_total a268 a269 n269 a275 a276 c310_rows a311 p0 p1 p2 p3 p4 p5 p6 p7 p8 p9 p10 p11 p12 p13 p14 p15 p16 p17 hr_a262 hr_a263 hr_a264 hr_a268 hr_a269 hr_a275 hr_a276 o0 o1 o2 o3 o4 o5 o6 k ih
set_option maxHeartbeats 1000000 in
set_option maxRecDepth 10000 in
theorem t270_X11_findNearest_E_sa (fu : Nat) (hfu : 1000000000000 ≤ fu) (κ : Nat) (hκ : κ < 14) (U : Nat) (c248_groups : Int32) (c248_pots : Int32) (c248_teams : Int32) (c248_groupsNamed : Int32) (c261_groups : Int32) (c261_many : Int32) (c261_everyRank : Int32) (a262 : Nat → Int32) (a263 : Nat → Int32) (a264 : Nat → Int32) (c267_total : Int32) (a268 : Nat → Int32) (a269 : Nat → Int32) (n269 : Nat) (a275 : Nat → Int32) (a276 : Nat → Int32) (c310_rows : Int64) (a311 : Nat → Int64) (v1 : Int32) (v2 : Int32) (c280_fresh : Int32) (a281 : Nat → Int32) (a282 : Nat → Int32) (a283 : Nat → Int32) (c288_fresh : Int32) (a289 : Nat → Int32) (a290 : Nat → Int32) (a291 : Nat → Int32) (c292_firstLevel : Int32) (c292_firstPrefix : Int32) (c292_firstOpen : Int32) (c292_firstLeft : Int32) (a293 : Nat → Int32) (a294 : Nat → Int64) (c295_way : Int32) (a296 : Nat → Int32) (a297 : Nat → Int64) (a298 : Nat → Int32) (a299 : Nat → Int64) (c302_rows : Int64) (c302_fresh : Int32) (a303 : Nat → Int64) (a304 : Nat → Int64) (p0 : c248_groups.toInt ≤ 4) (p1 : 2 ≤ c248_groups.toInt) (p2 : c248_pots.toInt ≤ 4) (p3 : 0 ≤ c248_pots.toInt) (p4 : c248_teams.toInt ≤ 12) (p5 : 0 ≤ c248_teams.toInt) (p6 : c261_groups.toInt ≤ 4) (p7 : 0 ≤ c261_groups.toInt) (p8 : c261_many.toInt ≤ 24) (p9 : 0 ≤ c261_many.toInt) (p10 : c261_everyRank.toInt ≤ 16777215) (p11 : 0 ≤ c261_everyRank.toInt) (p12 : c267_total.toInt ≤ 13824) (p13 : 1 ≤ c267_total.toInt) (p14 : ((n269 : Nat) : Int) ≤ 13824) (p15 : 1 ≤ ((n269 : Nat) : Int)) (p16 : c280_fresh.toInt ≤ 1) (p17 : 0 ≤ c280_fresh.toInt) (p18 : c288_fresh.toInt ≤ 1) (p19 : 0 ≤ c288_fresh.toInt) (p20 : c292_firstLevel.toInt ≤ 4) (p21 : 0 ≤ c292_firstLevel.toInt) (p22 : c292_firstPrefix.toInt ≤ 331775) (p23 : 0 ≤ c292_firstPrefix.toInt) (p24 : c292_firstOpen.toInt ≤ 16777215) (p25 : 0 ≤ c292_firstOpen.toInt) (p26 : c292_firstLeft.toInt ≤ 15) (p27 : 0 ≤ c292_firstLeft.toInt) (p28 : c267_total.toInt ≤ ((n269 : Nat) : Int)) (p29 : 4 ≤ ((U : Nat) : Int)) (p30 : v1.toInt ≤ c248_pots.toInt) (p31 : c248_pots.toInt ≤ v1.toInt) (p32 : v2.toInt ≤ 1) (p33 : 1 ≤ v2.toInt) (hr_a262 : dz_rg a262 96 0 3) (hr_a263 : dz_rq a263 (dz_kr κ) (dz_kg κ) 0 (((dz_kg κ : Nat) : Int) - 1)) (hr_a264 : dz_rg a264 16 0 16777215) (hr_a268 : dz_pt a268 (dz_kS κ)) (hr_a269 : dz_rg a269 n269 0 1023) (hr_a275 : dz_pm a275 (dz_kp κ)) (hr_a276 : dz_rg a276 4 0 3) (hr_a281 : dz_rg a281 601 0 16777215) (hr_a282 : dz_rg a282 5 0 14425) (hr_a283 : (c280_fresh.toInt = 0 ∨ dz_pm a283 (dz_kp κ))) (hr_a289 : dz_rg a289 601 0 16777215) (hr_a290 : dz_rg a290 5 0 14425) (hr_a296 : dz_rg a296 4 0 3) (o0 : c248_groups.toInt = ((dz_kg κ : Nat) : Int)) (o1 : c248_pots.toInt = ((dz_kp κ : Nat) : Int)) (o2 : c248_teams.toInt = ((dz_km κ : Nat) : Int)) (o3 : c261_groups.toInt = ((dz_kg κ : Nat) : Int)) (o4 : c261_many.toInt = ((dz_kr κ : Nat) : Int)) (o5 : c261_everyRank.toInt = ((dz_ke κ : Nat) : Int)) (o6 : c267_total.toInt = ((dz_kt κ : Nat) : Int)) (kv : Nat) (hkv : 1000000000000 ≤ kv) : dz_T (s270_X11_findNearest_0 fu U c248_groups c248_pots c248_teams c248_groupsNamed c261_groups c261_many c261_everyRank a262 a263 a264 c267_total a268 a269 n269 a275 a276 c310_rows a311 (F270_X11_findNearest fu U c248_groups c248_pots c248_teams c248_groupsNamed c261_groups c261_many c261_everyRank a262 a263 a264 c267_total a268 a269 n269 a275 a276 c310_rows a311 kv).1  v1 v2 c280_fresh a281 a282 a283 c288_fresh a289 a290 a291 c292_firstLevel c292_firstPrefix c292_firstOpen c292_firstLeft a293 a294 c295_way a296 a297 a298 a299 c302_rows c302_fresh a303 a304) (fun r => r.2.1.toInt ≤ 1 ∧ 0 ≤ r.2.1.toInt ∧ r.2.2.2.2.2.1.toInt ≤ 1 ∧ 0 ≤ r.2.2.2.2.2.1.toInt ∧ r.2.2.2.2.2.2.2.2.2.1.toInt ≤ 4 ∧ 0 ≤ r.2.2.2.2.2.2.2.2.2.1.toInt ∧ r.2.2.2.2.2.2.2.2.2.2.1.toInt ≤ 331775 ∧ 0 ≤ r.2.2.2.2.2.2.2.2.2.2.1.toInt ∧ r.2.2.2.2.2.2.2.2.2.2.2.1.toInt ≤ 16777215 ∧ 0 ≤ r.2.2.2.2.2.2.2.2.2.2.2.1.toInt ∧ r.2.2.2.2.2.2.2.2.2.2.2.2.1.toInt ≤ 15 ∧ 0 ≤ r.2.2.2.2.2.2.2.2.2.2.2.2.1.toInt ∧ dz_rg r.2.2.1 601 0 16777215 ∧ dz_rg r.2.2.2.1 5 0 14425 ∧ dz_rg r.2.2.2.2.2.2.1 601 0 16777215 ∧ dz_rg r.2.2.2.2.2.2.2.1 5 0 14425 ∧ dz_rg r.2.2.2.2.2.2.2.2.2.2.2.2.2.2.2.2.1 4 0 3 ∧ (r.2.1.toInt = 0 ∨ dz_pm r.2.2.2.2.1 (dz_kp κ))) := by
  unfold s270_X11_findNearest_0
  refine dz_Tg (by omega) ?_
  have e1 := dz_l0
  exact (t270_X11_findNearest_I_sa fu hfu κ hκ U c248_groups c248_pots c248_teams c248_groupsNamed c261_groups c261_many c261_everyRank a262 a263 a264 c267_total a268 a269 n269 a275 a276 c310_rows a311 p0 p1 p2 p3 p4 p5 p6 p7 p8 p9 p10 p11 p12 p13 p14 p15 p28 p29 hr_a262 hr_a263 hr_a264 hr_a268 hr_a269 hr_a275 hr_a276 o0 o1 o2 o3 o4 o5 o6 kv) v1 v2 (0 : Int32) (9223372036854775807 : Int64) (0 : Int32) (jw_l 0 []) (0 + 4) c280_fresh a281 a282 a283 c288_fresh a289 a290 a291 c292_firstLevel c292_firstPrefix c292_firstOpen c292_firstLeft a293 a294 c295_way a296 a297 a298 a299 c302_rows c302_fresh a303 a304 (by first | assumption | omega) (by first | assumption | omega) p32 p33 (by omega) (by omega) (by omega) (by omega) p16 p17 p18 p19 p20 p21 p22 p23 p24 p25 p26 p27 p31 p30 (dz_rg0 (by omega) (by omega)) (hr_a281) (hr_a282) (hr_a289) (hr_a290) (hr_a296) hr_a283 (by omega)
theorem t270_X11_findNearest_sa (fu : Nat) (hfu : 1000000000000 ≤ fu) (κ : Nat) (hκ : κ < 14) (U : Nat) (c248_groups : Int32) (c248_pots : Int32) (c248_teams : Int32) (c248_groupsNamed : Int32) (c261_groups : Int32) (c261_many : Int32) (c261_everyRank : Int32) (a262 : Nat → Int32) (a263 : Nat → Int32) (a264 : Nat → Int32) (c267_total : Int32) (a268 : Nat → Int32) (a269 : Nat → Int32) (n269 : Nat) (a275 : Nat → Int32) (a276 : Nat → Int32) (c310_rows : Int64) (a311 : Nat → Int64) (v1 : Int32) (v2 : Int32) (c280_fresh : Int32) (a281 : Nat → Int32) (a282 : Nat → Int32) (a283 : Nat → Int32) (c288_fresh : Int32) (a289 : Nat → Int32) (a290 : Nat → Int32) (a291 : Nat → Int32) (c292_firstLevel : Int32) (c292_firstPrefix : Int32) (c292_firstOpen : Int32) (c292_firstLeft : Int32) (a293 : Nat → Int32) (a294 : Nat → Int64) (c295_way : Int32) (a296 : Nat → Int32) (a297 : Nat → Int64) (a298 : Nat → Int32) (a299 : Nat → Int64) (c302_rows : Int64) (c302_fresh : Int32) (a303 : Nat → Int64) (a304 : Nat → Int64) (p0 : c248_groups.toInt ≤ 4) (p1 : 2 ≤ c248_groups.toInt) (p2 : c248_pots.toInt ≤ 4) (p3 : 0 ≤ c248_pots.toInt) (p4 : c248_teams.toInt ≤ 12) (p5 : 0 ≤ c248_teams.toInt) (p6 : c261_groups.toInt ≤ 4) (p7 : 0 ≤ c261_groups.toInt) (p8 : c261_many.toInt ≤ 24) (p9 : 0 ≤ c261_many.toInt) (p10 : c261_everyRank.toInt ≤ 16777215) (p11 : 0 ≤ c261_everyRank.toInt) (p12 : c267_total.toInt ≤ 13824) (p13 : 1 ≤ c267_total.toInt) (p14 : ((n269 : Nat) : Int) ≤ 13824) (p15 : 1 ≤ ((n269 : Nat) : Int)) (p16 : c280_fresh.toInt ≤ 1) (p17 : 0 ≤ c280_fresh.toInt) (p18 : c288_fresh.toInt ≤ 1) (p19 : 0 ≤ c288_fresh.toInt) (p20 : c292_firstLevel.toInt ≤ 4) (p21 : 0 ≤ c292_firstLevel.toInt) (p22 : c292_firstPrefix.toInt ≤ 331775) (p23 : 0 ≤ c292_firstPrefix.toInt) (p24 : c292_firstOpen.toInt ≤ 16777215) (p25 : 0 ≤ c292_firstOpen.toInt) (p26 : c292_firstLeft.toInt ≤ 15) (p27 : 0 ≤ c292_firstLeft.toInt) (p28 : c267_total.toInt ≤ ((n269 : Nat) : Int)) (p29 : 4 ≤ ((U : Nat) : Int)) (p30 : v1.toInt ≤ c248_pots.toInt) (p31 : c248_pots.toInt ≤ v1.toInt) (p32 : v2.toInt ≤ 1) (p33 : 1 ≤ v2.toInt) (hr_a262 : dz_rg a262 96 0 3) (hr_a263 : dz_rq a263 (dz_kr κ) (dz_kg κ) 0 (((dz_kg κ : Nat) : Int) - 1)) (hr_a264 : dz_rg a264 16 0 16777215) (hr_a268 : dz_pt a268 (dz_kS κ)) (hr_a269 : dz_rg a269 n269 0 1023) (hr_a275 : dz_pm a275 (dz_kp κ)) (hr_a276 : dz_rg a276 4 0 3) (hr_a281 : dz_rg a281 601 0 16777215) (hr_a282 : dz_rg a282 5 0 14425) (hr_a283 : (c280_fresh.toInt = 0 ∨ dz_pm a283 (dz_kp κ))) (hr_a289 : dz_rg a289 601 0 16777215) (hr_a290 : dz_rg a290 5 0 14425) (hr_a296 : dz_rg a296 4 0 3) (o0 : c248_groups.toInt = ((dz_kg κ : Nat) : Int)) (o1 : c248_pots.toInt = ((dz_kp κ : Nat) : Int)) (o2 : c248_teams.toInt = ((dz_km κ : Nat) : Int)) (o3 : c261_groups.toInt = ((dz_kg κ : Nat) : Int)) (o4 : c261_many.toInt = ((dz_kr κ : Nat) : Int)) (o5 : c261_everyRank.toInt = ((dz_ke κ : Nat) : Int)) (o6 : c267_total.toInt = ((dz_kt κ : Nat) : Int)) : dz_T (f270_X11_findNearest fu U c248_groups c248_pots c248_teams c248_groupsNamed c261_groups c261_many c261_everyRank a262 a263 a264 c267_total a268 a269 n269 a275 a276 c310_rows a311 v1 v2 c280_fresh a281 a282 a283 c288_fresh a289 a290 a291 c292_firstLevel c292_firstPrefix c292_firstOpen c292_firstLeft a293 a294 c295_way a296 a297 a298 a299 c302_rows c302_fresh a303 a304) (fun r => r.2.1.toInt ≤ 1 ∧ 0 ≤ r.2.1.toInt ∧ r.2.2.2.2.2.1.toInt ≤ 1 ∧ 0 ≤ r.2.2.2.2.2.1.toInt ∧ r.2.2.2.2.2.2.2.2.2.1.toInt ≤ 4 ∧ 0 ≤ r.2.2.2.2.2.2.2.2.2.1.toInt ∧ r.2.2.2.2.2.2.2.2.2.2.1.toInt ≤ 331775 ∧ 0 ≤ r.2.2.2.2.2.2.2.2.2.2.1.toInt ∧ r.2.2.2.2.2.2.2.2.2.2.2.1.toInt ≤ 16777215 ∧ 0 ≤ r.2.2.2.2.2.2.2.2.2.2.2.1.toInt ∧ r.2.2.2.2.2.2.2.2.2.2.2.2.1.toInt ≤ 15 ∧ 0 ≤ r.2.2.2.2.2.2.2.2.2.2.2.2.1.toInt ∧ dz_rg r.2.2.1 601 0 16777215 ∧ dz_rg r.2.2.2.1 5 0 14425 ∧ dz_rg r.2.2.2.2.2.2.1 601 0 16777215 ∧ dz_rg r.2.2.2.2.2.2.2.1 5 0 14425 ∧ dz_rg r.2.2.2.2.2.2.2.2.2.2.2.2.2.2.2.2.1 4 0 3 ∧ (r.2.1.toInt = 0 ∨ dz_pm r.2.2.2.2.1 (dz_kp κ))) :=
  t270_X11_findNearest_E_sa fu hfu κ hκ U c248_groups c248_pots c248_teams c248_groupsNamed c261_groups c261_many c261_everyRank a262 a263 a264 c267_total a268 a269 n269 a275 a276 c310_rows a311 v1 v2 c280_fresh a281 a282 a283 c288_fresh a289 a290 a291 c292_firstLevel c292_firstPrefix c292_firstOpen c292_firstLeft a293 a294 c295_way a296 a297 a298 a299 c302_rows c302_fresh a303 a304 p0 p1 p2 p3 p4 p5 p6 p7 p8 p9 p10 p11 p12 p13 p14 p15 p16 p17 p18 p19 p20 p21 p22 p23 p24 p25 p26 p27 p28 p29 p30 p31 p32 p33 hr_a262 hr_a263 hr_a264 hr_a268 hr_a269 hr_a275 hr_a276 hr_a281 hr_a282 hr_a283 hr_a289 hr_a290 hr_a296 o0 o1 o2 o3 o4 o5 o6 fu hfu
