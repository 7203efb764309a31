/-! leave: what isEvenEnough leaves, and what it takes -/
/-- a row's length: no shorter than N0 -/
def dz_nn (N0 n : Nat) : Prop := N0 ≤ n ∧ n < 2147483648
theorem dz_rfP (fu U : Nat) (c248_groups c248_pots c248_bars c261_many : Int32) (a263 : Nat → Int32) (c267_total : Int32) (a268 a269 : Nat → Int32) (n269 : Nat) (c305_fresh : Int32) (a306 : Nat → Int32) (n306 : Nat) (N0 : Nat) (hn : dz_nn N0 n306) : dz_P (f277_X0_refresh fu U c248_groups c248_pots c248_bars c261_many a263 c267_total a268 a269 n269 c305_fresh a306 n306) (fun r => r.1.toInt ≠ 0 ∧ dz_nn N0 r.2.2) := by
  have l1 : (1 : Int32).toInt ≠ 0 := by decide
  have key : ∀ k : Nat, (∀ (sl : Nat) (f : Int32) (a : Nat → Int32) (n : Nat), dz_nn N0 n → dz_P ((F277_X0_refresh fu U c248_groups c248_pots c248_bars c261_many a263 c267_total a268 a269 n269 k).1 sl f a n) (fun r => r.1.toInt ≠ 0 ∧ dz_nn N0 r.2.2)) ∧ (∀ (v2 : Int32) (sl : Nat) (f : Int32) (a : Nat → Int32) (n : Nat), dz_nn N0 n → dz_P ((F277_X0_refresh fu U c248_groups c248_pots c248_bars c261_many a263 c267_total a268 a269 n269 k).2.1 v2 sl f a n) (fun r => r.1.toInt ≠ 0 ∧ dz_nn N0 r.2.2)) ∧ (∀ (v2 : Int32) (sl : Nat) (f : Int32) (a : Nat → Int32) (n : Nat), dz_nn N0 n → dz_P ((F277_X0_refresh fu U c248_groups c248_pots c248_bars c261_many a263 c267_total a268 a269 n269 k).2.2.1 v2 sl f a n) (fun r => r.1.toInt ≠ 0 ∧ dz_nn N0 r.2.2)) ∧ (∀ (v2 v3 w0 : Int32) (sl : Nat) (f : Int32) (a : Nat → Int32) (n : Nat), dz_nn N0 n → dz_P ((F277_X0_refresh fu U c248_groups c248_pots c248_bars c261_many a263 c267_total a268 a269 n269 k).2.2.2.1 v2 v3 w0 sl f a n) (fun r => r.1.toInt ≠ 0 ∧ dz_nn N0 r.2.2)) ∧ (∀ (v2 w0 w1 w2 : Int32) (sl : Nat) (f : Int32) (a : Nat → Int32) (n : Nat), dz_nn N0 n → dz_P ((F277_X0_refresh fu U c248_groups c248_pots c248_bars c261_many a263 c267_total a268 a269 n269 k).2.2.2.2 v2 w0 w1 w2 sl f a n) (fun r => r.1.toInt ≠ 0 ∧ dz_nn N0 r.2.2)) := by
    intro k
    induction k with
    | zero => exact ⟨fun _ _ _ _ _ => dz_Pn, fun _ _ _ _ _ _ => dz_Pn, fun _ _ _ _ _ _ => dz_Pn, fun _ _ _ _ _ _ _ _ => dz_Pn, fun _ _ _ _ _ _ _ _ _ => dz_Pn⟩
    | succ k ih =>
      obtain ⟨i1, i2, i3, i4, i5⟩ := ih
      refine ⟨?_, ?_, ?_, ?_, ?_⟩
      · intro sl f a n hn
        show dz_P (s277_X0_refresh_1 fu U c248_groups c248_pots c248_bars c261_many a263 c267_total a268 a269 n269 _ sl f a n) _
        unfold s277_X0_refresh_1
        exact dz_Pi (fun _ => dz_Pa (fun _ => i2 _ _ _ _ _ hn)) (fun _ => dz_Pn)
      · intro v2 sl f a n hn
        show dz_P (s277_X0_refresh_2 fu U c248_groups c248_pots c248_bars c261_many a263 c267_total a268 a269 n269 _ _ v2 sl f a n) _
        unfold s277_X0_refresh_2
        exact dz_Pi (fun _ => dz_Pi (fun _ => dz_Ps ⟨l1, hn⟩) (fun _ => dz_Pi (fun _ => dz_Pa (fun _ => dz_Pi (fun _ => i3 _ _ _ _ _ hn) (fun _ => dz_Pi (fun _ => i4 _ _ _ _ _ _ _ hn) (fun _ => dz_Pa (fun _ => i4 _ _ _ _ _ _ _ hn))))) (fun _ => dz_Pn))) (fun _ => dz_Pn)
      · intro v2 sl f a n hn
        show dz_P (s277_X0_refresh_3 fu U c248_groups c248_pots c248_bars c261_many a263 c267_total a268 a269 n269 _ v2 sl f a n) _
        unfold s277_X0_refresh_3
        exact dz_Pi (fun _ => i2 _ _ _ _ _ hn) (fun _ => dz_Pn)
      · intro v2 v3 w0 sl f a n hn
        show dz_P (s277_X0_refresh_4 fu U c248_groups c248_pots c248_bars c261_many a263 c267_total a268 a269 n269 _ v2 v3 w0 sl f a n) _
        unfold s277_X0_refresh_4
        exact dz_Pi (fun _ => dz_Pi (fun _ => i5 _ _ _ _ _ _ _ _ hn) (fun _ => dz_Pa (fun _ => i5 _ _ _ _ _ _ _ _ hn))) (fun _ => dz_Pn)
      · intro v2 w0 w1 w2 sl f a n hn
        show dz_P (s277_X0_refresh_5 fu U c248_groups c248_pots c248_bars c261_many a263 c267_total a268 a269 n269 _ v2 w0 w1 w2 sl f a n) _
        unfold s277_X0_refresh_5
        exact dz_Pi (fun _ => dz_Pa (fun _ => dz_Pa (fun _ => i3 _ _ _ _ _ hn))) (fun _ => dz_Pn)
  obtain ⟨i1, -⟩ := key fu
  unfold f277_X0_refresh s277_X0_refresh_0
  have en := dz_ofn (n := n306) hn.2
  refine dz_Pi (fun _ => dz_Pa (fun r2 => dz_Pi (fun _ => i1 _ _ _ _ hn) (fun cc => ?_))) (fun h => dz_Ps ⟨fun e => h (Int32.toInt_inj.mp (by rw [e]; decide)), hn⟩)
  have cc' := dz_fnle cc
  have tt := dz_tn (r2 * 144)
  have rr := dz_rng (r2 * 144)
  have h1 := hn.1
  exact dz_Pi (fun _ => dz_Pi (fun _ => dz_Pi (fun _ => dz_Pi (fun _ => i1 _ _ _ _ ⟨by omega, by omega⟩) (fun _ => dz_Pn)) (fun _ => dz_Pn)) (fun _ => dz_Pn)) (fun _ => dz_Pn)
theorem dz_pwP (fu U : Nat) (c248_groups c248_pots c248_bars c261_many : Int32) (a263 : Nat → Int32) (c267_total : Int32) (a268 a269 : Nat → Int32) (n269 : Nat) (v1 v2 v3 v4 c305_fresh : Int32) (a306 : Nat → Int32) (n306 : Nat) (N0 : Nat) (hn : dz_nn N0 n306) : dz_P (f278_X0_pairsWithout fu U c248_groups c248_pots c248_bars c261_many a263 c267_total a268 a269 n269 v1 v2 v3 v4 c305_fresh a306 n306) (fun r => r.2.1.toInt ≠ 0 ∧ dz_nn N0 r.2.2.2) := by
  have key : ∀ (v1 v2 v5 : Int32) (v6 : Int64) (sl : Nat) (f : Int32) (a : Nat → Int32) (n : Nat), f.toInt ≠ 0 → dz_nn N0 n → dz_P (s278_X0_pairsWithout_1 fu U c248_groups c248_pots c248_bars c261_many a263 c267_total a268 a269 n269 v1 v2 v5 v6 sl f a n) (fun r => r.2.1.toInt ≠ 0 ∧ dz_nn N0 r.2.2.2) := by
    intro v1 v2 v5 v6 sl f a n hf hn
    unfold s278_X0_pairsWithout_1
    exact dz_Pi (fun _ => dz_Pi (fun _ => dz_Ps ⟨hf, hn⟩) (fun _ => dz_Pa (fun _ => dz_Pi (fun _ => dz_Pa (fun _ => dz_Pi (fun _ => dz_Ps ⟨hf, hn⟩) (fun _ => dz_Pn))) (fun _ => dz_Pn)))) (fun _ => dz_Pn)
  unfold f278_X0_pairsWithout s278_X0_pairsWithout_0
  refine dz_Pi (fun _ => dz_Pb (dz_rfP fu _ _ _ _ _ _ _ _ _ _ _ _ _ N0 hn) (fun r hr => ?_)) (fun _ => dz_Pn)
  exact dz_Pi (fun _ => dz_Pi (fun _ => key _ _ _ _ _ _ _ _ hr.1 hr.2) (fun _ => dz_Pa (fun _ => dz_Pi (fun _ => key _ _ _ _ _ _ _ _ hr.1 hr.2) (fun _ => dz_Pn)))) (fun _ => dz_Pn)
theorem dz_evP (fu U N0 : Nat) (c248_groups c248_pots c248_teams c248_bars c261_many : Int32) (a263 : Nat → Int32) (c267_total : Int32) (a268 a269 : Nat → Int32) (n269 : Nat) (a271 : Nat → Int32) : ∀ k : Nat, (∀ (v1 v2 v3 : Int32) (v5 : Int64) (v7 : Int32) (sl : Nat) (f : Int32) (a : Nat → Int32) (n : Nat), dz_nn N0 n → dz_P ((F280_X0_isEvenEnough fu U c248_groups c248_pots c248_teams c248_bars c261_many a263 c267_total a268 a269 n269 a271 k).2.2.1 v1 v2 v3 v5 v7 sl f a n) (fun r => dz_nn N0 r.2.2.2 ∧ (r.2.1.toInt ≠ 0 ∨ (f.toInt = 0 ∧ r.2.1 = f ∧ r.2.2.2 = n)))) ∧ (∀ (v1 v2 v3 : Int32) (v5 : Int64) (v7 v8 : Int32) (sl : Nat) (f : Int32) (a : Nat → Int32) (n : Nat), dz_nn N0 n → dz_P ((F280_X0_isEvenEnough fu U c248_groups c248_pots c248_teams c248_bars c261_many a263 c267_total a268 a269 n269 a271 k).2.2.2 v1 v2 v3 v5 v7 v8 sl f a n) (fun r => dz_nn N0 r.2.2.2 ∧ (r.2.1.toInt ≠ 0 ∨ (f.toInt = 0 ∧ r.2.1 = f ∧ r.2.2.2 = n)))) := by
  have same : ∀ (x f : Int32) (a : Nat → Int32) (n : Nat), dz_nn N0 n → dz_P (some (x, f, a, n)) (fun r => dz_nn N0 r.2.2.2 ∧ (r.2.1.toInt ≠ 0 ∨ (f.toInt = 0 ∧ r.2.1 = f ∧ r.2.2.2 = n))) := fun x f a n hn => dz_Ps ⟨hn, by
    by_cases h : f.toInt = 0
    · exact Or.inr ⟨h, rfl, rfl⟩
    · exact Or.inl h⟩
  intro k
  induction k with
  | zero => exact ⟨fun _ _ _ _ _ _ _ _ _ _ => dz_Pn, fun _ _ _ _ _ _ _ _ _ _ _ => dz_Pn⟩
  | succ k ih =>
    obtain ⟨i3, i4⟩ := ih
    refine ⟨?_, ?_⟩
    · intro v1 v2 v3 v5 v7 sl f a n hn
      show dz_P (s280_X0_isEvenEnough_3 fu U c248_groups c248_pots c248_teams c248_bars c261_many a263 c267_total a268 a269 n269 a271 _ v1 v2 v3 v5 v7 sl f a n) _
      unfold s280_X0_isEvenEnough_3
      exact dz_Pi (fun _ => dz_Pi (fun _ => same _ _ _ _ hn) (fun _ => dz_Pa (fun _ => i4 _ _ _ _ _ _ _ _ _ _ hn))) (fun _ => dz_Pn)
    · intro v1 v2 v3 v5 v7 v8 sl f a n hn
      show dz_P (s280_X0_isEvenEnough_4 fu U c248_groups c248_pots c248_teams c248_bars c261_many a263 c267_total a268 a269 n269 a271 _ _ v1 v2 v3 v5 v7 v8 sl f a n) _
      unfold s280_X0_isEvenEnough_4
      refine dz_Pi (fun _ => dz_Pi (fun _ => i3 _ _ _ _ _ _ _ _ _ hn) (fun _ => dz_Pi (fun _ => dz_Pb (dz_pwP fu _ _ _ _ _ _ _ _ _ _ _ _ _ _ _ _ _ N0 hn) (fun r hr => ?_)) (fun _ => dz_Pn))) (fun _ => dz_Pn)
      refine dz_Pi (fun _ => ?_) (fun _ => dz_Ps ⟨hr.2, Or.inl hr.1⟩)
      exact fun r2 e => ⟨(i4 _ _ _ _ _ _ _ _ _ _ hr.2 r2 e).1, Or.inl (by
        rcases (i4 _ _ _ _ _ _ _ _ _ _ hr.2 r2 e).2 with h | h
        · exact h
        · exact absurd h.1 hr.1)⟩
theorem dz_evQ (fu U : Nat) (c248_groups c248_pots c248_teams c248_bars c261_many : Int32) (a263 : Nat → Int32) (c267_total : Int32) (a268 a269 : Nat → Int32) (n269 : Nat) (a271 : Nat → Int32) (v1 v2 v3 c305_fresh : Int32) (a306 : Nat → Int32) (n306 : Nat) (N0 : Nat) (hn : dz_nn N0 n306) : dz_P (f280_X0_isEvenEnough fu U c248_groups c248_pots c248_teams c248_bars c261_many a263 c267_total a268 a269 n269 a271 v1 v2 v3 c305_fresh a306 n306) (fun r => dz_nn N0 r.2.2.2 ∧ (r.2.1.toInt ≠ 0 ∨ (c305_fresh.toInt = 0 ∧ r.2.1 = c305_fresh ∧ r.2.2.2 = n306))) := by
  have same : ∀ (x f : Int32) (a : Nat → Int32) (n : Nat), dz_nn N0 n → dz_P (some (x, f, a, n)) (fun r => dz_nn N0 r.2.2.2 ∧ (r.2.1.toInt ≠ 0 ∨ (f.toInt = 0 ∧ r.2.1 = f ∧ r.2.2.2 = n))) := fun x f a n hn => dz_Ps ⟨hn, by
    by_cases h : f.toInt = 0
    · exact Or.inr ⟨h, rfl, rfl⟩
    · exact Or.inl h⟩
  have k2 : ∀ (k : Nat) (w0 w1 : Int32) (sl : Nat), dz_P ((F280_X0_isEvenEnough fu U c248_groups c248_pots c248_teams c248_bars c261_many a263 c267_total a268 a269 n269 a271 k).2.1 v1 v2 v3 w0 w1 sl c305_fresh a306 n306) (fun r => dz_nn N0 r.2.2.2 ∧ (r.2.1.toInt ≠ 0 ∨ (c305_fresh.toInt = 0 ∧ r.2.1 = c305_fresh ∧ r.2.2.2 = n306))) := by
    intro k w0 w1 sl
    cases k with
    | zero => exact dz_Pn
    | succ k =>
      show dz_P (s280_X0_isEvenEnough_2 fu U c248_groups c248_pots c248_teams c248_bars c261_many a263 c267_total a268 a269 n269 a271 _ v1 v2 v3 w0 w1 sl c305_fresh a306 n306) _
      unfold s280_X0_isEvenEnough_2
      exact dz_Pi (fun _ => dz_Pi (fun _ => dz_Pi (fun _ => same _ _ _ _ hn) (fun _ => (dz_evP fu U N0 _ _ _ _ _ _ _ _ _ _ _ k).1 _ _ _ _ _ _ _ _ _ hn)) (fun _ => dz_Pn)) (fun _ => dz_Pn)
  have k1 : ∀ (k : Nat) (w0 : Int32) (sl : Nat), dz_P ((F280_X0_isEvenEnough fu U c248_groups c248_pots c248_teams c248_bars c261_many a263 c267_total a268 a269 n269 a271 k).1 v1 v2 v3 w0 sl c305_fresh a306 n306) (fun r => dz_nn N0 r.2.2.2 ∧ (r.2.1.toInt ≠ 0 ∨ (c305_fresh.toInt = 0 ∧ r.2.1 = c305_fresh ∧ r.2.2.2 = n306))) := by
    intro k w0 sl
    cases k with
    | zero => exact dz_Pn
    | succ k =>
      show dz_P (s280_X0_isEvenEnough_1 fu U c248_groups c248_pots c248_teams c248_bars c261_many a263 c267_total a268 a269 n269 a271 _ v1 v2 v3 w0 sl c305_fresh a306 n306) _
      unfold s280_X0_isEvenEnough_1
      exact dz_Pi (fun _ => dz_Pi (fun _ => k2 k _ _ _) (fun _ => k2 k _ _ _)) (fun _ => dz_Pn)
  unfold f280_X0_isEvenEnough s280_X0_isEvenEnough_0
  exact dz_Pi (fun _ => k1 fu _ _) (fun _ => k1 fu _ _)
theorem dz_cm0 {x : Int32} (h : lg_cmp x.toInt64 0 = 0) : x = 0 := by
  unfold lg_cmp at h
  by_cases g : x.toInt64 > 0
  · rw [if_pos g] at h
    exact absurd h (by decide)
  · rw [if_neg g] at h
    by_cases e : x.toInt64 = 0
    · have := congrArg Int64.toInt e
      rw [Int32.toInt_toInt64] at this
      exact Int32.toInt_inj.mp (by rw [this]; decide)
    · rw [if_neg e] at h
      exact absurd h (by decide)
theorem dz_nx (fu : Nat) (g v : Int32) (g0 : 2 ≤ g.toInt) (g1 : g.toInt ≤ 4) (v0 : 0 ≤ v.toInt) (v1 : v.toInt ≤ 12) : ∃ r, f255_X3_nextPotAfter fu g v = some r ∧ g.toInt ≤ r.toInt ∧ (v.toInt = 0 → r.toInt = g.toInt) := by
  have l0 : (0 : Int32).toInt = 0 := by decide
  have l1 : (1 : Int32).toInt = 1 := by decide
  have d := dz_divv (a := v) (b := g) v0 (by omega)
  have e1 := dz_add (a := v / g) (b := 1) (by omega) (by omega)
  have m := dz_mulb (a := (v / g) + 1) (b := g) 13 4 (by omega) (by omega) (by omega) g1 (by decide)
  have p : 0 ≤ (v / g).toInt * g.toInt := Int.mul_nonneg d.2.1 (by omega)
  have q : ((v / g).toInt + 1) * g.toInt = (v / g).toInt * g.toInt + g.toInt := by rw [Int.add_mul, Int.one_mul]
  have w : (((v / g) + 1) * g).toInt = (v / g).toInt * g.toInt + g.toInt := by rw [m.1, e1, l1, q]
  refine ⟨((v / g) + 1) * g, ?_, by omega, fun h => ?_⟩
  · unfold f255_X3_nextPotAfter s255_X3_nextPotAfter_0 f160_X3_potOf s160_X3_potOf_0
    rw [if_neg (fun h => by have := Int32.le_iff_toInt_le.mp h; omega), if_pos (dz_nz (by omega))]
    rfl
  · have z : (v / g).toInt = 0 := by rw [d.1, h, Int.zero_ediv]
    rw [w, z, Int.zero_mul, Int.zero_add]
theorem dz_ev34 (fu : Nat) (c248_groups c248_pots c248_teams c248_bars c261_many : Int32) (a263 : Nat → Int32) (c267_total : Int32) (a268 a269 : Nat → Int32) (n269 : Nat) (a271 : Nat → Int32) (v1 v2 v3 : Int32) (v5 : Int64) (f : Int32) (a : Nat → Int32) (n : Nat) (g0 : 2 ≤ c248_groups.toInt) (g1 : c248_groups.toInt ≤ 4) (ht : c248_teams.toInt ≤ c248_groups.toInt) : ∀ (d k : Nat) (v7 : Int32), 2 * d + 1 ≤ k → 0 ≤ v7.toInt → v7.toInt ≤ 8 → v7.toInt + (d : Int) ≤ 8 → c248_teams.toInt ≤ v7.toInt + (d : Int) → (F280_X0_isEvenEnough fu 0 c248_groups c248_pots c248_teams c248_bars c261_many a263 c267_total a268 a269 n269 a271 k).2.2.1 v1 v2 v3 v5 v7 0 f a n = some (1, f, a, n) := by
  have l1 : (1 : Int32).toInt = 1 := by decide
  intro d
  induction d with
  | zero =>
    intro k v7 hk h0 h8 hd h
    obtain ⟨k0, rfl⟩ : ∃ x, k = x + 1 := ⟨k - 1, by omega⟩
    show s280_X0_isEvenEnough_3 fu 0 c248_groups c248_pots c248_teams c248_bars c261_many a263 c267_total a268 a269 n269 a271 _ v1 v2 v3 v5 v7 0 f a n = _
    unfold s280_X0_isEvenEnough_3
    rw [if_pos (Nat.le_refl 0), if_pos (Int32.le_iff_toInt_le.mpr (by omega))]
  | succ d ih =>
    intro k v7 hk h0 h8 hd h
    obtain ⟨k0, rfl⟩ : ∃ x, k = x + 2 := ⟨k - 2, by omega⟩
    show s280_X0_isEvenEnough_3 fu 0 c248_groups c248_pots c248_teams c248_bars c261_many a263 c267_total a268 a269 n269 a271 (F280_X0_isEvenEnough fu 0 c248_groups c248_pots c248_teams c248_bars c261_many a263 c267_total a268 a269 n269 a271 (k0 + 1)).2.2.2 v1 v2 v3 v5 v7 0 f a n = _
    unfold s280_X0_isEvenEnough_3
    rw [if_pos (Nat.le_refl 0)]
    by_cases c : c248_teams ≤ v7
    · rw [if_pos c]
    · rw [if_neg c]
      obtain ⟨r, hr, hg, -⟩ := dz_nx fu c248_groups v7 g0 g1 h0 (by omega)
      rw [hr]
      show s280_X0_isEvenEnough_4 fu 0 c248_groups c248_pots c248_teams c248_bars c261_many a263 c267_total a268 a269 n269 a271 (F280_X0_isEvenEnough fu 0 c248_groups c248_pots c248_teams c248_bars c261_many a263 c267_total a268 a269 n269 a271 k0).2.2.1 _ v1 v2 v3 v5 v7 r 0 f a n = _
      unfold s280_X0_isEvenEnough_4
      rw [if_pos (Nat.le_refl 0), if_pos (Int32.le_iff_toInt_le.mpr (by omega))]
      have e := dz_add (a := v7) (b := 1) (by omega) (by omega)
      exact ih k0 (v7 + 1) (by omega) (by omega) (by omega) (by omega) (by omega)
theorem dz_evR (fu U : Nat) (c248_groups c248_pots c248_teams c248_bars c261_many : Int32) (a263 : Nat → Int32) (c267_total : Int32) (a268 a269 : Nat → Int32) (n269 : Nat) (a271 : Nat → Int32) (v1 v2 v3 c305_fresh : Int32) (a306 : Nat → Int32) (n306 : Nat) (hn : n306 < 2147483648) (g0 : 2 ≤ c248_groups.toInt) (g1 : c248_groups.toInt ≤ 4) (ht : c248_groups.toInt < c248_teams.toInt) (hw : ¬ a271 ((dz_bitE v1) ||| (dz_bitE v2)).toNatClampNeg = 0) : dz_P (f280_X0_isEvenEnough fu U c248_groups c248_pots c248_teams c248_bars c261_many a263 c267_total a268 a269 n269 a271 v1 v2 v3 c305_fresh a306 n306) (fun r => r.2.1.toInt ≠ 0) := by
  have l0 : (0 : Int32).toInt = 0 := by decide
  have k4 : ∀ (k : Nat) (v5 : Int64) (v8 : Int32) (sl : Nat), v8.toInt = c248_groups.toInt → dz_P ((F280_X0_isEvenEnough fu U c248_groups c248_pots c248_teams c248_bars c261_many a263 c267_total a268 a269 n269 a271 k).2.2.2 v1 v2 v3 v5 0 v8 sl c305_fresh a306 n306) (fun r => r.2.1.toInt ≠ 0) := by
    intro k v5 v8 sl h8
    cases k with
    | zero => exact dz_Pn
    | succ k =>
      show dz_P (s280_X0_isEvenEnough_4 fu U c248_groups c248_pots c248_teams c248_bars c261_many a263 c267_total a268 a269 n269 a271 _ _ v1 v2 v3 v5 0 v8 sl c305_fresh a306 n306) _
      unfold s280_X0_isEvenEnough_4
      refine dz_Pi (fun _ => dz_Pi (fun h => absurd (Int32.le_iff_toInt_le.mp h) (by omega)) (fun _ => dz_Pi (fun _ => dz_Pb (dz_pwP fu _ _ _ _ _ _ _ _ _ _ _ _ _ _ _ _ _ 0 ⟨Nat.zero_le _, hn⟩) (fun r hr => ?_)) (fun _ => dz_Pn))) (fun _ => dz_Pn)
      refine dz_Pi (fun _ => ?_) (fun _ => dz_Ps hr.1)
      exact fun r2 e => by
        rcases ((dz_evP fu U 0 _ _ _ _ _ _ _ _ _ _ _ k).2 _ _ _ _ _ _ _ _ _ _ hr.2 r2 e).2 with h | h
        · exact h
        · exact absurd h.1 hr.1
  have k3 : ∀ (k : Nat) (v5 : Int64) (sl : Nat), dz_P ((F280_X0_isEvenEnough fu U c248_groups c248_pots c248_teams c248_bars c261_many a263 c267_total a268 a269 n269 a271 k).2.2.1 v1 v2 v3 v5 0 sl c305_fresh a306 n306) (fun r => r.2.1.toInt ≠ 0) := by
    intro k v5 sl
    cases k with
    | zero => exact dz_Pn
    | succ k =>
      show dz_P (s280_X0_isEvenEnough_3 fu U c248_groups c248_pots c248_teams c248_bars c261_many a263 c267_total a268 a269 n269 a271 _ v1 v2 v3 v5 0 sl c305_fresh a306 n306) _
      unfold s280_X0_isEvenEnough_3
      refine dz_Pi (fun _ => dz_Pi (fun h => absurd (Int32.le_iff_toInt_le.mp h) (by omega)) (fun _ => ?_)) (fun _ => dz_Pn)
      obtain ⟨r, hr, -, hz⟩ := dz_nx fu c248_groups 0 g0 g1 (by omega) (by omega)
      rw [hr]
      exact k4 k _ r _ (hz l0)
  have k2 : ∀ (k : Nat) (w0 w1 : Int32) (sl : Nat), w1 = dz_bitE v1 → w0 = dz_bitE v2 → dz_P ((F280_X0_isEvenEnough fu U c248_groups c248_pots c248_teams c248_bars c261_many a263 c267_total a268 a269 n269 a271 k).2.1 v1 v2 v3 w0 w1 sl c305_fresh a306 n306) (fun r => r.2.1.toInt ≠ 0) := by
    intro k w0 w1 sl e1 e0
    subst e1 e0
    cases k with
    | zero => exact dz_Pn
    | succ k =>
      show dz_P (s280_X0_isEvenEnough_2 fu U c248_groups c248_pots c248_teams c248_bars c261_many a263 c267_total a268 a269 n269 a271 _ v1 v2 v3 _ _ sl c305_fresh a306 n306) _
      unfold s280_X0_isEvenEnough_2
      exact dz_Pi (fun _ => dz_Pi (fun _ => dz_Pi (fun h => absurd (dz_cm0 h) hw) (fun _ => k3 k _ _)) (fun _ => dz_Pn)) (fun _ => dz_Pn)
  have k1 : ∀ (k : Nat) (w0 : Int32) (sl : Nat), w0 = dz_bitE v1 → dz_P ((F280_X0_isEvenEnough fu U c248_groups c248_pots c248_teams c248_bars c261_many a263 c267_total a268 a269 n269 a271 k).1 v1 v2 v3 w0 sl c305_fresh a306 n306) (fun r => r.2.1.toInt ≠ 0) := by
    intro k w0 sl e0
    cases k with
    | zero => exact dz_Pn
    | succ k =>
      show dz_P (s280_X0_isEvenEnough_1 fu U c248_groups c248_pots c248_teams c248_bars c261_many a263 c267_total a268 a269 n269 a271 _ v1 v2 v3 w0 sl c305_fresh a306 n306) _
      unfold s280_X0_isEvenEnough_1
      exact dz_Pi (fun _ => dz_Pi (fun h => k2 k _ _ _ e0 (by unfold dz_bitE; rw [if_pos h])) (fun h => k2 k _ _ _ e0 (by unfold dz_bitE; rw [if_neg h]))) (fun _ => dz_Pn)
  unfold f280_X0_isEvenEnough s280_X0_isEvenEnough_0
  exact dz_Pi (fun h => k1 fu _ _ (by unfold dz_bitE; rw [if_pos h])) (fun h => k1 fu _ _ (by unfold dz_bitE; rw [if_neg h]))
/-- isEvenEnough where it takes nothing -/
theorem dz_ev0 (fu : Nat) (hfu : 1000000000000 ≤ fu) (c248_groups c248_pots c248_teams c248_bars c261_many : Int32) (a263 : Nat → Int32) (c267_total : Int32) (a268 a269 : Nat → Int32) (n269 : Nat) (a271 : Nat → Int32) (v1 v2 v3 c305_fresh : Int32) (a306 : Nat → Int32) (n306 : Nat) (g0 : 2 ≤ c248_groups.toInt) (g1 : c248_groups.toInt ≤ 4) (i1 : dz_in ((dz_bitE v1) ||| (dz_bitE v2)) 1024) (h : a271 ((dz_bitE v1) ||| (dz_bitE v2)).toNatClampNeg = 0 ∨ c248_teams.toInt ≤ c248_groups.toInt) : ∃ x : Int32, f280_X0_isEvenEnough fu 0 c248_groups c248_pots c248_teams c248_bars c261_many a263 c267_total a268 a269 n269 a271 v1 v2 v3 c305_fresh a306 n306 = some (x, c305_fresh, a306, n306) ∧ x.toInt ≤ 1 ∧ 0 ≤ x.toInt := by
  have l0 : (0 : Int32).toInt = 0 := by decide
  obtain ⟨k, hk⟩ : ∃ k, fu = k + 40 := ⟨fu - 40, by omega⟩
  have k2 : ∀ (w0 w1 : Int32), w1 = dz_bitE v1 → w0 = dz_bitE v2 → ∃ x : Int32, (F280_X0_isEvenEnough fu 0 c248_groups c248_pots c248_teams c248_bars c261_many a263 c267_total a268 a269 n269 a271 (k + 39)).2.1 v1 v2 v3 w0 w1 0 c305_fresh a306 n306 = some (x, c305_fresh, a306, n306) ∧ x.toInt ≤ 1 ∧ 0 ≤ x.toInt := by
    intro w0 w1 e1 e0
    subst e1 e0
    by_cases c : lg_cmp (a271 ((dz_bitE v1) ||| (dz_bitE v2)).toNatClampNeg).toInt64 0 = 0
    · refine ⟨0, ?_, by decide, by decide⟩
      show s280_X0_isEvenEnough_2 fu 0 c248_groups c248_pots c248_teams c248_bars c261_many a263 c267_total a268 a269 n269 a271 _ v1 v2 v3 _ _ 0 c305_fresh a306 n306 = _
      unfold s280_X0_isEvenEnough_2
      rw [if_pos (Nat.le_refl 0), if_pos i1, if_pos c]
    · refine ⟨1, ?_, by decide, by decide⟩
      have ht : c248_teams.toInt ≤ c248_groups.toInt := by
        rcases h with h | h
        · rw [h] at c
          exact absurd (by decide) c
        · exact h
      show s280_X0_isEvenEnough_2 fu 0 c248_groups c248_pots c248_teams c248_bars c261_many a263 c267_total a268 a269 n269 a271 (F280_X0_isEvenEnough fu 0 c248_groups c248_pots c248_teams c248_bars c261_many a263 c267_total a268 a269 n269 a271 (k + 38)).2.2.1 v1 v2 v3 _ _ 0 c305_fresh a306 n306 = _
      unfold s280_X0_isEvenEnough_2
      rw [if_pos (Nat.le_refl 0), if_pos i1, if_neg c]
      exact dz_ev34 fu _ _ _ _ _ _ _ _ _ _ _ _ _ _ _ _ _ _ g0 g1 ht 8 (k + 38) 0 (by omega) (by omega) (by omega) (by omega) (by omega)
  have k1 : ∀ (w0 : Int32), w0 = dz_bitE v1 → ∃ x : Int32, (F280_X0_isEvenEnough fu 0 c248_groups c248_pots c248_teams c248_bars c261_many a263 c267_total a268 a269 n269 a271 (k + 40)).1 v1 v2 v3 w0 0 c305_fresh a306 n306 = some (x, c305_fresh, a306, n306) ∧ x.toInt ≤ 1 ∧ 0 ≤ x.toInt := by
    intro w0 e0
    show ∃ x : Int32, s280_X0_isEvenEnough_1 fu 0 c248_groups c248_pots c248_teams c248_bars c261_many a263 c267_total a268 a269 n269 a271 (F280_X0_isEvenEnough fu 0 c248_groups c248_pots c248_teams c248_bars c261_many a263 c267_total a268 a269 n269 a271 (k + 39)).2.1 v1 v2 v3 w0 0 c305_fresh a306 n306 = _ ∧ _
    unfold s280_X0_isEvenEnough_1
    rw [if_pos (Nat.le_refl 0)]
    by_cases c : v2 = -1
    · rw [if_pos c]
      exact k2 _ _ e0 (by unfold dz_bitE; rw [if_pos c])
    · rw [if_neg c]
      exact k2 _ _ e0 (by unfold dz_bitE; rw [if_neg c])
  suffices ∀ n, n = k + 40 → ∃ x : Int32, s280_X0_isEvenEnough_0 fu 0 c248_groups c248_pots c248_teams c248_bars c261_many a263 c267_total a268 a269 n269 a271 (F280_X0_isEvenEnough fu 0 c248_groups c248_pots c248_teams c248_bars c261_many a263 c267_total a268 a269 n269 a271 n).1 v1 v2 v3 c305_fresh a306 n306 = some (x, c305_fresh, a306, n306) ∧ x.toInt ≤ 1 ∧ 0 ≤ x.toInt from this fu hk
  intro n hn
  subst hn
  unfold s280_X0_isEvenEnough_0
  by_cases c : v1 = -1
  · rw [if_pos c]
    exact k1 _ (by unfold dz_bitE; rw [if_pos c])
  · rw [if_neg c]
    exact k1 _ (by unfold dz_bitE; rw [if_neg c])
theorem dz_needEle {fr bars : Int32} {n : Nat} {a : Nat → Int32} {b1 b2 teams groups : Int32} : dz_needE fr bars n a b1 b2 teams groups ≤ dz_needT fr bars n := by
  unfold dz_needE
  split
  · exact Nat.zero_le _
  · split
    · exact Nat.zero_le _
    · exact Nat.le_refl _
theorem dz_bitEin {v1 v2 bars : Int32} (a0 : -1 ≤ v1.toInt) (a1 : v1.toInt < 10) (b0 : -1 ≤ v2.toInt) (b1 : v2.toInt < 10) : dz_in ((dz_bitE v1) ||| (dz_bitE v2)) 1024 := by
  have lm : (-1 : Int32).toInt = -1 := by decide
  have l0 : (0 : Int32).toInt = 0 := by decide
  have one : ∀ v : Int32, -1 ≤ v.toInt → v.toInt < 10 → 0 ≤ (dz_bitE v).toInt ∧ (dz_bitE v).toInt < ((2 ^ 10 : Nat) : Int) := by
    intro v h0 h1
    unfold dz_bitE
    by_cases c : v = -1
    · rw [if_pos c, l0]; exact ⟨by decide, by decide⟩
    · rw [if_neg c]
      have c' : v.toInt ≠ -1 := fun e => c (Int32.toInt_inj.mp (by omega))
      have s := dz_shl1 (b := v) 0 9 (by omega) (by omega) (by decide)
      have e9 : ((2 ^ 9 : Nat) : Int) = 512 := by decide
      have e10 : ((2 ^ 10 : Nat) : Int) = 1024 := by decide
      have e0 : ((2 ^ 0 : Nat) : Int) = 1 := by decide
      omega
  have x := one v1 a0 a1
  have y := one v2 b0 b1
  have o := dz_orb (a := dz_bitE v1) (b := dz_bitE v2) 10 x.1 y.1 x.2 y.2 (by decide)
  have e10 : ((2 ^ 10 : Nat) : Int) = 1024 := by decide
  exact dz_inp o.1 (by omega)
theorem dz_ntz {fr bars : Int32} {n : Nat} : fr.toInt = 0 ∨ dz_needT fr bars n = 0 := by
  by_cases h : fr.toInt = 0
  · exact Or.inl h
  · refine Or.inr ?_
    unfold dz_needT
    rw [if_neg (fun e => h (by rw [e]; decide))]
theorem dz_ntk {fr r1 bars : Int32} {n r3 U : Nat} (q : r1.toInt ≠ 0 ∨ (fr.toInt = 0 ∧ r1 = fr ∧ r3 = n)) (x : fr.toInt ≠ 0 ∨ dz_needT fr bars n ≤ U) : r1.toInt ≠ 0 ∨ dz_needT r1 bars r3 ≤ U := by
  rcases q with q | ⟨q1, q2, q3⟩
  · exact Or.inl q
  · rcases x with x | x
    · exact absurd q1 x
    · rw [q2, q3]
      exact Or.inr x
