/-! leave: where nothing was made, nothing is needed -/
theorem dz_evZ (fu U : Nat) (c248_groups c248_pots c248_teams c248_bars c261_many : Int32) (a263 : Nat → Int32) (c267_total : Int32) (a268 a269 : Nat → Int32) (n269 : Nat) (a271 : Nat → Int32) (v1 v2 v3 c305_fresh : Int32) (a306 : Nat → Int32) (n306 : Nat) (hn : n306 < 2147483648) (g0 : 2 ≤ c248_groups.toInt) (g1 : c248_groups.toInt ≤ 4) (hz : ¬ dz_needE c305_fresh c248_bars n306 a271 v1 v2 c248_teams c248_groups = 0) : dz_P (f280_X0_isEvenEnough fu U c248_groups c248_pots c248_teams c248_bars c261_many a263 c267_total a268 a269 n269 a271 v1 v2 v3 c305_fresh a306 n306) (fun r => r.2.1.toInt ≠ 0) := by
  by_cases c1 : a271 ((dz_bitE v1) ||| (dz_bitE v2)).toNatClampNeg = 0
  · exact absurd (by unfold dz_needE; rw [if_pos c1]) hz
  · by_cases c2 : c248_teams ≤ c248_groups
    · exact absurd (by unfold dz_needE; rw [if_neg c1, if_pos c2]) hz
    · exact dz_evR fu U _ _ _ _ _ _ _ _ _ _ _ _ _ _ _ _ _ hn g0 g1 (dz_fnle c2) c1
theorem dz_cmb {f g h : Int32} {n m k : Nat} (a : g.toInt ≠ 0 ∨ (f.toInt = 0 ∧ g = f ∧ m = n)) (b : h.toInt ≠ 0 ∨ (g.toInt = 0 ∧ h = g ∧ k = m)) : h.toInt ≠ 0 ∨ (f.toInt = 0 ∧ h = f ∧ k = n) := by
  rcases b with b | ⟨b1, b2, b3⟩
  · exact Or.inl b
  · rcases a with a | ⟨a1, a2, a3⟩
    · exact absurd b1 a
    · exact Or.inr ⟨a1, b2.trans a2, b3.trans a3⟩
theorem dz_lvM (fu U N0 : Nat) (c248_groups c248_pots c248_teams c248_bars c261_many : Int32) (a263 : Nat → Int32) (c267_total : Int32) (a268 a269 : Nat → Int32) (n269 : Nat) (a271 : Nat → Int32) : ∀ k : Nat, (∀ (v1 v2 : Int32) (sl : Nat) (f : Int32) (a : Nat → Int32) (n : Nat), dz_nn N0 n → dz_P ((F306_X11_leave fu U c248_groups c248_pots c248_teams c248_bars c261_many a263 c267_total a268 a269 n269 a271 k).1 v1 v2 sl f a n) (fun r => dz_nn N0 r.2.2.2 ∧ (r.2.1.toInt ≠ 0 ∨ (f.toInt = 0 ∧ r.2.1 = f ∧ r.2.2.2 = n)))) ∧ (∀ (v1 v2 : Int32) (sl : Nat) (f : Int32) (a : Nat → Int32) (n : Nat), dz_nn N0 n → dz_P ((F306_X11_leave fu U c248_groups c248_pots c248_teams c248_bars c261_many a263 c267_total a268 a269 n269 a271 k).2.1 v1 v2 sl f a n) (fun r => dz_nn N0 r.2.2.2 ∧ (r.2.1.toInt ≠ 0 ∨ (f.toInt = 0 ∧ r.2.1 = f ∧ r.2.2.2 = n)))) ∧ (∀ (v1 v2 v3 : Int32) (sl : Nat) (f : Int32) (a : Nat → Int32) (n : Nat), dz_nn N0 n → dz_P ((F306_X11_leave fu U c248_groups c248_pots c248_teams c248_bars c261_many a263 c267_total a268 a269 n269 a271 k).2.2 v1 v2 v3 sl f a n) (fun r => dz_nn N0 r.2.2.2 ∧ (r.2.1.toInt ≠ 0 ∨ (f.toInt = 0 ∧ r.2.1 = f ∧ r.2.2.2 = n)))) := by
  have same : ∀ (x f : Int32) (a : Nat → Int32) (n : Nat), dz_nn N0 n → dz_P (some (x, f, a, n)) (fun r => dz_nn N0 r.2.2.2 ∧ (r.2.1.toInt ≠ 0 ∨ (f.toInt = 0 ∧ r.2.1 = f ∧ r.2.2.2 = n))) := fun x f a n hn => dz_Ps ⟨hn, by
    by_cases h : f.toInt = 0
    · exact Or.inr ⟨h, rfl, rfl⟩
    · exact Or.inl h⟩
  intro k
  induction k with
  | zero => exact ⟨fun _ _ _ _ _ _ _ => dz_Pn, fun _ _ _ _ _ _ _ => dz_Pn, fun _ _ _ _ _ _ _ _ => dz_Pn⟩
  | succ k ih =>
    obtain ⟨i1, i2, i3⟩ := ih
    refine ⟨?_, ?_, ?_⟩
    · intro v1 v2 sl f a n hn
      show dz_P (s306_X11_leave_1 fu U c248_groups c248_pots c248_teams c248_bars c261_many a263 c267_total a268 a269 n269 a271 _ _ v1 v2 sl f a n) _
      unfold s306_X11_leave_1
      exact dz_Pi (fun _ => dz_Pi (fun _ => i2 _ _ _ _ _ _ hn) (fun _ => dz_Pi (fun _ => dz_Pb (dz_evQ fu _ _ _ _ _ _ _ _ _ _ _ _ _ _ _ _ _ _ N0 hn) (fun r hr => dz_Pi (fun _ => fun r2 e2 => ⟨(i1 _ _ _ _ _ _ hr.1 r2 e2).1, dz_cmb hr.2 (i1 _ _ _ _ _ _ hr.1 r2 e2).2⟩) (fun _ => dz_Ps hr))) (fun _ => dz_Pn))) (fun _ => dz_Pn)
    · intro v1 v2 sl f a n hn
      show dz_P (s306_X11_leave_2 fu U c248_groups c248_pots c248_teams c248_bars c261_many a263 c267_total a268 a269 n269 a271 _ v1 v2 sl f a n) _
      unfold s306_X11_leave_2
      exact dz_Pi (fun _ => dz_Pi (fun _ => same _ _ _ _ hn) (fun _ => i3 _ _ _ _ _ _ _ hn)) (fun _ => dz_Pn)
    · intro v1 v2 v3 sl f a n hn
      show dz_P (s306_X11_leave_3 fu U c248_groups c248_pots c248_teams c248_bars c261_many a263 c267_total a268 a269 n269 a271 _ _ v1 v2 v3 sl f a n) _
      unfold s306_X11_leave_3
      exact dz_Pi (fun _ => dz_Pi (fun _ => i2 _ _ _ _ _ _ hn) (fun _ => dz_Pi (fun _ => dz_Pb (dz_evQ fu _ _ _ _ _ _ _ _ _ _ _ _ _ _ _ _ _ _ N0 hn) (fun r hr => dz_Pi (fun _ => fun r2 e2 => ⟨(i3 _ _ _ _ _ _ _ hr.1 r2 e2).1, dz_cmb hr.2 (i3 _ _ _ _ _ _ _ hr.1 r2 e2).2⟩) (fun _ => dz_Ps hr))) (fun _ => dz_Pn))) (fun _ => dz_Pn)
theorem dz_simB {S R : Type} {U z : Nat} {o : Option S} {g g0 : S → Option R} {r : R} (h : (if 0 + z ≤ U then o.bind g else none) = some r) (hz : ¬ z = 0 → ∀ x, o = some x → g x = some r → False) (hg : ∀ x, o = some x → z = 0 → g x = some r → g0 x = some r) : (if 0 + z ≤ 0 then o.bind g0 else none) = some r := by
  obtain ⟨-, h1⟩ := dz_get h
  obtain ⟨x, hx, h2⟩ := dz_bind h1
  by_cases c : z = 0
  · rw [if_pos (by omega), hx]
    exact hg x hx c h2
  · exact absurd (hz c x hx h2) (fun q => q)
theorem dz_lvS (fu U : Nat) (c248_groups c248_pots c248_teams c248_bars c261_many : Int32) (a263 : Nat → Int32) (c267_total : Int32) (a268 a269 : Nat → Int32) (n269 : Nat) (a271 : Nat → Int32) (g0 : 2 ≤ c248_groups.toInt) (g1 : c248_groups.toInt ≤ 4) (r : Int32 × Int32 × (Nat → Int32) × Nat) (hr : r.2.1.toInt = 0) : ∀ k : Nat, (∀ (v1 v2 : Int32) (f : Int32) (a : Nat → Int32) (n : Nat), dz_nn 0 n → (F306_X11_leave fu U c248_groups c248_pots c248_teams c248_bars c261_many a263 c267_total a268 a269 n269 a271 k).1 v1 v2 0 f a n = some r → (F306_X11_leave fu 0 c248_groups c248_pots c248_teams c248_bars c261_many a263 c267_total a268 a269 n269 a271 k).1 v1 v2 0 f a n = some r) ∧ (∀ (v1 v2 : Int32) (f : Int32) (a : Nat → Int32) (n : Nat), dz_nn 0 n → (F306_X11_leave fu U c248_groups c248_pots c248_teams c248_bars c261_many a263 c267_total a268 a269 n269 a271 k).2.1 v1 v2 0 f a n = some r → (F306_X11_leave fu 0 c248_groups c248_pots c248_teams c248_bars c261_many a263 c267_total a268 a269 n269 a271 k).2.1 v1 v2 0 f a n = some r) ∧ (∀ (v1 v2 v3 : Int32) (f : Int32) (a : Nat → Int32) (n : Nat), dz_nn 0 n → (F306_X11_leave fu U c248_groups c248_pots c248_teams c248_bars c261_many a263 c267_total a268 a269 n269 a271 k).2.2 v1 v2 v3 0 f a n = some r → (F306_X11_leave fu 0 c248_groups c248_pots c248_teams c248_bars c261_many a263 c267_total a268 a269 n269 a271 k).2.2 v1 v2 v3 0 f a n = some r) := by
  intro k
  induction k with
  | zero => exact ⟨fun _ _ _ _ _ _ h => (by cases h), fun _ _ _ _ _ _ h => (by cases h), fun _ _ _ _ _ _ _ h => (by cases h)⟩
  | succ k ih =>
    obtain ⟨i1, i2, i3⟩ := ih
    obtain ⟨m1, m2, m3⟩ := dz_lvM fu U 0 c248_groups c248_pots c248_teams c248_bars c261_many a263 c267_total a268 a269 n269 a271 k
    refine ⟨?_, ?_, ?_⟩
    · intro v1 v2 f a n hn h
      have h : s306_X11_leave_1 fu U c248_groups c248_pots c248_teams c248_bars c261_many a263 c267_total a268 a269 n269 a271 (F306_X11_leave fu U c248_groups c248_pots c248_teams c248_bars c261_many a263 c267_total a268 a269 n269 a271 k).1 (F306_X11_leave fu U c248_groups c248_pots c248_teams c248_bars c261_many a263 c267_total a268 a269 n269 a271 k).2.1 v1 v2 0 f a n = some r := h
      show s306_X11_leave_1 fu 0 c248_groups c248_pots c248_teams c248_bars c261_many a263 c267_total a268 a269 n269 a271 (F306_X11_leave fu 0 c248_groups c248_pots c248_teams c248_bars c261_many a263 c267_total a268 a269 n269 a271 k).1 (F306_X11_leave fu 0 c248_groups c248_pots c248_teams c248_bars c261_many a263 c267_total a268 a269 n269 a271 k).2.1 v1 v2 0 f a n = some r
      unfold s306_X11_leave_1 at h ⊢
      rw [if_pos (Nat.zero_le _)] at h
      rw [if_pos (Nat.le_refl 0)]
      by_cases c : c248_bars ≤ v2
      · rw [if_pos c] at h ⊢
        exact i2 _ _ _ _ _ hn h
      · rw [if_neg c] at h ⊢
        refine dz_simB h (fun z x hx hg => ?_) (fun x hx z hg => ?_)
        · have q := dz_evZ fu _ _ _ _ _ _ _ _ _ _ _ _ _ _ _ _ _ _ hn.2 g0 g1 z x hx
          have w := dz_evQ fu _ _ _ _ _ _ _ _ _ _ _ _ _ _ _ _ _ _ 0 hn x hx
          by_cases d : x.1 = 0
          · rw [if_pos d] at hg
            rcases (m1 _ _ _ _ _ _ w.1 r hg).2 with h9 | h9
            · exact h9 hr
            · exact q h9.1
          · rw [if_neg d] at hg
            cases hg
            exact q hr
        · have w := dz_evQ fu _ _ _ _ _ _ _ _ _ _ _ _ _ _ _ _ _ _ 0 hn x hx
          rw [z] at hg
          by_cases d : x.1 = 0
          · rw [if_pos d] at hg ⊢
            rw [z]
            exact i1 _ _ _ _ _ w.1 hg
          · rw [if_neg d] at hg ⊢
            exact hg
    · intro v1 v2 f a n hn h
      have h : s306_X11_leave_2 fu U c248_groups c248_pots c248_teams c248_bars c261_many a263 c267_total a268 a269 n269 a271 (F306_X11_leave fu U c248_groups c248_pots c248_teams c248_bars c261_many a263 c267_total a268 a269 n269 a271 k).2.2 v1 v2 0 f a n = some r := h
      show s306_X11_leave_2 fu 0 c248_groups c248_pots c248_teams c248_bars c261_many a263 c267_total a268 a269 n269 a271 (F306_X11_leave fu 0 c248_groups c248_pots c248_teams c248_bars c261_many a263 c267_total a268 a269 n269 a271 k).2.2 v1 v2 0 f a n = some r
      unfold s306_X11_leave_2 at h ⊢
      rw [if_pos (Nat.zero_le _)] at h
      rw [if_pos (Nat.le_refl 0)]
      by_cases c : c248_bars ≤ v2
      · rw [if_pos c] at h ⊢
        exact h
      · rw [if_neg c] at h ⊢
        exact i3 _ _ _ _ _ _ hn h
    · intro v1 v2 v3 f a n hn h
      have h : s306_X11_leave_3 fu U c248_groups c248_pots c248_teams c248_bars c261_many a263 c267_total a268 a269 n269 a271 (F306_X11_leave fu U c248_groups c248_pots c248_teams c248_bars c261_many a263 c267_total a268 a269 n269 a271 k).2.1 (F306_X11_leave fu U c248_groups c248_pots c248_teams c248_bars c261_many a263 c267_total a268 a269 n269 a271 k).2.2 v1 v2 v3 0 f a n = some r := h
      show s306_X11_leave_3 fu 0 c248_groups c248_pots c248_teams c248_bars c261_many a263 c267_total a268 a269 n269 a271 (F306_X11_leave fu 0 c248_groups c248_pots c248_teams c248_bars c261_many a263 c267_total a268 a269 n269 a271 k).2.1 (F306_X11_leave fu 0 c248_groups c248_pots c248_teams c248_bars c261_many a263 c267_total a268 a269 n269 a271 k).2.2 v1 v2 v3 0 f a n = some r
      unfold s306_X11_leave_3 at h ⊢
      rw [if_pos (Nat.zero_le _)] at h
      rw [if_pos (Nat.le_refl 0)]
      by_cases c : v2 ≤ v3
      · rw [if_pos c] at h ⊢
        exact i2 _ _ _ _ _ hn h
      · rw [if_neg c] at h ⊢
        refine dz_simB h (fun z x hx hg => ?_) (fun x hx z hg => ?_)
        · have q := dz_evZ fu _ _ _ _ _ _ _ _ _ _ _ _ _ _ _ _ _ _ hn.2 g0 g1 z x hx
          have w := dz_evQ fu _ _ _ _ _ _ _ _ _ _ _ _ _ _ _ _ _ _ 0 hn x hx
          by_cases d : x.1 = 0
          · rw [if_pos d] at hg
            rcases (m3 _ _ _ _ _ _ _ w.1 r hg).2 with h9 | h9
            · exact h9 hr
            · exact q h9.1
          · rw [if_neg d] at hg
            cases hg
            exact q hr
        · have w := dz_evQ fu _ _ _ _ _ _ _ _ _ _ _ _ _ _ _ _ _ _ 0 hn x hx
          rw [z] at hg
          by_cases d : x.1 = 0
          · rw [if_pos d] at hg ⊢
            rw [z]
            exact i3 _ _ _ _ _ _ w.1 hg
          · rw [if_neg d] at hg ⊢
            exact hg
theorem dz_lvz0 (fu U : Nat) (c248_groups c248_pots c248_teams c248_bars c261_many : Int32) (a263 : Nat → Int32) (c267_total : Int32) (a268 a269 : Nat → Int32) (n269 : Nat) (a271 : Nat → Int32) (v1 c305_fresh : Int32) (a306 : Nat → Int32) (n306 : Nat) (hn : dz_nn 0 n306) (g0 : 2 ≤ c248_groups.toInt) (g1 : c248_groups.toInt ≤ 4) (r : Int32 × Int32 × (Nat → Int32) × Nat) (hr : r.2.1.toInt = 0) (h : f306_X11_leave fu U c248_groups c248_pots c248_teams c248_bars c261_many a263 c267_total a268 a269 n269 a271 v1 c305_fresh a306 n306 = some r) : f306_X11_leave fu 0 c248_groups c248_pots c248_teams c248_bars c261_many a263 c267_total a268 a269 n269 a271 v1 c305_fresh a306 n306 = some r := by
  obtain ⟨i1, i2, i3⟩ := dz_lvS fu U c248_groups c248_pots c248_teams c248_bars c261_many a263 c267_total a268 a269 n269 a271 g0 g1 r hr fu
  obtain ⟨m1, m2, m3⟩ := dz_lvM fu U 0 c248_groups c248_pots c248_teams c248_bars c261_many a263 c267_total a268 a269 n269 a271 fu
  unfold f306_X11_leave s306_X11_leave_0 at h ⊢
  by_cases c : v1 < 0
  · rw [if_pos c] at h ⊢
    exact h
  · rw [if_neg c] at h ⊢
    by_cases c2 : v1 ≤ 100
    · rw [if_pos c2] at h ⊢
      refine dz_simB h (fun z x hx hg => ?_) (fun x hx z hg => ?_)
      · have q := dz_evZ fu _ _ _ _ _ _ _ _ _ _ _ _ _ _ _ _ _ _ hn.2 g0 g1 z x hx
        have w := dz_evQ fu _ _ _ _ _ _ _ _ _ _ _ _ _ _ _ _ _ _ 0 hn x hx
        by_cases d : x.1 = 0
        · rw [if_pos d] at hg
          rcases (m1 _ _ _ _ _ _ w.1 r hg).2 with h9 | h9
          · exact h9 hr
          · exact q h9.1
        · rw [if_neg d] at hg
          cases hg
          exact q hr
      · have w := dz_evQ fu _ _ _ _ _ _ _ _ _ _ _ _ _ _ _ _ _ _ 0 hn x hx
        rw [z] at hg
        by_cases d : x.1 = 0
        · rw [if_pos d] at hg ⊢
          rw [z]
          exact i1 _ _ _ _ _ w.1 hg
        · rw [if_neg d] at hg ⊢
          exact hg
    · rw [if_neg c2] at h ⊢
      exact h
theorem dz_lvQ (fu U N0 : Nat) (c248_groups c248_pots c248_teams c248_bars c261_many : Int32) (a263 : Nat → Int32) (c267_total : Int32) (a268 a269 : Nat → Int32) (n269 : Nat) (a271 : Nat → Int32) (v1 f : Int32) (a : Nat → Int32) (n : Nat) (hn : dz_nn N0 n) : dz_P (f306_X11_leave fu U c248_groups c248_pots c248_teams c248_bars c261_many a263 c267_total a268 a269 n269 a271 v1 f a n) (fun r => dz_nn N0 r.2.2.2 ∧ (r.2.1.toInt ≠ 0 ∨ (f.toInt = 0 ∧ r.2.1 = f ∧ r.2.2.2 = n))) := by
  obtain ⟨m1, m2, m3⟩ := dz_lvM fu U N0 c248_groups c248_pots c248_teams c248_bars c261_many a263 c267_total a268 a269 n269 a271 fu
  have same : ∀ (x : Int32), dz_P (some (x, f, a, n)) (fun r => dz_nn N0 r.2.2.2 ∧ (r.2.1.toInt ≠ 0 ∨ (f.toInt = 0 ∧ r.2.1 = f ∧ r.2.2.2 = n))) := fun x => dz_Ps ⟨hn, by
    by_cases h : f.toInt = 0
    · exact Or.inr ⟨h, rfl, rfl⟩
    · exact Or.inl h⟩
  unfold f306_X11_leave s306_X11_leave_0
  exact dz_Pi (fun _ => same _) (fun _ => dz_Pi (fun _ => dz_Pi (fun _ => dz_Pb (dz_evQ fu _ _ _ _ _ _ _ _ _ _ _ _ _ _ _ _ _ _ N0 hn) (fun r hr => dz_Pi (fun _ => fun r2 e2 => ⟨(m1 _ _ _ _ _ _ hr.1 r2 e2).1, dz_cmb hr.2 (m1 _ _ _ _ _ _ hr.1 r2 e2).2⟩) (fun _ => dz_Ps hr))) (fun _ => dz_Pn)) (fun _ => same _))
