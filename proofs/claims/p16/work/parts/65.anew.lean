set_option maxHeartbeats 4000000 in
set_option maxRecDepth 10000 in
theorem dz_anew (fu : Nat) (hfu : 1000000000000 ≤ fu) (κ0 : Nat) (hκ0 : κ0 < 14) (κ : Nat) (hκ : κ < 14) (U : Nat) (c248_groups : Int32) (c248_pots : Int32) (c248_bars : Int32) (a252 : Nat → Int32) (a253 : Nat → Int32) (c73_nearestOrder : Int32) (c73_nearestArrangement : Int32) (c261_groups : Int32) (c261_many : Int32) (c261_everyRank : Int32) (c261_swapsAPot : Int32) (a262 : Nat → Int32) (a263 : Nat → Int32) (a264 : Nat → Int32) (a265 : Nat → Int32) (a266 : Nat → Int32) (c267_total : Int32) (c267_lawfulOnes : Int32) (a268 : Nat → Int32) (a269 : Nat → Int32) (n269 : Nat) (a270 : Nat → Int32) (n270 : Nat) (a271 : Nat → Int32) (a273 : Nat → Int32) (c274_out : Int32) (a275 : Nat → Int32) (a276 : Nat → Int32) (a277 : Nat → Int32) (c280_fresh : Int32) (c284_fresh : Int32) (c305_fresh : Int32) (c307_done : Int32) (c307_partsFresh : Int32) (c310_fresh : Int32) (c313_fresh : Int32) (c316_fresh : Int32) (c319_fresh : Int32) (c322_fresh : Int32) (c325_fresh : Int32) (h0 : c248_groups.toInt = ((dz_kg κ : Nat) : Int)) (h1 : c248_pots.toInt = ((dz_kp κ : Nat) : Int)) (h2 : c248_bars.toInt ≤ 10) (h3 : 0 ≤ c248_bars.toInt) (h4 : c261_groups.toInt = ((dz_kg κ0 : Nat) : Int)) (h5 : c261_many.toInt = ((dz_kr κ0 : Nat) : Int)) (h6 : c261_everyRank.toInt = ((dz_ke κ0 : Nat) : Int)) (h7 : c261_swapsAPot.toInt = ((dz_kw κ0 : Nat) : Int)) (h8 : dz_rg a262 96 0 3) (h9 : dz_rq a263 (dz_kr κ0) (dz_kg κ0) 0 (((dz_kg κ0 : Nat) : Int) - 1)) (h10 : dz_rg a264 16 0 16777215) (h11 : dz_rt a265 (dz_kr κ0) (dz_kw κ0) 0 (((dz_kr κ0 : Nat) : Int) - 1)) (h12 : dz_rg a266 4 0 3) (h13 : ((n269 : Nat) : Int) ≤ 13824) (h14 : 1 ≤ ((n269 : Nat) : Int)) (h15 : ((n270 : Nat) : Int) = ((n269 : Nat) : Int)) (h16 : dz_rg a269 n269 0 1023) (h17 : c274_out.toInt ≤ 12) (h18 : 0 ≤ c274_out.toInt) (h19 : dz_rg a276 4 0 3) (h20 : dz_rg a277 12 (-1) 3) (h21 : c307_done.toInt ≤ 5) (h22 : (-1) ≤ c307_done.toInt) (h23 : (((dz_kt κ : Nat) : Int) ≤ n269) ∨ 2 * ((dz_kt κ : Nat) : Int) ≤ U) : dz_T (f150_X11_beginAnew fu U c248_groups c248_pots c248_bars a252 a253 c73_nearestOrder c73_nearestArrangement c261_groups c261_many c261_everyRank c261_swapsAPot a262 a263 a264 a265 a266 c267_total c267_lawfulOnes a268 a269 n269 a270 n270 a271 a273 c274_out a275 a276 a277 c280_fresh c284_fresh c305_fresh c307_done c307_partsFresh c310_fresh c313_fresh c316_fresh c319_fresh c322_fresh c325_fresh) (fun r => (r.2.2.1.toInt = ((dz_kg κ : Nat) : Int)) ∧ (r.2.2.2.1.toInt = ((dz_kr κ : Nat) : Int)) ∧ (r.2.2.2.2.1.toInt = ((dz_ke κ : Nat) : Int)) ∧ (r.2.2.2.2.2.1.toInt = ((dz_kw κ : Nat) : Int)) ∧ (dz_rg r.2.2.2.2.2.2.1 96 0 3) ∧ (dz_rq r.2.2.2.2.2.2.2.1 (dz_kr κ) (dz_kg κ) 0 (((dz_kg κ : Nat) : Int) - 1)) ∧ (dz_rg r.2.2.2.2.2.2.2.2.1 16 0 16777215) ∧ (dz_rt r.2.2.2.2.2.2.2.2.2.1 (dz_kr κ) (dz_kw κ) 0 (((dz_kr κ : Nat) : Int) - 1)) ∧ (dz_rg r.2.2.2.2.2.2.2.2.2.2.1 4 0 3) ∧ (r.2.2.2.2.2.2.2.2.2.2.2.1.toInt = ((dz_kt κ : Nat) : Int)) ∧ (0 ≤ r.2.2.2.2.2.2.2.2.2.2.2.2.1.toInt) ∧ (r.2.2.2.2.2.2.2.2.2.2.2.2.1.toInt ≤ r.2.2.2.2.2.2.2.2.2.2.2.1.toInt) ∧ (dz_pt r.2.2.2.2.2.2.2.2.2.2.2.2.2.1 (dz_kS κ)) ∧ (dz_rg r.2.2.2.2.2.2.2.2.2.2.2.2.2.2.1 r.2.2.2.2.2.2.2.2.2.2.2.2.2.2.2.1 0 1023) ∧ (dz_rb r.2.2.2.2.2.2.2.2.2.2.2.2.2.2.1 (dz_kt κ) c248_bars) ∧ (r.2.2.2.2.2.2.2.2.2.2.2.1.toInt ≤ ((r.2.2.2.2.2.2.2.2.2.2.2.2.2.2.2.1 : Nat) : Int)) ∧ (((r.2.2.2.2.2.2.2.2.2.2.2.2.2.2.2.1 : Nat) : Int) ≤ 13824) ∧ (((r.2.2.2.2.2.2.2.2.2.2.2.2.2.2.2.2.2.1 : Nat) : Int) = ((r.2.2.2.2.2.2.2.2.2.2.2.2.2.2.2.1 : Nat) : Int)) ∧ (n269 ≤ r.2.2.2.2.2.2.2.2.2.2.2.2.2.2.2.1) ∧ (dz_rg r.2.2.2.2.2.2.2.2.2.2.2.2.2.2.2.2.1 r.2.2.2.2.2.2.2.2.2.2.2.2.1.toInt.toNat 0 (((dz_kt κ : Nat) : Int) - 1)) ∧ (r.2.2.2.2.2.2.2.2.2.2.2.2.2.2.2.2.2.2.2.2.1.toInt = 0) ∧ (dz_pm r.2.2.2.2.2.2.2.2.2.2.2.2.2.2.2.2.2.2.2.2.2.1 (dz_kp κ)) ∧ (dz_rg r.2.2.2.2.2.2.2.2.2.2.2.2.2.2.2.2.2.2.2.2.2.2.1 4 0 3) ∧ (dz_rg r.2.2.2.2.2.2.2.2.2.2.2.2.2.2.2.2.2.2.2.2.2.2.2.1 12 (-1) 3) ∧ (r.2.2.2.2.2.2.2.2.2.2.2.2.2.2.2.2.2.2.2.2.2.2.2.2.1.toInt = 0) ∧ (r.2.2.2.2.2.2.2.2.2.2.2.2.2.2.2.2.2.2.2.2.2.2.2.2.2.1.toInt = 0) ∧ (r.2.2.2.2.2.2.2.2.2.2.2.2.2.2.2.2.2.2.2.2.2.2.2.2.2.2.1.toInt = 0) ∧ (r.2.2.2.2.2.2.2.2.2.2.2.2.2.2.2.2.2.2.2.2.2.2.2.2.2.2.2.1.toInt = -1) ∧ (r.2.2.2.2.2.2.2.2.2.2.2.2.2.2.2.2.2.2.2.2.2.2.2.2.2.2.2.2.1.toInt = 0)) := by
  have k4 := dz_kr4 hκ
  have kp := dz_kp4 hκ
  have kt := dz_kt4 hκ
  have kg := dz_kall (P := fun k => 2 ≤ dz_kg k ∧ dz_kg k ≤ 4) (by decide) hκ
  have lm : (-1 : Int32).toInt = -1 := by decide
  have l0 : (0 : Int32).toInt = 0 := by decide
  unfold f150_X11_beginAnew s150_X11_beginAnew_0
  refine dz_Tb (dz_set fu hfu κ0 hκ0 κ hκ _ _ _ _ _ _ _ _ _ _ h0 h4 h5 h6 h7 h8 h9 h10 h11 h12) (fun r1 s => ?_)
  obtain ⟨s1, s2, s3, s4, s5, s6, s7, s8, s9⟩ := s
  refine dz_Tg (by omega) ?_
  refine dz_Tb (dz_TP (t143_X2_renew_s fu hfu κ hκ U c248_groups c248_pots c248_bars a252 a253 r1.2.1 r1.2.2.2.2.1 c267_total c267_lawfulOnes a268 a269 n269 a270 n270 a271 a273 (by omega) (by omega) (by omega) (by omega) (by omega) (by omega) (by omega) (by omega) (by omega) (by omega) (by omega) (by omega) (by omega) (by omega) s5 h16 h23 (by omega) (by omega) (by omega)) (dz_reP fu U c248_groups c248_pots c248_bars a252 a253 r1.2.1 r1.2.2.2.2.1 c267_total c267_lawfulOnes a268 a269 n269 a270 n270 a271 a273 n269 (Nat.le_refl _) (by omega) (by omega) (by omega))) (fun r4 q => ?_)
  obtain ⟨⟨q0, q1, q2, q3, q4, q5, q6, q7, q8, q9, q10, q11, q12, q13, q14, q15, q16, q17, q18, q19⟩, qb, qn⟩ := q
  refine dz_Tb (t146_X8_putInTurn_s fu hfu κ hκ _ _ _ _ (by omega) (by omega) h19 h20) (fun r8 y => ?_)
  obtain ⟨y1, y2, y3, y4, y5⟩ := y
  refine dz_Tb (t147_X9_forget fu hfu _ _ (by omega) (by omega)) (fun r10 z => ?_)
  obtain ⟨z1, z2, z3⟩ := z
  refine dz_Tb (t149_X11_startChanged fu hfu _ _ _ _ _) (fun r12 _ => ?_)
  have tt := dz_tn r4.1
  have qb2 : dz_rb r4.2.2.2.1 (dz_kt κ) c248_bars := fun k hk => qb k (by omega)
  refine dz_Ts ⟨s1, s2, s3, s4, s5, s6, s7, s8, s9, ?_, ?_, ?_, q18, q16, qb2, ?_, ?_, ?_, qn, q17, ?_, y5, y3, y4, l0, l0, l0, ?_, z3⟩
  all_goals (first | assumption | (dsimp only; first | assumption | omega))
theorem dz_kex {g p t : Int} (g0 : 2 ≤ g) (g1 : g ≤ 4) (p0 : 0 ≤ p) (p1 : p ≤ 4) (t0 : 0 ≤ t) (t1 : t ≤ 12) (J : ((g = 2 ∧ t = 2 * p) ∨ (g = 3 ∧ t = 3 * p) ∨ (g = 4 ∧ t = 4 * p))) : ∃ κ, κ < 14 ∧ g = ((dz_kg κ : Nat) : Int) ∧ p = ((dz_kp κ : Nat) : Int) ∧ t = ((dz_km κ : Nat) : Int) := by
  rcases J with ⟨a, b⟩ | ⟨a, b⟩ | ⟨a, b⟩
  · rcases (show p = 0 ∨ p = 1 ∨ p = 2 ∨ p = 3 ∨ p = 4 by omega) with c | c | c | c | c
    · exact ⟨0, by decide, by rw [a]; rfl, by rw [c]; rfl, by rw [b, c]; rfl⟩
    · exact ⟨1, by decide, by rw [a]; rfl, by rw [c]; rfl, by rw [b, c]; rfl⟩
    · exact ⟨2, by decide, by rw [a]; rfl, by rw [c]; rfl, by rw [b, c]; rfl⟩
    · exact ⟨3, by decide, by rw [a]; rfl, by rw [c]; rfl, by rw [b, c]; rfl⟩
    · exact ⟨4, by decide, by rw [a]; rfl, by rw [c]; rfl, by rw [b, c]; rfl⟩
  · rcases (show p = 0 ∨ p = 1 ∨ p = 2 ∨ p = 3 ∨ p = 4 by omega) with c | c | c | c | c
    · exact ⟨5, by decide, by rw [a]; rfl, by rw [c]; rfl, by rw [b, c]; rfl⟩
    · exact ⟨6, by decide, by rw [a]; rfl, by rw [c]; rfl, by rw [b, c]; rfl⟩
    · exact ⟨7, by decide, by rw [a]; rfl, by rw [c]; rfl, by rw [b, c]; rfl⟩
    · exact ⟨8, by decide, by rw [a]; rfl, by rw [c]; rfl, by rw [b, c]; rfl⟩
    · exact ⟨9, by decide, by rw [a]; rfl, by rw [c]; rfl, by rw [b, c]; rfl⟩
  · rcases (show p = 0 ∨ p = 1 ∨ p = 2 ∨ p = 3 by omega) with c | c | c | c
    · exact ⟨10, by decide, by rw [a]; rfl, by rw [c]; rfl, by rw [b, c]; rfl⟩
    · exact ⟨11, by decide, by rw [a]; rfl, by rw [c]; rfl, by rw [b, c]; rfl⟩
    · exact ⟨12, by decide, by rw [a]; rfl, by rw [c]; rfl, by rw [b, c]; rfl⟩
    · exact ⟨13, by decide, by rw [a]; rfl, by rw [c]; rfl, by rw [b, c]; rfl⟩
def dz_p1 (t n : Nat) : Nat := if t ≤ n then 2 * t else 0
theorem dz_p1m {t n m : Nat} (h : n ≤ m) : dz_p1 t n ≤ dz_p1 t m := by
  unfold dz_p1
  split <;> split <;> omega
theorem dz_p1b {t n : Nat} : dz_p1 t n ≤ 2 * t := by
  unfold dz_p1
  split <;> omega
theorem dz_p1g {t n m : Nat} (h : n < t) (h2 : t ≤ m) : 2 * t + dz_p1 t n ≤ dz_p1 t m := by
  unfold dz_p1
  rw [if_neg (by omega), if_pos h2]
  omega
/-- what rows of a length may have cost -/
def dz_pot (n : Nat) : Nat := dz_p1 1 n + dz_p1 2 n + dz_p1 4 n + dz_p1 8 n + dz_p1 16 n + dz_p1 6 n + dz_p1 36 n + dz_p1 216 n + dz_p1 1296 n + dz_p1 24 n + dz_p1 576 n + dz_p1 13824 n
theorem dz_potb (n : Nat) : dz_pot n ≤ 32018 := by
  unfold dz_pot
  have b0 := dz_p1b (t := 1) (n := n)
  have b1 := dz_p1b (t := 2) (n := n)
  have b2 := dz_p1b (t := 4) (n := n)
  have b3 := dz_p1b (t := 8) (n := n)
  have b4 := dz_p1b (t := 16) (n := n)
  have b5 := dz_p1b (t := 6) (n := n)
  have b6 := dz_p1b (t := 36) (n := n)
  have b7 := dz_p1b (t := 216) (n := n)
  have b8 := dz_p1b (t := 1296) (n := n)
  have b9 := dz_p1b (t := 24) (n := n)
  have b10 := dz_p1b (t := 576) (n := n)
  have b11 := dz_p1b (t := 13824) (n := n)
  omega
theorem dz_potm {n m : Nat} (h : n ≤ m) : dz_pot n ≤ dz_pot m := by
  unfold dz_pot
  have m0 := dz_p1m (t := 1) h
  have m1 := dz_p1m (t := 2) h
  have m2 := dz_p1m (t := 4) h
  have m3 := dz_p1m (t := 8) h
  have m4 := dz_p1m (t := 16) h
  have m5 := dz_p1m (t := 6) h
  have m6 := dz_p1m (t := 36) h
  have m7 := dz_p1m (t := 216) h
  have m8 := dz_p1m (t := 1296) h
  have m9 := dz_p1m (t := 24) h
  have m10 := dz_p1m (t := 576) h
  have m11 := dz_p1m (t := 13824) h
  omega
theorem dz_potg {n m κ : Nat} (hκ : κ < 14) (h : n < dz_kt κ) (h2 : dz_kt κ ≤ m) : 2 * dz_kt κ + dz_pot n ≤ dz_pot m := by
  have h3 : n ≤ m := by omega
  have m0 := dz_p1m (t := 1) h3
  have m1 := dz_p1m (t := 2) h3
  have m2 := dz_p1m (t := 4) h3
  have m3 := dz_p1m (t := 8) h3
  have m4 := dz_p1m (t := 16) h3
  have m5 := dz_p1m (t := 6) h3
  have m6 := dz_p1m (t := 36) h3
  have m7 := dz_p1m (t := 216) h3
  have m8 := dz_p1m (t := 1296) h3
  have m9 := dz_p1m (t := 24) h3
  have m10 := dz_p1m (t := 576) h3
  have m11 := dz_p1m (t := 13824) h3
  unfold dz_pot
  rcases (show κ = 0 ∨ κ = 1 ∨ κ = 2 ∨ κ = 3 ∨ κ = 4 ∨ κ = 5 ∨ κ = 6 ∨ κ = 7 ∨ κ = 8 ∨ κ = 9 ∨ κ = 10 ∨ κ = 11 ∨ κ = 12 ∨ κ = 13 by omega) with rfl | rfl | rfl | rfl | rfl | rfl | rfl | rfl | rfl | rfl | rfl | rfl | rfl | rfl
  · have e : dz_kt 0 = 1 := rfl
    rw [e] at h h2 ⊢
    have g := dz_p1g (t := 1) h h2
    omega
  · have e : dz_kt 1 = 2 := rfl
    rw [e] at h h2 ⊢
    have g := dz_p1g (t := 2) h h2
    omega
  · have e : dz_kt 2 = 4 := rfl
    rw [e] at h h2 ⊢
    have g := dz_p1g (t := 4) h h2
    omega
  · have e : dz_kt 3 = 8 := rfl
    rw [e] at h h2 ⊢
    have g := dz_p1g (t := 8) h h2
    omega
  · have e : dz_kt 4 = 16 := rfl
    rw [e] at h h2 ⊢
    have g := dz_p1g (t := 16) h h2
    omega
  · have e : dz_kt 5 = 1 := rfl
    rw [e] at h h2 ⊢
    have g := dz_p1g (t := 1) h h2
    omega
  · have e : dz_kt 6 = 6 := rfl
    rw [e] at h h2 ⊢
    have g := dz_p1g (t := 6) h h2
    omega
  · have e : dz_kt 7 = 36 := rfl
    rw [e] at h h2 ⊢
    have g := dz_p1g (t := 36) h h2
    omega
  · have e : dz_kt 8 = 216 := rfl
    rw [e] at h h2 ⊢
    have g := dz_p1g (t := 216) h h2
    omega
  · have e : dz_kt 9 = 1296 := rfl
    rw [e] at h h2 ⊢
    have g := dz_p1g (t := 1296) h h2
    omega
  · have e : dz_kt 10 = 1 := rfl
    rw [e] at h h2 ⊢
    have g := dz_p1g (t := 1) h h2
    omega
  · have e : dz_kt 11 = 24 := rfl
    rw [e] at h h2 ⊢
    have g := dz_p1g (t := 24) h h2
    omega
  · have e : dz_kt 12 = 576 := rfl
    rw [e] at h h2 ⊢
    have g := dz_p1g (t := 576) h h2
    omega
  · have e : dz_kt 13 = 13824 := rfl
    rw [e] at h h2 ⊢
    have g := dz_p1g (t := 13824) h h2
    omega
