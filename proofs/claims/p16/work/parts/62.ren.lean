/-! renew: the broken bars are bits of the bars -/
def dz_rn (a : Nat → Int32) (N b : Nat) : Prop := ∀ k, k < N → 0 ≤ (a k).toInt ∧ (a k).toInt < ((2 ^ b : Nat) : Int)
theorem dz_rnor {a : Nat → Int32} {N b i : Nat} {v : Int32} (h : dz_rn a N b) (hb : b ≤ 31) (v0 : 0 ≤ v.toInt) (v1 : v.toInt < ((2 ^ b : Nat) : Int)) : dz_rn (upd a i ((a i) ||| v)) N b := fun k hk => by
  show 0 ≤ (if k = i then (a i) ||| v else a k).toInt ∧ (if k = i then (a i) ||| v else a k).toInt < _
  have w := h k hk
  by_cases q : k = i
  · rw [if_pos q]
    subst q
    exact dz_orb b w.1 v0 w.2 v1 hb
  · rw [if_neg q]; exact w
theorem dz_bbP (fu : Nat) (c248_pots c261_many c267_total : Int32) (a268 : Nat → Int32) (n269 : Nat) (a273 : Nat → Int32) (v1 v2 : Int32) (a269 : Nat → Int32) (N b : Nat) (hb : b ≤ 31) (v0 : 0 ≤ v1.toInt) (vb : v1.toInt < ((2 ^ b : Nat) : Int)) (h : dz_rn a269 N b) : dz_P (f142_X2_breakBar fu c248_pots c261_many c267_total a268 n269 a273 v1 v2 a269) (fun r => dz_rn r N b) := by
  suffices ∀ k : Nat, (∀ (v2 v3 v4 v5 : Int32) (a269 : Nat → Int32), dz_rn a269 N b → dz_P ((F142_X2_breakBar fu c248_pots c261_many c267_total a268 n269 a273 k).1 v1 v2 v3 v4 v5 a269) (fun r => dz_rn r N b)) ∧ (∀ (v2 v3 v4 v5 v6 v7 : Int32) (a269 : Nat → Int32), dz_rn a269 N b → dz_P ((F142_X2_breakBar fu c248_pots c261_many c267_total a268 n269 a273 k).2.1 v1 v2 v3 v4 v5 v6 v7 a269) (fun r => dz_rn r N b)) ∧ (∀ (v2 v3 v4 v5 v6 v7 : Int32) (a269 : Nat → Int32), dz_rn a269 N b → dz_P ((F142_X2_breakBar fu c248_pots c261_many c267_total a268 n269 a273 k).2.2.1 v1 v2 v3 v4 v5 v6 v7 a269) (fun r => dz_rn r N b)) ∧ (∀ (v2 v3 v4 v5 v6 v7 : Int32) (a269 : Nat → Int32), dz_rn a269 N b → dz_P ((F142_X2_breakBar fu c248_pots c261_many c267_total a268 n269 a273 k).2.2.2 v1 v2 v3 v4 v5 v6 v7 a269) (fun r => dz_rn r N b)) from
    (this fu).1 v2 _ _ _ a269 h
  intro k
  induction k with
  | zero => exact ⟨fun _ _ _ _ _ _ => dz_Pn, fun _ _ _ _ _ _ _ _ => dz_Pn, fun _ _ _ _ _ _ _ _ => dz_Pn, fun _ _ _ _ _ _ _ _ => dz_Pn⟩
  | succ k ih =>
    obtain ⟨i1, i2, i3, i4⟩ := ih
    refine ⟨?_, ?_, ?_, ?_⟩
    · intro v2 v3 v4 v5 a269 h
      show dz_P (s142_X2_breakBar_1 fu c248_pots c261_many c267_total a268 n269 a273 _ v1 v2 v3 v4 v5 a269) _
      unfold s142_X2_breakBar_1
      exact dz_Pi (fun _ => dz_Ps h) (fun _ => dz_Pi (fun _ => dz_Ps h) (fun _ => i2 _ _ _ _ _ _ _ h))
    · intro v2 v3 v4 v5 v6 v7 a269 h
      show dz_P (s142_X2_breakBar_2 fu c248_pots c261_many c267_total a268 n269 a273 _ _ v1 v2 v3 v4 v5 v6 v7 a269) _
      unfold s142_X2_breakBar_2
      exact dz_Pi (fun _ => i3 _ _ _ _ _ _ _ h) (fun _ => dz_Pa (fun r => dz_Pi (fun _ => i2 _ _ _ _ _ _ _ h) (fun _ => dz_Pn)))
    · intro v2 v3 v4 v5 v6 v7 a269 h
      show dz_P (s142_X2_breakBar_3 fu c248_pots c261_many c267_total a268 n269 a273 _ _ v1 v2 v3 v4 v5 v6 v7 a269) _
      unfold s142_X2_breakBar_3
      exact dz_Pi (fun _ => i1 _ _ _ _ _ h) (fun _ => dz_Pi (fun _ => dz_Pi (fun _ => i4 _ _ _ _ _ _ _ h) (fun _ => dz_Pi (fun _ => dz_Pi (fun _ => i4 _ _ _ _ _ _ _ (dz_rnor h hb v0 vb)) (fun _ => dz_Pn)) (fun _ => dz_Pn))) (fun _ => dz_Pn))
    · intro v2 v3 v4 v5 v6 v7 a269 h
      show dz_P (s142_X2_breakBar_4 fu c248_pots c261_many c267_total a268 n269 a273 _ v1 v2 v3 v4 v5 v6 v7 a269) _
      unfold s142_X2_breakBar_4
      exact i3 _ _ _ _ _ _ _ h
theorem dz_fiP (fu n269 : Nat) (v2 : Int32) (a269 : Nat → Int32) : dz_P (f135_J7_fill_fda19 fu n269 0 v2 0 a269) (fun r => ∀ j, j < v2.toNatClampNeg → r j = 0) := by
  have l0 : (0 : Int32).toInt = 0 := by decide
  have l1 : (1 : Int32).toInt = 1 := by decide
  have t2 := dz_tn v2
  have r2 := dz_rng v2
  suffices ∀ (k : Nat) (v4 : Int32) (a : Nat → Int32), 0 ≤ v4.toInt → (∀ j : Nat, (j : Int) < v4.toInt → a j = 0) → dz_P (F135_J7_fill_fda19 fu n269 k v2 0 v4 a) (fun r => ∀ j, j < v2.toNatClampNeg → r j = 0) by
    unfold f135_J7_fill_fda19 s135_J7_fill_fda19_0
    exact dz_Pa (fun _ => this fu 0 a269 (by omega) (fun j hj => by omega))
  intro k
  induction k with
  | zero => intro v4 a _ _; exact dz_Pn
  | succ k ih =>
    intro v4 a h0 h
    show dz_P (s135_J7_fill_fda19_1 fu n269 (F135_J7_fill_fda19 fu n269 k) v2 0 v4 a) _
    unfold s135_J7_fill_fda19_1
    refine dz_Pi (fun c => dz_Ps (fun j hj => ?_)) (fun c => dz_Pi (fun _ => ?_) (fun _ => dz_Pn))
    · have c' := Int32.le_iff_toInt_le.mp c
      exact h j (by omega)
    · have c' := dz_fnle c
      have e := dz_add (a := v4) (b := 1) (by omega) (by omega)
      have t4 := dz_tn v4
      refine ih _ _ (by omega) (fun j hj => ?_)
      show (if j = v4.toNatClampNeg then (0 : Int32) else a j) = 0
      by_cases q : j = v4.toNatClampNeg
      · rw [if_pos q]
      · rw [if_neg q]; exact h j (by omega)
theorem dz_reP (fu U : Nat) (c248_groups c248_pots c248_bars : Int32) (a252 a253 : Nat → Int32) (c261_many : Int32) (a262 : Nat → Int32) (c267_total c267_lawfulOnes : Int32) (a268 a269 : Nat → Int32) (n269 : Nat) (a270 : Nat → Int32) (n270 : Nat) (a271 a273 : Nat → Int32) (N0 : Nat) (hN : N0 ≤ n269) (hn : n269 ≤ 13824) (b0 : 0 ≤ c248_bars.toInt) (b1 : c248_bars.toInt ≤ 10) : dz_P (f143_X2_renew fu U c248_groups c248_pots c248_bars a252 a253 c261_many a262 c267_total c267_lawfulOnes a268 a269 n269 a270 n270 a271 a273) (fun r => dz_rn r.2.2.2.1 r.1.toNatClampNeg c248_bars.toInt.toNat ∧ N0 ≤ r.2.2.2.2.1) := by
  have l0 : (0 : Int32).toInt = 0 := by decide
  suffices ∀ k : Nat, (∀ (v1 : Int32) (sl : Nat) (t lo : Int32) (a268 a269 : Nat → Int32) (n269 : Nat) (a270 : Nat → Int32) (n270 : Nat) (a271 a273 : Nat → Int32), N0 ≤ n269 → n269 ≤ 13824 → dz_P ((F143_X2_renew fu U c248_groups c248_pots c248_bars a252 a253 c261_many a262 k).1 v1 sl t lo a268 a269 n269 a270 n270 a271 a273) (fun r => dz_rn r.2.2.2.1 r.1.toNatClampNeg c248_bars.toInt.toNat ∧ N0 ≤ r.2.2.2.2.1)) ∧ (∀ (sl : Nat) (t lo : Int32) (a268 a269 : Nat → Int32) (n269 : Nat) (a270 : Nat → Int32) (n270 : Nat) (a271 a273 : Nat → Int32), N0 ≤ n269 → dz_P ((F143_X2_renew fu U c248_groups c248_pots c248_bars a252 a253 c261_many a262 k).2.1 sl t lo a268 a269 n269 a270 n270 a271 a273) (fun r => dz_rn r.2.2.2.1 r.1.toNatClampNeg c248_bars.toInt.toNat ∧ N0 ≤ r.2.2.2.2.1)) ∧ (∀ (sl : Nat) (t lo : Int32) (a268 a269 : Nat → Int32) (n269 : Nat) (a270 : Nat → Int32) (n270 : Nat) (a271 a273 : Nat → Int32), N0 ≤ n269 → dz_rn a269 t.toNatClampNeg c248_bars.toInt.toNat → dz_P ((F143_X2_renew fu U c248_groups c248_pots c248_bars a252 a253 c261_many a262 k).2.2.1 sl t lo a268 a269 n269 a270 n270 a271 a273) (fun r => dz_rn r.2.2.2.1 r.1.toNatClampNeg c248_bars.toInt.toNat ∧ N0 ≤ r.2.2.2.2.1)) ∧ (∀ (v1 : Int32) (sl : Nat) (t lo : Int32) (a268 a269 : Nat → Int32) (n269 : Nat) (a270 : Nat → Int32) (n270 : Nat) (a271 a273 : Nat → Int32), N0 ≤ n269 → dz_rn a269 t.toNatClampNeg c248_bars.toInt.toNat → dz_P ((F143_X2_renew fu U c248_groups c248_pots c248_bars a252 a253 c261_many a262 k).2.2.2 v1 sl t lo a268 a269 n269 a270 n270 a271 a273) (fun r => dz_rn r.2.2.2.1 r.1.toNatClampNeg c248_bars.toInt.toNat ∧ N0 ≤ r.2.2.2.2.1)) from
    (this fu).1 _ _ _ _ _ _ _ _ _ _ _ hN hn
  intro k
  induction k with
  | zero => exact ⟨fun _ _ _ _ _ _ _ _ _ _ _ _ _ => dz_Pn, fun _ _ _ _ _ _ _ _ _ _ _ => dz_Pn, fun _ _ _ _ _ _ _ _ _ _ _ _ => dz_Pn, fun _ _ _ _ _ _ _ _ _ _ _ _ _ => dz_Pn⟩
  | succ k ih =>
    obtain ⟨i1, i2, i3, i4⟩ := ih
    refine ⟨?_, ?_, ?_, ?_⟩
    · intro v1 sl t lo a268 a269 n269 a270 n270 a271 a273 m0 m1
      have en := dz_ofn (n := n269) (by omega)
      show dz_P (s143_X2_renew_1 fu U c248_groups c248_pots c248_bars a252 a253 c261_many a262 _ _ v1 sl t lo a268 a269 n269 a270 n270 a271 a273) _
      unfold s143_X2_renew_1
      refine dz_Pi (fun _ => dz_Pi (fun _ => dz_Pi (fun _ => i2 _ _ _ _ _ _ _ _ _ _ m0) (fun cc => ?_)) (fun _ => dz_Pi (fun _ => i1 _ _ _ _ _ _ _ _ _ _ _ m0 m1) (fun _ => dz_Pn))) (fun _ => dz_Pn)
      have cc' := dz_fnle cc
      have tt := dz_tn t
      refine dz_Pi (fun _ => dz_Pi (fun _ => dz_Pi (fun _ => dz_Pi (fun _ => ?_) (fun _ => dz_Pn)) (fun _ => dz_Pn)) (fun _ => dz_Pn)) (fun _ => dz_Pn)
      exact dz_Pi (fun _ => dz_Pi (fun _ => dz_Pi (fun _ => dz_Pi (fun _ => i2 _ _ _ _ _ _ _ _ _ _ (by omega)) (fun _ => dz_Pn)) (fun _ => dz_Pn)) (fun _ => dz_Pn)) (fun _ => dz_Pn)
    · intro sl t lo a268 a269 n269 a270 n270 a271 a273 m0
      show dz_P (s143_X2_renew_2 fu U c248_groups c248_pots c248_bars a252 a253 c261_many a262 _ _ sl t lo a268 a269 n269 a270 n270 a271 a273) _
      unfold s143_X2_renew_2
      refine dz_Pi (fun _ => dz_Pb (dz_fiP fu n269 t a269) (fun r hr => ?_)) (fun _ => dz_Pn)
      have hz : dz_rn r t.toNatClampNeg c248_bars.toInt.toNat := fun j hj => by
        have p := Nat.two_pow_pos c248_bars.toInt.toNat
        rw [hr j hj, l0]
        omega
      exact dz_Pi (fun _ => i3 _ _ _ _ _ _ _ _ _ _ m0 hz) (fun _ => i4 _ _ _ _ _ _ _ _ _ _ _ m0 hz)
    · intro sl t lo a268 a269 n269 a270 n270 a271 a273 m0 h
      show dz_P (s143_X2_renew_3 fu U c248_groups c248_pots c248_bars a252 a253 c261_many a262 sl t lo a268 a269 n269 a270 n270 a271 a273) _
      unfold s143_X2_renew_3
      exact dz_Pi (fun _ => dz_Pa (fun _ => dz_Pa (fun _ => dz_Ps ⟨h, m0⟩))) (fun _ => dz_Pn)
    · intro v1 sl t lo a268 a269 n269 a270 n270 a271 a273 m0 h
      show dz_P (s143_X2_renew_4 fu U c248_groups c248_pots c248_bars a252 a253 c261_many a262 _ _ v1 sl t lo a268 a269 n269 a270 n270 a271 a273) _
      unfold s143_X2_renew_4
      refine dz_Pi (fun _ => dz_Pi (fun _ => i3 _ _ _ _ _ _ _ _ _ _ m0 h) (fun c => dz_Pi (fun d => dz_Pa (fun _ => dz_Pi (fun _ => ?_) (fun _ => dz_Pn))) (fun _ => dz_Pn))) (fun _ => dz_Pn)
      have c' := dz_fnle c
      have d0 : 0 ≤ v1.toInt := by
        by_cases q : 0 ≤ v1.toInt
        · exact q
        · exact absurd (Or.inl (Int32.lt_iff_toInt_lt.mpr (by omega))) d
      have s1 := dz_shl1p (b := v1) d0 (by omega)
      have p := Nat.two_pow_pos v1.toInt.toNat
      have m : (2 : Nat) ^ v1.toInt.toNat < 2 ^ c248_bars.toInt.toNat := Nat.pow_lt_pow_right (by decide) (by omega)
      exact dz_Pb (dz_bbP fu _ _ _ _ _ _ _ _ _ _ _ (by omega) (by omega) (by omega) h) (fun r hr => i4 _ _ _ _ _ _ _ _ _ _ _ m0 hr)
