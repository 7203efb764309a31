/-! codeOf: a code is below the total -/
def dz_Wl (R : Int) (S xs : List Int) (n : Nat) : Int := Nat.rec (motive := fun _ => Int) 0 (fun j w => w + (R - 1) * (S.getD (xs.getD j 0).toNat 0)) n
theorem dz_Wls (R : Int) (S xs : List Int) (n : Nat) : dz_Wl R S xs (n + 1) = dz_Wl R S xs n + (R - 1) * (S.getD (xs.getD n 0).toNat 0) := rfl
theorem dz_Wlt : ∀ k : Fin 14, ∀ xs ∈ dz_perms (dz_kp k.val), dz_Wl (dz_kr k.val) (dz_kS k.val) xs (dz_kp k.val - 1) ≤ (dz_kt k.val : Int) - 1 := by decide +kernel
theorem dz_Wl0 : ∀ k : Fin 14, ∀ xs ∈ dz_perms (dz_kp k.val), ∀ n : Fin 4, 0 ≤ dz_Wl (dz_kr k.val) (dz_kS k.val) xs n.val := by decide +kernel
theorem dz_SS : ∀ k : Fin 14, ∀ i : Fin 4, i.val < dz_kp k.val → (dz_kS k.val)[i.val]? = some ((dz_kS k.val).getD i.val 0) ∧ 1 ≤ (dz_kS k.val).getD i.val 0 ∧ (dz_kS k.val).getD i.val 0 ≤ 13824 := by decide +kernel
theorem dz_XS : ∀ k : Fin 14, ∀ xs ∈ dz_perms (dz_kp k.val), ∀ i : Fin 4, i.val < dz_kp k.val → xs[i.val]? = some (xs.getD i.val 0) ∧ 0 ≤ xs.getD i.val 0 ∧ xs.getD i.val 0 < (dz_kp k.val : Int) := by decide +kernel
theorem dz_code (fu : Nat) (hfu : 1000000000000 ≤ fu) (κ : Nat) (hκ : κ < 14) (c261_many : Int32) (a268 a283 : Nat → Int32) (v1 v2 : Int32) (hm : c261_many.toInt = ((dz_kr κ : Nat) : Int)) (h68 : dz_pt a268 (dz_kS κ)) (h83 : dz_pm a283 (dz_kp κ)) (v10 : 0 ≤ v1.toInt) (v20 : 0 ≤ v2.toInt) (hv2 : v2.toInt = ((dz_kp κ : Nat) : Int) - 1) : dz_T (f171_X10_codeOf fu c261_many a268 a283 v1 v2) (fun r => 0 ≤ r.toInt ∧ r.toInt ≤ ((dz_kt κ : Nat) : Int) - 1) := by
  have kp4 := dz_kp4 hκ
  have kr4 := dz_kr4 hκ
  have kt4 := dz_kt4 hκ
  have l0 : (0 : Int32).toInt = 0 := by decide
  have l1 : (1 : Int32).toInt = 1 := by decide
  have lm : (-1 : Int32).toInt = -1 := by decide
  obtain ⟨xs, hx, ht⟩ := h83
  have W0 := dz_Wl0 ⟨κ, hκ⟩ xs hx
  have WT := dz_Wlt ⟨κ, hκ⟩ xs hx
  have SS := dz_SS ⟨κ, hκ⟩
  have XS := dz_XS ⟨κ, hκ⟩ xs hx
  simp only at W0 WT SS XS
  suffices ∀ (n k : Nat) (v4 v5 v6 : Int32), n + 1 ≤ k → v6.toInt + 1 = (n : Int) → n ≤ 3 → n ≤ dz_kp κ - 1 → 0 ≤ v5.toInt → 0 ≤ v4.toInt → v4.toInt + dz_Wl (dz_kr κ) (dz_kS κ) xs n ≤ ((dz_kt κ : Nat) : Int) - 1 → dz_T ((F171_X10_codeOf fu c261_many a268 a283 k) c261_many v4 v5 v6) (fun r => 0 ≤ r.toInt ∧ r.toInt ≤ ((dz_kt κ : Nat) : Int) - 1) by
    have e := dz_sub (a := v2) (b := 1) (by omega) (by omega)
    unfold f171_X10_codeOf s171_X10_codeOf_0
    exact this (dz_kp κ - 1) fu 0 v1 (v2 - 1) (by omega) (by omega) (by omega) (by omega) v10 (by omega) (by omega)
  intro n
  induction n with
  | zero =>
    intro k v4 v5 v6 hk h6 _ _ h5 h4 hb
    obtain ⟨k0, rfl⟩ : ∃ x, k = x + 1 := ⟨k - 1, by omega⟩
    show dz_T (s171_X10_codeOf_1 fu c261_many a268 a283 (F171_X10_codeOf fu c261_many a268 a283 k0) c261_many v4 v5 v6) _
    unfold s171_X10_codeOf_1
    rw [if_pos (Int32.lt_iff_toInt_lt.mpr (by omega))]
    have w := W0 ⟨0, by decide⟩
    simp only at w
    exact dz_Ts ⟨h4, by omega⟩
  | succ n ih =>
    intro k v4 v5 v6 hk h6 h3 hp h5 h4 hb
    obtain ⟨k0, rfl⟩ : ∃ x, k = x + 1 := ⟨k - 1, by omega⟩
    show dz_T (s171_X10_codeOf_1 fu c261_many a268 a283 (F171_X10_codeOf fu c261_many a268 a283 k0) c261_many v4 v5 v6) _
    unfold s171_X10_codeOf_1
    rw [if_neg (fun h => by have := Int32.lt_iff_toInt_lt.mp h; omega), if_neg (fun h => by have := Int32.le_iff_toInt_le.mp h; omega), if_pos (dz_nz (by omega))]
    refine dz_Tin (by omega) (by omega) ?_
    have t6 := dz_tn v6
    have x1 := XS ⟨n, by omega⟩ (by simp only; omega)
    simp only at x1
    obtain ⟨x1, x2, x3⟩ := x1
    have p6 : (a283 v6.toNatClampNeg).toInt = xs.getD n 0 := by
      rw [show v6.toNatClampNeg = n by omega]
      exact ht n _ x1
    refine dz_Tin (by omega) (by omega) ?_
    rw [if_pos (dz_nz (by omega))]
    have s1 := SS ⟨(xs.getD n 0).toNat, by omega⟩ (by simp only; omega)
    simp only at s1
    obtain ⟨s1, s2, s3⟩ := s1
    have tp := dz_tn (a283 v6.toNatClampNeg)
    have p8 : (a268 (a283 v6.toNatClampNeg).toNatClampNeg).toInt = (dz_kS κ).getD (xs.getD n 0).toNat 0 := by
      rw [show (a283 v6.toNatClampNeg).toNatClampNeg = (xs.getD n 0).toNat by omega]
      exact h68 _ _ s1
    have r := dz_remv (a := v5) (b := c261_many) h5 (by omega)
    have w := W0 ⟨n, by omega⟩
    simp only at w
    have ws := dz_Wls (dz_kr κ) (dz_kS κ) xs n
    generalize (dz_kS κ).getD (xs.getD n 0).toNat 0 = S at *
    generalize a268 (a283 v6.toNatClampNeg).toNatClampNeg = sv at *
    generalize hrm : dz_rem v5 c261_many = rm at *
    have m1 : rm.toInt * S ≤ (((dz_kr κ : Nat) : Int) - 1) * S := Int.mul_le_mul_of_nonneg_right (by omega) (by omega)
    have m0 : 0 ≤ rm.toInt * S := Int.mul_nonneg r.2.1 (by omega)
    have em : (rm * sv).toInt = rm.toInt * S := by rw [dz_mul (by rw [p8]; omega) (by rw [p8]; omega), p8]
    have ea := dz_add (a := v4) (b := rm * sv) (by omega) (by omega)
    have ed := dz_divv (a := v5) (b := c261_many) h5 (by omega)
    have e6 := dz_add (a := v6) (b := -1) (by omega) (by omega)
    generalize v6 + -1 = z6 at *
    generalize v5 / c261_many = z5 at *
    generalize v4 + rm * sv = z4 at *
    exact ih k0 z4 z5 z6 (by omega) (by omega) (by omega) (by omega) (by omega) (by omega) (by omega)
