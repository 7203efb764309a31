theorem dz_m00 {R n : Nat} {a58 a59 : Nat → Int32} {k x : Int32} (h : dz_lv R a58 n) (w : dz_mz R (a59 0)) (hk : k.toInt = 0) (hx : x.toInt = 0) : dz_mz R (a59 ((a58 k.toNatClampNeg) + x).toNatClampNeg) := by
  have g := dz_lvg h (i := k) (by omega) (by omega)
  rw [hk] at g
  have g2 : (a58 k.toNatClampNeg).toInt = 0 := g
  have e := dz_add (a := a58 k.toNatClampNeg) (b := x) (by omega) (by omega)
  have t := dz_tn ((a58 k.toNatClampNeg) + x)
  rw [show ((a58 k.toNatClampNeg) + x).toNatClampNeg = 0 by omega]
  exact w
theorem dz_orn {A B : Prop} (h : ¬ A → B) : A ∨ B := by
  rcases Classical.em A with q | q
  · exact Or.inl q
  · exact Or.inr (h q)
/-- a number of so many ranks -/
def dz_xl (R : Nat) (x k : Int32) : Prop := 0 ≤ x.toInt ∧ x.toInt < ((R ^ k.toInt.toNat : Nat) : Int)
theorem dz_xl0 {R : Nat} {x k : Int32} (hx : x.toInt = 0) (hk : k.toInt = 0) : dz_xl R x k := by
  refine ⟨by omega, ?_⟩
  rw [hx, hk]; show (0 : Int) < ((1 : Nat) : Int); decide
theorem dz_xls {R : Nat} {x k r x' k' : Int32} (h : dz_xl R x k) (k0 : 0 ≤ k.toInt) (hk : k'.toInt = k.toInt + 1) (r0 : 0 ≤ r.toInt) (r1 : r.toInt < (R : Int)) (hx : x'.toInt = x.toInt * (R : Int) + r.toInt) : dz_xl R x' k' := by
  obtain ⟨h0, h1⟩ := h
  have m0 : 0 ≤ x.toInt * (R : Int) := Int.mul_nonneg h0 (by omega)
  refine ⟨by omega, ?_⟩
  rw [hx, show k'.toInt.toNat = k.toInt.toNat + 1 by omega, Nat.pow_succ, Int.natCast_mul]
  have m1 : (x.toInt + 1) * (R : Int) ≤ ((R ^ k.toInt.toNat : Nat) : Int) * (R : Int) := Int.mul_le_mul_of_nonneg_right (by omega) (by omega)
  rw [Int.add_mul, Int.one_mul] at m1
  omega
theorem dz_xlb {R : Nat} {x k : Int32} (h : dz_xl R x k) (K : Nat) (N : Int) (hN : ((R ^ K : Nat) : Int) = N) (hR : 1 ≤ R) (hk : k.toInt ≤ (K : Int)) : x.toInt < N := by
  have m : R ^ k.toInt.toNat ≤ R ^ K := Nat.pow_le_pow_right hR (by omega)
  have := h.2
  omega
theorem dz_geol {R k l : Nat} (h : k ≤ l) : dz_geo R k ≤ dz_geo R l := by
  rcases Nat.lt_or_eq_of_le h with q | q
  · have := dz_geom (R := R) q
    omega
  · rw [q]; exact Nat.le_refl _
theorem dz_lvx {R n : Nat} {a : Nat → Int32} {x k : Int32} (hl : dz_lv R a n) (h : dz_xl R x k) (M : Nat) (N : Int) (hN : ((dz_geo R M : Nat) : Int) = N) (hN2 : N ≤ 1000000) (k0 : 0 ≤ k.toInt) (hk : k.toInt < (n : Int)) (hn : n ≤ M) : ((a k.toNatClampNeg) + x).toInt = (a k.toNatClampNeg).toInt + x.toInt ∧ 0 ≤ (a k.toNatClampNeg).toInt ∧ (a k.toNatClampNeg).toInt + x.toInt < N := by
  have g := dz_lvg hl (i := k) k0 (by omega)
  have m1 := dz_geom (R := R) (show k.toInt.toNat < n by omega)
  have m2 := dz_geol (R := R) hn
  obtain ⟨h0, h1⟩ := h
  have e := dz_add (a := a k.toNatClampNeg) (b := x) (by omega) (by omega)
  exact ⟨e, by omega, by omega⟩
theorem dz_xln {R : Nat} {x k : Int32} (h : dz_xl R x k) : x.toInt.toNat < R ^ k.toInt.toNat := by
  obtain ⟨h0, h1⟩ := h
  omega
