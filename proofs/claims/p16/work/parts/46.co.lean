/-! the reference's ways: groups that are open -/
def dz_op (a : Nat → Int32) (m i v : Int32) (n : Nat) : Prop := ∀ g : Nat, g < n → (m &&& (a (4 * i.toInt.toNat + g))).toInt ≠ 0 → 1 ≤ v.toInt
theorem dz_op0 {a : Nat → Int32} {m i v : Int32} {n : Nat} (h : n = 0) : dz_op a m i v n := fun g hg => by omega
theorem dz_opm {a : Nat → Int32} {m i v : Int32} {n n' : Nat} (h : dz_op a m i v n) (e : n' ≤ n) : dz_op a m i v n' := fun g hg => h g (by omega)
theorem dz_ops {a : Nat → Int32} {m i v v' k k' j : Int32} (h : dz_op a m i v k.toInt.toNat) (i0 : 0 ≤ i.toInt) (k0 : 0 ≤ k.toInt) (e : k'.toInt = k.toInt + 1) (hj : j.toInt = 4 * i.toInt + k.toInt) (hv : v.toInt ≤ v'.toInt) (q : (m &&& (a j.toNatClampNeg)).toInt = 0 ∨ 1 ≤ v'.toInt) : dz_op a m i v' k'.toInt.toNat := fun g hg hn => by
  have t := dz_tn j
  by_cases z : g = k.toInt.toNat
  · rcases q with q | q
    · rw [show j.toNatClampNeg = 4 * i.toInt.toNat + g by omega] at q
      exact absurd q hn
    · exact q
  · have := h g (by omega) hn
    omega
theorem dz_opat {G : Nat} {a a57 : Nat → Int32} {m i v k j : Int32} (h : dz_op a m i v G) (hp : dz_pm a57 G) (h4 : G ≤ 4) (i0 : 0 ≤ i.toInt) (k0 : 0 ≤ k.toInt) : (G : Int) ≤ k.toInt ∨ ((0 ≤ (a57 k.toNatClampNeg).toInt ∧ (a57 k.toNatClampNeg).toInt < (G : Int)) ∧ (j.toInt ≠ 4 * i.toInt + (a57 k.toNatClampNeg).toInt ∨ (m &&& (a j.toNatClampNeg)).toInt = 0 ∨ 1 ≤ v.toInt)) := by
  rcases Classical.em ((G : Int) ≤ k.toInt) with q | q
  · exact Or.inl q
  right
  have b := dz_pmat hp (i := k) h4 k0 (by omega)
  refine ⟨by omega, ?_⟩
  rcases Classical.em (j.toInt = 4 * i.toInt + (a57 k.toNatClampNeg).toInt) with e | e
  · right
    have t := dz_tn j
    rcases Classical.em ((m &&& (a j.toNatClampNeg)).toInt = 0) with w | w
    · exact Or.inl w
    · right
      rw [show j.toNatClampNeg = 4 * i.toInt.toNat + (a57 k.toNatClampNeg).toInt.toNat by omega] at w
      exact h _ (by omega) w
  · exact Or.inl e
theorem dz_lvy {R n : Nat} {a : Nat → Int32} {x k : Int32} (hl : dz_lv R a n) (h : dz_xl R x k) (M : Nat) (N : Int) (hN : ((dz_geo R M : Nat) : Int) = N) (hN2 : N ≤ 1000000) (k0 : 0 ≤ k.toInt) (hk : k.toInt ≤ (n : Int)) (hM : k.toInt < (M : Int)) : ((a k.toNatClampNeg) + x).toInt = (a k.toNatClampNeg).toInt + x.toInt ∧ 0 ≤ (a k.toNatClampNeg).toInt ∧ (a k.toNatClampNeg).toInt + x.toInt < N := by
  have g := dz_lvg hl (i := k) k0 hk
  have m1 := dz_geom (R := R) (show k.toInt.toNat < M by omega)
  obtain ⟨h0, h1⟩ := h
  have e := dz_add (a := a k.toNatClampNeg) (b := x) (by omega) (by omega)
  exact ⟨e, by omega, by omega⟩
theorem dz_lvz {R n : Nat} {a : Nat → Int32} {x k k' y r : Int32} (hl : dz_lv R a n) (h : dz_xl R x k) (M : Nat) (N : Int) (hN : ((dz_geo R M : Nat) : Int) = N) (hN2 : N ≤ 1000000) (k0 : 0 ≤ k.toInt) (hk : k.toInt + 1 ≤ (n : Int)) (hM : k.toInt + 1 < (M : Int)) (hk' : k'.toInt = k.toInt + 1) (hy : y.toInt = x.toInt * (R : Int)) (r0 : 0 ≤ r.toInt) (r1 : r.toInt < (R : Int)) : ((a k'.toNatClampNeg) + y).toInt = (a k'.toNatClampNeg).toInt + y.toInt ∧ (((a k'.toNatClampNeg) + y) + r).toInt = (a k'.toNatClampNeg).toInt + y.toInt + r.toInt ∧ 0 ≤ (a k'.toNatClampNeg).toInt ∧ 0 ≤ y.toInt ∧ (a k'.toNatClampNeg).toInt + y.toInt + r.toInt < N := by
  have g := dz_lvg hl (i := k') (by omega) (by omega)
  have m1 := dz_geom (R := R) (show k'.toInt.toNat < M by omega)
  obtain ⟨h0, h1⟩ := h
  have m0 : 0 ≤ x.toInt * (R : Int) := Int.mul_nonneg h0 (by omega)
  have m2 : (x.toInt + 1) * (R : Int) ≤ ((R ^ k.toInt.toNat : Nat) : Int) * (R : Int) := Int.mul_le_mul_of_nonneg_right (by omega) (by omega)
  rw [Int.add_mul, Int.one_mul] at m2
  have m3 : ((R ^ k'.toInt.toNat : Nat) : Int) = ((R ^ k.toInt.toNat : Nat) : Int) * (R : Int) := by
    rw [show k'.toInt.toNat = k.toInt.toNat + 1 by omega, Nat.pow_succ, Int.natCast_mul]
  have e := dz_add (a := a k'.toNatClampNeg) (b := y) (by omega) (by omega)
  have e2 := dz_add (a := (a k'.toNatClampNeg) + y) (b := r) (by omega) (by omega)
  exact ⟨e, by omega, by omega, by omega, by omega⟩
