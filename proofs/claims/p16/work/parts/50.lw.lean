/-! the reference's weights -/
theorem dz_ptpw2 {a : Nat → Int32} (h : dz_pt a [1, 3]) : dz_pwt 2 2 a := fun j hj => by
  rcases (show j = 0 ∨ j = 1 by omega) with rfl | rfl
  · exact h 0 1 rfl
  · exact h 1 3 rfl
theorem dz_ptpw3 {a : Nat → Int32} (h : dz_pt a [1, 4, 16]) : dz_pwt 3 3 a := fun j hj => by
  rcases (show j = 0 ∨ j = 1 ∨ j = 2 by omega) with rfl | rfl | rfl
  · exact h 0 1 rfl
  · exact h 1 4 rfl
  · exact h 2 16 rfl
theorem dz_ptpw4 {a : Nat → Int32} (h : dz_pt a [1, 5, 25, 125]) : dz_pwt 4 4 a := fun j hj => by
  rcases (show j = 0 ∨ j = 1 ∨ j = 2 ∨ j = 3 by omega) with rfl | rfl | rfl | rfl
  · exact h 0 1 rfl
  · exact h 1 5 rfl
  · exact h 2 25 rfl
  · exact h 3 125 rfl
theorem dz_ppm {G R : Nat} {a54 a55 : Nat → Int32} {t : Int} {m n : Nat} (h : dz_pp G R a54 a55 t m) (e : n ≤ m) : dz_pp G R a54 a55 t n := by
  obtain ⟨⟨r, hr, hf⟩, hi⟩ := h
  exact ⟨⟨r, hr, fun k hk => hf k (by omega)⟩, fun j k h1 h2 => hi j k h1 (by omega)⟩
theorem dz_lve {R n : Nat} {a : Nat → Int32} {i : Int32} (h : dz_lv R a n) (M : Nat) (N : Int) (hN : ((dz_geo R M : Nat) : Int) = N) (i0 : 0 ≤ i.toInt) (hi : i.toInt ≤ (n : Int)) (hM : i.toInt ≤ (M : Int)) : 0 ≤ (a i.toNatClampNeg).toInt ∧ (a i.toNatClampNeg).toInt ≤ N := by
  have g := dz_lvg h (i := i) i0 hi
  have m := dz_geol (R := R) (show i.toInt.toNat ≤ M by omega)
  omega
theorem dz_lvw {R n : Nat} {a : Nat → Int32} {x k k6 : Int32} (hl : dz_lv R a n) (h : dz_xl R x k6) (M : Nat) (N : Int) (hN : ((dz_geo R M : Nat) : Int) = N) (hN2 : N ≤ 1000000) (k0 : 0 ≤ k.toInt) (hk : k.toInt ≤ (n : Int)) (hM : k.toInt < (M : Int)) : k.toInt ≠ k6.toInt ∨ (((a k.toNatClampNeg) + x).toInt = (a k.toNatClampNeg).toInt + x.toInt ∧ 0 ≤ (a k.toNatClampNeg).toInt ∧ (a k.toNatClampNeg).toInt + x.toInt < N) := by
  rcases Classical.em (k.toInt = k6.toInt) with q | q
  · have e : k = k6 := Int32.toInt_inj.mp q
    subst e
    exact Or.inr (dz_lvy hl h M N hN hN2 k0 hk hM)
  · exact Or.inl q
theorem dz_lvq {R n : Nat} {a : Nat → Int32} {x k k' : Int32} (hl : dz_lv R a n) (K : Nat) (T : Int) (hT : ((R ^ K : Nat) : Int) = T) (hR : 1 ≤ R) (hK : k.toInt ≤ (K : Int)) (M : Nat) (N : Int) (hN : ((dz_geo R M : Nat) : Int) = N) (hN2 : N ≤ 1000000) (k0 : 0 ≤ k.toInt) (hk' : k'.toInt = k.toInt + 1) (hk : k'.toInt ≤ (n : Int)) (hM : k'.toInt ≤ (M : Int)) (x0 : 0 ≤ x.toInt) : 0 ≤ ((a k'.toNatClampNeg) - (a k.toNatClampNeg)).toInt ∧ ((a k'.toNatClampNeg) - (a k.toNatClampNeg)).toInt ≤ N ∧ (((a k'.toNatClampNeg) - (a k.toNatClampNeg)).toInt ≤ x.toInt ∨ (dz_xl R x k ∧ x.toInt < T ∧ ((a k.toNatClampNeg) + x).toInt = (a k.toNatClampNeg).toInt + x.toInt ∧ 0 ≤ (a k.toNatClampNeg).toInt ∧ (a k.toNatClampNeg).toInt + x.toInt < N)) := by
  have g1 := dz_lvg hl (i := k) k0 (by omega)
  have g2 := dz_lvg hl (i := k') (by omega) hk
  have m := dz_geol (R := R) (show k'.toInt.toNat ≤ M by omega)
  have e : dz_geo R k'.toInt.toNat = dz_geo R k.toInt.toNat + R ^ k.toInt.toNat := by rw [show k'.toInt.toNat = k.toInt.toNat + 1 by omega]; rfl
  have s := dz_sub (a := a k'.toNatClampNeg) (b := a k.toNatClampNeg) (by omega) (by omega)
  refine ⟨by omega, by omega, ?_⟩
  rcases Classical.em (((a k'.toNatClampNeg) - (a k.toNatClampNeg)).toInt ≤ x.toInt) with q | q
  · exact Or.inl q
  · have hx : dz_xl R x k := ⟨x0, by omega⟩
    exact Or.inr ⟨hx, dz_xlb hx K T hT hR hK, dz_lvy hl hx M N hN hN2 k0 (by omega) (by omega)⟩
theorem dz_rgor {a : Nat → Int32} {n : Nat} {lo hi : Int} (h : dz_rg a n lo hi) {i x : Int32} (i0 : 0 ≤ i.toInt) (x0 : 0 ≤ x.toInt) (x1 : x.toInt ≤ 1000000) (l0 : 0 ≤ lo) (h1 : hi ≤ 1000000) : (n : Int) ≤ i.toInt ∨ (x + (a i.toNatClampNeg)).toInt = x.toInt + (a i.toNatClampNeg).toInt := by
  rcases Classical.em ((n : Int) ≤ i.toInt) with q | q
  · exact Or.inl q
  · right
    have b := dz_rgat h i0 (by omega)
    exact dz_add (by omega) (by omega)
