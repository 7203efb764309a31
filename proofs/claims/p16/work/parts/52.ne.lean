theorem dz_nw1 {κ : Nat} {v1 v2 v7 v8 p g : Int32} {a56 a57 : Nat → Int32} (hκ : κ < 14) (x0 : dz_on v7 v2.toInt.toNat) (x1 : v1.toInt ≠ 0 ∨ (dz_pm a57 (dz_kg κ) ∧ dz_dw v7 a56 v8.toInt.toNat)) (x2 : v1.toInt = 0 ∨ (dz_pm a56 (dz_kp κ) ∧ dz_dw v7 a57 v8.toInt.toNat)) (x3 : (v1.toInt = 0 ∧ v2.toInt = p.toInt) ∨ (v1.toInt ≠ 0 ∧ v2.toInt = g.toInt)) (h8 : v2.toInt ≤ v8.toInt) (hpg : p.toInt = ((dz_kp κ : Nat) : Int) ∧ g.toInt = ((dz_kg κ : Nat) : Int)) : dz_pm a56 (dz_kp κ) ∧ dz_pm a57 (dz_kg κ) := by
  rcases Classical.em (v1.toInt = 0) with q | q
  · have h := x1.resolve_left (by omega)
    exact ⟨dz_dwp x0 h.2 (by omega) (by omega), h.1⟩
  · have h := x2.resolve_left q
    exact ⟨h.1, dz_dwp x0 h.2 (by omega) (by omega)⟩
