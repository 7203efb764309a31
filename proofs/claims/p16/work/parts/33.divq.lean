theorem dz_divq {a b : Int32} (L H : Int) (a0 : 0 ≤ a.toInt) (a1 : a.toInt ≤ H) (hL : 0 < L) (b0 : L ≤ b.toInt) : (a / b).toInt = a.toInt / b.toInt ∧ 0 ≤ (a / b).toInt ∧ (a / b).toInt ≤ a.toInt ∧ (a / b).toInt ≤ H / L := by
  have d := dz_divv (a := a) (b := b) a0 (by omega)
  have e := dz_ediv a0 (show 0 < b.toInt by omega)
  have m : a.toInt / b.toInt * L ≤ a.toInt / b.toInt * b.toInt := Int.mul_le_mul_of_nonneg_left b0 e.1
  have q : a.toInt / b.toInt ≤ H / L := Int.le_ediv_of_mul_le hL (by omega)
  exact ⟨d.1, d.2.1, d.2.2, by omega⟩
