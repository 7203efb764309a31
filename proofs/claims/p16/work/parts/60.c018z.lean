theorem dz_div1 {a b : Int32} (a0 : 0 ≤ a.toInt) (hb : b.toInt = 1) : (a / b).toInt = a.toInt := by
  rw [dz_divn 1 a0 hb (by decide), Int.ediv_one]
