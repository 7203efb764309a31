theorem dz_exw {a : Nat → Int32} {k n : Int32} {m : Nat} (h : ∃ c : Nat, (c : Int) < n.toInt ∧ (a c).toInt = 0) (hk : k.toInt = 0) (hm : m = n.toInt.toNat) : dz_ex a k m 0 := by
  obtain ⟨c, h1, h2⟩ := h
  exact ⟨c, by omega, by omega, h2⟩
theorem dz_lfw {l n : Int32} {a : Nat → Int32} (h : dz_lf l a n.toInt.toNat) (q : l.toInt ≠ 0) : ∃ c : Nat, (c : Int) < n.toInt ∧ (a c).toInt = 0 := by
  obtain ⟨c, h1, h2⟩ := h q
  exact ⟨c, by omega, h2⟩
