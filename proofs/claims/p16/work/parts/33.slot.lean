theorem t232_X7_slotOf_s (fu : Nat) (hfu : 1000000000000 ≤ fu) (κ : Nat) (hκ : κ < 14) (c261_groups : Int32) (v1 : Int32) (v2 : Int32) (p0 : c261_groups.toInt ≤ 4) (p1 : 0 ≤ c261_groups.toInt) (p2 : 0 ≤ v1.toInt) (o0 : c261_groups.toInt = ((dz_kg κ : Nat) : Int)) : dz_T (f232_X7_slotOf fu c261_groups v1 v2) (fun r => r.toInt ≤ 64 ∧ 0 ≤ r.toInt) := by
  unfold f232_X7_slotOf s232_X7_slotOf_0
  refine dz_Ti (fun h => ?_) (fun h => ?_)
  · refine dz_Ts ?_
    have h := dz_ushc (a := (v1 * (-(1640531535 : Int32)))) (b := (26 : Int32)) 26 (by decide) (by decide) (by decide)
    exact ⟨Int.le_of_lt (Int.lt_of_lt_of_le h.2 (by decide)), h.1⟩
  · exact dz_Ts ⟨by decide, by decide⟩
