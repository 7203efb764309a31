/-! named, over what holds between calls -/
theorem rd_gp0 : ∀ k : Fin 14, (Int32.ofNat (dz_kg k.val)) * (Int32.ofNat (dz_kp k.val)) = Int32.ofNat (dz_km k.val) := by decide
theorem rd_gpb : ∀ k : Fin 14, dz_kg k.val ≤ 4 ∧ dz_kp k.val ≤ 4 ∧ dz_km k.val ≤ 12 := by decide
theorem rd_gp {κ : Nat} (h : κ < 14) {g p t : Int32} (hg : g.toInt = ((dz_kg κ : Nat) : Int)) (hp : p.toInt = ((dz_kp κ : Nat) : Int)) (ht : t.toInt = ((dz_km κ : Nat) : Int)) : g * p = t := by
  obtain ⟨b1, b2, b3⟩ := rd_gpb ⟨κ, h⟩
  simp only at b1 b2 b3
  rw [dz_eqn (b := g) (c := dz_kg κ) hg (by omega), dz_eqn (b := p) (c := dz_kp κ) hp (by omega), dz_eqn (b := t) (c := dz_km κ) ht (by omega)]
  exact rd_gp0 ⟨κ, h⟩
theorem rd_nmX (fu κ : Nat) (v1 v2 thrown : Int32) {c248_groups c248_pots c248_teams c248_marks c248_bars c254_fault c254_place c2_fault c2_faultPlace c2_groups c2_pots c2_marks c2_bars : Int32} {a249 a250 a251 a252 a253 a40 a41 a42 a43 : Nat → Int32} (hκ : κ < 14) (hg : c248_groups.toInt = ((dz_kg κ : Nat) : Int)) (hp : c248_pots.toInt = ((dz_kp κ : Nat) : Int)) (ht : c248_teams.toInt = ((dz_km κ : Nat) : Int)) (hR : rd_X c248_groups c248_pots c248_teams c248_marks c248_bars c254_fault c254_place c2_fault c2_faultPlace c2_groups c2_pots c2_marks c2_bars a249 a250 a251 a252 a253 a40 a41 a42 a43) : rd_2 (f153_X11_named fu c248_teams c248_marks a249 a251 v1 v2) (f24_X12_named fu c2_groups c2_pots c2_marks a40 a41 v1 v2 thrown) (fun r s => s.1 = r) := by
  obtain ⟨-, -, g1, g2, -, g4, -, -, -, T, M, B, hT, hT12, hM, hM6, -, -, hA, hN, -⟩ := hR
  exact rd_nmd fu _ _ _ _ _ v1 v2 thrown _ _ _ _ T M hT hT12 hM hM6 g4 (by rw [g1, g2]; exact rd_gp hκ hg hp ht) hA hN
