/-! feed: both answer alike -/
theorem dz_tf4 (fu : Nat) (v1 t : Int32) (a : Nat → Int32) (h0 : 0 ≤ t.toInt) (h1 : t.toInt + 4 ≤ 400) : dz_P (f88_X11_tapeFour fu v1 t a) (fun r => r.1.toInt = t.toInt + 4) := by
  have l1 : (1 : Int32).toInt = 1 := by decide
  have l8 : (-8 : Int32).toInt = -8 := by decide
  have l0 : (0 : Int32).toInt = 0 := by decide
  have l4 : (400 : Int32).toInt = 400 := by decide
  have l24 : (24 : Int32).toInt = 24 := by decide
  suffices ∀ (k : Nat) (j : Nat) (v2 t : Int32) (a : Nat → Int32), j ≤ 4 → v2.toInt = 24 - 8 * (j : Int) → 0 ≤ t.toInt → t.toInt + (4 - (j : Int)) ≤ 400 → dz_P (F88_X11_tapeFour fu k v1 v2 t a) (fun r => r.1.toInt = t.toInt + (4 - (j : Int))) by
    have w := this fu 0 24 t a (by omega) (by omega) h0 (by omega)
    exact fun r e => by
      have := w r e
      omega
  intro k
  induction k with
  | zero => intro j v2 t a _ _ _ _; exact dz_Pn
  | succ k ih =>
    intro j v2 t a hj hv h0 h1
    show dz_P (s88_X11_tapeFour_1 fu (F88_X11_tapeFour fu k) v1 v2 t a) _
    unfold s88_X11_tapeFour_1
    refine dz_Pi (fun c => dz_Ps ?_) (fun c => dz_Pi (fun d => ?_) (fun d => dz_Pi (fun _ => ?_) (fun _ => dz_Pn)))
    · have := Int32.lt_iff_toInt_lt.mp c
      show t.toInt = _
      omega
    · have c' := dz_fnlt c
      have := Int32.le_iff_toInt_le.mp d
      exact absurd this (by omega)
    · have c' := dz_fnlt c
      have e1 := dz_add (a := v2) (b := -8) (by omega) (by omega)
      have e2 := dz_add (a := t) (b := 1) (by omega) (by omega)
      generalize upd a t.toNatClampNeg ((dz_ush v1 v2) &&& 255) = a2 at *
      rw [l8] at e1
      rw [l1] at e2
      generalize v2 + -8 = z2 at *
      generalize t + 1 = t2 at *
      clear l8 l1 c d
      have w := ih (j + 1) z2 t2 a2 (by omega) (by omega) (by omega) (by omega)
      exact fun r e => by
        have := w r e
        omega
def dz_fd (t x t2 : Int32) : Prop := (t + 20 ≤ 400 → x = t + 20 ∧ t2 = t + 20) ∧ (¬ t + 20 ≤ 400 → x = -1 ∧ t2 = t)
theorem dz_fdC (fu : Nat) (v1 v2 v3 v4 v5 t : Int32) (a : Nat → Int32) (h0 : 0 ≤ t.toInt) (h1 : t.toInt ≤ 400) : dz_P (f89_X11_feed fu v1 v2 v3 v4 v5 t a) (fun r => dz_fd t r.1 r.2.1) := by
  have l20 : (20 : Int32).toInt = 20 := by decide
  have l4 : (400 : Int32).toInt = 400 := by decide
  have e := dz_add (a := t) (b := 20) (by omega) (by omega)
  unfold f89_X11_feed s89_X11_feed_0
  refine dz_Pi (fun c => ?_) (fun c => dz_Ps ⟨fun h => absurd h c, fun _ => ⟨rfl, rfl⟩⟩)
  have c' := Int32.le_iff_toInt_le.mp c
  refine dz_Pb (dz_tf4 fu v1 t a h0 (by omega)) (fun r1 q1 => ?_)
  refine dz_Pb (dz_tf4 fu v2 r1.1 r1.2 (by omega) (by omega)) (fun r2 q2 => ?_)
  refine dz_Pb (dz_tf4 fu v3 r2.1 r2.2 (by omega) (by omega)) (fun r3 q3 => ?_)
  refine dz_Pb (dz_tf4 fu v4 r3.1 r3.2 (by omega) (by omega)) (fun r4 q4 => ?_)
  refine dz_Pb (dz_tf4 fu v5 r4.1 r4.2 (by omega) (by omega)) (fun r5 q5 => ?_)
  have w : r5.1 = t + 20 := Int32.toInt_inj.mp (by omega)
  exact dz_Ps ⟨fun _ => ⟨w, w⟩, fun h => absurd c h⟩
